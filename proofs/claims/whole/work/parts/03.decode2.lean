theorem dX12_book_57 : decode cX12_book 57 = .ok (.aload_n 0, 1) := by decide +kernel
theorem dX12_book_58 : decode cX12_book 58 = .ok (.iconst 0, 1) := by decide +kernel
theorem dX12_book_59 : decode cX12_book 59 = .ok (.putfield 113, 3) := by decide +kernel
theorem dX12_book_62 : decode cX12_book 62 = .ok (.iconst 0, 1) := by decide +kernel
theorem dX12_book_63 : decode cX12_book 63 = .ok (.istore 4, 2) := by decide +kernel
theorem dX12_book_65 : decode cX12_book 65 = .ok (.iload 4, 2) := by decide +kernel
theorem dX12_book_67 : decode cX12_book 67 = .ok (.bipush 60, 2) := by decide +kernel
theorem dX12_book_69 : decode cX12_book 69 = .ok (.if_icmp .ge 25, 3) := by decide +kernel
theorem dX12_book_72 : decode cX12_book 72 = .ok (.aload_n 0, 1) := by decide +kernel
theorem dX12_book_73 : decode cX12_book 73 = .ok (.getfield 19, 3) := by decide +kernel
theorem dX12_book_76 : decode cX12_book 76 = .ok (.bipush 60, 2) := by decide +kernel
theorem dX12_book_78 : decode cX12_book 78 = .ok (.aload_n 0, 1) := by decide +kernel
theorem dX12_book_79 : decode cX12_book 79 = .ok (.getfield 153, 3) := by decide +kernel
theorem dX12_book_82 : decode cX12_book 82 = .ok (.imul, 1) := by decide +kernel
theorem dX12_book_83 : decode cX12_book 83 = .ok (.iload 4, 2) := by decide +kernel
theorem dX12_book_85 : decode cX12_book 85 = .ok (.iadd, 1) := by decide +kernel
theorem dX12_book_86 : decode cX12_book 86 = .ok (.iconst 0, 1) := by decide +kernel
theorem dX12_book_87 : decode cX12_book 87 = .ok (.iastore, 1) := by decide +kernel
theorem dX12_book_88 : decode cX12_book 88 = .ok (.iinc 4 1, 3) := by decide +kernel
theorem dX12_book_91 : decode cX12_book 91 = .ok (.goto (-26), 3) := by decide +kernel
theorem dX12_book_94 : decode cX12_book 94 = .ok (.iconst 0, 1) := by decide +kernel
theorem dX12_book_95 : decode cX12_book 95 = .ok (.istore 4, 2) := by decide +kernel
theorem dX12_book_97 : decode cX12_book 97 = .ok (.iload 4, 2) := by decide +kernel
theorem dX12_book_99 : decode cX12_book 99 = .ok (.ifCond .ne 23, 3) := by decide +kernel
theorem dX12_book_102 : decode cX12_book 102 = .ok (.aload_n 0, 1) := by decide +kernel
theorem dX12_book_103 : decode cX12_book 103 = .ok (.invokevirtual 116, 3) := by decide +kernel
theorem dX12_book_106 : decode cX12_book 106 = .ok (.ifCond .lt 16, 3) := by decide +kernel
theorem dX12_book_109 : decode cX12_book 109 = .ok (.aload_n 0, 1) := by decide +kernel
theorem dX12_book_110 : decode cX12_book 110 = .ok (.aload_n 0, 1) := by decide +kernel
theorem dX12_book_111 : decode cX12_book 111 = .ok (.getfield 153, 3) := by decide +kernel
theorem dX12_book_114 : decode cX12_book 114 = .ok (.invokevirtual 156, 3) := by decide +kernel
theorem dX12_book_117 : decode cX12_book 117 = .ok (.istore 4, 2) := by decide +kernel
theorem dX12_book_119 : decode cX12_book 119 = .ok (.goto (-22), 3) := by decide +kernel
theorem dX12_book_122 : decode cX12_book 122 = .ok (.aload_n 0, 1) := by decide +kernel
theorem dX12_book_123 : decode cX12_book 123 = .ok (.iconst 0, 1) := by decide +kernel
theorem dX12_book_124 : decode cX12_book 124 = .ok (.putfield 108, 3) := by decide +kernel
theorem dX12_book_127 : decode cX12_book 127 = .ok (.iload 4, 2) := by decide +kernel
theorem dX12_book_129 : decode cX12_book 129 = .ok (.ifCond .le 9, 3) := by decide +kernel
theorem dX12_book_132 : decode cX12_book 132 = .ok (.bipush (-10), 2) := by decide +kernel
theorem dX12_book_134 : decode cX12_book 134 = .ok (.iload 4, 2) := by decide +kernel
theorem dX12_book_136 : decode cX12_book 136 = .ok (.isub, 1) := by decide +kernel
theorem dX12_book_137 : decode cX12_book 137 = .ok (.ireturn, 1) := by decide +kernel
theorem dX12_book_138 : decode cX12_book 138 = .ok (.aload_n 0, 1) := by decide +kernel
theorem dX12_book_139 : decode cX12_book 139 = .ok (.getfield 7, 3) := by decide +kernel
theorem dX12_book_142 : decode cX12_book 142 = .ok (.aload_n 0, 1) := by decide +kernel
theorem dX12_book_143 : decode cX12_book 143 = .ok (.getfield 153, 3) := by decide +kernel
theorem dX12_book_146 : decode cX12_book 146 = .ok (.iload_n 1, 1) := by decide +kernel
theorem dX12_book_147 : decode cX12_book 147 = .ok (.iastore, 1) := by decide +kernel
theorem dX12_book_148 : decode cX12_book 148 = .ok (.aload_n 0, 1) := by decide +kernel
theorem dX12_book_149 : decode cX12_book 149 = .ok (.getfield 13, 3) := by decide +kernel
theorem dX12_book_152 : decode cX12_book 152 = .ok (.aload_n 0, 1) := by decide +kernel
theorem dX12_book_153 : decode cX12_book 153 = .ok (.getfield 153, 3) := by decide +kernel
theorem dX12_book_156 : decode cX12_book 156 = .ok (.iload_n 2, 1) := by decide +kernel
theorem dX12_book_157 : decode cX12_book 157 = .ok (.iastore, 1) := by decide +kernel
theorem dX12_book_158 : decode cX12_book 158 = .ok (.aload_n 0, 1) := by decide +kernel
theorem dX12_book_159 : decode cX12_book 159 = .ok (.getfield 16, 3) := by decide +kernel
theorem dX12_book_162 : decode cX12_book 162 = .ok (.aload_n 0, 1) := by decide +kernel
theorem dX12_book_163 : decode cX12_book 163 = .ok (.getfield 153, 3) := by decide +kernel
theorem dX12_book_166 : decode cX12_book 166 = .ok (.iload_n 3, 1) := by decide +kernel
theorem dX12_book_167 : decode cX12_book 167 = .ok (.iastore, 1) := by decide +kernel
theorem dX12_book_168 : decode cX12_book 168 = .ok (.aload_n 0, 1) := by decide +kernel
theorem dX12_book_169 : decode cX12_book 169 = .ok (.dup, 1) := by decide +kernel
theorem dX12_book_170 : decode cX12_book 170 = .ok (.getfield 153, 3) := by decide +kernel
theorem dX12_book_173 : decode cX12_book 173 = .ok (.iconst 1, 1) := by decide +kernel
theorem dX12_book_174 : decode cX12_book 174 = .ok (.iadd, 1) := by decide +kernel
theorem dX12_book_175 : decode cX12_book 175 = .ok (.putfield 153, 3) := by decide +kernel
theorem dX12_book_178 : decode cX12_book 178 = .ok (.aload_n 0, 1) := by decide +kernel
theorem dX12_book_179 : decode cX12_book 179 = .ok (.getfield 153, 3) := by decide +kernel
theorem dX12_book_182 : decode cX12_book 182 = .ok (.iconst 1, 1) := by decide +kernel
theorem dX12_book_183 : decode cX12_book 183 = .ok (.isub, 1) := by decide +kernel
theorem dX12_book_184 : decode cX12_book 184 = .ok (.ireturn, 1) := by decide +kernel
theorem dX12_fault_0 : decode cX12_fault 0 = .ok (.aload_n 0, 1) := by decide +kernel
theorem dX12_fault_1 : decode cX12_fault 1 = .ok (.getfield 49, 3) := by decide +kernel
theorem dX12_fault_4 : decode cX12_fault 4 = .ok (.ireturn, 1) := by decide +kernel
theorem dX12_about_0 : decode cX12_about 0 = .ok (.iload_n 1, 1) := by decide +kernel
theorem dX12_about_1 : decode cX12_about 1 = .ok (.i2l, 1) := by decide +kernel
theorem dX12_about_2 : decode cX12_about 2 = .ok (.lconst 0, 1) := by decide +kernel
theorem dX12_about_3 : decode cX12_about 3 = .ok (.aload_n 0, 1) := by decide +kernel
theorem dX12_about_4 : decode cX12_about 4 = .ok (.getfield 153, 3) := by decide +kernel
theorem dX12_about_7 : decode cX12_about 7 = .ok (.iconst 1, 1) := by decide +kernel
theorem dX12_about_8 : decode cX12_about 8 = .ok (.isub, 1) := by decide +kernel
theorem dX12_about_9 : decode cX12_about 9 = .ok (.i2l, 1) := by decide +kernel
theorem dX12_about_10 : decode cX12_about 10 = .ok (.invokestatic 100, 3) := by decide +kernel
theorem dX12_about_13 : decode cX12_about 13 = .ok (.ifCond .ne 7, 3) := by decide +kernel
theorem dX12_about_16 : decode cX12_about 16 = .ok (.sipush (-1001), 3) := by decide +kernel
theorem dX12_about_19 : decode cX12_about 19 = .ok (.ireturn, 1) := by decide +kernel
theorem dX12_about_20 : decode cX12_about 20 = .ok (.iconst 0, 1) := by decide +kernel
theorem dX12_about_21 : decode cX12_about 21 = .ok (.istore_n 3, 1) := by decide +kernel
theorem dX12_about_22 : decode cX12_about 22 = .ok (.iconst 0, 1) := by decide +kernel
theorem dX12_about_23 : decode cX12_about 23 = .ok (.istore 4, 2) := by decide +kernel
theorem dX12_about_25 : decode cX12_about 25 = .ok (.iconst 0, 1) := by decide +kernel
theorem dX12_about_26 : decode cX12_about 26 = .ok (.istore 5, 2) := by decide +kernel
theorem dX12_about_28 : decode cX12_about 28 = .ok (.iconst 0, 1) := by decide +kernel
theorem dX12_about_29 : decode cX12_about 29 = .ok (.istore 6, 2) := by decide +kernel
theorem dX12_about_31 : decode cX12_about 31 = .ok (.bipush 60, 2) := by decide +kernel
theorem dX12_about_33 : decode cX12_about 33 = .ok (.iload_n 1, 1) := by decide +kernel
theorem dX12_about_34 : decode cX12_about 34 = .ok (.imul, 1) := by decide +kernel
theorem dX12_about_35 : decode cX12_about 35 = .ok (.istore 7, 2) := by decide +kernel
theorem dX12_about_37 : decode cX12_about 37 = .ok (.iload 7, 2) := by decide +kernel
theorem dX12_about_39 : decode cX12_about 39 = .ok (.bipush 60, 2) := by decide +kernel
theorem dX12_about_41 : decode cX12_about 41 = .ok (.iload_n 1, 1) := by decide +kernel
theorem dX12_about_42 : decode cX12_about 42 = .ok (.imul, 1) := by decide +kernel
theorem dX12_about_43 : decode cX12_about 43 = .ok (.bipush 60, 2) := by decide +kernel
theorem dX12_about_45 : decode cX12_about 45 = .ok (.iadd, 1) := by decide +kernel
theorem dX12_about_46 : decode cX12_about 46 = .ok (.if_icmp .ge 131, 3) := by decide +kernel
theorem dX12_about_49 : decode cX12_about 49 = .ok (.iload_n 3, 1) := by decide +kernel
theorem dX12_about_50 : decode cX12_about 50 = .ok (.aload_n 0, 1) := by decide +kernel
theorem dX12_about_51 : decode cX12_about 51 = .ok (.getfield 19, 3) := by decide +kernel
theorem dX12_about_54 : decode cX12_about 54 = .ok (.iload 7, 2) := by decide +kernel
theorem dX12_about_56 : decode cX12_about 56 = .ok (.iaload, 1) := by decide +kernel
theorem dX12_about_57 : decode cX12_about 57 = .ok (.ifCond .le 7, 3) := by decide +kernel
theorem dX12_about_60 : decode cX12_about 60 = .ok (.iconst 1, 1) := by decide +kernel
theorem dX12_about_61 : decode cX12_about 61 = .ok (.goto 4, 3) := by decide +kernel
theorem dX12_about_64 : decode cX12_about 64 = .ok (.iconst 0, 1) := by decide +kernel
theorem dX12_about_65 : decode cX12_about 65 = .ok (.iadd, 1) := by decide +kernel
theorem dX12_about_66 : decode cX12_about 66 = .ok (.istore_n 3, 1) := by decide +kernel
theorem dX12_about_67 : decode cX12_about 67 = .ok (.iload 4, 2) := by decide +kernel
theorem dX12_about_69 : decode cX12_about 69 = .ok (.aload_n 0, 1) := by decide +kernel
theorem dX12_about_70 : decode cX12_about 70 = .ok (.getfield 19, 3) := by decide +kernel
theorem dX12_about_73 : decode cX12_about 73 = .ok (.iload 7, 2) := by decide +kernel
theorem dX12_about_75 : decode cX12_about 75 = .ok (.iaload, 1) := by decide +kernel
theorem dX12_about_76 : decode cX12_about 76 = .ok (.iadd, 1) := by decide +kernel
theorem dX12_about_77 : decode cX12_about 77 = .ok (.istore 4, 2) := by decide +kernel
theorem dX12_about_79 : decode cX12_about 79 = .ok (.iconst 3, 1) := by decide +kernel
theorem dX12_about_80 : decode cX12_about 80 = .ok (.iload 7, 2) := by decide +kernel
theorem dX12_about_82 : decode cX12_about 82 = .ok (.imul, 1) := by decide +kernel
theorem dX12_about_83 : decode cX12_about 83 = .ok (.istore 8, 2) := by decide +kernel
theorem dX12_about_85 : decode cX12_about 85 = .ok (.iload 8, 2) := by decide +kernel
theorem dX12_about_87 : decode cX12_about 87 = .ok (.iconst 3, 1) := by decide +kernel
theorem dX12_about_88 : decode cX12_about 88 = .ok (.iload 7, 2) := by decide +kernel
theorem dX12_about_90 : decode cX12_about 90 = .ok (.imul, 1) := by decide +kernel
theorem dX12_about_91 : decode cX12_about 91 = .ok (.aload_n 0, 1) := by decide +kernel
theorem dX12_about_92 : decode cX12_about 92 = .ok (.getfield 19, 3) := by decide +kernel
theorem dX12_about_95 : decode cX12_about 95 = .ok (.iload 7, 2) := by decide +kernel
theorem dX12_about_97 : decode cX12_about 97 = .ok (.iaload, 1) := by decide +kernel
theorem dX12_about_98 : decode cX12_about 98 = .ok (.iadd, 1) := by decide +kernel
theorem dX12_about_99 : decode cX12_about 99 = .ok (.if_icmp .ge 72, 3) := by decide +kernel
theorem dX12_about_102 : decode cX12_about 102 = .ok (.iload 5, 2) := by decide +kernel
theorem dX12_about_104 : decode cX12_about 104 = .ok (.aload_n 0, 1) := by decide +kernel
theorem dX12_about_105 : decode cX12_about 105 = .ok (.getfield 25, 3) := by decide +kernel
theorem dX12_about_108 : decode cX12_about 108 = .ok (.iload 8, 2) := by decide +kernel
theorem dX12_about_110 : decode cX12_about 110 = .ok (.iaload, 1) := by decide +kernel
theorem dX12_about_111 : decode cX12_about 111 = .ok (.iadd, 1) := by decide +kernel
theorem dX12_about_112 : decode cX12_about 112 = .ok (.istore 5, 2) := by decide +kernel
theorem dX12_about_114 : decode cX12_about 114 = .ok (.bipush 6, 2) := by decide +kernel
theorem dX12_about_116 : decode cX12_about 116 = .ok (.iload 8, 2) := by decide +kernel
theorem dX12_about_118 : decode cX12_about 118 = .ok (.imul, 1) := by decide +kernel
theorem dX12_about_119 : decode cX12_about 119 = .ok (.istore 9, 2) := by decide +kernel
theorem dX12_about_121 : decode cX12_about 121 = .ok (.iload 9, 2) := by decide +kernel
theorem dX12_about_123 : decode cX12_about 123 = .ok (.bipush 6, 2) := by decide +kernel
theorem dX12_about_125 : decode cX12_about 125 = .ok (.iload 8, 2) := by decide +kernel
theorem dX12_about_127 : decode cX12_about 127 = .ok (.imul, 1) := by decide +kernel
theorem dX12_about_128 : decode cX12_about 128 = .ok (.aload_n 0, 1) := by decide +kernel
theorem dX12_about_129 : decode cX12_about 129 = .ok (.getfield 25, 3) := by decide +kernel
theorem dX12_about_132 : decode cX12_about 132 = .ok (.iload 8, 2) := by decide +kernel
theorem dX12_about_134 : decode cX12_about 134 = .ok (.iaload, 1) := by decide +kernel
theorem dX12_about_135 : decode cX12_about 135 = .ok (.iadd, 1) := by decide +kernel
theorem dX12_about_136 : decode cX12_about 136 = .ok (.if_icmp .ge 29, 3) := by decide +kernel
theorem dX12_about_139 : decode cX12_about 139 = .ok (.iload 6, 2) := by decide +kernel
theorem dX12_about_141 : decode cX12_about 141 = .ok (.aload_n 0, 1) := by decide +kernel
theorem dX12_about_142 : decode cX12_about 142 = .ok (.getfield 31, 3) := by decide +kernel
theorem dX12_about_145 : decode cX12_about 145 = .ok (.iload 9, 2) := by decide +kernel
theorem dX12_about_147 : decode cX12_about 147 = .ok (.baload, 1) := by decide +kernel
theorem dX12_about_148 : decode cX12_about 148 = .ok (.ifCond .eq 7, 3) := by decide +kernel
theorem dX12_about_151 : decode cX12_about 151 = .ok (.iconst 1, 1) := by decide +kernel
theorem dX12_about_152 : decode cX12_about 152 = .ok (.goto 4, 3) := by decide +kernel
theorem dX12_about_155 : decode cX12_about 155 = .ok (.iconst 0, 1) := by decide +kernel
theorem dX12_about_156 : decode cX12_about 156 = .ok (.iadd, 1) := by decide +kernel
theorem dX12_about_157 : decode cX12_about 157 = .ok (.istore 6, 2) := by decide +kernel
theorem dX12_about_159 : decode cX12_about 159 = .ok (.iinc 9 1, 3) := by decide +kernel
theorem dX12_about_162 : decode cX12_about 162 = .ok (.goto (-41), 3) := by decide +kernel
theorem dX12_about_165 : decode cX12_about 165 = .ok (.iinc 8 1, 3) := by decide +kernel
theorem dX12_about_168 : decode cX12_about 168 = .ok (.goto (-83), 3) := by decide +kernel
theorem dX12_about_171 : decode cX12_about 171 = .ok (.iinc 7 1, 3) := by decide +kernel
theorem dX12_about_174 : decode cX12_about 174 = .ok (.goto (-137), 3) := by decide +kernel
theorem dX12_about_177 : decode cX12_about 177 = .ok (.iload_n 2, 1) := by decide +kernel
theorem dX12_about_178 : decode cX12_about 178 = .ok (.tableswitch 74 0 6 #[42, 49, 56, 63, 65, 68, 71], 42) := by decide +kernel
theorem dX12_about_220 : decode cX12_about 220 = .ok (.aload_n 0, 1) := by decide +kernel
theorem dX12_about_221 : decode cX12_about 221 = .ok (.getfield 7, 3) := by decide +kernel
theorem dX12_about_224 : decode cX12_about 224 = .ok (.iload_n 1, 1) := by decide +kernel
theorem dX12_about_225 : decode cX12_about 225 = .ok (.iaload, 1) := by decide +kernel
theorem dX12_about_226 : decode cX12_about 226 = .ok (.ireturn, 1) := by decide +kernel
theorem dX12_about_227 : decode cX12_about 227 = .ok (.aload_n 0, 1) := by decide +kernel
theorem dX12_about_228 : decode cX12_about 228 = .ok (.getfield 13, 3) := by decide +kernel
theorem dX12_about_231 : decode cX12_about 231 = .ok (.iload_n 1, 1) := by decide +kernel
theorem dX12_about_232 : decode cX12_about 232 = .ok (.iaload, 1) := by decide +kernel
theorem dX12_about_233 : decode cX12_about 233 = .ok (.ireturn, 1) := by decide +kernel
theorem dX12_about_234 : decode cX12_about 234 = .ok (.aload_n 0, 1) := by decide +kernel
theorem dX12_about_235 : decode cX12_about 235 = .ok (.getfield 16, 3) := by decide +kernel
theorem dX12_about_238 : decode cX12_about 238 = .ok (.iload_n 1, 1) := by decide +kernel
theorem dX12_about_239 : decode cX12_about 239 = .ok (.iaload, 1) := by decide +kernel
theorem dX12_about_240 : decode cX12_about 240 = .ok (.ireturn, 1) := by decide +kernel
theorem dX12_about_241 : decode cX12_about 241 = .ok (.iload_n 3, 1) := by decide +kernel
theorem dX12_about_242 : decode cX12_about 242 = .ok (.ireturn, 1) := by decide +kernel
theorem dX12_about_243 : decode cX12_about 243 = .ok (.iload 4, 2) := by decide +kernel
theorem dX12_about_245 : decode cX12_about 245 = .ok (.ireturn, 1) := by decide +kernel
theorem dX12_about_246 : decode cX12_about 246 = .ok (.iload 5, 2) := by decide +kernel
theorem dX12_about_248 : decode cX12_about 248 = .ok (.ireturn, 1) := by decide +kernel
theorem dX12_about_249 : decode cX12_about 249 = .ok (.iload 6, 2) := by decide +kernel
theorem dX12_about_251 : decode cX12_about 251 = .ok (.ireturn, 1) := by decide +kernel
theorem dX12_about_252 : decode cX12_about 252 = .ok (.sipush (-1002), 3) := by decide +kernel
theorem dX12_about_255 : decode cX12_about 255 = .ok (.ireturn, 1) := by decide +kernel
theorem dX12_now_0 : decode cX12_now 0 = .ok (.iload_n 1, 1) := by decide +kernel
theorem dX12_now_1 : decode cX12_now 1 = .ok (.i2l, 1) := by decide +kernel
theorem dX12_now_2 : decode cX12_now 2 = .ok (.lconst 0, 1) := by decide +kernel
theorem dX12_now_3 : decode cX12_now 3 = .ok (.ldc2_w 151, 3) := by decide +kernel
theorem dX12_now_6 : decode cX12_now 6 = .ok (.invokestatic 100, 3) := by decide +kernel
theorem dX12_now_9 : decode cX12_now 9 = .ok (.ifCond .ne 7, 3) := by decide +kernel
theorem dX12_now_12 : decode cX12_now 12 = .ok (.sipush (-1002), 3) := by decide +kernel
theorem dX12_now_15 : decode cX12_now 15 = .ok (.ireturn, 1) := by decide +kernel
theorem dX12_now_16 : decode cX12_now 16 = .ok (.aload_n 0, 1) := by decide +kernel
theorem dX12_now_17 : decode cX12_now 17 = .ok (.getfield 35, 3) := by decide +kernel
theorem dX12_now_20 : decode cX12_now 20 = .ok (.istore_n 2, 1) := by decide +kernel
theorem dX12_now_21 : decode cX12_now 21 = .ok (.aload_n 0, 1) := by decide +kernel
theorem dX12_now_22 : decode cX12_now 22 = .ok (.iload_n 1, 1) := by decide +kernel
theorem dX12_now_23 : decode cX12_now 23 = .ok (.putfield 35, 3) := by decide +kernel
theorem dX12_now_26 : decode cX12_now 26 = .ok (.iload_n 2, 1) := by decide +kernel
theorem dX12_now_27 : decode cX12_now 27 = .ok (.ireturn, 1) := by decide +kernel
theorem dX12_taste_0 : decode cX12_taste 0 = .ok (.aload_n 0, 1) := by decide +kernel
theorem dX12_taste_1 : decode cX12_taste 1 = .ok (.getfield 39, 3) := by decide +kernel
theorem dX12_taste_4 : decode cX12_taste 4 = .ok (.ifCond .eq 7, 3) := by decide +kernel
theorem dX12_taste_7 : decode cX12_taste 7 = .ok (.iconst 1, 1) := by decide +kernel
theorem dX12_taste_8 : decode cX12_taste 8 = .ok (.goto 4, 3) := by decide +kernel
theorem dX12_taste_11 : decode cX12_taste 11 = .ok (.iconst 0, 1) := by decide +kernel
theorem dX12_taste_12 : decode cX12_taste 12 = .ok (.istore_n 2, 1) := by decide +kernel
theorem dX12_taste_13 : decode cX12_taste 13 = .ok (.aload_n 0, 1) := by decide +kernel
theorem dX12_taste_14 : decode cX12_taste 14 = .ok (.iload_n 1, 1) := by decide +kernel
theorem dX12_taste_15 : decode cX12_taste 15 = .ok (.putfield 39, 3) := by decide +kernel
theorem dX12_taste_18 : decode cX12_taste 18 = .ok (.iload_n 2, 1) := by decide +kernel
theorem dX12_taste_19 : decode cX12_taste 19 = .ok (.ireturn, 1) := by decide +kernel
theorem dX12_count_0 : decode cX12_count 0 = .ok (.iload_n 1, 1) := by decide +kernel
theorem dX12_count_1 : decode cX12_count 1 = .ok (.tableswitch 60 0 4 #[35, 40, 45, 50, 55], 35) := by decide +kernel
theorem dX12_count_36 : decode cX12_count 36 = .ok (.aload_n 0, 1) := by decide +kernel
theorem dX12_count_37 : decode cX12_count 37 = .ok (.getfield 153, 3) := by decide +kernel
theorem dX12_count_40 : decode cX12_count 40 = .ok (.ireturn, 1) := by decide +kernel
theorem dX12_count_41 : decode cX12_count 41 = .ok (.aload_n 0, 1) := by decide +kernel
theorem dX12_count_42 : decode cX12_count 42 = .ok (.getfield 108, 3) := by decide +kernel
theorem dX12_count_45 : decode cX12_count 45 = .ok (.ireturn, 1) := by decide +kernel
theorem dX12_count_46 : decode cX12_count 46 = .ok (.aload_n 0, 1) := by decide +kernel
theorem dX12_count_47 : decode cX12_count 47 = .ok (.getfield 159, 3) := by decide +kernel
theorem dX12_count_50 : decode cX12_count 50 = .ok (.ireturn, 1) := by decide +kernel
theorem dX12_count_51 : decode cX12_count 51 = .ok (.aload_n 0, 1) := by decide +kernel
theorem dX12_count_52 : decode cX12_count 52 = .ok (.getfield 162, 3) := by decide +kernel
theorem dX12_count_55 : decode cX12_count 55 = .ok (.ireturn, 1) := by decide +kernel
theorem dX12_count_56 : decode cX12_count 56 = .ok (.aload_n 0, 1) := by decide +kernel
theorem dX12_count_57 : decode cX12_count 57 = .ok (.getfield 165, 3) := by decide +kernel
theorem dX12_count_60 : decode cX12_count 60 = .ok (.ireturn, 1) := by decide +kernel
theorem dX12_count_61 : decode cX12_count 61 = .ok (.sipush (-1002), 3) := by decide +kernel
theorem dX12_count_64 : decode cX12_count 64 = .ok (.ireturn, 1) := by decide +kernel
theorem dX12_isBook_0 : decode cX12_isBook 0 = .ok (.aload_n 0, 1) := by decide +kernel
theorem dX12_isBook_1 : decode cX12_isBook 1 = .ok (.getfield 43, 3) := by decide +kernel
theorem dX12_isBook_4 : decode cX12_isBook 4 = .ok (.iload_n 1, 1) := by decide +kernel
theorem dX12_isBook_5 : decode cX12_isBook 5 = .ok (.ishr, 1) := by decide +kernel
theorem dX12_isBook_6 : decode cX12_isBook 6 = .ok (.iconst 1, 1) := by decide +kernel
theorem dX12_isBook_7 : decode cX12_isBook 7 = .ok (.iand, 1) := by decide +kernel
theorem dX12_isBook_8 : decode cX12_isBook 8 = .ok (.iconst 1, 1) := by decide +kernel
theorem dX12_isBook_9 : decode cX12_isBook 9 = .ok (.if_icmp .ne 20, 3) := by decide +kernel
theorem dX12_isBook_12 : decode cX12_isBook 12 = .ok (.aload_n 0, 1) := by decide +kernel
theorem dX12_isBook_13 : decode cX12_isBook 13 = .ok (.getfield 16, 3) := by decide +kernel
theorem dX12_isBook_16 : decode cX12_isBook 16 = .ok (.iload_n 1, 1) := by decide +kernel
theorem dX12_isBook_17 : decode cX12_isBook 17 = .ok (.iaload, 1) := by decide +kernel
theorem dX12_isBook_18 : decode cX12_isBook 18 = .ok (.aload_n 0, 1) := by decide +kernel
theorem dX12_isBook_19 : decode cX12_isBook 19 = .ok (.getfield 35, 3) := by decide +kernel
theorem dX12_isBook_22 : decode cX12_isBook 22 = .ok (.if_icmp .gt 7, 3) := by decide +kernel
theorem dX12_isBook_25 : decode cX12_isBook 25 = .ok (.iconst 1, 1) := by decide +kernel
theorem dX12_isBook_26 : decode cX12_isBook 26 = .ok (.goto 4, 3) := by decide +kernel
theorem dX12_isBook_29 : decode cX12_isBook 29 = .ok (.iconst 0, 1) := by decide +kernel
theorem dX12_isBook_30 : decode cX12_isBook 30 = .ok (.ireturn, 1) := by decide +kernel
theorem dX12_entryOf_0 : decode cX12_entryOf 0 = .ok (.iconst (-1), 1) := by decide +kernel
theorem dX12_entryOf_1 : decode cX12_entryOf 1 = .ok (.istore 4, 2) := by decide +kernel
theorem dX12_entryOf_3 : decode cX12_entryOf 3 = .ok (.iconst 0, 1) := by decide +kernel
theorem dX12_entryOf_4 : decode cX12_entryOf 4 = .ok (.istore 5, 2) := by decide +kernel
theorem dX12_entryOf_6 : decode cX12_entryOf 6 = .ok (.iload 5, 2) := by decide +kernel
theorem dX12_entryOf_8 : decode cX12_entryOf 8 = .ok (.aload_n 0, 1) := by decide +kernel
theorem dX12_entryOf_9 : decode cX12_entryOf 9 = .ok (.getfield 153, 3) := by decide +kernel
theorem dX12_entryOf_12 : decode cX12_entryOf 12 = .ok (.if_icmp .ge 98, 3) := by decide +kernel
theorem dX12_entryOf_15 : decode cX12_entryOf 15 = .ok (.aload_n 0, 1) := by decide +kernel
theorem dX12_entryOf_16 : decode cX12_entryOf 16 = .ok (.iload 5, 2) := by decide +kernel
theorem dX12_entryOf_18 : decode cX12_entryOf 18 = .ok (.invokevirtual 168, 3) := by decide +kernel
theorem dX12_entryOf_21 : decode cX12_entryOf 21 = .ok (.ifCond .eq 44, 3) := by decide +kernel
theorem dX12_entryOf_24 : decode cX12_entryOf 24 = .ok (.aload_n 0, 1) := by decide +kernel
theorem dX12_entryOf_25 : decode cX12_entryOf 25 = .ok (.getfield 7, 3) := by decide +kernel
theorem dX12_entryOf_28 : decode cX12_entryOf 28 = .ok (.iload 5, 2) := by decide +kernel
theorem dX12_entryOf_30 : decode cX12_entryOf 30 = .ok (.iaload, 1) := by decide +kernel
theorem dX12_entryOf_31 : decode cX12_entryOf 31 = .ok (.iload_n 1, 1) := by decide +kernel
theorem dX12_entryOf_32 : decode cX12_entryOf 32 = .ok (.if_icmp .ne 33, 3) := by decide +kernel
theorem dX12_entryOf_35 : decode cX12_entryOf 35 = .ok (.aload_n 0, 1) := by decide +kernel
theorem dX12_entryOf_36 : decode cX12_entryOf 36 = .ok (.getfield 13, 3) := by decide +kernel
theorem dX12_entryOf_39 : decode cX12_entryOf 39 = .ok (.iload 5, 2) := by decide +kernel
theorem dX12_entryOf_41 : decode cX12_entryOf 41 = .ok (.iaload, 1) := by decide +kernel
theorem dX12_entryOf_42 : decode cX12_entryOf 42 = .ok (.iload_n 3, 1) := by decide +kernel
theorem dX12_entryOf_43 : decode cX12_entryOf 43 = .ok (.if_icmp .ne 22, 3) := by decide +kernel
theorem dX12_entryOf_46 : decode cX12_entryOf 46 = .ok (.aload_n 0, 1) := by decide +kernel
theorem dX12_entryOf_47 : decode cX12_entryOf 47 = .ok (.getfield 19, 3) := by decide +kernel
theorem dX12_entryOf_50 : decode cX12_entryOf 50 = .ok (.bipush 60, 2) := by decide +kernel
theorem dX12_entryOf_52 : decode cX12_entryOf 52 = .ok (.iload 5, 2) := by decide +kernel
theorem dX12_entryOf_54 : decode cX12_entryOf 54 = .ok (.imul, 1) := by decide +kernel
theorem dX12_entryOf_55 : decode cX12_entryOf 55 = .ok (.iload_n 2, 1) := by decide +kernel
theorem dX12_entryOf_56 : decode cX12_entryOf 56 = .ok (.iadd, 1) := by decide +kernel
theorem dX12_entryOf_57 : decode cX12_entryOf 57 = .ok (.iaload, 1) := by decide +kernel
theorem dX12_entryOf_58 : decode cX12_entryOf 58 = .ok (.ifCond .le 7, 3) := by decide +kernel
theorem dX12_entryOf_61 : decode cX12_entryOf 61 = .ok (.iconst 1, 1) := by decide +kernel
theorem dX12_entryOf_62 : decode cX12_entryOf 62 = .ok (.goto 4, 3) := by decide +kernel
theorem dX12_entryOf_65 : decode cX12_entryOf 65 = .ok (.iconst 0, 1) := by decide +kernel
theorem dX12_entryOf_66 : decode cX12_entryOf 66 = .ok (.istore 6, 2) := by decide +kernel
theorem dX12_entryOf_68 : decode cX12_entryOf 68 = .ok (.iload 6, 2) := by decide +kernel
theorem dX12_entryOf_70 : decode cX12_entryOf 70 = .ok (.ifCond .eq 30, 3) := by decide +kernel
theorem dX12_entryOf_73 : decode cX12_entryOf 73 = .ok (.iload 4, 2) := by decide +kernel
theorem dX12_entryOf_75 : decode cX12_entryOf 75 = .ok (.ifCond .lt 20, 3) := by decide +kernel
theorem dX12_entryOf_78 : decode cX12_entryOf 78 = .ok (.aload_n 0, 1) := by decide +kernel
theorem dX12_entryOf_79 : decode cX12_entryOf 79 = .ok (.getfield 16, 3) := by decide +kernel
theorem dX12_entryOf_82 : decode cX12_entryOf 82 = .ok (.iload 5, 2) := by decide +kernel
theorem dX12_entryOf_84 : decode cX12_entryOf 84 = .ok (.iaload, 1) := by decide +kernel
theorem dX12_entryOf_85 : decode cX12_entryOf 85 = .ok (.aload_n 0, 1) := by decide +kernel
theorem dX12_entryOf_86 : decode cX12_entryOf 86 = .ok (.getfield 16, 3) := by decide +kernel
theorem dX12_entryOf_89 : decode cX12_entryOf 89 = .ok (.iload 4, 2) := by decide +kernel
theorem dX12_entryOf_91 : decode cX12_entryOf 91 = .ok (.iaload, 1) := by decide +kernel
theorem dX12_entryOf_92 : decode cX12_entryOf 92 = .ok (.if_icmp .lt 8, 3) := by decide +kernel
theorem dX12_entryOf_95 : decode cX12_entryOf 95 = .ok (.iload 5, 2) := by decide +kernel
theorem dX12_entryOf_97 : decode cX12_entryOf 97 = .ok (.goto 5, 3) := by decide +kernel
theorem dX12_entryOf_100 : decode cX12_entryOf 100 = .ok (.iload 4, 2) := by decide +kernel
theorem dX12_entryOf_102 : decode cX12_entryOf 102 = .ok (.istore 4, 2) := by decide +kernel
theorem dX12_entryOf_104 : decode cX12_entryOf 104 = .ok (.iinc 5 1, 3) := by decide +kernel
theorem dX12_entryOf_107 : decode cX12_entryOf 107 = .ok (.goto (-101), 3) := by decide +kernel
theorem dX12_entryOf_110 : decode cX12_entryOf 110 = .ok (.iload 4, 2) := by decide +kernel
theorem dX12_entryOf_112 : decode cX12_entryOf 112 = .ok (.ifCond .ge 7, 3) := by decide +kernel
theorem dX12_entryOf_115 : decode cX12_entryOf 115 = .ok (.iconst (-1), 1) := by decide +kernel
theorem dX12_entryOf_116 : decode cX12_entryOf 116 = .ok (.goto 10, 3) := by decide +kernel
theorem dX12_entryOf_119 : decode cX12_entryOf 119 = .ok (.bipush 60, 2) := by decide +kernel
theorem dX12_entryOf_121 : decode cX12_entryOf 121 = .ok (.iload 4, 2) := by decide +kernel
theorem dX12_entryOf_123 : decode cX12_entryOf 123 = .ok (.imul, 1) := by decide +kernel
theorem dX12_entryOf_124 : decode cX12_entryOf 124 = .ok (.iload_n 2, 1) := by decide +kernel
theorem dX12_entryOf_125 : decode cX12_entryOf 125 = .ok (.iadd, 1) := by decide +kernel
theorem dX12_entryOf_126 : decode cX12_entryOf 126 = .ok (.ireturn, 1) := by decide +kernel
theorem dX12_counts_0 : decode cX12_counts 0 = .ok (.aload_n 0, 1) := by decide +kernel
theorem dX12_counts_1 : decode cX12_counts 1 = .ok (.getfield 39, 3) := by decide +kernel
theorem dX12_counts_4 : decode cX12_counts 4 = .ok (.ifCond .ne 12, 3) := by decide +kernel
theorem dX12_counts_7 : decode cX12_counts 7 = .ok (.aload_n 0, 1) := by decide +kernel
theorem dX12_counts_8 : decode cX12_counts 8 = .ok (.getfield 31, 3) := by decide +kernel
theorem dX12_counts_11 : decode cX12_counts 11 = .ok (.iload_n 1, 1) := by decide +kernel
theorem dX12_counts_12 : decode cX12_counts 12 = .ok (.baload, 1) := by decide +kernel
theorem dX12_counts_13 : decode cX12_counts 13 = .ok (.ifCond .ne 7, 3) := by decide +kernel
theorem dX12_counts_16 : decode cX12_counts 16 = .ok (.iconst 1, 1) := by decide +kernel
theorem dX12_counts_17 : decode cX12_counts 17 = .ok (.goto 4, 3) := by decide +kernel
theorem dX12_counts_20 : decode cX12_counts 20 = .ok (.iconst 0, 1) := by decide +kernel
theorem dX12_counts_21 : decode cX12_counts 21 = .ok (.ireturn, 1) := by decide +kernel
theorem dX12_senseSet_0 : decode cX12_senseSet 0 = .ok (.lconst 0, 1) := by decide +kernel
theorem dX12_senseSet_1 : decode cX12_senseSet 1 = .ok (.lstore_n 2, 1) := by decide +kernel
theorem dX12_senseSet_2 : decode cX12_senseSet 2 = .ok (.bipush 6, 2) := by decide +kernel
theorem dX12_senseSet_4 : decode cX12_senseSet 4 = .ok (.iload_n 1, 1) := by decide +kernel
theorem dX12_senseSet_5 : decode cX12_senseSet 5 = .ok (.imul, 1) := by decide +kernel
theorem dX12_senseSet_6 : decode cX12_senseSet 6 = .ok (.istore 4, 2) := by decide +kernel
theorem dX12_senseSet_8 : decode cX12_senseSet 8 = .ok (.iload 4, 2) := by decide +kernel
theorem dX12_senseSet_10 : decode cX12_senseSet 10 = .ok (.bipush 6, 2) := by decide +kernel
theorem dX12_senseSet_12 : decode cX12_senseSet 12 = .ok (.iload_n 1, 1) := by decide +kernel
theorem dX12_senseSet_13 : decode cX12_senseSet 13 = .ok (.imul, 1) := by decide +kernel
theorem dX12_senseSet_14 : decode cX12_senseSet 14 = .ok (.aload_n 0, 1) := by decide +kernel
theorem dX12_senseSet_15 : decode cX12_senseSet 15 = .ok (.getfield 25, 3) := by decide +kernel
theorem dX12_senseSet_18 : decode cX12_senseSet 18 = .ok (.iload_n 1, 1) := by decide +kernel
theorem dX12_senseSet_19 : decode cX12_senseSet 19 = .ok (.iaload, 1) := by decide +kernel
theorem dX12_senseSet_20 : decode cX12_senseSet 20 = .ok (.iadd, 1) := by decide +kernel
theorem dX12_senseSet_21 : decode cX12_senseSet 21 = .ok (.if_icmp .ge 34, 3) := by decide +kernel
theorem dX12_senseSet_24 : decode cX12_senseSet 24 = .ok (.lload_n 2, 1) := by decide +kernel
theorem dX12_senseSet_25 : decode cX12_senseSet 25 = .ok (.aload_n 0, 1) := by decide +kernel
theorem dX12_senseSet_26 : decode cX12_senseSet 26 = .ok (.iload 4, 2) := by decide +kernel
theorem dX12_senseSet_28 : decode cX12_senseSet 28 = .ok (.invokevirtual 171, 3) := by decide +kernel
theorem dX12_senseSet_31 : decode cX12_senseSet 31 = .ok (.ifCond .eq 15, 3) := by decide +kernel
theorem dX12_senseSet_34 : decode cX12_senseSet 34 = .ok (.lconst 1, 1) := by decide +kernel
theorem dX12_senseSet_35 : decode cX12_senseSet 35 = .ok (.aload_n 0, 1) := by decide +kernel
theorem dX12_senseSet_36 : decode cX12_senseSet 36 = .ok (.getfield 28, 3) := by decide +kernel
theorem dX12_senseSet_39 : decode cX12_senseSet 39 = .ok (.iload 4, 2) := by decide +kernel
theorem dX12_senseSet_41 : decode cX12_senseSet 41 = .ok (.iaload, 1) := by decide +kernel
theorem dX12_senseSet_42 : decode cX12_senseSet 42 = .ok (.lshl, 1) := by decide +kernel
theorem dX12_senseSet_43 : decode cX12_senseSet 43 = .ok (.goto 4, 3) := by decide +kernel
theorem dX12_senseSet_46 : decode cX12_senseSet 46 = .ok (.lconst 0, 1) := by decide +kernel
theorem dX12_senseSet_47 : decode cX12_senseSet 47 = .ok (.lor, 1) := by decide +kernel
theorem dX12_senseSet_48 : decode cX12_senseSet 48 = .ok (.lstore_n 2, 1) := by decide +kernel
theorem dX12_senseSet_49 : decode cX12_senseSet 49 = .ok (.iinc 4 1, 3) := by decide +kernel
theorem dX12_senseSet_52 : decode cX12_senseSet 52 = .ok (.goto (-44), 3) := by decide +kernel
theorem dX12_senseSet_55 : decode cX12_senseSet 55 = .ok (.lload_n 2, 1) := by decide +kernel
theorem dX12_senseSet_56 : decode cX12_senseSet 56 = .ok (.lreturn, 1) := by decide +kernel
theorem dX12_giving_0 : decode cX12_giving 0 = .ok (.aload_n 0, 1) := by decide +kernel
theorem dX12_giving_1 : decode cX12_giving 1 = .ok (.iload_n 1, 1) := by decide +kernel
theorem dX12_giving_2 : decode cX12_giving 2 = .ok (.iload_n 2, 1) := by decide +kernel
theorem dX12_giving_3 : decode cX12_giving 3 = .ok (.iload_n 3, 1) := by decide +kernel
theorem dX12_giving_4 : decode cX12_giving 4 = .ok (.invokevirtual 174, 3) := by decide +kernel
theorem dX12_giving_7 : decode cX12_giving 7 = .ok (.istore 4, 2) := by decide +kernel
theorem dX12_giving_9 : decode cX12_giving 9 = .ok (.lconst 0, 1) := by decide +kernel
theorem dX12_giving_10 : decode cX12_giving 10 = .ok (.lstore 5, 2) := by decide +kernel
theorem dX12_giving_12 : decode cX12_giving 12 = .ok (.iconst 3, 1) := by decide +kernel
theorem dX12_giving_13 : decode cX12_giving 13 = .ok (.iload 4, 2) := by decide +kernel
theorem dX12_giving_15 : decode cX12_giving 15 = .ok (.imul, 1) := by decide +kernel
theorem dX12_giving_16 : decode cX12_giving 16 = .ok (.istore 7, 2) := by decide +kernel
theorem dX12_giving_18 : decode cX12_giving 18 = .ok (.iload 4, 2) := by decide +kernel
theorem dX12_giving_20 : decode cX12_giving 20 = .ok (.ifCond .lt 37, 3) := by decide +kernel
theorem dX12_giving_23 : decode cX12_giving 23 = .ok (.iload 7, 2) := by decide +kernel
theorem dX12_giving_25 : decode cX12_giving 25 = .ok (.iconst 3, 1) := by decide +kernel
theorem dX12_giving_26 : decode cX12_giving 26 = .ok (.iload 4, 2) := by decide +kernel
theorem dX12_giving_28 : decode cX12_giving 28 = .ok (.imul, 1) := by decide +kernel
theorem dX12_giving_29 : decode cX12_giving 29 = .ok (.aload_n 0, 1) := by decide +kernel
theorem dX12_giving_30 : decode cX12_giving 30 = .ok (.getfield 19, 3) := by decide +kernel
theorem dX12_giving_33 : decode cX12_giving 33 = .ok (.iload 4, 2) := by decide +kernel
theorem dX12_giving_35 : decode cX12_giving 35 = .ok (.iaload, 1) := by decide +kernel
theorem dX12_giving_36 : decode cX12_giving 36 = .ok (.iadd, 1) := by decide +kernel
theorem dX12_giving_37 : decode cX12_giving 37 = .ok (.if_icmp .ge 20, 3) := by decide +kernel
theorem dX12_giving_40 : decode cX12_giving 40 = .ok (.lload 5, 2) := by decide +kernel
theorem dX12_giving_42 : decode cX12_giving 42 = .ok (.aload_n 0, 1) := by decide +kernel
theorem dX12_giving_43 : decode cX12_giving 43 = .ok (.iload 7, 2) := by decide +kernel
theorem dX12_giving_45 : decode cX12_giving 45 = .ok (.invokevirtual 178, 3) := by decide +kernel
theorem dX12_giving_48 : decode cX12_giving 48 = .ok (.lor, 1) := by decide +kernel
theorem dX12_giving_49 : decode cX12_giving 49 = .ok (.lstore 5, 2) := by decide +kernel
theorem dX12_giving_51 : decode cX12_giving 51 = .ok (.iinc 7 1, 3) := by decide +kernel
theorem dX12_giving_54 : decode cX12_giving 54 = .ok (.goto (-36), 3) := by decide +kernel
theorem dX12_giving_57 : decode cX12_giving 57 = .ok (.lload 5, 2) := by decide +kernel
theorem dX12_giving_59 : decode cX12_giving 59 = .ok (.lreturn, 1) := by decide +kernel
theorem dX12_entry_0 : decode cX12_entry 0 = .ok (.iload_n 1, 1) := by decide +kernel
theorem dX12_entry_1 : decode cX12_entry 1 = .ok (.invokestatic 147, 3) := by decide +kernel
theorem dX12_entry_4 : decode cX12_entry 4 = .ok (.ifCond .eq 17, 3) := by decide +kernel
theorem dX12_entry_7 : decode cX12_entry 7 = .ok (.iload_n 2, 1) := by decide +kernel
theorem dX12_entry_8 : decode cX12_entry 8 = .ok (.invokestatic 182, 3) := by decide +kernel
theorem dX12_entry_11 : decode cX12_entry 11 = .ok (.ifCond .eq 10, 3) := by decide +kernel
theorem dX12_entry_14 : decode cX12_entry 14 = .ok (.iload_n 3, 1) := by decide +kernel
theorem dX12_entry_15 : decode cX12_entry 15 = .ok (.invokestatic 147, 3) := by decide +kernel
theorem dX12_entry_18 : decode cX12_entry 18 = .ok (.ifCond .ne 7, 3) := by decide +kernel
theorem dX12_entry_21 : decode cX12_entry 21 = .ok (.sipush (-1001), 3) := by decide +kernel
theorem dX12_entry_24 : decode cX12_entry 24 = .ok (.ireturn, 1) := by decide +kernel
theorem dX12_entry_25 : decode cX12_entry 25 = .ok (.iload 4, 2) := by decide +kernel
theorem dX12_entry_27 : decode cX12_entry 27 = .ok (.i2l, 1) := by decide +kernel
theorem dX12_entry_28 : decode cX12_entry 28 = .ok (.lconst 0, 1) := by decide +kernel
theorem dX12_entry_29 : decode cX12_entry 29 = .ok (.ldc2_w 185, 3) := by decide +kernel
theorem dX12_entry_32 : decode cX12_entry 32 = .ok (.invokestatic 100, 3) := by decide +kernel
theorem dX12_entry_35 : decode cX12_entry 35 = .ok (.ifCond .ne 7, 3) := by decide +kernel
theorem dX12_entry_38 : decode cX12_entry 38 = .ok (.sipush (-1002), 3) := by decide +kernel
theorem dX12_entry_41 : decode cX12_entry 41 = .ok (.ireturn, 1) := by decide +kernel
theorem dX12_entry_42 : decode cX12_entry 42 = .ok (.aload_n 0, 1) := by decide +kernel
theorem dX12_entry_43 : decode cX12_entry 43 = .ok (.iload_n 1, 1) := by decide +kernel
theorem dX12_entry_44 : decode cX12_entry 44 = .ok (.iload_n 2, 1) := by decide +kernel
theorem dX12_entry_45 : decode cX12_entry 45 = .ok (.iload_n 3, 1) := by decide +kernel
theorem dX12_entry_46 : decode cX12_entry 46 = .ok (.invokevirtual 174, 3) := by decide +kernel
theorem dX12_entry_49 : decode cX12_entry 49 = .ok (.istore 5, 2) := by decide +kernel
theorem dX12_entry_51 : decode cX12_entry 51 = .ok (.iload 5, 2) := by decide +kernel
theorem dX12_entry_53 : decode cX12_entry 53 = .ok (.ifCond .ge 5, 3) := by decide +kernel
theorem dX12_entry_56 : decode cX12_entry 56 = .ok (.iconst (-1), 1) := by decide +kernel
theorem dX12_entry_57 : decode cX12_entry 57 = .ok (.ireturn, 1) := by decide +kernel
theorem dX12_entry_58 : decode cX12_entry 58 = .ok (.iload 4, 2) := by decide +kernel
theorem dX12_entry_60 : decode cX12_entry 60 = .ok (.iconst 2, 1) := by decide +kernel
theorem dX12_entry_61 : decode cX12_entry 61 = .ok (.if_icmp .ge 24, 3) := by decide +kernel
theorem dX12_entry_64 : decode cX12_entry 64 = .ok (.iload 4, 2) := by decide +kernel
theorem dX12_entry_66 : decode cX12_entry 66 = .ok (.ifCond .ne 11, 3) := by decide +kernel
theorem dX12_entry_69 : decode cX12_entry 69 = .ok (.iload 5, 2) := by decide +kernel
theorem dX12_entry_71 : decode cX12_entry 71 = .ok (.bipush 60, 2) := by decide +kernel
theorem dX12_entry_73 : decode cX12_entry 73 = .ok (.idiv, 1) := by decide +kernel
theorem dX12_entry_74 : decode cX12_entry 74 = .ok (.goto 10, 3) := by decide +kernel
theorem dX12_entry_77 : decode cX12_entry 77 = .ok (.aload_n 0, 1) := by decide +kernel
theorem dX12_entry_78 : decode cX12_entry 78 = .ok (.getfield 19, 3) := by decide +kernel
theorem dX12_entry_81 : decode cX12_entry 81 = .ok (.iload 5, 2) := by decide +kernel
theorem dX12_entry_83 : decode cX12_entry 83 = .ok (.iaload, 1) := by decide +kernel
theorem dX12_entry_84 : decode cX12_entry 84 = .ok (.ireturn, 1) := by decide +kernel
theorem dX12_entry_85 : decode cX12_entry 85 = .ok (.iload 4, 2) := by decide +kernel
theorem dX12_entry_87 : decode cX12_entry 87 = .ok (.iconst 5, 1) := by decide +kernel
theorem dX12_entry_88 : decode cX12_entry 88 = .ok (.if_icmp .ge 10, 3) := by decide +kernel
theorem dX12_entry_91 : decode cX12_entry 91 = .ok (.iload 4, 2) := by decide +kernel
theorem dX12_entry_93 : decode cX12_entry 93 = .ok (.iconst 2, 1) := by decide +kernel
theorem dX12_entry_94 : decode cX12_entry 94 = .ok (.isub, 1) := by decide +kernel
theorem dX12_entry_95 : decode cX12_entry 95 = .ok (.goto 7, 3) := by decide +kernel
theorem dX12_entry_98 : decode cX12_entry 98 = .ok (.iload 4, 2) := by decide +kernel
theorem dX12_entry_100 : decode cX12_entry 100 = .ok (.iconst 5, 1) := by decide +kernel
theorem dX12_entry_101 : decode cX12_entry 101 = .ok (.isub, 1) := by decide +kernel
theorem dX12_entry_102 : decode cX12_entry 102 = .ok (.istore 6, 2) := by decide +kernel
theorem dX12_entry_104 : decode cX12_entry 104 = .ok (.iload 6, 2) := by decide +kernel
theorem dX12_entry_106 : decode cX12_entry 106 = .ok (.aload_n 0, 1) := by decide +kernel
theorem dX12_entry_107 : decode cX12_entry 107 = .ok (.getfield 19, 3) := by decide +kernel
theorem dX12_entry_110 : decode cX12_entry 110 = .ok (.iload 5, 2) := by decide +kernel
theorem dX12_entry_112 : decode cX12_entry 112 = .ok (.iaload, 1) := by decide +kernel
theorem dX12_entry_113 : decode cX12_entry 113 = .ok (.if_icmp .lt 5, 3) := by decide +kernel
theorem dX12_entry_116 : decode cX12_entry 116 = .ok (.iconst (-1), 1) := by decide +kernel
theorem dX12_entry_117 : decode cX12_entry 117 = .ok (.ireturn, 1) := by decide +kernel
theorem dX12_entry_118 : decode cX12_entry 118 = .ok (.iload 4, 2) := by decide +kernel
theorem dX12_entry_120 : decode cX12_entry 120 = .ok (.iconst 5, 1) := by decide +kernel
theorem dX12_entry_121 : decode cX12_entry 121 = .ok (.if_icmp .ge 18, 3) := by decide +kernel
theorem dX12_entry_124 : decode cX12_entry 124 = .ok (.aload_n 0, 1) := by decide +kernel
theorem dX12_entry_125 : decode cX12_entry 125 = .ok (.getfield 22, 3) := by decide +kernel
theorem dX12_entry_128 : decode cX12_entry 128 = .ok (.iconst 3, 1) := by decide +kernel
theorem dX12_entry_129 : decode cX12_entry 129 = .ok (.iload 5, 2) := by decide +kernel
theorem dX12_entry_131 : decode cX12_entry 131 = .ok (.imul, 1) := by decide +kernel
theorem dX12_entry_132 : decode cX12_entry 132 = .ok (.iload 6, 2) := by decide +kernel
theorem dX12_entry_134 : decode cX12_entry 134 = .ok (.iadd, 1) := by decide +kernel
theorem dX12_entry_135 : decode cX12_entry 135 = .ok (.iaload, 1) := by decide +kernel
theorem dX12_entry_136 : decode cX12_entry 136 = .ok (.goto 17, 3) := by decide +kernel
theorem dX12_entry_139 : decode cX12_entry 139 = .ok (.aload_n 0, 1) := by decide +kernel
theorem dX12_entry_140 : decode cX12_entry 140 = .ok (.iconst 3, 1) := by decide +kernel
theorem dX12_entry_141 : decode cX12_entry 141 = .ok (.iload 5, 2) := by decide +kernel
theorem dX12_entry_143 : decode cX12_entry 143 = .ok (.imul, 1) := by decide +kernel
theorem dX12_entry_144 : decode cX12_entry 144 = .ok (.iload 6, 2) := by decide +kernel
theorem dX12_entry_146 : decode cX12_entry 146 = .ok (.iadd, 1) := by decide +kernel
theorem dX12_entry_147 : decode cX12_entry 147 = .ok (.invokevirtual 178, 3) := by decide +kernel
theorem dX12_entry_150 : decode cX12_entry 150 = .ok (.invokestatic 187, 3) := by decide +kernel
theorem dX12_entry_153 : decode cX12_entry 153 = .ok (.ireturn, 1) := by decide +kernel
theorem dX12_gives_0 : decode cX12_gives 0 = .ok (.iload_n 1, 1) := by decide +kernel
theorem dX12_gives_1 : decode cX12_gives 1 = .ok (.invokestatic 147, 3) := by decide +kernel
theorem dX12_gives_4 : decode cX12_gives 4 = .ok (.ifCond .eq 27, 3) := by decide +kernel
theorem dX12_gives_7 : decode cX12_gives 7 = .ok (.iload_n 2, 1) := by decide +kernel
theorem dX12_gives_8 : decode cX12_gives 8 = .ok (.invokestatic 182, 3) := by decide +kernel
theorem dX12_gives_11 : decode cX12_gives 11 = .ok (.ifCond .eq 20, 3) := by decide +kernel
theorem dX12_gives_14 : decode cX12_gives 14 = .ok (.iload_n 3, 1) := by decide +kernel
theorem dX12_gives_15 : decode cX12_gives 15 = .ok (.invokestatic 147, 3) := by decide +kernel
theorem dX12_gives_18 : decode cX12_gives 18 = .ok (.ifCond .eq 13, 3) := by decide +kernel
theorem dX12_gives_21 : decode cX12_gives 21 = .ok (.aload_n 0, 1) := by decide +kernel
theorem dX12_gives_22 : decode cX12_gives 22 = .ok (.iload_n 1, 1) := by decide +kernel
theorem dX12_gives_23 : decode cX12_gives 23 = .ok (.iload_n 2, 1) := by decide +kernel
theorem dX12_gives_24 : decode cX12_gives 24 = .ok (.iload_n 3, 1) := by decide +kernel
theorem dX12_gives_25 : decode cX12_gives 25 = .ok (.invokevirtual 191, 3) := by decide +kernel
theorem dX12_gives_28 : decode cX12_gives 28 = .ok (.goto 6, 3) := by decide +kernel
theorem dX12_gives_31 : decode cX12_gives 31 = .ok (.ldc2_w 195, 3) := by decide +kernel
theorem dX12_gives_34 : decode cX12_gives 34 = .ok (.lreturn, 1) := by decide +kernel
theorem dX12_givenByOf_0 : decode cX12_givenByOf 0 = .ok (.lconst 0, 1) := by decide +kernel
theorem dX12_givenByOf_1 : decode cX12_givenByOf 1 = .ok (.lstore 4, 2) := by decide +kernel
theorem dX12_givenByOf_3 : decode cX12_givenByOf 3 = .ok (.iconst 0, 1) := by decide +kernel
theorem dX12_givenByOf_4 : decode cX12_givenByOf 4 = .ok (.istore 6, 2) := by decide +kernel
theorem dX12_givenByOf_6 : decode cX12_givenByOf 6 = .ok (.iload 6, 2) := by decide +kernel
theorem dX12_givenByOf_8 : decode cX12_givenByOf 8 = .ok (.bipush 60, 2) := by decide +kernel
theorem dX12_givenByOf_10 : decode cX12_givenByOf 10 = .ok (.if_icmp .ge 29, 3) := by decide +kernel
theorem dX12_givenByOf_13 : decode cX12_givenByOf 13 = .ok (.lload 4, 2) := by decide +kernel
theorem dX12_givenByOf_15 : decode cX12_givenByOf 15 = .ok (.aload_n 0, 1) := by decide +kernel
theorem dX12_givenByOf_16 : decode cX12_givenByOf 16 = .ok (.iload_n 1, 1) := by decide +kernel
theorem dX12_givenByOf_17 : decode cX12_givenByOf 17 = .ok (.iload 6, 2) := by decide +kernel
theorem dX12_givenByOf_19 : decode cX12_givenByOf 19 = .ok (.iload_n 2, 1) := by decide +kernel
theorem dX12_givenByOf_20 : decode cX12_givenByOf 20 = .ok (.invokevirtual 191, 3) := by decide +kernel
theorem dX12_givenByOf_23 : decode cX12_givenByOf 23 = .ok (.iload_n 3, 1) := by decide +kernel
theorem dX12_givenByOf_24 : decode cX12_givenByOf 24 = .ok (.lshr, 1) := by decide +kernel
theorem dX12_givenByOf_25 : decode cX12_givenByOf 25 = .ok (.lconst 1, 1) := by decide +kernel
theorem dX12_givenByOf_26 : decode cX12_givenByOf 26 = .ok (.land, 1) := by decide +kernel
theorem dX12_givenByOf_27 : decode cX12_givenByOf 27 = .ok (.iload 6, 2) := by decide +kernel
theorem dX12_givenByOf_29 : decode cX12_givenByOf 29 = .ok (.lshl, 1) := by decide +kernel
theorem dX12_givenByOf_30 : decode cX12_givenByOf 30 = .ok (.lor, 1) := by decide +kernel
theorem dX12_givenByOf_31 : decode cX12_givenByOf 31 = .ok (.lstore 4, 2) := by decide +kernel
theorem dX12_givenByOf_33 : decode cX12_givenByOf 33 = .ok (.iinc 6 1, 3) := by decide +kernel
theorem dX12_givenByOf_36 : decode cX12_givenByOf 36 = .ok (.goto (-30), 3) := by decide +kernel
theorem dX12_givenByOf_39 : decode cX12_givenByOf 39 = .ok (.lload 4, 2) := by decide +kernel
theorem dX12_givenByOf_41 : decode cX12_givenByOf 41 = .ok (.lreturn, 1) := by decide +kernel
theorem dX12_givenBy_0 : decode cX12_givenBy 0 = .ok (.iload_n 1, 1) := by decide +kernel
theorem dX12_givenBy_1 : decode cX12_givenBy 1 = .ok (.invokestatic 147, 3) := by decide +kernel
theorem dX12_givenBy_4 : decode cX12_givenBy 4 = .ok (.ifCond .eq 27, 3) := by decide +kernel
theorem dX12_givenBy_7 : decode cX12_givenBy 7 = .ok (.iload_n 2, 1) := by decide +kernel
theorem dX12_givenBy_8 : decode cX12_givenBy 8 = .ok (.invokestatic 147, 3) := by decide +kernel
theorem dX12_givenBy_11 : decode cX12_givenBy 11 = .ok (.ifCond .eq 20, 3) := by decide +kernel
theorem dX12_givenBy_14 : decode cX12_givenBy 14 = .ok (.iload_n 3, 1) := by decide +kernel
theorem dX12_givenBy_15 : decode cX12_givenBy 15 = .ok (.invokestatic 182, 3) := by decide +kernel
theorem dX12_givenBy_18 : decode cX12_givenBy 18 = .ok (.ifCond .eq 13, 3) := by decide +kernel
theorem dX12_givenBy_21 : decode cX12_givenBy 21 = .ok (.aload_n 0, 1) := by decide +kernel
theorem dX12_givenBy_22 : decode cX12_givenBy 22 = .ok (.iload_n 1, 1) := by decide +kernel
theorem dX12_givenBy_23 : decode cX12_givenBy 23 = .ok (.iload_n 2, 1) := by decide +kernel
theorem dX12_givenBy_24 : decode cX12_givenBy 24 = .ok (.iload_n 3, 1) := by decide +kernel
theorem dX12_givenBy_25 : decode cX12_givenBy 25 = .ok (.invokevirtual 197, 3) := by decide +kernel
theorem dX12_givenBy_28 : decode cX12_givenBy 28 = .ok (.goto 6, 3) := by decide +kernel
theorem dX12_givenBy_31 : decode cX12_givenBy 31 = .ok (.ldc2_w 195, 3) := by decide +kernel
theorem dX12_givenBy_34 : decode cX12_givenBy 34 = .ok (.lreturn, 1) := by decide +kernel
theorem dX12_givingAll_0 : decode cX12_givingAll 0 = .ok (.lconst 0, 1) := by decide +kernel
theorem dX12_givingAll_1 : decode cX12_givingAll 1 = .ok (.lstore 5, 2) := by decide +kernel
theorem dX12_givingAll_3 : decode cX12_givingAll 3 = .ok (.iconst 0, 1) := by decide +kernel
theorem dX12_givingAll_4 : decode cX12_givingAll 4 = .ok (.istore 7, 2) := by decide +kernel
theorem dX12_givingAll_6 : decode cX12_givingAll 6 = .ok (.iload 7, 2) := by decide +kernel
theorem dX12_givingAll_8 : decode cX12_givingAll 8 = .ok (.bipush 60, 2) := by decide +kernel
theorem dX12_givingAll_10 : decode cX12_givingAll 10 = .ok (.if_icmp .ge 38, 3) := by decide +kernel
theorem dX12_givingAll_13 : decode cX12_givingAll 13 = .ok (.lload 5, 2) := by decide +kernel
theorem dX12_givingAll_15 : decode cX12_givingAll 15 = .ok (.lload_n 2, 1) := by decide +kernel
theorem dX12_givingAll_16 : decode cX12_givingAll 16 = .ok (.iload 7, 2) := by decide +kernel
theorem dX12_givingAll_18 : decode cX12_givingAll 18 = .ok (.lshr, 1) := by decide +kernel
theorem dX12_givingAll_19 : decode cX12_givingAll 19 = .ok (.lconst 1, 1) := by decide +kernel
theorem dX12_givingAll_20 : decode cX12_givingAll 20 = .ok (.land, 1) := by decide +kernel
theorem dX12_givingAll_21 : decode cX12_givingAll 21 = .ok (.lconst 1, 1) := by decide +kernel
theorem dX12_givingAll_22 : decode cX12_givingAll 22 = .ok (.lcmp, 1) := by decide +kernel
theorem dX12_givingAll_23 : decode cX12_givingAll 23 = .ok (.ifCond .ne 15, 3) := by decide +kernel
theorem dX12_givingAll_26 : decode cX12_givingAll 26 = .ok (.aload_n 0, 1) := by decide +kernel
theorem dX12_givingAll_27 : decode cX12_givingAll 27 = .ok (.iload_n 1, 1) := by decide +kernel
theorem dX12_givingAll_28 : decode cX12_givingAll 28 = .ok (.iload 7, 2) := by decide +kernel
theorem dX12_givingAll_30 : decode cX12_givingAll 30 = .ok (.iload 4, 2) := by decide +kernel
theorem dX12_givingAll_32 : decode cX12_givingAll 32 = .ok (.invokevirtual 191, 3) := by decide +kernel
theorem dX12_givingAll_35 : decode cX12_givingAll 35 = .ok (.goto 4, 3) := by decide +kernel
theorem dX12_givingAll_38 : decode cX12_givingAll 38 = .ok (.lconst 0, 1) := by decide +kernel
theorem dX12_givingAll_39 : decode cX12_givingAll 39 = .ok (.lor, 1) := by decide +kernel
theorem dX12_givingAll_40 : decode cX12_givingAll 40 = .ok (.lstore 5, 2) := by decide +kernel
theorem dX12_givingAll_42 : decode cX12_givingAll 42 = .ok (.iinc 7 1, 3) := by decide +kernel
theorem dX12_givingAll_45 : decode cX12_givingAll 45 = .ok (.goto (-39), 3) := by decide +kernel
theorem dX12_givingAll_48 : decode cX12_givingAll 48 = .ok (.lload 5, 2) := by decide +kernel
theorem dX12_givingAll_50 : decode cX12_givingAll 50 = .ok (.lreturn, 1) := by decide +kernel
theorem dX12_returns_0 : decode cX12_returns 0 = .ok (.iload_n 1, 1) := by decide +kernel
theorem dX12_returns_1 : decode cX12_returns 1 = .ok (.invokestatic 147, 3) := by decide +kernel
theorem dX12_returns_4 : decode cX12_returns 4 = .ok (.ifCond .eq 17, 3) := by decide +kernel
theorem dX12_returns_7 : decode cX12_returns 7 = .ok (.iload_n 2, 1) := by decide +kernel
theorem dX12_returns_8 : decode cX12_returns 8 = .ok (.invokestatic 182, 3) := by decide +kernel
theorem dX12_returns_11 : decode cX12_returns 11 = .ok (.ifCond .eq 10, 3) := by decide +kernel
theorem dX12_returns_14 : decode cX12_returns 14 = .ok (.iload_n 3, 1) := by decide +kernel
theorem dX12_returns_15 : decode cX12_returns 15 = .ok (.invokestatic 147, 3) := by decide +kernel
theorem dX12_returns_18 : decode cX12_returns 18 = .ok (.ifCond .ne 7, 3) := by decide +kernel
theorem dX12_returns_21 : decode cX12_returns 21 = .ok (.sipush (-1001), 3) := by decide +kernel
theorem dX12_returns_24 : decode cX12_returns 24 = .ok (.ireturn, 1) := by decide +kernel
theorem dX12_returns_25 : decode cX12_returns 25 = .ok (.iload_n 1, 1) := by decide +kernel
theorem dX12_returns_26 : decode cX12_returns 26 = .ok (.iload_n 3, 1) := by decide +kernel
theorem dX12_returns_27 : decode cX12_returns 27 = .ok (.if_icmp .ne 9, 3) := by decide +kernel
theorem dX12_returns_30 : decode cX12_returns 30 = .ok (.sipush (-1002), 3) := by decide +kernel
theorem dX12_returns_33 : decode cX12_returns 33 = .ok (.goto 21, 3) := by decide +kernel
theorem dX12_returns_36 : decode cX12_returns 36 = .ok (.aload_n 0, 1) := by decide +kernel
theorem dX12_returns_37 : decode cX12_returns 37 = .ok (.iload_n 3, 1) := by decide +kernel
theorem dX12_returns_38 : decode cX12_returns 38 = .ok (.aload_n 0, 1) := by decide +kernel
theorem dX12_returns_39 : decode cX12_returns 39 = .ok (.iload_n 1, 1) := by decide +kernel
theorem dX12_returns_40 : decode cX12_returns 40 = .ok (.iload_n 2, 1) := by decide +kernel
theorem dX12_returns_41 : decode cX12_returns 41 = .ok (.iload_n 3, 1) := by decide +kernel
theorem dX12_returns_42 : decode cX12_returns 42 = .ok (.invokevirtual 191, 3) := by decide +kernel
theorem dX12_returns_45 : decode cX12_returns 45 = .ok (.iload_n 1, 1) := by decide +kernel
theorem dX12_returns_46 : decode cX12_returns 46 = .ok (.invokevirtual 200, 3) := by decide +kernel
theorem dX12_returns_49 : decode cX12_returns 49 = .ok (.iload_n 2, 1) := by decide +kernel
theorem dX12_returns_50 : decode cX12_returns 50 = .ok (.lshr, 1) := by decide +kernel
theorem dX12_returns_51 : decode cX12_returns 51 = .ok (.lconst 1, 1) := by decide +kernel
theorem dX12_returns_52 : decode cX12_returns 52 = .ok (.land, 1) := by decide +kernel
theorem dX12_returns_53 : decode cX12_returns 53 = .ok (.l2i, 1) := by decide +kernel
theorem dX12_returns_54 : decode cX12_returns 54 = .ok (.ireturn, 1) := by decide +kernel
theorem dX12_back_0 : decode cX12_back 0 = .ok (.iload_n 1, 1) := by decide +kernel
theorem dX12_back_1 : decode cX12_back 1 = .ok (.invokestatic 147, 3) := by decide +kernel
theorem dX12_back_4 : decode cX12_back 4 = .ok (.ifCond .eq 17, 3) := by decide +kernel
theorem dX12_back_7 : decode cX12_back 7 = .ok (.iload_n 2, 1) := by decide +kernel
theorem dX12_back_8 : decode cX12_back 8 = .ok (.invokestatic 182, 3) := by decide +kernel
theorem dX12_back_11 : decode cX12_back 11 = .ok (.ifCond .eq 10, 3) := by decide +kernel
theorem dX12_back_14 : decode cX12_back 14 = .ok (.iload_n 3, 1) := by decide +kernel
theorem dX12_back_15 : decode cX12_back 15 = .ok (.invokestatic 147, 3) := by decide +kernel
theorem dX12_back_18 : decode cX12_back 18 = .ok (.ifCond .ne 7, 3) := by decide +kernel
theorem dX12_back_21 : decode cX12_back 21 = .ok (.ldc2_w 195, 3) := by decide +kernel
theorem dX12_back_24 : decode cX12_back 24 = .ok (.lreturn, 1) := by decide +kernel
theorem dX12_back_25 : decode cX12_back 25 = .ok (.iload_n 1, 1) := by decide +kernel
theorem dX12_back_26 : decode cX12_back 26 = .ok (.iload_n 3, 1) := by decide +kernel
theorem dX12_back_27 : decode cX12_back 27 = .ok (.if_icmp .ne 9, 3) := by decide +kernel
theorem dX12_back_30 : decode cX12_back 30 = .ok (.ldc2_w 204, 3) := by decide +kernel
theorem dX12_back_33 : decode cX12_back 33 = .ok (.goto 24, 3) := by decide +kernel
theorem dX12_back_36 : decode cX12_back 36 = .ok (.aload_n 0, 1) := by decide +kernel
theorem dX12_back_37 : decode cX12_back 37 = .ok (.iload_n 3, 1) := by decide +kernel
theorem dX12_back_38 : decode cX12_back 38 = .ok (.aload_n 0, 1) := by decide +kernel
theorem dX12_back_39 : decode cX12_back 39 = .ok (.iload_n 1, 1) := by decide +kernel
theorem dX12_back_40 : decode cX12_back 40 = .ok (.iload_n 2, 1) := by decide +kernel
theorem dX12_back_41 : decode cX12_back 41 = .ok (.iload_n 3, 1) := by decide +kernel
theorem dX12_back_42 : decode cX12_back 42 = .ok (.invokevirtual 191, 3) := by decide +kernel
theorem dX12_back_45 : decode cX12_back 45 = .ok (.iload_n 1, 1) := by decide +kernel
theorem dX12_back_46 : decode cX12_back 46 = .ok (.invokevirtual 200, 3) := by decide +kernel
theorem dX12_back_49 : decode cX12_back 49 = .ok (.lconst 1, 1) := by decide +kernel
theorem dX12_back_50 : decode cX12_back 50 = .ok (.iload_n 2, 1) := by decide +kernel
theorem dX12_back_51 : decode cX12_back 51 = .ok (.lshl, 1) := by decide +kernel
theorem dX12_back_52 : decode cX12_back 52 = .ok (.ldc2_w 206, 3) := by decide +kernel
theorem dX12_back_55 : decode cX12_back 55 = .ok (.lxor, 1) := by decide +kernel
theorem dX12_back_56 : decode cX12_back 56 = .ok (.land, 1) := by decide +kernel
theorem dX12_back_57 : decode cX12_back 57 = .ok (.lreturn, 1) := by decide +kernel
theorem dX12_meanings_0 : decode cX12_meanings 0 = .ok (.iload_n 1, 1) := by decide +kernel
theorem dX12_meanings_1 : decode cX12_meanings 1 = .ok (.invokestatic 147, 3) := by decide +kernel
theorem dX12_meanings_4 : decode cX12_meanings 4 = .ok (.ifCond .eq 17, 3) := by decide +kernel
theorem dX12_meanings_7 : decode cX12_meanings 7 = .ok (.iload_n 2, 1) := by decide +kernel
theorem dX12_meanings_8 : decode cX12_meanings 8 = .ok (.invokestatic 182, 3) := by decide +kernel
theorem dX12_meanings_11 : decode cX12_meanings 11 = .ok (.ifCond .eq 10, 3) := by decide +kernel
theorem dX12_meanings_14 : decode cX12_meanings 14 = .ok (.iload_n 3, 1) := by decide +kernel
theorem dX12_meanings_15 : decode cX12_meanings 15 = .ok (.invokestatic 147, 3) := by decide +kernel
theorem dX12_meanings_18 : decode cX12_meanings 18 = .ok (.ifCond .ne 7, 3) := by decide +kernel
theorem dX12_meanings_21 : decode cX12_meanings 21 = .ok (.sipush (-1001), 3) := by decide +kernel
theorem dX12_meanings_24 : decode cX12_meanings 24 = .ok (.ireturn, 1) := by decide +kernel
theorem dX12_meanings_25 : decode cX12_meanings 25 = .ok (.iload_n 1, 1) := by decide +kernel
theorem dX12_meanings_26 : decode cX12_meanings 26 = .ok (.iload_n 3, 1) := by decide +kernel
theorem dX12_meanings_27 : decode cX12_meanings 27 = .ok (.if_icmp .ne 7, 3) := by decide +kernel
theorem dX12_meanings_30 : decode cX12_meanings 30 = .ok (.sipush (-1002), 3) := by decide +kernel
theorem dX12_meanings_33 : decode cX12_meanings 33 = .ok (.ireturn, 1) := by decide +kernel
theorem dX12_meanings_34 : decode cX12_meanings 34 = .ok (.aload_n 0, 1) := by decide +kernel
theorem dX12_meanings_35 : decode cX12_meanings 35 = .ok (.iload_n 1, 1) := by decide +kernel
theorem dX12_meanings_36 : decode cX12_meanings 36 = .ok (.iload_n 2, 1) := by decide +kernel
theorem dX12_meanings_37 : decode cX12_meanings 37 = .ok (.iload_n 3, 1) := by decide +kernel
theorem dX12_meanings_38 : decode cX12_meanings 38 = .ok (.invokevirtual 191, 3) := by decide +kernel
theorem dX12_meanings_41 : decode cX12_meanings 41 = .ok (.lstore 4, 2) := by decide +kernel
theorem dX12_meanings_43 : decode cX12_meanings 43 = .ok (.aload_n 0, 1) := by decide +kernel
theorem dX12_meanings_44 : decode cX12_meanings 44 = .ok (.iload_n 1, 1) := by decide +kernel
theorem dX12_meanings_45 : decode cX12_meanings 45 = .ok (.iload_n 2, 1) := by decide +kernel
theorem dX12_meanings_46 : decode cX12_meanings 46 = .ok (.iload_n 3, 1) := by decide +kernel
theorem dX12_meanings_47 : decode cX12_meanings 47 = .ok (.invokevirtual 174, 3) := by decide +kernel
theorem dX12_meanings_50 : decode cX12_meanings 50 = .ok (.istore 6, 2) := by decide +kernel
theorem dX12_meanings_52 : decode cX12_meanings 52 = .ok (.iconst 0, 1) := by decide +kernel
theorem dX12_meanings_53 : decode cX12_meanings 53 = .ok (.istore 7, 2) := by decide +kernel
theorem dX12_meanings_55 : decode cX12_meanings 55 = .ok (.iload 7, 2) := by decide +kernel
theorem dX12_meanings_57 : decode cX12_meanings 57 = .ok (.bipush 60, 2) := by decide +kernel
theorem dX12_meanings_59 : decode cX12_meanings 59 = .ok (.if_icmp .ge 198, 3) := by decide +kernel
theorem dX12_meanings_62 : decode cX12_meanings 62 = .ok (.aload_n 0, 1) := by decide +kernel
theorem dX12_meanings_63 : decode cX12_meanings 63 = .ok (.getfield 52, 3) := by decide +kernel
theorem dX12_meanings_66 : decode cX12_meanings 66 = .ok (.iload 7, 2) := by decide +kernel
theorem dX12_meanings_68 : decode cX12_meanings 68 = .ok (.lconst 1, 1) := by decide +kernel
theorem dX12_meanings_69 : decode cX12_meanings 69 = .ok (.iload 7, 2) := by decide +kernel
theorem dX12_meanings_71 : decode cX12_meanings 71 = .ok (.lshl, 1) := by decide +kernel
theorem dX12_meanings_72 : decode cX12_meanings 72 = .ok (.lastore, 1) := by decide +kernel
theorem dX12_meanings_73 : decode cX12_meanings 73 = .ok (.lload 4, 2) := by decide +kernel
theorem dX12_meanings_75 : decode cX12_meanings 75 = .ok (.iload 7, 2) := by decide +kernel
theorem dX12_meanings_77 : decode cX12_meanings 77 = .ok (.lshr, 1) := by decide +kernel
theorem dX12_meanings_78 : decode cX12_meanings 78 = .ok (.lconst 1, 1) := by decide +kernel
theorem dX12_meanings_79 : decode cX12_meanings 79 = .ok (.land, 1) := by decide +kernel
theorem dX12_meanings_80 : decode cX12_meanings 80 = .ok (.lconst 1, 1) := by decide +kernel
theorem dX12_meanings_81 : decode cX12_meanings 81 = .ok (.lcmp, 1) := by decide +kernel
theorem dX12_meanings_82 : decode cX12_meanings 82 = .ok (.ifCond .ne 22, 3) := by decide +kernel
theorem dX12_meanings_85 : decode cX12_meanings 85 = .ok (.aload_n 0, 1) := by decide +kernel
theorem dX12_meanings_86 : decode cX12_meanings 86 = .ok (.iload_n 3, 1) := by decide +kernel
theorem dX12_meanings_87 : decode cX12_meanings 87 = .ok (.iload 7, 2) := by decide +kernel
theorem dX12_meanings_89 : decode cX12_meanings 89 = .ok (.iload_n 1, 1) := by decide +kernel
theorem dX12_meanings_90 : decode cX12_meanings 90 = .ok (.invokevirtual 191, 3) := by decide +kernel
theorem dX12_meanings_93 : decode cX12_meanings 93 = .ok (.lconst 1, 1) := by decide +kernel
theorem dX12_meanings_94 : decode cX12_meanings 94 = .ok (.iload_n 2, 1) := by decide +kernel
theorem dX12_meanings_95 : decode cX12_meanings 95 = .ok (.lshl, 1) := by decide +kernel
theorem dX12_meanings_96 : decode cX12_meanings 96 = .ok (.ldc2_w 206, 3) := by decide +kernel
theorem dX12_meanings_99 : decode cX12_meanings 99 = .ok (.lxor, 1) := by decide +kernel
theorem dX12_meanings_100 : decode cX12_meanings 100 = .ok (.land, 1) := by decide +kernel
theorem dX12_meanings_101 : decode cX12_meanings 101 = .ok (.goto 4, 3) := by decide +kernel
theorem dX12_meanings_104 : decode cX12_meanings 104 = .ok (.lconst 0, 1) := by decide +kernel
theorem dX12_meanings_105 : decode cX12_meanings 105 = .ok (.lstore 8, 2) := by decide +kernel
theorem dX12_meanings_107 : decode cX12_meanings 107 = .ok (.iconst 0, 1) := by decide +kernel
theorem dX12_meanings_108 : decode cX12_meanings 108 = .ok (.istore 10, 2) := by decide +kernel
theorem dX12_meanings_110 : decode cX12_meanings 110 = .ok (.iload 10, 2) := by decide +kernel
theorem dX12_meanings_112 : decode cX12_meanings 112 = .ok (.bipush 60, 2) := by decide +kernel
theorem dX12_meanings_114 : decode cX12_meanings 114 = .ok (.if_icmp .ge 67, 3) := by decide +kernel
theorem dX12_meanings_117 : decode cX12_meanings 117 = .ok (.lload 4, 2) := by decide +kernel
theorem dX12_meanings_119 : decode cX12_meanings 119 = .ok (.iload 10, 2) := by decide +kernel
theorem dX12_meanings_121 : decode cX12_meanings 121 = .ok (.lshr, 1) := by decide +kernel
theorem dX12_meanings_122 : decode cX12_meanings 122 = .ok (.lconst 1, 1) := by decide +kernel
theorem dX12_meanings_123 : decode cX12_meanings 123 = .ok (.land, 1) := by decide +kernel
theorem dX12_meanings_124 : decode cX12_meanings 124 = .ok (.lconst 1, 1) := by decide +kernel
theorem dX12_meanings_125 : decode cX12_meanings 125 = .ok (.lcmp, 1) := by decide +kernel
theorem dX12_meanings_126 : decode cX12_meanings 126 = .ok (.ifCond .ne 23, 3) := by decide +kernel
theorem dX12_meanings_129 : decode cX12_meanings 129 = .ok (.lload 8, 2) := by decide +kernel
theorem dX12_meanings_131 : decode cX12_meanings 131 = .ok (.aload_n 0, 1) := by decide +kernel
theorem dX12_meanings_132 : decode cX12_meanings 132 = .ok (.iload_n 3, 1) := by decide +kernel
theorem dX12_meanings_133 : decode cX12_meanings 133 = .ok (.iload 10, 2) := by decide +kernel
theorem dX12_meanings_135 : decode cX12_meanings 135 = .ok (.iload_n 1, 1) := by decide +kernel
theorem dX12_meanings_136 : decode cX12_meanings 136 = .ok (.invokevirtual 191, 3) := by decide +kernel
theorem dX12_meanings_139 : decode cX12_meanings 139 = .ok (.land, 1) := by decide +kernel
theorem dX12_meanings_140 : decode cX12_meanings 140 = .ok (.lconst 0, 1) := by decide +kernel
theorem dX12_meanings_141 : decode cX12_meanings 141 = .ok (.lcmp, 1) := by decide +kernel
theorem dX12_meanings_142 : decode cX12_meanings 142 = .ok (.ifCond .eq 7, 3) := by decide +kernel
theorem dX12_meanings_145 : decode cX12_meanings 145 = .ok (.iconst 1, 1) := by decide +kernel
theorem dX12_meanings_146 : decode cX12_meanings 146 = .ok (.goto 4, 3) := by decide +kernel
theorem dX12_meanings_149 : decode cX12_meanings 149 = .ok (.iconst 0, 1) := by decide +kernel
theorem dX12_meanings_150 : decode cX12_meanings 150 = .ok (.istore 11, 2) := by decide +kernel
theorem dX12_meanings_152 : decode cX12_meanings 152 = .ok (.aload_n 0, 1) := by decide +kernel
theorem dX12_meanings_153 : decode cX12_meanings 153 = .ok (.getfield 52, 3) := by decide +kernel
theorem dX12_meanings_156 : decode cX12_meanings 156 = .ok (.iload 7, 2) := by decide +kernel
theorem dX12_meanings_158 : decode cX12_meanings 158 = .ok (.dup2, 1) := by decide +kernel
theorem dX12_meanings_159 : decode cX12_meanings 159 = .ok (.laload, 1) := by decide +kernel
theorem dX12_meanings_160 : decode cX12_meanings 160 = .ok (.iload 11, 2) := by decide +kernel
theorem dX12_meanings_162 : decode cX12_meanings 162 = .ok (.ifCond .eq 10, 3) := by decide +kernel
theorem dX12_meanings_165 : decode cX12_meanings 165 = .ok (.lconst 1, 1) := by decide +kernel
theorem dX12_meanings_166 : decode cX12_meanings 166 = .ok (.iload 10, 2) := by decide +kernel
theorem dX12_meanings_168 : decode cX12_meanings 168 = .ok (.lshl, 1) := by decide +kernel
theorem dX12_meanings_169 : decode cX12_meanings 169 = .ok (.goto 4, 3) := by decide +kernel
theorem dX12_meanings_172 : decode cX12_meanings 172 = .ok (.lconst 0, 1) := by decide +kernel
theorem dX12_meanings_173 : decode cX12_meanings 173 = .ok (.lor, 1) := by decide +kernel
theorem dX12_meanings_174 : decode cX12_meanings 174 = .ok (.lastore, 1) := by decide +kernel
theorem dX12_meanings_175 : decode cX12_meanings 175 = .ok (.iinc 10 1, 3) := by decide +kernel
theorem dX12_meanings_178 : decode cX12_meanings 178 = .ok (.goto (-68), 3) := by decide +kernel
theorem dX12_meanings_181 : decode cX12_meanings 181 = .ok (.iconst 3, 1) := by decide +kernel
theorem dX12_meanings_182 : decode cX12_meanings 182 = .ok (.iload 6, 2) := by decide +kernel
theorem dX12_meanings_184 : decode cX12_meanings 184 = .ok (.imul, 1) := by decide +kernel
theorem dX12_meanings_185 : decode cX12_meanings 185 = .ok (.istore 10, 2) := by decide +kernel
theorem dX12_meanings_187 : decode cX12_meanings 187 = .ok (.iload 6, 2) := by decide +kernel
theorem dX12_meanings_189 : decode cX12_meanings 189 = .ok (.ifCond .lt 62, 3) := by decide +kernel
theorem dX12_meanings_192 : decode cX12_meanings 192 = .ok (.iload 10, 2) := by decide +kernel
theorem dX12_meanings_194 : decode cX12_meanings 194 = .ok (.iconst 3, 1) := by decide +kernel
theorem dX12_meanings_195 : decode cX12_meanings 195 = .ok (.iload 6, 2) := by decide +kernel
theorem dX12_meanings_197 : decode cX12_meanings 197 = .ok (.imul, 1) := by decide +kernel
theorem dX12_meanings_198 : decode cX12_meanings 198 = .ok (.aload_n 0, 1) := by decide +kernel
theorem dX12_meanings_199 : decode cX12_meanings 199 = .ok (.getfield 19, 3) := by decide +kernel
theorem dX12_meanings_202 : decode cX12_meanings 202 = .ok (.iload 6, 2) := by decide +kernel
theorem dX12_meanings_204 : decode cX12_meanings 204 = .ok (.iaload, 1) := by decide +kernel
theorem dX12_meanings_205 : decode cX12_meanings 205 = .ok (.iadd, 1) := by decide +kernel
theorem dX12_meanings_206 : decode cX12_meanings 206 = .ok (.if_icmp .ge 45, 3) := by decide +kernel
theorem dX12_meanings_209 : decode cX12_meanings 209 = .ok (.aload_n 0, 1) := by decide +kernel
theorem dX12_meanings_210 : decode cX12_meanings 210 = .ok (.getfield 52, 3) := by decide +kernel
theorem dX12_meanings_213 : decode cX12_meanings 213 = .ok (.iload 7, 2) := by decide +kernel
theorem dX12_meanings_215 : decode cX12_meanings 215 = .ok (.dup2, 1) := by decide +kernel
theorem dX12_meanings_216 : decode cX12_meanings 216 = .ok (.laload, 1) := by decide +kernel
theorem dX12_meanings_217 : decode cX12_meanings 217 = .ok (.aload_n 0, 1) := by decide +kernel
theorem dX12_meanings_218 : decode cX12_meanings 218 = .ok (.iload 10, 2) := by decide +kernel
theorem dX12_meanings_220 : decode cX12_meanings 220 = .ok (.invokevirtual 178, 3) := by decide +kernel
theorem dX12_meanings_223 : decode cX12_meanings 223 = .ok (.iload 7, 2) := by decide +kernel
theorem dX12_meanings_225 : decode cX12_meanings 225 = .ok (.lshr, 1) := by decide +kernel
theorem dX12_meanings_226 : decode cX12_meanings 226 = .ok (.lconst 1, 1) := by decide +kernel
theorem dX12_meanings_227 : decode cX12_meanings 227 = .ok (.land, 1) := by decide +kernel
theorem dX12_meanings_228 : decode cX12_meanings 228 = .ok (.lconst 1, 1) := by decide +kernel
theorem dX12_meanings_229 : decode cX12_meanings 229 = .ok (.lcmp, 1) := by decide +kernel
theorem dX12_meanings_230 : decode cX12_meanings 230 = .ok (.ifCond .ne 12, 3) := by decide +kernel
theorem dX12_meanings_233 : decode cX12_meanings 233 = .ok (.aload_n 0, 1) := by decide +kernel
theorem dX12_meanings_234 : decode cX12_meanings 234 = .ok (.iload 10, 2) := by decide +kernel
theorem dX12_meanings_236 : decode cX12_meanings 236 = .ok (.invokevirtual 178, 3) := by decide +kernel
theorem dX12_meanings_239 : decode cX12_meanings 239 = .ok (.goto 4, 3) := by decide +kernel
theorem dX12_meanings_242 : decode cX12_meanings 242 = .ok (.lconst 0, 1) := by decide +kernel
theorem dX12_meanings_243 : decode cX12_meanings 243 = .ok (.lor, 1) := by decide +kernel
theorem dX12_meanings_244 : decode cX12_meanings 244 = .ok (.lastore, 1) := by decide +kernel
theorem dX12_meanings_245 : decode cX12_meanings 245 = .ok (.iinc 10 1, 3) := by decide +kernel
theorem dX12_meanings_248 : decode cX12_meanings 248 = .ok (.goto (-61), 3) := by decide +kernel
theorem dX12_meanings_251 : decode cX12_meanings 251 = .ok (.iinc 7 1, 3) := by decide +kernel
theorem dX12_meanings_254 : decode cX12_meanings 254 = .ok (.goto (-199), 3) := by decide +kernel
theorem dX12_meanings_257 : decode cX12_meanings 257 = .ok (.lload 4, 2) := by decide +kernel
theorem dX12_meanings_259 : decode cX12_meanings 259 = .ok (.lstore 7, 2) := by decide +kernel
theorem dX12_meanings_261 : decode cX12_meanings 261 = .ok (.iconst 0, 1) := by decide +kernel
theorem dX12_meanings_262 : decode cX12_meanings 262 = .ok (.istore 9, 2) := by decide +kernel
theorem dX12_meanings_264 : decode cX12_meanings 264 = .ok (.lload 7, 2) := by decide +kernel
theorem dX12_meanings_266 : decode cX12_meanings 266 = .ok (.lconst 0, 1) := by decide +kernel
theorem dX12_meanings_267 : decode cX12_meanings 267 = .ok (.lcmp, 1) := by decide +kernel
theorem dX12_meanings_268 : decode cX12_meanings 268 = .ok (.ifCond .eq 90, 3) := by decide +kernel
theorem dX12_meanings_271 : decode cX12_meanings 271 = .ok (.lload 7, 2) := by decide +kernel
theorem dX12_meanings_273 : decode cX12_meanings 273 = .ok (.lload 7, 2) := by decide +kernel
theorem dX12_meanings_275 : decode cX12_meanings 275 = .ok (.lneg, 1) := by decide +kernel
theorem dX12_meanings_276 : decode cX12_meanings 276 = .ok (.land, 1) := by decide +kernel
theorem dX12_meanings_277 : decode cX12_meanings 277 = .ok (.lstore 10, 2) := by decide +kernel
theorem dX12_meanings_279 : decode cX12_meanings 279 = .ok (.lconst 0, 1) := by decide +kernel
theorem dX12_meanings_280 : decode cX12_meanings 280 = .ok (.lstore 12, 2) := by decide +kernel
theorem dX12_meanings_282 : decode cX12_meanings 282 = .ok (.lload 10, 2) := by decide +kernel
theorem dX12_meanings_284 : decode cX12_meanings 284 = .ok (.lload 12, 2) := by decide +kernel
theorem dX12_meanings_286 : decode cX12_meanings 286 = .ok (.lcmp, 1) := by decide +kernel
theorem dX12_meanings_287 : decode cX12_meanings 287 = .ok (.ifCond .eq 54, 3) := by decide +kernel
theorem dX12_meanings_290 : decode cX12_meanings 290 = .ok (.lload 10, 2) := by decide +kernel
theorem dX12_meanings_292 : decode cX12_meanings 292 = .ok (.lstore 12, 2) := by decide +kernel
theorem dX12_meanings_294 : decode cX12_meanings 294 = .ok (.iconst 0, 1) := by decide +kernel
theorem dX12_meanings_295 : decode cX12_meanings 295 = .ok (.istore 14, 2) := by decide +kernel
theorem dX12_meanings_297 : decode cX12_meanings 297 = .ok (.iload 14, 2) := by decide +kernel
theorem dX12_meanings_299 : decode cX12_meanings 299 = .ok (.bipush 60, 2) := by decide +kernel
theorem dX12_meanings_301 : decode cX12_meanings 301 = .ok (.if_icmp .ge 37, 3) := by decide +kernel
theorem dX12_meanings_304 : decode cX12_meanings 304 = .ok (.lload 10, 2) := by decide +kernel
theorem dX12_meanings_306 : decode cX12_meanings 306 = .ok (.lload 12, 2) := by decide +kernel
theorem dX12_meanings_308 : decode cX12_meanings 308 = .ok (.iload 14, 2) := by decide +kernel
theorem dX12_meanings_310 : decode cX12_meanings 310 = .ok (.lshr, 1) := by decide +kernel
theorem dX12_meanings_311 : decode cX12_meanings 311 = .ok (.lconst 1, 1) := by decide +kernel
theorem dX12_meanings_312 : decode cX12_meanings 312 = .ok (.land, 1) := by decide +kernel
theorem dX12_meanings_313 : decode cX12_meanings 313 = .ok (.lconst 1, 1) := by decide +kernel
theorem dX12_meanings_314 : decode cX12_meanings 314 = .ok (.lcmp, 1) := by decide +kernel
theorem dX12_meanings_315 : decode cX12_meanings 315 = .ok (.ifCond .ne 13, 3) := by decide +kernel
theorem dX12_meanings_318 : decode cX12_meanings 318 = .ok (.aload_n 0, 1) := by decide +kernel
theorem dX12_meanings_319 : decode cX12_meanings 319 = .ok (.getfield 52, 3) := by decide +kernel
theorem dX12_meanings_322 : decode cX12_meanings 322 = .ok (.iload 14, 2) := by decide +kernel
theorem dX12_meanings_324 : decode cX12_meanings 324 = .ok (.laload, 1) := by decide +kernel
theorem dX12_meanings_325 : decode cX12_meanings 325 = .ok (.goto 4, 3) := by decide +kernel
theorem dX12_meanings_328 : decode cX12_meanings 328 = .ok (.lconst 0, 1) := by decide +kernel
theorem dX12_meanings_329 : decode cX12_meanings 329 = .ok (.lor, 1) := by decide +kernel
theorem dX12_meanings_330 : decode cX12_meanings 330 = .ok (.lstore 10, 2) := by decide +kernel
theorem dX12_meanings_332 : decode cX12_meanings 332 = .ok (.iinc 14 1, 3) := by decide +kernel
theorem dX12_meanings_335 : decode cX12_meanings 335 = .ok (.goto (-38), 3) := by decide +kernel
theorem dX12_meanings_338 : decode cX12_meanings 338 = .ok (.goto (-56), 3) := by decide +kernel
theorem dX12_meanings_341 : decode cX12_meanings 341 = .ok (.lload 7, 2) := by decide +kernel
theorem dX12_meanings_343 : decode cX12_meanings 343 = .ok (.lload 10, 2) := by decide +kernel
theorem dX12_meanings_345 : decode cX12_meanings 345 = .ok (.ldc2_w 206, 3) := by decide +kernel
theorem dX12_meanings_348 : decode cX12_meanings 348 = .ok (.lxor, 1) := by decide +kernel
theorem dX12_meanings_349 : decode cX12_meanings 349 = .ok (.land, 1) := by decide +kernel
theorem dX12_meanings_350 : decode cX12_meanings 350 = .ok (.lstore 7, 2) := by decide +kernel
theorem dX12_meanings_352 : decode cX12_meanings 352 = .ok (.iinc 9 1, 3) := by decide +kernel
theorem dX12_meanings_355 : decode cX12_meanings 355 = .ok (.goto (-91), 3) := by decide +kernel
theorem dX12_meanings_358 : decode cX12_meanings 358 = .ok (.iload 9, 2) := by decide +kernel
theorem dX12_meanings_360 : decode cX12_meanings 360 = .ok (.ireturn, 1) := by decide +kernel
theorem dX12_lopsided_0 : decode cX12_lopsided 0 = .ok (.iload_n 1, 1) := by decide +kernel
theorem dX12_lopsided_1 : decode cX12_lopsided 1 = .ok (.invokestatic 147, 3) := by decide +kernel
theorem dX12_lopsided_4 : decode cX12_lopsided 4 = .ok (.ifCond .eq 10, 3) := by decide +kernel
theorem dX12_lopsided_7 : decode cX12_lopsided 7 = .ok (.iload_n 2, 1) := by decide +kernel
theorem dX12_lopsided_8 : decode cX12_lopsided 8 = .ok (.invokestatic 147, 3) := by decide +kernel
theorem dX12_lopsided_11 : decode cX12_lopsided 11 = .ok (.ifCond .ne 7, 3) := by decide +kernel
theorem dX12_lopsided_14 : decode cX12_lopsided 14 = .ok (.sipush (-1001), 3) := by decide +kernel
theorem dX12_lopsided_17 : decode cX12_lopsided 17 = .ok (.ireturn, 1) := by decide +kernel
theorem dX12_lopsided_18 : decode cX12_lopsided 18 = .ok (.iload_n 1, 1) := by decide +kernel
theorem dX12_lopsided_19 : decode cX12_lopsided 19 = .ok (.iload_n 2, 1) := by decide +kernel
theorem dX12_lopsided_20 : decode cX12_lopsided 20 = .ok (.if_icmp .ne 7, 3) := by decide +kernel
theorem dX12_lopsided_23 : decode cX12_lopsided 23 = .ok (.sipush (-1002), 3) := by decide +kernel
theorem dX12_lopsided_26 : decode cX12_lopsided 26 = .ok (.ireturn, 1) := by decide +kernel
theorem dX12_lopsided_27 : decode cX12_lopsided 27 = .ok (.iconst 0, 1) := by decide +kernel
theorem dX12_lopsided_28 : decode cX12_lopsided 28 = .ok (.istore_n 3, 1) := by decide +kernel
theorem dX12_lopsided_29 : decode cX12_lopsided 29 = .ok (.iconst 0, 1) := by decide +kernel
theorem dX12_lopsided_30 : decode cX12_lopsided 30 = .ok (.istore 4, 2) := by decide +kernel
theorem dX12_lopsided_32 : decode cX12_lopsided 32 = .ok (.iload 4, 2) := by decide +kernel
theorem dX12_lopsided_34 : decode cX12_lopsided 34 = .ok (.bipush 60, 2) := by decide +kernel
theorem dX12_lopsided_36 : decode cX12_lopsided 36 = .ok (.if_icmp .ge 96, 3) := by decide +kernel
theorem dX12_lopsided_39 : decode cX12_lopsided 39 = .ok (.aload_n 0, 1) := by decide +kernel
theorem dX12_lopsided_40 : decode cX12_lopsided 40 = .ok (.iload_n 1, 1) := by decide +kernel
theorem dX12_lopsided_41 : decode cX12_lopsided 41 = .ok (.iload 4, 2) := by decide +kernel
theorem dX12_lopsided_43 : decode cX12_lopsided 43 = .ok (.iload_n 2, 1) := by decide +kernel
theorem dX12_lopsided_44 : decode cX12_lopsided 44 = .ok (.invokevirtual 191, 3) := by decide +kernel
theorem dX12_lopsided_47 : decode cX12_lopsided 47 = .ok (.lstore 5, 2) := by decide +kernel
theorem dX12_lopsided_49 : decode cX12_lopsided 49 = .ok (.iconst 0, 1) := by decide +kernel
theorem dX12_lopsided_50 : decode cX12_lopsided 50 = .ok (.istore 7, 2) := by decide +kernel
theorem dX12_lopsided_52 : decode cX12_lopsided 52 = .ok (.iload 7, 2) := by decide +kernel
theorem dX12_lopsided_54 : decode cX12_lopsided 54 = .ok (.bipush 60, 2) := by decide +kernel
theorem dX12_lopsided_56 : decode cX12_lopsided 56 = .ok (.if_icmp .ge 70, 3) := by decide +kernel
theorem dX12_lopsided_59 : decode cX12_lopsided 59 = .ok (.lload 5, 2) := by decide +kernel
theorem dX12_lopsided_61 : decode cX12_lopsided 61 = .ok (.iload 7, 2) := by decide +kernel
theorem dX12_lopsided_63 : decode cX12_lopsided 63 = .ok (.lshr, 1) := by decide +kernel
theorem dX12_lopsided_64 : decode cX12_lopsided 64 = .ok (.lconst 1, 1) := by decide +kernel
theorem dX12_lopsided_65 : decode cX12_lopsided 65 = .ok (.land, 1) := by decide +kernel
theorem dX12_lopsided_66 : decode cX12_lopsided 66 = .ok (.lconst 1, 1) := by decide +kernel
theorem dX12_lopsided_67 : decode cX12_lopsided 67 = .ok (.lcmp, 1) := by decide +kernel
theorem dX12_lopsided_68 : decode cX12_lopsided 68 = .ok (.ifCond .ne 18, 3) := by decide +kernel
theorem dX12_lopsided_71 : decode cX12_lopsided 71 = .ok (.aload_n 0, 1) := by decide +kernel
theorem dX12_lopsided_72 : decode cX12_lopsided 72 = .ok (.iload_n 2, 1) := by decide +kernel
theorem dX12_lopsided_73 : decode cX12_lopsided 73 = .ok (.iload 7, 2) := by decide +kernel
theorem dX12_lopsided_75 : decode cX12_lopsided 75 = .ok (.iload_n 1, 1) := by decide +kernel
theorem dX12_lopsided_76 : decode cX12_lopsided 76 = .ok (.invokevirtual 174, 3) := by decide +kernel
theorem dX12_lopsided_79 : decode cX12_lopsided 79 = .ok (.ifCond .lt 7, 3) := by decide +kernel
theorem dX12_lopsided_82 : decode cX12_lopsided 82 = .ok (.iconst 1, 1) := by decide +kernel
theorem dX12_lopsided_83 : decode cX12_lopsided 83 = .ok (.goto 4, 3) := by decide +kernel
theorem dX12_lopsided_86 : decode cX12_lopsided 86 = .ok (.iconst 0, 1) := by decide +kernel
theorem dX12_lopsided_87 : decode cX12_lopsided 87 = .ok (.istore 8, 2) := by decide +kernel
theorem dX12_lopsided_89 : decode cX12_lopsided 89 = .ok (.iload_n 3, 1) := by decide +kernel
theorem dX12_lopsided_90 : decode cX12_lopsided 90 = .ok (.iload 8, 2) := by decide +kernel
theorem dX12_lopsided_92 : decode cX12_lopsided 92 = .ok (.ifCond .eq 25, 3) := by decide +kernel
theorem dX12_lopsided_95 : decode cX12_lopsided 95 = .ok (.aload_n 0, 1) := by decide +kernel
theorem dX12_lopsided_96 : decode cX12_lopsided 96 = .ok (.iload_n 2, 1) := by decide +kernel
theorem dX12_lopsided_97 : decode cX12_lopsided 97 = .ok (.iload 7, 2) := by decide +kernel
theorem dX12_lopsided_99 : decode cX12_lopsided 99 = .ok (.iload_n 1, 1) := by decide +kernel
theorem dX12_lopsided_100 : decode cX12_lopsided 100 = .ok (.invokevirtual 191, 3) := by decide +kernel
theorem dX12_lopsided_103 : decode cX12_lopsided 103 = .ok (.iload 4, 2) := by decide +kernel
theorem dX12_lopsided_105 : decode cX12_lopsided 105 = .ok (.lshr, 1) := by decide +kernel
theorem dX12_lopsided_106 : decode cX12_lopsided 106 = .ok (.lconst 1, 1) := by decide +kernel
theorem dX12_lopsided_107 : decode cX12_lopsided 107 = .ok (.land, 1) := by decide +kernel
theorem dX12_lopsided_108 : decode cX12_lopsided 108 = .ok (.lconst 0, 1) := by decide +kernel
theorem dX12_lopsided_109 : decode cX12_lopsided 109 = .ok (.lcmp, 1) := by decide +kernel
theorem dX12_lopsided_110 : decode cX12_lopsided 110 = .ok (.ifCond .ne 7, 3) := by decide +kernel
theorem dX12_lopsided_113 : decode cX12_lopsided 113 = .ok (.iconst 1, 1) := by decide +kernel
theorem dX12_lopsided_114 : decode cX12_lopsided 114 = .ok (.goto 4, 3) := by decide +kernel
theorem dX12_lopsided_117 : decode cX12_lopsided 117 = .ok (.iconst 0, 1) := by decide +kernel
theorem dX12_lopsided_118 : decode cX12_lopsided 118 = .ok (.iadd, 1) := by decide +kernel
theorem dX12_lopsided_119 : decode cX12_lopsided 119 = .ok (.istore_n 3, 1) := by decide +kernel
theorem dX12_lopsided_120 : decode cX12_lopsided 120 = .ok (.iinc 7 1, 3) := by decide +kernel
theorem dX12_lopsided_123 : decode cX12_lopsided 123 = .ok (.goto (-71), 3) := by decide +kernel
theorem dX12_lopsided_126 : decode cX12_lopsided 126 = .ok (.iinc 4 1, 3) := by decide +kernel
theorem dX12_lopsided_129 : decode cX12_lopsided 129 = .ok (.goto (-97), 3) := by decide +kernel
theorem dX12_lopsided_132 : decode cX12_lopsided 132 = .ok (.iload_n 3, 1) := by decide +kernel
theorem dX12_lopsided_133 : decode cX12_lopsided 133 = .ok (.ireturn, 1) := by decide +kernel
theorem dX12_weightOf_0 : decode cX12_weightOf 0 = .ok (.aload_n 0, 1) := by decide +kernel
theorem dX12_weightOf_1 : decode cX12_weightOf 1 = .ok (.iload_n 1, 1) := by decide +kernel
theorem dX12_weightOf_2 : decode cX12_weightOf 2 = .ok (.iload_n 2, 1) := by decide +kernel
theorem dX12_weightOf_3 : decode cX12_weightOf 3 = .ok (.iload_n 3, 1) := by decide +kernel
theorem dX12_weightOf_4 : decode cX12_weightOf 4 = .ok (.invokevirtual 174, 3) := by decide +kernel
theorem dX12_weightOf_7 : decode cX12_weightOf 7 = .ok (.istore 6, 2) := by decide +kernel
theorem dX12_weightOf_9 : decode cX12_weightOf 9 = .ok (.iconst 0, 1) := by decide +kernel
theorem dX12_weightOf_10 : decode cX12_weightOf 10 = .ok (.istore 7, 2) := by decide +kernel
theorem dX12_weightOf_12 : decode cX12_weightOf 12 = .ok (.iconst 3, 1) := by decide +kernel
theorem dX12_weightOf_13 : decode cX12_weightOf 13 = .ok (.iload 6, 2) := by decide +kernel
theorem dX12_weightOf_15 : decode cX12_weightOf 15 = .ok (.imul, 1) := by decide +kernel
theorem dX12_weightOf_16 : decode cX12_weightOf 16 = .ok (.istore 8, 2) := by decide +kernel
theorem dX12_weightOf_18 : decode cX12_weightOf 18 = .ok (.iload 6, 2) := by decide +kernel
theorem dX12_weightOf_20 : decode cX12_weightOf 20 = .ok (.ifCond .lt 186, 3) := by decide +kernel
theorem dX12_weightOf_23 : decode cX12_weightOf 23 = .ok (.iload 8, 2) := by decide +kernel
theorem dX12_weightOf_25 : decode cX12_weightOf 25 = .ok (.iconst 3, 1) := by decide +kernel
theorem dX12_weightOf_26 : decode cX12_weightOf 26 = .ok (.iload 6, 2) := by decide +kernel
theorem dX12_weightOf_28 : decode cX12_weightOf 28 = .ok (.imul, 1) := by decide +kernel
theorem dX12_weightOf_29 : decode cX12_weightOf 29 = .ok (.aload_n 0, 1) := by decide +kernel
theorem dX12_weightOf_30 : decode cX12_weightOf 30 = .ok (.getfield 19, 3) := by decide +kernel
theorem dX12_weightOf_33 : decode cX12_weightOf 33 = .ok (.iload 6, 2) := by decide +kernel
theorem dX12_weightOf_35 : decode cX12_weightOf 35 = .ok (.iaload, 1) := by decide +kernel
theorem dX12_weightOf_36 : decode cX12_weightOf 36 = .ok (.iadd, 1) := by decide +kernel
theorem dX12_weightOf_37 : decode cX12_weightOf 37 = .ok (.if_icmp .ge 169, 3) := by decide +kernel
theorem dX12_weightOf_40 : decode cX12_weightOf 40 = .ok (.aload_n 0, 1) := by decide +kernel
theorem dX12_weightOf_41 : decode cX12_weightOf 41 = .ok (.iload 8, 2) := by decide +kernel
theorem dX12_weightOf_43 : decode cX12_weightOf 43 = .ok (.invokevirtual 178, 3) := by decide +kernel
theorem dX12_weightOf_46 : decode cX12_weightOf 46 = .ok (.lstore 9, 2) := by decide +kernel
theorem dX12_weightOf_48 : decode cX12_weightOf 48 = .ok (.iconst 0, 1) := by decide +kernel
theorem dX12_weightOf_49 : decode cX12_weightOf 49 = .ok (.istore 11, 2) := by decide +kernel
theorem dX12_weightOf_51 : decode cX12_weightOf 51 = .ok (.iload 11, 2) := by decide +kernel
theorem dX12_weightOf_53 : decode cX12_weightOf 53 = .ok (.bipush 60, 2) := by decide +kernel
theorem dX12_weightOf_55 : decode cX12_weightOf 55 = .ok (.if_icmp .ge 145, 3) := by decide +kernel
theorem dX12_weightOf_58 : decode cX12_weightOf 58 = .ok (.lload 9, 2) := by decide +kernel
theorem dX12_weightOf_60 : decode cX12_weightOf 60 = .ok (.iload 11, 2) := by decide +kernel
theorem dX12_weightOf_62 : decode cX12_weightOf 62 = .ok (.lshr, 1) := by decide +kernel
theorem dX12_weightOf_63 : decode cX12_weightOf 63 = .ok (.lconst 1, 1) := by decide +kernel
theorem dX12_weightOf_64 : decode cX12_weightOf 64 = .ok (.land, 1) := by decide +kernel
theorem dX12_weightOf_65 : decode cX12_weightOf 65 = .ok (.lconst 1, 1) := by decide +kernel
theorem dX12_weightOf_66 : decode cX12_weightOf 66 = .ok (.lcmp, 1) := by decide +kernel
theorem dX12_weightOf_67 : decode cX12_weightOf 67 = .ok (.ifCond .ne 15, 3) := by decide +kernel
theorem dX12_weightOf_70 : decode cX12_weightOf 70 = .ok (.aload_n 0, 1) := by decide +kernel
theorem dX12_weightOf_71 : decode cX12_weightOf 71 = .ok (.iload_n 3, 1) := by decide +kernel
theorem dX12_weightOf_72 : decode cX12_weightOf 72 = .ok (.iload 11, 2) := by decide +kernel
theorem dX12_weightOf_74 : decode cX12_weightOf 74 = .ok (.iload 4, 2) := by decide +kernel
theorem dX12_weightOf_76 : decode cX12_weightOf 76 = .ok (.invokevirtual 174, 3) := by decide +kernel
theorem dX12_weightOf_79 : decode cX12_weightOf 79 = .ok (.goto 4, 3) := by decide +kernel
theorem dX12_weightOf_82 : decode cX12_weightOf 82 = .ok (.iconst (-1), 1) := by decide +kernel
theorem dX12_weightOf_83 : decode cX12_weightOf 83 = .ok (.istore 12, 2) := by decide +kernel
theorem dX12_weightOf_85 : decode cX12_weightOf 85 = .ok (.iconst 3, 1) := by decide +kernel
theorem dX12_weightOf_86 : decode cX12_weightOf 86 = .ok (.iload 12, 2) := by decide +kernel
theorem dX12_weightOf_88 : decode cX12_weightOf 88 = .ok (.imul, 1) := by decide +kernel
theorem dX12_weightOf_89 : decode cX12_weightOf 89 = .ok (.istore 13, 2) := by decide +kernel
theorem dX12_weightOf_91 : decode cX12_weightOf 91 = .ok (.iload 12, 2) := by decide +kernel
theorem dX12_weightOf_93 : decode cX12_weightOf 93 = .ok (.ifCond .lt 101, 3) := by decide +kernel
theorem dX12_weightOf_96 : decode cX12_weightOf 96 = .ok (.iload 13, 2) := by decide +kernel
theorem dX12_weightOf_98 : decode cX12_weightOf 98 = .ok (.iconst 3, 1) := by decide +kernel
theorem dX12_weightOf_99 : decode cX12_weightOf 99 = .ok (.iload 12, 2) := by decide +kernel
theorem dX12_weightOf_101 : decode cX12_weightOf 101 = .ok (.imul, 1) := by decide +kernel
theorem dX12_weightOf_102 : decode cX12_weightOf 102 = .ok (.aload_n 0, 1) := by decide +kernel
theorem dX12_weightOf_103 : decode cX12_weightOf 103 = .ok (.getfield 19, 3) := by decide +kernel
theorem dX12_weightOf_106 : decode cX12_weightOf 106 = .ok (.iload 12, 2) := by decide +kernel
theorem dX12_weightOf_108 : decode cX12_weightOf 108 = .ok (.iaload, 1) := by decide +kernel
theorem dX12_weightOf_109 : decode cX12_weightOf 109 = .ok (.iadd, 1) := by decide +kernel
theorem dX12_weightOf_110 : decode cX12_weightOf 110 = .ok (.if_icmp .ge 84, 3) := by decide +kernel
theorem dX12_weightOf_113 : decode cX12_weightOf 113 = .ok (.aload_n 0, 1) := by decide +kernel
theorem dX12_weightOf_114 : decode cX12_weightOf 114 = .ok (.getfield 22, 3) := by decide +kernel
theorem dX12_weightOf_117 : decode cX12_weightOf 117 = .ok (.iload 8, 2) := by decide +kernel
theorem dX12_weightOf_119 : decode cX12_weightOf 119 = .ok (.iaload, 1) := by decide +kernel
theorem dX12_weightOf_120 : decode cX12_weightOf 120 = .ok (.ifCond .lt 30, 3) := by decide +kernel
theorem dX12_weightOf_123 : decode cX12_weightOf 123 = .ok (.aload_n 0, 1) := by decide +kernel
theorem dX12_weightOf_124 : decode cX12_weightOf 124 = .ok (.getfield 22, 3) := by decide +kernel
theorem dX12_weightOf_127 : decode cX12_weightOf 127 = .ok (.iload 13, 2) := by decide +kernel
theorem dX12_weightOf_129 : decode cX12_weightOf 129 = .ok (.iaload, 1) := by decide +kernel
theorem dX12_weightOf_130 : decode cX12_weightOf 130 = .ok (.ifCond .lt 20, 3) := by decide +kernel
theorem dX12_weightOf_133 : decode cX12_weightOf 133 = .ok (.aload_n 0, 1) := by decide +kernel
theorem dX12_weightOf_134 : decode cX12_weightOf 134 = .ok (.getfield 22, 3) := by decide +kernel
theorem dX12_weightOf_137 : decode cX12_weightOf 137 = .ok (.iload 8, 2) := by decide +kernel
theorem dX12_weightOf_139 : decode cX12_weightOf 139 = .ok (.iaload, 1) := by decide +kernel
theorem dX12_weightOf_140 : decode cX12_weightOf 140 = .ok (.aload_n 0, 1) := by decide +kernel
theorem dX12_weightOf_141 : decode cX12_weightOf 141 = .ok (.getfield 22, 3) := by decide +kernel
theorem dX12_weightOf_144 : decode cX12_weightOf 144 = .ok (.iload 13, 2) := by decide +kernel
theorem dX12_weightOf_146 : decode cX12_weightOf 146 = .ok (.iaload, 1) := by decide +kernel
theorem dX12_weightOf_147 : decode cX12_weightOf 147 = .ok (.if_icmp .ne 7, 3) := by decide +kernel
theorem dX12_weightOf_150 : decode cX12_weightOf 150 = .ok (.iconst 1, 1) := by decide +kernel
theorem dX12_weightOf_151 : decode cX12_weightOf 151 = .ok (.goto 4, 3) := by decide +kernel
theorem dX12_weightOf_154 : decode cX12_weightOf 154 = .ok (.iconst 0, 1) := by decide +kernel
theorem dX12_weightOf_155 : decode cX12_weightOf 155 = .ok (.istore 14, 2) := by decide +kernel
theorem dX12_weightOf_157 : decode cX12_weightOf 157 = .ok (.iload 7, 2) := by decide +kernel
theorem dX12_weightOf_159 : decode cX12_weightOf 159 = .ok (.iload 14, 2) := by decide +kernel
theorem dX12_weightOf_161 : decode cX12_weightOf 161 = .ok (.ifCond .eq 23, 3) := by decide +kernel
theorem dX12_weightOf_164 : decode cX12_weightOf 164 = .ok (.aload_n 0, 1) := by decide +kernel
theorem dX12_weightOf_165 : decode cX12_weightOf 165 = .ok (.iload 13, 2) := by decide +kernel
theorem dX12_weightOf_167 : decode cX12_weightOf 167 = .ok (.invokevirtual 178, 3) := by decide +kernel
theorem dX12_weightOf_170 : decode cX12_weightOf 170 = .ok (.iload 5, 2) := by decide +kernel
theorem dX12_weightOf_172 : decode cX12_weightOf 172 = .ok (.lshr, 1) := by decide +kernel
theorem dX12_weightOf_173 : decode cX12_weightOf 173 = .ok (.lconst 1, 1) := by decide +kernel
theorem dX12_weightOf_174 : decode cX12_weightOf 174 = .ok (.land, 1) := by decide +kernel
theorem dX12_weightOf_175 : decode cX12_weightOf 175 = .ok (.lconst 1, 1) := by decide +kernel
theorem dX12_weightOf_176 : decode cX12_weightOf 176 = .ok (.lcmp, 1) := by decide +kernel
theorem dX12_weightOf_177 : decode cX12_weightOf 177 = .ok (.ifCond .ne 7, 3) := by decide +kernel
theorem dX12_weightOf_180 : decode cX12_weightOf 180 = .ok (.iconst 1, 1) := by decide +kernel
theorem dX12_weightOf_181 : decode cX12_weightOf 181 = .ok (.goto 4, 3) := by decide +kernel
theorem dX12_weightOf_184 : decode cX12_weightOf 184 = .ok (.iconst 0, 1) := by decide +kernel
theorem dX12_weightOf_185 : decode cX12_weightOf 185 = .ok (.iadd, 1) := by decide +kernel
theorem dX12_weightOf_186 : decode cX12_weightOf 186 = .ok (.istore 7, 2) := by decide +kernel
theorem dX12_weightOf_188 : decode cX12_weightOf 188 = .ok (.iinc 13 1, 3) := by decide +kernel
theorem dX12_weightOf_191 : decode cX12_weightOf 191 = .ok (.goto (-100), 3) := by decide +kernel
theorem dX12_weightOf_194 : decode cX12_weightOf 194 = .ok (.iinc 11 1, 3) := by decide +kernel
theorem dX12_weightOf_197 : decode cX12_weightOf 197 = .ok (.goto (-146), 3) := by decide +kernel
theorem dX12_weightOf_200 : decode cX12_weightOf 200 = .ok (.iinc 8 1, 3) := by decide +kernel
theorem dX12_weightOf_203 : decode cX12_weightOf 203 = .ok (.goto (-185), 3) := by decide +kernel
theorem dX12_weightOf_206 : decode cX12_weightOf 206 = .ok (.iload 7, 2) := by decide +kernel
theorem dX12_weightOf_208 : decode cX12_weightOf 208 = .ok (.ireturn, 1) := by decide +kernel
theorem dX12_areApart_0 : decode cX12_areApart 0 = .ok (.iload_n 0, 1) := by decide +kernel
theorem dX12_areApart_1 : decode cX12_areApart 1 = .ok (.iload_n 1, 1) := by decide +kernel
theorem dX12_areApart_2 : decode cX12_areApart 2 = .ok (.if_icmp .eq 17, 3) := by decide +kernel
theorem dX12_areApart_5 : decode cX12_areApart 5 = .ok (.iload_n 1, 1) := by decide +kernel
theorem dX12_areApart_6 : decode cX12_areApart 6 = .ok (.iload_n 2, 1) := by decide +kernel
theorem dX12_areApart_7 : decode cX12_areApart 7 = .ok (.if_icmp .eq 12, 3) := by decide +kernel
theorem dX12_areApart_10 : decode cX12_areApart 10 = .ok (.iload_n 0, 1) := by decide +kernel
theorem dX12_areApart_11 : decode cX12_areApart 11 = .ok (.iload_n 2, 1) := by decide +kernel
theorem dX12_areApart_12 : decode cX12_areApart 12 = .ok (.if_icmp .eq 7, 3) := by decide +kernel
theorem dX12_areApart_15 : decode cX12_areApart 15 = .ok (.iconst 1, 1) := by decide +kernel
theorem dX12_areApart_16 : decode cX12_areApart 16 = .ok (.goto 4, 3) := by decide +kernel
theorem dX12_areApart_19 : decode cX12_areApart 19 = .ok (.iconst 0, 1) := by decide +kernel
theorem dX12_areApart_20 : decode cX12_areApart 20 = .ok (.ireturn, 1) := by decide +kernel
theorem dX12_weight_0 : decode cX12_weight 0 = .ok (.iload_n 1, 1) := by decide +kernel
theorem dX12_weight_1 : decode cX12_weight 1 = .ok (.invokestatic 147, 3) := by decide +kernel
theorem dX12_weight_4 : decode cX12_weight 4 = .ok (.ifCond .eq 33, 3) := by decide +kernel
theorem dX12_weight_7 : decode cX12_weight 7 = .ok (.iload_n 2, 1) := by decide +kernel
theorem dX12_weight_8 : decode cX12_weight 8 = .ok (.invokestatic 182, 3) := by decide +kernel
theorem dX12_weight_11 : decode cX12_weight 11 = .ok (.ifCond .eq 26, 3) := by decide +kernel
theorem dX12_weight_14 : decode cX12_weight 14 = .ok (.iload_n 3, 1) := by decide +kernel
theorem dX12_weight_15 : decode cX12_weight 15 = .ok (.invokestatic 147, 3) := by decide +kernel
theorem dX12_weight_18 : decode cX12_weight 18 = .ok (.ifCond .eq 19, 3) := by decide +kernel
theorem dX12_weight_21 : decode cX12_weight 21 = .ok (.iload 4, 2) := by decide +kernel
theorem dX12_weight_23 : decode cX12_weight 23 = .ok (.invokestatic 147, 3) := by decide +kernel
theorem dX12_weight_26 : decode cX12_weight 26 = .ok (.ifCond .eq 11, 3) := by decide +kernel
theorem dX12_weight_29 : decode cX12_weight 29 = .ok (.iload 5, 2) := by decide +kernel
theorem dX12_weight_31 : decode cX12_weight 31 = .ok (.invokestatic 182, 3) := by decide +kernel
theorem dX12_weight_34 : decode cX12_weight 34 = .ok (.ifCond .ne 7, 3) := by decide +kernel
theorem dX12_weight_37 : decode cX12_weight 37 = .ok (.sipush (-1001), 3) := by decide +kernel
theorem dX12_weight_40 : decode cX12_weight 40 = .ok (.ireturn, 1) := by decide +kernel
theorem dX12_weight_41 : decode cX12_weight 41 = .ok (.iload_n 1, 1) := by decide +kernel
theorem dX12_weight_42 : decode cX12_weight 42 = .ok (.iload_n 3, 1) := by decide +kernel
theorem dX12_weight_43 : decode cX12_weight 43 = .ok (.iload 4, 2) := by decide +kernel
theorem dX12_weight_45 : decode cX12_weight 45 = .ok (.invokestatic 208, 3) := by decide +kernel
theorem dX12_weight_48 : decode cX12_weight 48 = .ok (.ifCond .eq 17, 3) := by decide +kernel
theorem dX12_weight_51 : decode cX12_weight 51 = .ok (.aload_n 0, 1) := by decide +kernel
theorem dX12_weight_52 : decode cX12_weight 52 = .ok (.iload_n 1, 1) := by decide +kernel
theorem dX12_weight_53 : decode cX12_weight 53 = .ok (.iload_n 2, 1) := by decide +kernel
theorem dX12_weight_54 : decode cX12_weight 54 = .ok (.iload_n 3, 1) := by decide +kernel
theorem dX12_weight_55 : decode cX12_weight 55 = .ok (.iload 4, 2) := by decide +kernel
theorem dX12_weight_57 : decode cX12_weight 57 = .ok (.iload 5, 2) := by decide +kernel
theorem dX12_weight_59 : decode cX12_weight 59 = .ok (.invokevirtual 212, 3) := by decide +kernel
theorem dX12_weight_62 : decode cX12_weight 62 = .ok (.goto 6, 3) := by decide +kernel
theorem dX12_weight_65 : decode cX12_weight 65 = .ok (.sipush (-1002), 3) := by decide +kernel
theorem dX12_weight_68 : decode cX12_weight 68 = .ok (.ireturn, 1) := by decide +kernel
theorem dX12_findSure_0 : decode cX12_findSure 0 = .ok (.aload_n 0, 1) := by decide +kernel
theorem dX12_findSure_1 : decode cX12_findSure 1 = .ok (.iload_n 1, 1) := by decide +kernel
theorem dX12_findSure_2 : decode cX12_findSure 2 = .ok (.iload_n 2, 1) := by decide +kernel
theorem dX12_findSure_3 : decode cX12_findSure 3 = .ok (.iload_n 3, 1) := by decide +kernel
theorem dX12_findSure_4 : decode cX12_findSure 4 = .ok (.invokevirtual 191, 3) := by decide +kernel
theorem dX12_findSure_7 : decode cX12_findSure 7 = .ok (.lstore 6, 2) := by decide +kernel
theorem dX12_findSure_9 : decode cX12_findSure 9 = .ok (.aload_n 0, 1) := by decide +kernel
theorem dX12_findSure_10 : decode cX12_findSure 10 = .ok (.iload 4, 2) := by decide +kernel
theorem dX12_findSure_12 : decode cX12_findSure 12 = .ok (.iload 5, 2) := by decide +kernel
theorem dX12_findSure_14 : decode cX12_findSure 14 = .ok (.iload_n 3, 1) := by decide +kernel
theorem dX12_findSure_15 : decode cX12_findSure 15 = .ok (.invokevirtual 191, 3) := by decide +kernel
theorem dX12_findSure_18 : decode cX12_findSure 18 = .ok (.lstore 8, 2) := by decide +kernel
theorem dX12_findSure_20 : decode cX12_findSure 20 = .ok (.aload_n 0, 1) := by decide +kernel
theorem dX12_findSure_21 : decode cX12_findSure 21 = .ok (.iconst 2, 1) := by decide +kernel
theorem dX12_findSure_22 : decode cX12_findSure 22 = .ok (.lload 6, 2) := by decide +kernel
theorem dX12_findSure_24 : decode cX12_findSure 24 = .ok (.lload 8, 2) := by decide +kernel
theorem dX12_findSure_26 : decode cX12_findSure 26 = .ok (.land, 1) := by decide +kernel
theorem dX12_findSure_27 : decode cX12_findSure 27 = .ok (.invokestatic 187, 3) := by decide +kernel
theorem dX12_findSure_30 : decode cX12_findSure 30 = .ok (.imul, 1) := by decide +kernel
theorem dX12_findSure_31 : decode cX12_findSure 31 = .ok (.putfield 216, 3) := by decide +kernel
theorem dX12_findSure_34 : decode cX12_findSure 34 = .ok (.aload_n 0, 1) := by decide +kernel
theorem dX12_findSure_35 : decode cX12_findSure 35 = .ok (.lload 6, 2) := by decide +kernel
theorem dX12_findSure_37 : decode cX12_findSure 37 = .ok (.invokestatic 187, 3) := by decide +kernel
theorem dX12_findSure_40 : decode cX12_findSure 40 = .ok (.lload 8, 2) := by decide +kernel
theorem dX12_findSure_42 : decode cX12_findSure 42 = .ok (.invokestatic 187, 3) := by decide +kernel
theorem dX12_findSure_45 : decode cX12_findSure 45 = .ok (.iadd, 1) := by decide +kernel
theorem dX12_findSure_46 : decode cX12_findSure 46 = .ok (.putfield 219, 3) := by decide +kernel
theorem dX12_findSure_49 : decode cX12_findSure 49 = .ok (.aload_n 0, 1) := by decide +kernel
theorem dX12_findSure_50 : decode cX12_findSure 50 = .ok (.aload_n 0, 1) := by decide +kernel
theorem dX12_findSure_51 : decode cX12_findSure 51 = .ok (.getfield 219, 3) := by decide +kernel
theorem dX12_findSure_54 : decode cX12_findSure 54 = .ok (.ifCond .ne 7, 3) := by decide +kernel
theorem dX12_findSure_57 : decode cX12_findSure 57 = .ok (.iconst 1, 1) := by decide +kernel
theorem dX12_findSure_58 : decode cX12_findSure 58 = .ok (.goto 7, 3) := by decide +kernel
theorem dX12_findSure_61 : decode cX12_findSure 61 = .ok (.aload_n 0, 1) := by decide +kernel
theorem dX12_findSure_62 : decode cX12_findSure 62 = .ok (.getfield 219, 3) := by decide +kernel
theorem dX12_findSure_65 : decode cX12_findSure 65 = .ok (.putfield 219, 3) := by decide +kernel
theorem dX12_findSure_68 : decode cX12_findSure 68 = .ok (.return_, 1) := by decide +kernel
theorem dX12_gcd_0 : decode cX12_gcd 0 = .ok (.iload_n 0, 1) := by decide +kernel
theorem dX12_gcd_1 : decode cX12_gcd 1 = .ok (.istore_n 2, 1) := by decide +kernel
theorem dX12_gcd_2 : decode cX12_gcd 2 = .ok (.iload_n 1, 1) := by decide +kernel
theorem dX12_gcd_3 : decode cX12_gcd 3 = .ok (.istore_n 3, 1) := by decide +kernel
theorem dX12_gcd_4 : decode cX12_gcd 4 = .ok (.iload_n 3, 1) := by decide +kernel
theorem dX12_gcd_5 : decode cX12_gcd 5 = .ok (.ifCond .eq 16, 3) := by decide +kernel
theorem dX12_gcd_8 : decode cX12_gcd 8 = .ok (.iload_n 2, 1) := by decide +kernel
theorem dX12_gcd_9 : decode cX12_gcd 9 = .ok (.iload_n 3, 1) := by decide +kernel
theorem dX12_gcd_10 : decode cX12_gcd 10 = .ok (.irem, 1) := by decide +kernel
theorem dX12_gcd_11 : decode cX12_gcd 11 = .ok (.istore 4, 2) := by decide +kernel
theorem dX12_gcd_13 : decode cX12_gcd 13 = .ok (.iload_n 3, 1) := by decide +kernel
theorem dX12_gcd_14 : decode cX12_gcd 14 = .ok (.istore_n 2, 1) := by decide +kernel
theorem dX12_gcd_15 : decode cX12_gcd 15 = .ok (.iload 4, 2) := by decide +kernel
theorem dX12_gcd_17 : decode cX12_gcd 17 = .ok (.istore_n 3, 1) := by decide +kernel
theorem dX12_gcd_18 : decode cX12_gcd 18 = .ok (.goto (-14), 3) := by decide +kernel
theorem dX12_gcd_21 : decode cX12_gcd 21 = .ok (.iload_n 2, 1) := by decide +kernel
theorem dX12_gcd_22 : decode cX12_gcd 22 = .ok (.ireturn, 1) := by decide +kernel
theorem dX12_sure_0 : decode cX12_sure 0 = .ok (.iload_n 1, 1) := by decide +kernel
theorem dX12_sure_1 : decode cX12_sure 1 = .ok (.invokestatic 147, 3) := by decide +kernel
theorem dX12_sure_4 : decode cX12_sure 4 = .ok (.ifCond .eq 33, 3) := by decide +kernel
theorem dX12_sure_7 : decode cX12_sure 7 = .ok (.iload_n 2, 1) := by decide +kernel
theorem dX12_sure_8 : decode cX12_sure 8 = .ok (.invokestatic 182, 3) := by decide +kernel
theorem dX12_sure_11 : decode cX12_sure 11 = .ok (.ifCond .eq 26, 3) := by decide +kernel
theorem dX12_sure_14 : decode cX12_sure 14 = .ok (.iload_n 3, 1) := by decide +kernel
theorem dX12_sure_15 : decode cX12_sure 15 = .ok (.invokestatic 147, 3) := by decide +kernel
theorem dX12_sure_18 : decode cX12_sure 18 = .ok (.ifCond .eq 19, 3) := by decide +kernel
theorem dX12_sure_21 : decode cX12_sure 21 = .ok (.iload 4, 2) := by decide +kernel
theorem dX12_sure_23 : decode cX12_sure 23 = .ok (.invokestatic 147, 3) := by decide +kernel
theorem dX12_sure_26 : decode cX12_sure 26 = .ok (.ifCond .eq 11, 3) := by decide +kernel
theorem dX12_sure_29 : decode cX12_sure 29 = .ok (.iload 5, 2) := by decide +kernel
theorem dX12_sure_31 : decode cX12_sure 31 = .ok (.invokestatic 182, 3) := by decide +kernel
theorem dX12_sure_34 : decode cX12_sure 34 = .ok (.ifCond .ne 7, 3) := by decide +kernel
theorem dX12_sure_37 : decode cX12_sure 37 = .ok (.sipush (-1001), 3) := by decide +kernel
theorem dX12_sure_40 : decode cX12_sure 40 = .ok (.ireturn, 1) := by decide +kernel
theorem dX12_sure_41 : decode cX12_sure 41 = .ok (.iload_n 1, 1) := by decide +kernel
theorem dX12_sure_42 : decode cX12_sure 42 = .ok (.iload_n 3, 1) := by decide +kernel
theorem dX12_sure_43 : decode cX12_sure 43 = .ok (.iload 4, 2) := by decide +kernel
theorem dX12_sure_45 : decode cX12_sure 45 = .ok (.invokestatic 208, 3) := by decide +kernel
theorem dX12_sure_48 : decode cX12_sure 48 = .ok (.ifCond .eq 14, 3) := by decide +kernel
theorem dX12_sure_51 : decode cX12_sure 51 = .ok (.iload 6, 2) := by decide +kernel
theorem dX12_sure_53 : decode cX12_sure 53 = .ok (.i2l, 1) := by decide +kernel
theorem dX12_sure_54 : decode cX12_sure 54 = .ok (.lconst 0, 1) := by decide +kernel
theorem dX12_sure_55 : decode cX12_sure 55 = .ok (.lconst 1, 1) := by decide +kernel
theorem dX12_sure_56 : decode cX12_sure 56 = .ok (.invokestatic 100, 3) := by decide +kernel
theorem dX12_sure_59 : decode cX12_sure 59 = .ok (.ifCond .ne 7, 3) := by decide +kernel
theorem dX12_sure_62 : decode cX12_sure 62 = .ok (.sipush (-1002), 3) := by decide +kernel
theorem dX12_sure_65 : decode cX12_sure 65 = .ok (.ireturn, 1) := by decide +kernel
theorem dX12_sure_66 : decode cX12_sure 66 = .ok (.aload_n 0, 1) := by decide +kernel
theorem dX12_sure_67 : decode cX12_sure 67 = .ok (.iload_n 1, 1) := by decide +kernel
theorem dX12_sure_68 : decode cX12_sure 68 = .ok (.iload_n 2, 1) := by decide +kernel
theorem dX12_sure_69 : decode cX12_sure 69 = .ok (.iload_n 3, 1) := by decide +kernel
theorem dX12_sure_70 : decode cX12_sure 70 = .ok (.iload 4, 2) := by decide +kernel
theorem dX12_sure_72 : decode cX12_sure 72 = .ok (.iload 5, 2) := by decide +kernel
theorem dX12_sure_74 : decode cX12_sure 74 = .ok (.invokevirtual 222, 3) := by decide +kernel
theorem dX12_sure_77 : decode cX12_sure 77 = .ok (.aload_n 0, 1) := by decide +kernel
theorem dX12_sure_78 : decode cX12_sure 78 = .ok (.getfield 216, 3) := by decide +kernel
theorem dX12_sure_81 : decode cX12_sure 81 = .ok (.aload_n 0, 1) := by decide +kernel
theorem dX12_sure_82 : decode cX12_sure 82 = .ok (.getfield 219, 3) := by decide +kernel
theorem dX12_sure_85 : decode cX12_sure 85 = .ok (.invokestatic 226, 3) := by decide +kernel
theorem dX12_sure_88 : decode cX12_sure 88 = .ok (.istore 7, 2) := by decide +kernel
theorem dX12_sure_90 : decode cX12_sure 90 = .ok (.iload 6, 2) := by decide +kernel
theorem dX12_sure_92 : decode cX12_sure 92 = .ok (.ifCond .ne 13, 3) := by decide +kernel
theorem dX12_sure_95 : decode cX12_sure 95 = .ok (.aload_n 0, 1) := by decide +kernel
theorem dX12_sure_96 : decode cX12_sure 96 = .ok (.getfield 216, 3) := by decide +kernel
theorem dX12_sure_99 : decode cX12_sure 99 = .ok (.iload 7, 2) := by decide +kernel
theorem dX12_sure_101 : decode cX12_sure 101 = .ok (.idiv, 1) := by decide +kernel
theorem dX12_sure_102 : decode cX12_sure 102 = .ok (.goto 10, 3) := by decide +kernel
theorem dX12_sure_105 : decode cX12_sure 105 = .ok (.aload_n 0, 1) := by decide +kernel
theorem dX12_sure_106 : decode cX12_sure 106 = .ok (.getfield 219, 3) := by decide +kernel
theorem dX12_sure_109 : decode cX12_sure 109 = .ok (.iload 7, 2) := by decide +kernel
theorem dX12_sure_111 : decode cX12_sure 111 = .ok (.idiv, 1) := by decide +kernel
theorem dX12_sure_112 : decode cX12_sure 112 = .ok (.ireturn, 1) := by decide +kernel
theorem dX12_findBest_0 : decode cX12_findBest 0 = .ok (.aload_n 0, 1) := by decide +kernel
theorem dX12_findBest_1 : decode cX12_findBest 1 = .ok (.iconst (-1), 1) := by decide +kernel
theorem dX12_findBest_2 : decode cX12_findBest 2 = .ok (.putfield 229, 3) := by decide +kernel
theorem dX12_findBest_5 : decode cX12_findBest 5 = .ok (.iconst 0, 1) := by decide +kernel
theorem dX12_findBest_6 : decode cX12_findBest 6 = .ok (.istore 5, 2) := by decide +kernel
theorem dX12_findBest_8 : decode cX12_findBest 8 = .ok (.iload 5, 2) := by decide +kernel
theorem dX12_findBest_10 : decode cX12_findBest 10 = .ok (.bipush 60, 2) := by decide +kernel
theorem dX12_findBest_12 : decode cX12_findBest 12 = .ok (.if_icmp .ge 117, 3) := by decide +kernel
theorem dX12_findBest_15 : decode cX12_findBest 15 = .ok (.aload_n 0, 1) := by decide +kernel
theorem dX12_findBest_16 : decode cX12_findBest 16 = .ok (.iload_n 1, 1) := by decide +kernel
theorem dX12_findBest_17 : decode cX12_findBest 17 = .ok (.iload_n 2, 1) := by decide +kernel
theorem dX12_findBest_18 : decode cX12_findBest 18 = .ok (.iload_n 3, 1) := by decide +kernel
theorem dX12_findBest_19 : decode cX12_findBest 19 = .ok (.iload 4, 2) := by decide +kernel
theorem dX12_findBest_21 : decode cX12_findBest 21 = .ok (.iload 5, 2) := by decide +kernel
theorem dX12_findBest_23 : decode cX12_findBest 23 = .ok (.invokevirtual 212, 3) := by decide +kernel
theorem dX12_findBest_26 : decode cX12_findBest 26 = .ok (.istore 6, 2) := by decide +kernel
theorem dX12_findBest_28 : decode cX12_findBest 28 = .ok (.iload 6, 2) := by decide +kernel
theorem dX12_findBest_30 : decode cX12_findBest 30 = .ok (.ifCond .le 93, 3) := by decide +kernel
theorem dX12_findBest_33 : decode cX12_findBest 33 = .ok (.aload_n 0, 1) := by decide +kernel
theorem dX12_findBest_34 : decode cX12_findBest 34 = .ok (.iload_n 1, 1) := by decide +kernel
theorem dX12_findBest_35 : decode cX12_findBest 35 = .ok (.iload_n 2, 1) := by decide +kernel
theorem dX12_findBest_36 : decode cX12_findBest 36 = .ok (.iload_n 3, 1) := by decide +kernel
theorem dX12_findBest_37 : decode cX12_findBest 37 = .ok (.iload 4, 2) := by decide +kernel
theorem dX12_findBest_39 : decode cX12_findBest 39 = .ok (.iload 5, 2) := by decide +kernel
theorem dX12_findBest_41 : decode cX12_findBest 41 = .ok (.invokevirtual 222, 3) := by decide +kernel
theorem dX12_findBest_44 : decode cX12_findBest 44 = .ok (.aload_n 0, 1) := by decide +kernel
theorem dX12_findBest_45 : decode cX12_findBest 45 = .ok (.getfield 229, 3) := by decide +kernel
theorem dX12_findBest_48 : decode cX12_findBest 48 = .ok (.ifCond .ge 7, 3) := by decide +kernel
theorem dX12_findBest_51 : decode cX12_findBest 51 = .ok (.iconst 1, 1) := by decide +kernel
theorem dX12_findBest_52 : decode cX12_findBest 52 = .ok (.goto 22, 3) := by decide +kernel
theorem dX12_findBest_55 : decode cX12_findBest 55 = .ok (.aload_n 0, 1) := by decide +kernel
theorem dX12_findBest_56 : decode cX12_findBest 56 = .ok (.getfield 216, 3) := by decide +kernel
theorem dX12_findBest_59 : decode cX12_findBest 59 = .ok (.aload_n 0, 1) := by decide +kernel
theorem dX12_findBest_60 : decode cX12_findBest 60 = .ok (.getfield 232, 3) := by decide +kernel
theorem dX12_findBest_63 : decode cX12_findBest 63 = .ok (.imul, 1) := by decide +kernel
theorem dX12_findBest_64 : decode cX12_findBest 64 = .ok (.aload_n 0, 1) := by decide +kernel
theorem dX12_findBest_65 : decode cX12_findBest 65 = .ok (.getfield 235, 3) := by decide +kernel
theorem dX12_findBest_68 : decode cX12_findBest 68 = .ok (.aload_n 0, 1) := by decide +kernel
theorem dX12_findBest_69 : decode cX12_findBest 69 = .ok (.getfield 219, 3) := by decide +kernel
theorem dX12_findBest_72 : decode cX12_findBest 72 = .ok (.imul, 1) := by decide +kernel
theorem dX12_findBest_73 : decode cX12_findBest 73 = .ok (.isub, 1) := by decide +kernel
theorem dX12_findBest_74 : decode cX12_findBest 74 = .ok (.istore 7, 2) := by decide +kernel
theorem dX12_findBest_76 : decode cX12_findBest 76 = .ok (.iload 7, 2) := by decide +kernel
theorem dX12_findBest_78 : decode cX12_findBest 78 = .ok (.ifCond .gt 17, 3) := by decide +kernel
theorem dX12_findBest_81 : decode cX12_findBest 81 = .ok (.iload 7, 2) := by decide +kernel
theorem dX12_findBest_83 : decode cX12_findBest 83 = .ok (.ifCond .ne 40, 3) := by decide +kernel
theorem dX12_findBest_86 : decode cX12_findBest 86 = .ok (.iload 6, 2) := by decide +kernel
theorem dX12_findBest_88 : decode cX12_findBest 88 = .ok (.aload_n 0, 1) := by decide +kernel
theorem dX12_findBest_89 : decode cX12_findBest 89 = .ok (.getfield 238, 3) := by decide +kernel
theorem dX12_findBest_92 : decode cX12_findBest 92 = .ok (.if_icmp .le 31, 3) := by decide +kernel
theorem dX12_findBest_95 : decode cX12_findBest 95 = .ok (.aload_n 0, 1) := by decide +kernel
theorem dX12_findBest_96 : decode cX12_findBest 96 = .ok (.iload 5, 2) := by decide +kernel
theorem dX12_findBest_98 : decode cX12_findBest 98 = .ok (.putfield 229, 3) := by decide +kernel
theorem dX12_findBest_101 : decode cX12_findBest 101 = .ok (.aload_n 0, 1) := by decide +kernel
theorem dX12_findBest_102 : decode cX12_findBest 102 = .ok (.aload_n 0, 1) := by decide +kernel
theorem dX12_findBest_103 : decode cX12_findBest 103 = .ok (.getfield 216, 3) := by decide +kernel
theorem dX12_findBest_106 : decode cX12_findBest 106 = .ok (.putfield 235, 3) := by decide +kernel
theorem dX12_findBest_109 : decode cX12_findBest 109 = .ok (.aload_n 0, 1) := by decide +kernel
theorem dX12_findBest_110 : decode cX12_findBest 110 = .ok (.aload_n 0, 1) := by decide +kernel
theorem dX12_findBest_111 : decode cX12_findBest 111 = .ok (.getfield 219, 3) := by decide +kernel
theorem dX12_findBest_114 : decode cX12_findBest 114 = .ok (.putfield 232, 3) := by decide +kernel
theorem dX12_findBest_117 : decode cX12_findBest 117 = .ok (.aload_n 0, 1) := by decide +kernel
theorem dX12_findBest_118 : decode cX12_findBest 118 = .ok (.iload 6, 2) := by decide +kernel
theorem dX12_findBest_120 : decode cX12_findBest 120 = .ok (.putfield 238, 3) := by decide +kernel
theorem dX12_findBest_123 : decode cX12_findBest 123 = .ok (.iinc 5 1, 3) := by decide +kernel
theorem dX12_findBest_126 : decode cX12_findBest 126 = .ok (.goto (-118), 3) := by decide +kernel
theorem dX12_findBest_129 : decode cX12_findBest 129 = .ok (.return_, 1) := by decide +kernel
theorem dX12_best_0 : decode cX12_best 0 = .ok (.iload_n 1, 1) := by decide +kernel
theorem dX12_best_1 : decode cX12_best 1 = .ok (.invokestatic 147, 3) := by decide +kernel
theorem dX12_best_4 : decode cX12_best 4 = .ok (.ifCond .eq 25, 3) := by decide +kernel
theorem dX12_best_7 : decode cX12_best 7 = .ok (.iload_n 2, 1) := by decide +kernel
theorem dX12_best_8 : decode cX12_best 8 = .ok (.invokestatic 182, 3) := by decide +kernel
theorem dX12_best_11 : decode cX12_best 11 = .ok (.ifCond .eq 18, 3) := by decide +kernel
theorem dX12_best_14 : decode cX12_best 14 = .ok (.iload_n 3, 1) := by decide +kernel
theorem dX12_best_15 : decode cX12_best 15 = .ok (.invokestatic 147, 3) := by decide +kernel
theorem dX12_best_18 : decode cX12_best 18 = .ok (.ifCond .eq 11, 3) := by decide +kernel
theorem dX12_best_21 : decode cX12_best 21 = .ok (.iload 4, 2) := by decide +kernel
theorem dX12_best_23 : decode cX12_best 23 = .ok (.invokestatic 147, 3) := by decide +kernel
theorem dX12_best_26 : decode cX12_best 26 = .ok (.ifCond .ne 7, 3) := by decide +kernel
theorem dX12_best_29 : decode cX12_best 29 = .ok (.sipush (-1001), 3) := by decide +kernel
theorem dX12_best_32 : decode cX12_best 32 = .ok (.ireturn, 1) := by decide +kernel
theorem dX12_best_33 : decode cX12_best 33 = .ok (.iload_n 1, 1) := by decide +kernel
theorem dX12_best_34 : decode cX12_best 34 = .ok (.iload_n 3, 1) := by decide +kernel
theorem dX12_best_35 : decode cX12_best 35 = .ok (.iload 4, 2) := by decide +kernel
theorem dX12_best_37 : decode cX12_best 37 = .ok (.invokestatic 208, 3) := by decide +kernel
theorem dX12_best_40 : decode cX12_best 40 = .ok (.ifCond .ne 7, 3) := by decide +kernel
theorem dX12_best_43 : decode cX12_best 43 = .ok (.sipush (-1002), 3) := by decide +kernel
theorem dX12_best_46 : decode cX12_best 46 = .ok (.ireturn, 1) := by decide +kernel
theorem dX12_best_47 : decode cX12_best 47 = .ok (.aload_n 0, 1) := by decide +kernel
theorem dX12_best_48 : decode cX12_best 48 = .ok (.iload_n 1, 1) := by decide +kernel
theorem dX12_best_49 : decode cX12_best 49 = .ok (.iload_n 2, 1) := by decide +kernel
theorem dX12_best_50 : decode cX12_best 50 = .ok (.iload_n 3, 1) := by decide +kernel
theorem dX12_best_51 : decode cX12_best 51 = .ok (.iload 4, 2) := by decide +kernel
theorem dX12_best_53 : decode cX12_best 53 = .ok (.invokevirtual 241, 3) := by decide +kernel
theorem dX12_best_56 : decode cX12_best 56 = .ok (.aload_n 0, 1) := by decide +kernel
theorem dX12_best_57 : decode cX12_best 57 = .ok (.getfield 229, 3) := by decide +kernel
theorem dX12_best_60 : decode cX12_best 60 = .ok (.ireturn, 1) := by decide +kernel
theorem dX12_bridge_0 : decode cX12_bridge 0 = .ok (.iload_n 1, 1) := by decide +kernel
theorem dX12_bridge_1 : decode cX12_bridge 1 = .ok (.invokestatic 147, 3) := by decide +kernel
theorem dX12_bridge_4 : decode cX12_bridge 4 = .ok (.ifCond .eq 17, 3) := by decide +kernel
theorem dX12_bridge_7 : decode cX12_bridge 7 = .ok (.iload_n 2, 1) := by decide +kernel
theorem dX12_bridge_8 : decode cX12_bridge 8 = .ok (.invokestatic 182, 3) := by decide +kernel
theorem dX12_bridge_11 : decode cX12_bridge 11 = .ok (.ifCond .eq 10, 3) := by decide +kernel
theorem dX12_bridge_14 : decode cX12_bridge 14 = .ok (.iload_n 3, 1) := by decide +kernel
theorem dX12_bridge_15 : decode cX12_bridge 15 = .ok (.invokestatic 147, 3) := by decide +kernel
theorem dX12_bridge_18 : decode cX12_bridge 18 = .ok (.ifCond .ne 7, 3) := by decide +kernel
theorem dX12_bridge_21 : decode cX12_bridge 21 = .ok (.sipush (-1001), 3) := by decide +kernel
theorem dX12_bridge_24 : decode cX12_bridge 24 = .ok (.ireturn, 1) := by decide +kernel
theorem dX12_bridge_25 : decode cX12_bridge 25 = .ok (.iload_n 1, 1) := by decide +kernel
theorem dX12_bridge_26 : decode cX12_bridge 26 = .ok (.iload_n 3, 1) := by decide +kernel
theorem dX12_bridge_27 : decode cX12_bridge 27 = .ok (.if_icmp .ne 7, 3) := by decide +kernel
theorem dX12_bridge_30 : decode cX12_bridge 30 = .ok (.sipush (-1002), 3) := by decide +kernel
theorem dX12_bridge_33 : decode cX12_bridge 33 = .ok (.ireturn, 1) := by decide +kernel
theorem dX12_bridge_34 : decode cX12_bridge 34 = .ok (.iconst (-1), 1) := by decide +kernel
theorem dX12_bridge_35 : decode cX12_bridge 35 = .ok (.istore 4, 2) := by decide +kernel
theorem dX12_bridge_37 : decode cX12_bridge 37 = .ok (.iconst 0, 1) := by decide +kernel
theorem dX12_bridge_38 : decode cX12_bridge 38 = .ok (.istore 5, 2) := by decide +kernel
theorem dX12_bridge_40 : decode cX12_bridge 40 = .ok (.iconst 1, 1) := by decide +kernel
theorem dX12_bridge_41 : decode cX12_bridge 41 = .ok (.istore 6, 2) := by decide +kernel
theorem dX12_bridge_43 : decode cX12_bridge 43 = .ok (.iconst 0, 1) := by decide +kernel
theorem dX12_bridge_44 : decode cX12_bridge 44 = .ok (.istore 7, 2) := by decide +kernel
theorem dX12_bridge_46 : decode cX12_bridge 46 = .ok (.iconst 0, 1) := by decide +kernel
theorem dX12_bridge_47 : decode cX12_bridge 47 = .ok (.istore 8, 2) := by decide +kernel
theorem dX12_bridge_49 : decode cX12_bridge 49 = .ok (.iload 8, 2) := by decide +kernel
theorem dX12_bridge_51 : decode cX12_bridge 51 = .ok (.iconst 4, 1) := by decide +kernel
theorem dX12_bridge_52 : decode cX12_bridge 52 = .ok (.if_icmp .ge 106, 3) := by decide +kernel
theorem dX12_bridge_55 : decode cX12_bridge 55 = .ok (.iload_n 1, 1) := by decide +kernel
theorem dX12_bridge_56 : decode cX12_bridge 56 = .ok (.iload 8, 2) := by decide +kernel
theorem dX12_bridge_58 : decode cX12_bridge 58 = .ok (.iload_n 3, 1) := by decide +kernel
theorem dX12_bridge_59 : decode cX12_bridge 59 = .ok (.invokestatic 208, 3) := by decide +kernel
theorem dX12_bridge_62 : decode cX12_bridge 62 = .ok (.ifCond .eq 90, 3) := by decide +kernel
theorem dX12_bridge_65 : decode cX12_bridge 65 = .ok (.aload_n 0, 1) := by decide +kernel
theorem dX12_bridge_66 : decode cX12_bridge 66 = .ok (.iload_n 1, 1) := by decide +kernel
theorem dX12_bridge_67 : decode cX12_bridge 67 = .ok (.iload_n 2, 1) := by decide +kernel
theorem dX12_bridge_68 : decode cX12_bridge 68 = .ok (.iload 8, 2) := by decide +kernel
theorem dX12_bridge_70 : decode cX12_bridge 70 = .ok (.iload_n 3, 1) := by decide +kernel
theorem dX12_bridge_71 : decode cX12_bridge 71 = .ok (.invokevirtual 241, 3) := by decide +kernel
theorem dX12_bridge_74 : decode cX12_bridge 74 = .ok (.aload_n 0, 1) := by decide +kernel
theorem dX12_bridge_75 : decode cX12_bridge 75 = .ok (.getfield 229, 3) := by decide +kernel
theorem dX12_bridge_78 : decode cX12_bridge 78 = .ok (.ifCond .ge 7, 3) := by decide +kernel
theorem dX12_bridge_81 : decode cX12_bridge 81 = .ok (.iconst (-1), 1) := by decide +kernel
theorem dX12_bridge_82 : decode cX12_bridge 82 = .ok (.goto 27, 3) := by decide +kernel
theorem dX12_bridge_85 : decode cX12_bridge 85 = .ok (.iload 4, 2) := by decide +kernel
theorem dX12_bridge_87 : decode cX12_bridge 87 = .ok (.ifCond .ge 7, 3) := by decide +kernel
theorem dX12_bridge_90 : decode cX12_bridge 90 = .ok (.iconst 1, 1) := by decide +kernel
theorem dX12_bridge_91 : decode cX12_bridge 91 = .ok (.goto 18, 3) := by decide +kernel
theorem dX12_bridge_94 : decode cX12_bridge 94 = .ok (.aload_n 0, 1) := by decide +kernel
theorem dX12_bridge_95 : decode cX12_bridge 95 = .ok (.getfield 235, 3) := by decide +kernel
theorem dX12_bridge_98 : decode cX12_bridge 98 = .ok (.iload 6, 2) := by decide +kernel
theorem dX12_bridge_100 : decode cX12_bridge 100 = .ok (.imul, 1) := by decide +kernel
theorem dX12_bridge_101 : decode cX12_bridge 101 = .ok (.iload 5, 2) := by decide +kernel
theorem dX12_bridge_103 : decode cX12_bridge 103 = .ok (.aload_n 0, 1) := by decide +kernel
theorem dX12_bridge_104 : decode cX12_bridge 104 = .ok (.getfield 232, 3) := by decide +kernel
theorem dX12_bridge_107 : decode cX12_bridge 107 = .ok (.imul, 1) := by decide +kernel
theorem dX12_bridge_108 : decode cX12_bridge 108 = .ok (.isub, 1) := by decide +kernel
theorem dX12_bridge_109 : decode cX12_bridge 109 = .ok (.istore 9, 2) := by decide +kernel
theorem dX12_bridge_111 : decode cX12_bridge 111 = .ok (.iload 9, 2) := by decide +kernel
theorem dX12_bridge_113 : decode cX12_bridge 113 = .ok (.ifCond .gt 17, 3) := by decide +kernel
theorem dX12_bridge_116 : decode cX12_bridge 116 = .ok (.iload 9, 2) := by decide +kernel
theorem dX12_bridge_118 : decode cX12_bridge 118 = .ok (.ifCond .ne 34, 3) := by decide +kernel
theorem dX12_bridge_121 : decode cX12_bridge 121 = .ok (.aload_n 0, 1) := by decide +kernel
theorem dX12_bridge_122 : decode cX12_bridge 122 = .ok (.getfield 238, 3) := by decide +kernel
theorem dX12_bridge_125 : decode cX12_bridge 125 = .ok (.iload 7, 2) := by decide +kernel
theorem dX12_bridge_127 : decode cX12_bridge 127 = .ok (.if_icmp .le 25, 3) := by decide +kernel
theorem dX12_bridge_130 : decode cX12_bridge 130 = .ok (.iload 8, 2) := by decide +kernel
theorem dX12_bridge_132 : decode cX12_bridge 132 = .ok (.istore 4, 2) := by decide +kernel
theorem dX12_bridge_134 : decode cX12_bridge 134 = .ok (.aload_n 0, 1) := by decide +kernel
theorem dX12_bridge_135 : decode cX12_bridge 135 = .ok (.getfield 235, 3) := by decide +kernel
theorem dX12_bridge_138 : decode cX12_bridge 138 = .ok (.istore 5, 2) := by decide +kernel
theorem dX12_bridge_140 : decode cX12_bridge 140 = .ok (.aload_n 0, 1) := by decide +kernel
theorem dX12_bridge_141 : decode cX12_bridge 141 = .ok (.getfield 232, 3) := by decide +kernel
theorem dX12_bridge_144 : decode cX12_bridge 144 = .ok (.istore 6, 2) := by decide +kernel
theorem dX12_bridge_146 : decode cX12_bridge 146 = .ok (.aload_n 0, 1) := by decide +kernel
theorem dX12_bridge_147 : decode cX12_bridge 147 = .ok (.getfield 238, 3) := by decide +kernel
theorem dX12_bridge_150 : decode cX12_bridge 150 = .ok (.istore 7, 2) := by decide +kernel
theorem dX12_bridge_152 : decode cX12_bridge 152 = .ok (.iinc 8 1, 3) := by decide +kernel
theorem dX12_bridge_155 : decode cX12_bridge 155 = .ok (.goto (-106), 3) := by decide +kernel
theorem dX12_bridge_158 : decode cX12_bridge 158 = .ok (.iload 4, 2) := by decide +kernel
theorem dX12_bridge_160 : decode cX12_bridge 160 = .ok (.ireturn, 1) := by decide +kernel
theorem dX12_alike_0 : decode cX12_alike 0 = .ok (.iload_n 1, 1) := by decide +kernel
theorem dX12_alike_1 : decode cX12_alike 1 = .ok (.invokestatic 147, 3) := by decide +kernel
theorem dX12_alike_4 : decode cX12_alike 4 = .ok (.ifCond .eq 25, 3) := by decide +kernel
theorem dX12_alike_7 : decode cX12_alike 7 = .ok (.iload_n 2, 1) := by decide +kernel
theorem dX12_alike_8 : decode cX12_alike 8 = .ok (.invokestatic 182, 3) := by decide +kernel
theorem dX12_alike_11 : decode cX12_alike 11 = .ok (.ifCond .eq 18, 3) := by decide +kernel
theorem dX12_alike_14 : decode cX12_alike 14 = .ok (.iload_n 3, 1) := by decide +kernel
theorem dX12_alike_15 : decode cX12_alike 15 = .ok (.invokestatic 147, 3) := by decide +kernel
theorem dX12_alike_18 : decode cX12_alike 18 = .ok (.ifCond .eq 11, 3) := by decide +kernel
theorem dX12_alike_21 : decode cX12_alike 21 = .ok (.iload 4, 2) := by decide +kernel
theorem dX12_alike_23 : decode cX12_alike 23 = .ok (.invokestatic 182, 3) := by decide +kernel
theorem dX12_alike_26 : decode cX12_alike 26 = .ok (.ifCond .ne 7, 3) := by decide +kernel
theorem dX12_alike_29 : decode cX12_alike 29 = .ok (.sipush (-1001), 3) := by decide +kernel
theorem dX12_alike_32 : decode cX12_alike 32 = .ok (.ireturn, 1) := by decide +kernel
theorem dX12_alike_33 : decode cX12_alike 33 = .ok (.iload_n 1, 1) := by decide +kernel
theorem dX12_alike_34 : decode cX12_alike 34 = .ok (.iload_n 3, 1) := by decide +kernel
theorem dX12_alike_35 : decode cX12_alike 35 = .ok (.if_icmp .ne 7, 3) := by decide +kernel
theorem dX12_alike_38 : decode cX12_alike 38 = .ok (.sipush (-1002), 3) := by decide +kernel
theorem dX12_alike_41 : decode cX12_alike 41 = .ok (.ireturn, 1) := by decide +kernel
theorem dX12_alike_42 : decode cX12_alike 42 = .ok (.iconst 0, 1) := by decide +kernel
theorem dX12_alike_43 : decode cX12_alike 43 = .ok (.istore 5, 2) := by decide +kernel
theorem dX12_alike_45 : decode cX12_alike 45 = .ok (.iload 5, 2) := by decide +kernel
theorem dX12_alike_47 : decode cX12_alike 47 = .ok (.aload_n 0, 1) := by decide +kernel
theorem dX12_alike_48 : decode cX12_alike 48 = .ok (.getfield 159, 3) := by decide +kernel
theorem dX12_alike_51 : decode cX12_alike 51 = .ok (.if_icmp .ge 127, 3) := by decide +kernel
theorem dX12_alike_54 : decode cX12_alike 54 = .ok (.aload_n 0, 1) := by decide +kernel
theorem dX12_alike_55 : decode cX12_alike 55 = .ok (.getfield 56, 3) := by decide +kernel
theorem dX12_alike_58 : decode cX12_alike 58 = .ok (.iload 5, 2) := by decide +kernel
theorem dX12_alike_60 : decode cX12_alike 60 = .ok (.iaload, 1) := by decide +kernel
theorem dX12_alike_61 : decode cX12_alike 61 = .ok (.iload_n 1, 1) := by decide +kernel
theorem dX12_alike_62 : decode cX12_alike 62 = .ok (.if_icmp .ne 41, 3) := by decide +kernel
theorem dX12_alike_65 : decode cX12_alike 65 = .ok (.aload_n 0, 1) := by decide +kernel
theorem dX12_alike_66 : decode cX12_alike 66 = .ok (.getfield 59, 3) := by decide +kernel
theorem dX12_alike_69 : decode cX12_alike 69 = .ok (.iload 5, 2) := by decide +kernel
theorem dX12_alike_71 : decode cX12_alike 71 = .ok (.iaload, 1) := by decide +kernel
theorem dX12_alike_72 : decode cX12_alike 72 = .ok (.iload_n 2, 1) := by decide +kernel
theorem dX12_alike_73 : decode cX12_alike 73 = .ok (.if_icmp .ne 30, 3) := by decide +kernel
theorem dX12_alike_76 : decode cX12_alike 76 = .ok (.aload_n 0, 1) := by decide +kernel
theorem dX12_alike_77 : decode cX12_alike 77 = .ok (.getfield 62, 3) := by decide +kernel
theorem dX12_alike_80 : decode cX12_alike 80 = .ok (.iload 5, 2) := by decide +kernel
theorem dX12_alike_82 : decode cX12_alike 82 = .ok (.iaload, 1) := by decide +kernel
theorem dX12_alike_83 : decode cX12_alike 83 = .ok (.iload_n 3, 1) := by decide +kernel
theorem dX12_alike_84 : decode cX12_alike 84 = .ok (.if_icmp .ne 19, 3) := by decide +kernel
theorem dX12_alike_87 : decode cX12_alike 87 = .ok (.aload_n 0, 1) := by decide +kernel
theorem dX12_alike_88 : decode cX12_alike 88 = .ok (.getfield 65, 3) := by decide +kernel
theorem dX12_alike_91 : decode cX12_alike 91 = .ok (.iload 5, 2) := by decide +kernel
theorem dX12_alike_93 : decode cX12_alike 93 = .ok (.iaload, 1) := by decide +kernel
theorem dX12_alike_94 : decode cX12_alike 94 = .ok (.iload 4, 2) := by decide +kernel
theorem dX12_alike_96 : decode cX12_alike 96 = .ok (.if_icmp .ne 7, 3) := by decide +kernel
theorem dX12_alike_99 : decode cX12_alike 99 = .ok (.iconst 1, 1) := by decide +kernel
theorem dX12_alike_100 : decode cX12_alike 100 = .ok (.goto 4, 3) := by decide +kernel
theorem dX12_alike_103 : decode cX12_alike 103 = .ok (.iconst 0, 1) := by decide +kernel
theorem dX12_alike_104 : decode cX12_alike 104 = .ok (.istore 6, 2) := by decide +kernel
theorem dX12_alike_106 : decode cX12_alike 106 = .ok (.aload_n 0, 1) := by decide +kernel
theorem dX12_alike_107 : decode cX12_alike 107 = .ok (.getfield 56, 3) := by decide +kernel
theorem dX12_alike_110 : decode cX12_alike 110 = .ok (.iload 5, 2) := by decide +kernel
theorem dX12_alike_112 : decode cX12_alike 112 = .ok (.iaload, 1) := by decide +kernel
theorem dX12_alike_113 : decode cX12_alike 113 = .ok (.iload_n 3, 1) := by decide +kernel
theorem dX12_alike_114 : decode cX12_alike 114 = .ok (.if_icmp .ne 41, 3) := by decide +kernel
theorem dX12_alike_117 : decode cX12_alike 117 = .ok (.aload_n 0, 1) := by decide +kernel
theorem dX12_alike_118 : decode cX12_alike 118 = .ok (.getfield 59, 3) := by decide +kernel
theorem dX12_alike_121 : decode cX12_alike 121 = .ok (.iload 5, 2) := by decide +kernel
theorem dX12_alike_123 : decode cX12_alike 123 = .ok (.iaload, 1) := by decide +kernel
theorem dX12_alike_124 : decode cX12_alike 124 = .ok (.iload 4, 2) := by decide +kernel
theorem dX12_alike_126 : decode cX12_alike 126 = .ok (.if_icmp .ne 29, 3) := by decide +kernel
theorem dX12_alike_129 : decode cX12_alike 129 = .ok (.aload_n 0, 1) := by decide +kernel
theorem dX12_alike_130 : decode cX12_alike 130 = .ok (.getfield 62, 3) := by decide +kernel
theorem dX12_alike_133 : decode cX12_alike 133 = .ok (.iload 5, 2) := by decide +kernel
theorem dX12_alike_135 : decode cX12_alike 135 = .ok (.iaload, 1) := by decide +kernel
theorem dX12_alike_136 : decode cX12_alike 136 = .ok (.iload_n 1, 1) := by decide +kernel
theorem dX12_alike_137 : decode cX12_alike 137 = .ok (.if_icmp .ne 18, 3) := by decide +kernel
theorem dX12_alike_140 : decode cX12_alike 140 = .ok (.aload_n 0, 1) := by decide +kernel
theorem dX12_alike_141 : decode cX12_alike 141 = .ok (.getfield 65, 3) := by decide +kernel
theorem dX12_alike_144 : decode cX12_alike 144 = .ok (.iload 5, 2) := by decide +kernel
theorem dX12_alike_146 : decode cX12_alike 146 = .ok (.iaload, 1) := by decide +kernel
theorem dX12_alike_147 : decode cX12_alike 147 = .ok (.iload_n 2, 1) := by decide +kernel
theorem dX12_alike_148 : decode cX12_alike 148 = .ok (.if_icmp .ne 7, 3) := by decide +kernel
theorem dX12_alike_151 : decode cX12_alike 151 = .ok (.iconst 1, 1) := by decide +kernel
theorem dX12_alike_152 : decode cX12_alike 152 = .ok (.goto 4, 3) := by decide +kernel
theorem dX12_alike_155 : decode cX12_alike 155 = .ok (.iconst 0, 1) := by decide +kernel
theorem dX12_alike_156 : decode cX12_alike 156 = .ok (.istore 7, 2) := by decide +kernel
theorem dX12_alike_158 : decode cX12_alike 158 = .ok (.iload 6, 2) := by decide +kernel
theorem dX12_alike_160 : decode cX12_alike 160 = .ok (.ifCond .ne 8, 3) := by decide +kernel
theorem dX12_alike_163 : decode cX12_alike 163 = .ok (.iload 7, 2) := by decide +kernel
theorem dX12_alike_165 : decode cX12_alike 165 = .ok (.ifCond .eq 7, 3) := by decide +kernel
theorem dX12_alike_168 : decode cX12_alike 168 = .ok (.sipush (-1003), 3) := by decide +kernel
theorem dX12_alike_171 : decode cX12_alike 171 = .ok (.ireturn, 1) := by decide +kernel
theorem dX12_alike_172 : decode cX12_alike 172 = .ok (.iinc 5 1, 3) := by decide +kernel
theorem dX12_alike_175 : decode cX12_alike 175 = .ok (.goto (-130), 3) := by decide +kernel
theorem dX12_alike_178 : decode cX12_alike 178 = .ok (.aload_n 0, 1) := by decide +kernel
theorem dX12_alike_179 : decode cX12_alike 179 = .ok (.getfield 159, 3) := by decide +kernel
theorem dX12_alike_182 : decode cX12_alike 182 = .ok (.bipush 30, 2) := by decide +kernel
theorem dX12_alike_184 : decode cX12_alike 184 = .ok (.if_icmp .ne 7, 3) := by decide +kernel
theorem dX12_alike_187 : decode cX12_alike 187 = .ok (.sipush (-1004), 3) := by decide +kernel
theorem dX12_alike_190 : decode cX12_alike 190 = .ok (.ireturn, 1) := by decide +kernel
theorem dX12_alike_191 : decode cX12_alike 191 = .ok (.aload_n 0, 1) := by decide +kernel
theorem dX12_alike_192 : decode cX12_alike 192 = .ok (.getfield 56, 3) := by decide +kernel
theorem dX12_alike_195 : decode cX12_alike 195 = .ok (.aload_n 0, 1) := by decide +kernel
theorem dX12_alike_196 : decode cX12_alike 196 = .ok (.getfield 159, 3) := by decide +kernel
theorem dX12_alike_199 : decode cX12_alike 199 = .ok (.iload_n 1, 1) := by decide +kernel
theorem dX12_alike_200 : decode cX12_alike 200 = .ok (.iastore, 1) := by decide +kernel
theorem dX12_alike_201 : decode cX12_alike 201 = .ok (.aload_n 0, 1) := by decide +kernel
theorem dX12_alike_202 : decode cX12_alike 202 = .ok (.getfield 59, 3) := by decide +kernel
theorem dX12_alike_205 : decode cX12_alike 205 = .ok (.aload_n 0, 1) := by decide +kernel
theorem dX12_alike_206 : decode cX12_alike 206 = .ok (.getfield 159, 3) := by decide +kernel
theorem dX12_alike_209 : decode cX12_alike 209 = .ok (.iload_n 2, 1) := by decide +kernel
theorem dX12_alike_210 : decode cX12_alike 210 = .ok (.iastore, 1) := by decide +kernel
theorem dX12_alike_211 : decode cX12_alike 211 = .ok (.aload_n 0, 1) := by decide +kernel
theorem dX12_alike_212 : decode cX12_alike 212 = .ok (.getfield 62, 3) := by decide +kernel
theorem dX12_alike_215 : decode cX12_alike 215 = .ok (.aload_n 0, 1) := by decide +kernel
theorem dX12_alike_216 : decode cX12_alike 216 = .ok (.getfield 159, 3) := by decide +kernel
theorem dX12_alike_219 : decode cX12_alike 219 = .ok (.iload_n 3, 1) := by decide +kernel
theorem dX12_alike_220 : decode cX12_alike 220 = .ok (.iastore, 1) := by decide +kernel
theorem dX12_alike_221 : decode cX12_alike 221 = .ok (.aload_n 0, 1) := by decide +kernel
theorem dX12_alike_222 : decode cX12_alike 222 = .ok (.getfield 65, 3) := by decide +kernel
theorem dX12_alike_225 : decode cX12_alike 225 = .ok (.aload_n 0, 1) := by decide +kernel
theorem dX12_alike_226 : decode cX12_alike 226 = .ok (.getfield 159, 3) := by decide +kernel
theorem dX12_alike_229 : decode cX12_alike 229 = .ok (.iload 4, 2) := by decide +kernel
theorem dX12_alike_231 : decode cX12_alike 231 = .ok (.iastore, 1) := by decide +kernel
theorem dX12_alike_232 : decode cX12_alike 232 = .ok (.aload_n 0, 1) := by decide +kernel
theorem dX12_alike_233 : decode cX12_alike 233 = .ok (.dup, 1) := by decide +kernel
theorem dX12_alike_234 : decode cX12_alike 234 = .ok (.getfield 159, 3) := by decide +kernel
theorem dX12_alike_237 : decode cX12_alike 237 = .ok (.iconst 1, 1) := by decide +kernel
theorem dX12_alike_238 : decode cX12_alike 238 = .ok (.iadd, 1) := by decide +kernel
theorem dX12_alike_239 : decode cX12_alike 239 = .ok (.putfield 159, 3) := by decide +kernel
theorem dX12_alike_242 : decode cX12_alike 242 = .ok (.aload_n 0, 1) := by decide +kernel
theorem dX12_alike_243 : decode cX12_alike 243 = .ok (.getfield 159, 3) := by decide +kernel
theorem dX12_alike_246 : decode cX12_alike 246 = .ok (.ireturn, 1) := by decide +kernel
theorem dX12_has_0 : decode cX12_has 0 = .ok (.aload_n 0, 1) := by decide +kernel
theorem dX12_has_1 : decode cX12_has 1 = .ok (.iload_n 1, 1) := by decide +kernel
theorem dX12_has_2 : decode cX12_has 2 = .ok (.iload_n 2, 1) := by decide +kernel
theorem dX12_has_3 : decode cX12_has 3 = .ok (.iload_n 3, 1) := by decide +kernel
theorem dX12_has_4 : decode cX12_has 4 = .ok (.invokevirtual 174, 3) := by decide +kernel
theorem dX12_has_7 : decode cX12_has 7 = .ok (.ifCond .ge 7, 3) := by decide +kernel
theorem dX12_has_10 : decode cX12_has 10 = .ok (.iconst 0, 1) := by decide +kernel
theorem dX12_has_11 : decode cX12_has 11 = .ok (.goto 25, 3) := by decide +kernel
theorem dX12_has_14 : decode cX12_has 14 = .ok (.aload_n 0, 1) := by decide +kernel
theorem dX12_has_15 : decode cX12_has 15 = .ok (.iload_n 1, 1) := by decide +kernel
theorem dX12_has_16 : decode cX12_has 16 = .ok (.iload_n 2, 1) := by decide +kernel
theorem dX12_has_17 : decode cX12_has 17 = .ok (.iload_n 3, 1) := by decide +kernel
theorem dX12_has_18 : decode cX12_has 18 = .ok (.invokevirtual 191, 3) := by decide +kernel
theorem dX12_has_21 : decode cX12_has 21 = .ok (.iload 4, 2) := by decide +kernel
theorem dX12_has_23 : decode cX12_has 23 = .ok (.lshr, 1) := by decide +kernel
theorem dX12_has_24 : decode cX12_has 24 = .ok (.lconst 1, 1) := by decide +kernel
theorem dX12_has_25 : decode cX12_has 25 = .ok (.land, 1) := by decide +kernel
theorem dX12_has_26 : decode cX12_has 26 = .ok (.lconst 1, 1) := by decide +kernel
theorem dX12_has_27 : decode cX12_has 27 = .ok (.lcmp, 1) := by decide +kernel
theorem dX12_has_28 : decode cX12_has 28 = .ok (.ifCond .ne 7, 3) := by decide +kernel
theorem dX12_has_31 : decode cX12_has 31 = .ok (.iconst 1, 1) := by decide +kernel
theorem dX12_has_32 : decode cX12_has 32 = .ok (.goto 4, 3) := by decide +kernel
theorem dX12_has_35 : decode cX12_has 35 = .ok (.iconst 2, 1) := by decide +kernel
theorem dX12_has_36 : decode cX12_has 36 = .ok (.ireturn, 1) := by decide +kernel
theorem dX12_friendOf_0 : decode cX12_friendOf 0 = .ok (.aload_n 0, 1) := by decide +kernel
theorem dX12_friendOf_1 : decode cX12_friendOf 1 = .ok (.aload_n 0, 1) := by decide +kernel
theorem dX12_friendOf_2 : decode cX12_friendOf 2 = .ok (.getfield 56, 3) := by decide +kernel
theorem dX12_friendOf_5 : decode cX12_friendOf 5 = .ok (.iload_n 1, 1) := by decide +kernel
theorem dX12_friendOf_6 : decode cX12_friendOf 6 = .ok (.iaload, 1) := by decide +kernel
theorem dX12_friendOf_7 : decode cX12_friendOf 7 = .ok (.aload_n 0, 1) := by decide +kernel
theorem dX12_friendOf_8 : decode cX12_friendOf 8 = .ok (.getfield 59, 3) := by decide +kernel
theorem dX12_friendOf_11 : decode cX12_friendOf 11 = .ok (.iload_n 1, 1) := by decide +kernel
theorem dX12_friendOf_12 : decode cX12_friendOf 12 = .ok (.iaload, 1) := by decide +kernel
theorem dX12_friendOf_13 : decode cX12_friendOf 13 = .ok (.aload_n 0, 1) := by decide +kernel
theorem dX12_friendOf_14 : decode cX12_friendOf 14 = .ok (.getfield 62, 3) := by decide +kernel
theorem dX12_friendOf_17 : decode cX12_friendOf 17 = .ok (.iload_n 1, 1) := by decide +kernel
theorem dX12_friendOf_18 : decode cX12_friendOf 18 = .ok (.iaload, 1) := by decide +kernel
theorem dX12_friendOf_19 : decode cX12_friendOf 19 = .ok (.aload_n 0, 1) := by decide +kernel
theorem dX12_friendOf_20 : decode cX12_friendOf 20 = .ok (.getfield 65, 3) := by decide +kernel
theorem dX12_friendOf_23 : decode cX12_friendOf 23 = .ok (.iload_n 1, 1) := by decide +kernel
theorem dX12_friendOf_24 : decode cX12_friendOf 24 = .ok (.iaload, 1) := by decide +kernel
theorem dX12_friendOf_25 : decode cX12_friendOf 25 = .ok (.invokevirtual 245, 3) := by decide +kernel
theorem dX12_friendOf_28 : decode cX12_friendOf 28 = .ok (.istore_n 2, 1) := by decide +kernel
theorem dX12_friendOf_29 : decode cX12_friendOf 29 = .ok (.aload_n 0, 1) := by decide +kernel
theorem dX12_friendOf_30 : decode cX12_friendOf 30 = .ok (.aload_n 0, 1) := by decide +kernel
theorem dX12_friendOf_31 : decode cX12_friendOf 31 = .ok (.getfield 62, 3) := by decide +kernel
theorem dX12_friendOf_34 : decode cX12_friendOf 34 = .ok (.iload_n 1, 1) := by decide +kernel
theorem dX12_friendOf_35 : decode cX12_friendOf 35 = .ok (.iaload, 1) := by decide +kernel
theorem dX12_friendOf_36 : decode cX12_friendOf 36 = .ok (.aload_n 0, 1) := by decide +kernel
theorem dX12_friendOf_37 : decode cX12_friendOf 37 = .ok (.getfield 65, 3) := by decide +kernel
theorem dX12_friendOf_40 : decode cX12_friendOf 40 = .ok (.iload_n 1, 1) := by decide +kernel
theorem dX12_friendOf_41 : decode cX12_friendOf 41 = .ok (.iaload, 1) := by decide +kernel
theorem dX12_friendOf_42 : decode cX12_friendOf 42 = .ok (.aload_n 0, 1) := by decide +kernel
theorem dX12_friendOf_43 : decode cX12_friendOf 43 = .ok (.getfield 56, 3) := by decide +kernel
theorem dX12_friendOf_46 : decode cX12_friendOf 46 = .ok (.iload_n 1, 1) := by decide +kernel
theorem dX12_friendOf_47 : decode cX12_friendOf 47 = .ok (.iaload, 1) := by decide +kernel
theorem dX12_friendOf_48 : decode cX12_friendOf 48 = .ok (.aload_n 0, 1) := by decide +kernel
theorem dX12_friendOf_49 : decode cX12_friendOf 49 = .ok (.getfield 59, 3) := by decide +kernel
theorem dX12_friendOf_52 : decode cX12_friendOf 52 = .ok (.iload_n 1, 1) := by decide +kernel
theorem dX12_friendOf_53 : decode cX12_friendOf 53 = .ok (.iaload, 1) := by decide +kernel
theorem dX12_friendOf_54 : decode cX12_friendOf 54 = .ok (.invokevirtual 245, 3) := by decide +kernel
theorem dX12_friendOf_57 : decode cX12_friendOf 57 = .ok (.istore_n 3, 1) := by decide +kernel
theorem dX12_friendOf_58 : decode cX12_friendOf 58 = .ok (.iload_n 2, 1) := by decide +kernel
theorem dX12_friendOf_59 : decode cX12_friendOf 59 = .ok (.iload_n 3, 1) := by decide +kernel
theorem dX12_friendOf_60 : decode cX12_friendOf 60 = .ok (.if_icmp .le 7, 3) := by decide +kernel
theorem dX12_friendOf_63 : decode cX12_friendOf 63 = .ok (.iload_n 2, 1) := by decide +kernel
theorem dX12_friendOf_64 : decode cX12_friendOf 64 = .ok (.goto 4, 3) := by decide +kernel
theorem dX12_friendOf_67 : decode cX12_friendOf 67 = .ok (.iload_n 3, 1) := by decide +kernel
theorem dX12_friendOf_68 : decode cX12_friendOf 68 = .ok (.ireturn, 1) := by decide +kernel
theorem dX12_friends_0 : decode cX12_friends 0 = .ok (.iload_n 1, 1) := by decide +kernel
theorem dX12_friends_1 : decode cX12_friends 1 = .ok (.i2l, 1) := by decide +kernel
theorem dX12_friends_2 : decode cX12_friends 2 = .ok (.ldc2_w 206, 3) := by decide +kernel
theorem dX12_friends_5 : decode cX12_friends 5 = .ok (.aload_n 0, 1) := by decide +kernel
theorem dX12_friends_6 : decode cX12_friends 6 = .ok (.getfield 159, 3) := by decide +kernel
theorem dX12_friends_9 : decode cX12_friends 9 = .ok (.iconst 1, 1) := by decide +kernel
theorem dX12_friends_10 : decode cX12_friends 10 = .ok (.isub, 1) := by decide +kernel
theorem dX12_friends_11 : decode cX12_friends 11 = .ok (.i2l, 1) := by decide +kernel
theorem dX12_friends_12 : decode cX12_friends 12 = .ok (.invokestatic 100, 3) := by decide +kernel
theorem dX12_friends_15 : decode cX12_friends 15 = .ok (.ifCond .ne 7, 3) := by decide +kernel
theorem dX12_friends_18 : decode cX12_friends 18 = .ok (.sipush (-1002), 3) := by decide +kernel
theorem dX12_friends_21 : decode cX12_friends 21 = .ok (.ireturn, 1) := by decide +kernel
theorem dX12_friends_22 : decode cX12_friends 22 = .ok (.iload_n 1, 1) := by decide +kernel
theorem dX12_friends_23 : decode cX12_friends 23 = .ok (.iconst (-1), 1) := by decide +kernel
theorem dX12_friends_24 : decode cX12_friends 24 = .ok (.if_icmp .eq 9, 3) := by decide +kernel
theorem dX12_friends_27 : decode cX12_friends 27 = .ok (.aload_n 0, 1) := by decide +kernel
theorem dX12_friends_28 : decode cX12_friends 28 = .ok (.iload_n 1, 1) := by decide +kernel
theorem dX12_friends_29 : decode cX12_friends 29 = .ok (.invokevirtual 249, 3) := by decide +kernel
theorem dX12_friends_32 : decode cX12_friends 32 = .ok (.ireturn, 1) := by decide +kernel
theorem dX12_friends_33 : decode cX12_friends 33 = .ok (.iconst 0, 1) := by decide +kernel
theorem dX12_friends_34 : decode cX12_friends 34 = .ok (.istore_n 2, 1) := by decide +kernel
theorem dX12_friends_35 : decode cX12_friends 35 = .ok (.iconst 0, 1) := by decide +kernel
theorem dX12_friends_36 : decode cX12_friends 36 = .ok (.istore_n 3, 1) := by decide +kernel
theorem dX12_friends_37 : decode cX12_friends 37 = .ok (.iload_n 3, 1) := by decide +kernel
theorem dX12_friends_38 : decode cX12_friends 38 = .ok (.aload_n 0, 1) := by decide +kernel
theorem dX12_friends_39 : decode cX12_friends 39 = .ok (.getfield 159, 3) := by decide +kernel
theorem dX12_friends_42 : decode cX12_friends 42 = .ok (.if_icmp .ge 26, 3) := by decide +kernel
theorem dX12_friends_45 : decode cX12_friends 45 = .ok (.iload_n 2, 1) := by decide +kernel
theorem dX12_friends_46 : decode cX12_friends 46 = .ok (.aload_n 0, 1) := by decide +kernel
theorem dX12_friends_47 : decode cX12_friends 47 = .ok (.iload_n 3, 1) := by decide +kernel
theorem dX12_friends_48 : decode cX12_friends 48 = .ok (.invokevirtual 249, 3) := by decide +kernel
theorem dX12_friends_51 : decode cX12_friends 51 = .ok (.iconst 2, 1) := by decide +kernel
theorem dX12_friends_52 : decode cX12_friends 52 = .ok (.if_icmp .ne 7, 3) := by decide +kernel
theorem dX12_friends_55 : decode cX12_friends 55 = .ok (.iconst 1, 1) := by decide +kernel
theorem dX12_friends_56 : decode cX12_friends 56 = .ok (.goto 4, 3) := by decide +kernel
theorem dX12_friends_59 : decode cX12_friends 59 = .ok (.iconst 0, 1) := by decide +kernel
theorem dX12_friends_60 : decode cX12_friends 60 = .ok (.iadd, 1) := by decide +kernel
theorem dX12_friends_61 : decode cX12_friends 61 = .ok (.istore_n 2, 1) := by decide +kernel
theorem dX12_friends_62 : decode cX12_friends 62 = .ok (.iinc 3 1, 3) := by decide +kernel
theorem dX12_friends_65 : decode cX12_friends 65 = .ok (.goto (-28), 3) := by decide +kernel
theorem dX12_friends_68 : decode cX12_friends 68 = .ok (.iload_n 2, 1) := by decide +kernel
theorem dX12_friends_69 : decode cX12_friends 69 = .ok (.ireturn, 1) := by decide +kernel
theorem dX12_pair_0 : decode cX12_pair 0 = .ok (.iload_n 1, 1) := by decide +kernel
theorem dX12_pair_1 : decode cX12_pair 1 = .ok (.invokestatic 147, 3) := by decide +kernel
theorem dX12_pair_4 : decode cX12_pair 4 = .ok (.ifCond .eq 17, 3) := by decide +kernel
theorem dX12_pair_7 : decode cX12_pair 7 = .ok (.iload_n 2, 1) := by decide +kernel
theorem dX12_pair_8 : decode cX12_pair 8 = .ok (.invokestatic 182, 3) := by decide +kernel
theorem dX12_pair_11 : decode cX12_pair 11 = .ok (.ifCond .eq 10, 3) := by decide +kernel
theorem dX12_pair_14 : decode cX12_pair 14 = .ok (.iload_n 3, 1) := by decide +kernel
theorem dX12_pair_15 : decode cX12_pair 15 = .ok (.invokestatic 182, 3) := by decide +kernel
theorem dX12_pair_18 : decode cX12_pair 18 = .ok (.ifCond .ne 7, 3) := by decide +kernel
theorem dX12_pair_21 : decode cX12_pair 21 = .ok (.sipush (-1001), 3) := by decide +kernel
theorem dX12_pair_24 : decode cX12_pair 24 = .ok (.ireturn, 1) := by decide +kernel
theorem dX12_pair_25 : decode cX12_pair 25 = .ok (.iload 4, 2) := by decide +kernel
theorem dX12_pair_27 : decode cX12_pair 27 = .ok (.i2l, 1) := by decide +kernel
theorem dX12_pair_28 : decode cX12_pair 28 = .ok (.lconst 1, 1) := by decide +kernel
theorem dX12_pair_29 : decode cX12_pair 29 = .ok (.ldc2_w 252, 3) := by decide +kernel
theorem dX12_pair_32 : decode cX12_pair 32 = .ok (.invokestatic 100, 3) := by decide +kernel
theorem dX12_pair_35 : decode cX12_pair 35 = .ok (.ifCond .ne 7, 3) := by decide +kernel
theorem dX12_pair_38 : decode cX12_pair 38 = .ok (.sipush (-1002), 3) := by decide +kernel
theorem dX12_pair_41 : decode cX12_pair 41 = .ok (.ireturn, 1) := by decide +kernel
theorem dX12_pair_42 : decode cX12_pair 42 = .ok (.aload_n 0, 1) := by decide +kernel
theorem dX12_pair_43 : decode cX12_pair 43 = .ok (.getfield 162, 3) := by decide +kernel
theorem dX12_pair_46 : decode cX12_pair 46 = .ok (.bipush 40, 2) := by decide +kernel
theorem dX12_pair_48 : decode cX12_pair 48 = .ok (.if_icmp .ne 7, 3) := by decide +kernel
theorem dX12_pair_51 : decode cX12_pair 51 = .ok (.sipush (-1004), 3) := by decide +kernel
theorem dX12_pair_54 : decode cX12_pair 54 = .ok (.ireturn, 1) := by decide +kernel
theorem dX12_pair_55 : decode cX12_pair 55 = .ok (.aload_n 0, 1) := by decide +kernel
theorem dX12_pair_56 : decode cX12_pair 56 = .ok (.getfield 68, 3) := by decide +kernel
theorem dX12_pair_59 : decode cX12_pair 59 = .ok (.aload_n 0, 1) := by decide +kernel
theorem dX12_pair_60 : decode cX12_pair 60 = .ok (.getfield 162, 3) := by decide +kernel
theorem dX12_pair_63 : decode cX12_pair 63 = .ok (.iload_n 1, 1) := by decide +kernel
theorem dX12_pair_64 : decode cX12_pair 64 = .ok (.iastore, 1) := by decide +kernel
theorem dX12_pair_65 : decode cX12_pair 65 = .ok (.aload_n 0, 1) := by decide +kernel
theorem dX12_pair_66 : decode cX12_pair 66 = .ok (.getfield 71, 3) := by decide +kernel
theorem dX12_pair_69 : decode cX12_pair 69 = .ok (.aload_n 0, 1) := by decide +kernel
theorem dX12_pair_70 : decode cX12_pair 70 = .ok (.getfield 162, 3) := by decide +kernel
theorem dX12_pair_73 : decode cX12_pair 73 = .ok (.iload_n 2, 1) := by decide +kernel
theorem dX12_pair_74 : decode cX12_pair 74 = .ok (.iastore, 1) := by decide +kernel
theorem dX12_pair_75 : decode cX12_pair 75 = .ok (.aload_n 0, 1) := by decide +kernel
theorem dX12_pair_76 : decode cX12_pair 76 = .ok (.getfield 74, 3) := by decide +kernel
theorem dX12_pair_79 : decode cX12_pair 79 = .ok (.aload_n 0, 1) := by decide +kernel
theorem dX12_pair_80 : decode cX12_pair 80 = .ok (.getfield 162, 3) := by decide +kernel
theorem dX12_pair_83 : decode cX12_pair 83 = .ok (.iload_n 3, 1) := by decide +kernel
theorem dX12_pair_84 : decode cX12_pair 84 = .ok (.iastore, 1) := by decide +kernel
theorem dX12_pair_85 : decode cX12_pair 85 = .ok (.aload_n 0, 1) := by decide +kernel
theorem dX12_pair_86 : decode cX12_pair 86 = .ok (.getfield 77, 3) := by decide +kernel
theorem dX12_pair_89 : decode cX12_pair 89 = .ok (.aload_n 0, 1) := by decide +kernel
theorem dX12_pair_90 : decode cX12_pair 90 = .ok (.getfield 162, 3) := by decide +kernel
theorem dX12_pair_93 : decode cX12_pair 93 = .ok (.iload 4, 2) := by decide +kernel
theorem dX12_pair_95 : decode cX12_pair 95 = .ok (.iastore, 1) := by decide +kernel
theorem dX12_pair_96 : decode cX12_pair 96 = .ok (.aload_n 0, 1) := by decide +kernel
theorem dX12_pair_97 : decode cX12_pair 97 = .ok (.dup, 1) := by decide +kernel
theorem dX12_pair_98 : decode cX12_pair 98 = .ok (.getfield 162, 3) := by decide +kernel
theorem dX12_pair_101 : decode cX12_pair 101 = .ok (.iconst 1, 1) := by decide +kernel
theorem dX12_pair_102 : decode cX12_pair 102 = .ok (.iadd, 1) := by decide +kernel
theorem dX12_pair_103 : decode cX12_pair 103 = .ok (.putfield 162, 3) := by decide +kernel
theorem dX12_pair_106 : decode cX12_pair 106 = .ok (.aload_n 0, 1) := by decide +kernel
theorem dX12_pair_107 : decode cX12_pair 107 = .ok (.getfield 162, 3) := by decide +kernel
theorem dX12_pair_110 : decode cX12_pair 110 = .ok (.ireturn, 1) := by decide +kernel
theorem dX12_say_0 : decode cX12_say 0 = .ok (.iload_n 1, 1) := by decide +kernel
theorem dX12_say_1 : decode cX12_say 1 = .ok (.invokestatic 147, 3) := by decide +kernel
theorem dX12_say_4 : decode cX12_say 4 = .ok (.ifCond .eq 10, 3) := by decide +kernel
theorem dX12_say_7 : decode cX12_say 7 = .ok (.iload_n 2, 1) := by decide +kernel
theorem dX12_say_8 : decode cX12_say 8 = .ok (.invokestatic 182, 3) := by decide +kernel
theorem dX12_say_11 : decode cX12_say 11 = .ok (.ifCond .ne 7, 3) := by decide +kernel
theorem dX12_say_14 : decode cX12_say 14 = .ok (.sipush (-1001), 3) := by decide +kernel
theorem dX12_say_17 : decode cX12_say 17 = .ok (.ireturn, 1) := by decide +kernel
theorem dX12_say_18 : decode cX12_say 18 = .ok (.aload_n 0, 1) := by decide +kernel
theorem dX12_say_19 : decode cX12_say 19 = .ok (.getfield 165, 3) := by decide +kernel
theorem dX12_say_22 : decode cX12_say 22 = .ok (.ifCond .le 15, 3) := by decide +kernel
theorem dX12_say_25 : decode cX12_say 25 = .ok (.iload_n 1, 1) := by decide +kernel
theorem dX12_say_26 : decode cX12_say 26 = .ok (.aload_n 0, 1) := by decide +kernel
theorem dX12_say_27 : decode cX12_say 27 = .ok (.getfield 254, 3) := by decide +kernel
theorem dX12_say_30 : decode cX12_say 30 = .ok (.if_icmp .eq 7, 3) := by decide +kernel
theorem dX12_say_33 : decode cX12_say 33 = .ok (.sipush (-1003), 3) := by decide +kernel
theorem dX12_say_36 : decode cX12_say 36 = .ok (.ireturn, 1) := by decide +kernel
theorem dX12_say_37 : decode cX12_say 37 = .ok (.aload_n 0, 1) := by decide +kernel
theorem dX12_say_38 : decode cX12_say 38 = .ok (.getfield 165, 3) := by decide +kernel
theorem dX12_say_41 : decode cX12_say 41 = .ok (.bipush 10, 2) := by decide +kernel
theorem dX12_say_43 : decode cX12_say 43 = .ok (.if_icmp .ne 7, 3) := by decide +kernel
theorem dX12_say_46 : decode cX12_say 46 = .ok (.sipush (-1004), 3) := by decide +kernel
theorem dX12_say_49 : decode cX12_say 49 = .ok (.ireturn, 1) := by decide +kernel
theorem dX12_say_50 : decode cX12_say 50 = .ok (.aload_n 0, 1) := by decide +kernel
theorem dX12_say_51 : decode cX12_say 51 = .ok (.iload_n 1, 1) := by decide +kernel
theorem dX12_say_52 : decode cX12_say 52 = .ok (.putfield 254, 3) := by decide +kernel
theorem dX12_say_55 : decode cX12_say 55 = .ok (.aload_n 0, 1) := by decide +kernel
theorem dX12_say_56 : decode cX12_say 56 = .ok (.getfield 80, 3) := by decide +kernel
theorem dX12_say_59 : decode cX12_say 59 = .ok (.aload_n 0, 1) := by decide +kernel
theorem dX12_say_60 : decode cX12_say 60 = .ok (.getfield 165, 3) := by decide +kernel
theorem dX12_say_63 : decode cX12_say 63 = .ok (.iload_n 2, 1) := by decide +kernel
theorem dX12_say_64 : decode cX12_say 64 = .ok (.iastore, 1) := by decide +kernel
theorem dX12_say_65 : decode cX12_say 65 = .ok (.aload_n 0, 1) := by decide +kernel
theorem dX12_say_66 : decode cX12_say 66 = .ok (.dup, 1) := by decide +kernel
theorem dX12_say_67 : decode cX12_say 67 = .ok (.getfield 165, 3) := by decide +kernel
theorem dX12_say_70 : decode cX12_say 70 = .ok (.iconst 1, 1) := by decide +kernel
theorem dX12_say_71 : decode cX12_say 71 = .ok (.iadd, 1) := by decide +kernel
theorem dX12_say_72 : decode cX12_say 72 = .ok (.putfield 165, 3) := by decide +kernel
theorem dX12_say_75 : decode cX12_say 75 = .ok (.aload_n 0, 1) := by decide +kernel
theorem dX12_say_76 : decode cX12_say 76 = .ok (.getfield 165, 3) := by decide +kernel
theorem dX12_say_79 : decode cX12_say 79 = .ok (.ireturn, 1) := by decide +kernel
theorem dX12_clear_0 : decode cX12_clear 0 = .ok (.aload_n 0, 1) := by decide +kernel
theorem dX12_clear_1 : decode cX12_clear 1 = .ok (.getfield 165, 3) := by decide +kernel
theorem dX12_clear_4 : decode cX12_clear 4 = .ok (.istore_n 1, 1) := by decide +kernel
theorem dX12_clear_5 : decode cX12_clear 5 = .ok (.aload_n 0, 1) := by decide +kernel
theorem dX12_clear_6 : decode cX12_clear 6 = .ok (.iconst 0, 1) := by decide +kernel
theorem dX12_clear_7 : decode cX12_clear 7 = .ok (.putfield 165, 3) := by decide +kernel
theorem dX12_clear_10 : decode cX12_clear 10 = .ok (.iload_n 1, 1) := by decide +kernel
theorem dX12_clear_11 : decode cX12_clear 11 = .ok (.ireturn, 1) := by decide +kernel
theorem dX12_strength_0 : decode cX12_strength 0 = .ok (.iconst 0, 1) := by decide +kernel
theorem dX12_strength_1 : decode cX12_strength 1 = .ok (.istore 4, 2) := by decide +kernel
theorem dX12_strength_3 : decode cX12_strength 3 = .ok (.iconst 0, 1) := by decide +kernel
theorem dX12_strength_4 : decode cX12_strength 4 = .ok (.istore 5, 2) := by decide +kernel
theorem dX12_strength_6 : decode cX12_strength 6 = .ok (.iload 5, 2) := by decide +kernel
theorem dX12_strength_8 : decode cX12_strength 8 = .ok (.aload_n 0, 1) := by decide +kernel
theorem dX12_strength_9 : decode cX12_strength 9 = .ok (.getfield 162, 3) := by decide +kernel
theorem dX12_strength_12 : decode cX12_strength 12 = .ok (.if_icmp .ge 56, 3) := by decide +kernel
theorem dX12_strength_15 : decode cX12_strength 15 = .ok (.aload_n 0, 1) := by decide +kernel
theorem dX12_strength_16 : decode cX12_strength 16 = .ok (.getfield 68, 3) := by decide +kernel
theorem dX12_strength_19 : decode cX12_strength 19 = .ok (.iload 5, 2) := by decide +kernel
theorem dX12_strength_21 : decode cX12_strength 21 = .ok (.iaload, 1) := by decide +kernel
theorem dX12_strength_22 : decode cX12_strength 22 = .ok (.iload_n 1, 1) := by decide +kernel
theorem dX12_strength_23 : decode cX12_strength 23 = .ok (.if_icmp .ne 35, 3) := by decide +kernel
theorem dX12_strength_26 : decode cX12_strength 26 = .ok (.aload_n 0, 1) := by decide +kernel
theorem dX12_strength_27 : decode cX12_strength 27 = .ok (.getfield 71, 3) := by decide +kernel
theorem dX12_strength_30 : decode cX12_strength 30 = .ok (.iload 5, 2) := by decide +kernel
theorem dX12_strength_32 : decode cX12_strength 32 = .ok (.iaload, 1) := by decide +kernel
theorem dX12_strength_33 : decode cX12_strength 33 = .ok (.iload_n 2, 1) := by decide +kernel
theorem dX12_strength_34 : decode cX12_strength 34 = .ok (.if_icmp .ne 24, 3) := by decide +kernel
theorem dX12_strength_37 : decode cX12_strength 37 = .ok (.aload_n 0, 1) := by decide +kernel
theorem dX12_strength_38 : decode cX12_strength 38 = .ok (.getfield 74, 3) := by decide +kernel
theorem dX12_strength_41 : decode cX12_strength 41 = .ok (.iload 5, 2) := by decide +kernel
theorem dX12_strength_43 : decode cX12_strength 43 = .ok (.iaload, 1) := by decide +kernel
theorem dX12_strength_44 : decode cX12_strength 44 = .ok (.iload_n 3, 1) := by decide +kernel
theorem dX12_strength_45 : decode cX12_strength 45 = .ok (.if_icmp .ne 13, 3) := by decide +kernel
theorem dX12_strength_48 : decode cX12_strength 48 = .ok (.aload_n 0, 1) := by decide +kernel
theorem dX12_strength_49 : decode cX12_strength 49 = .ok (.getfield 77, 3) := by decide +kernel
theorem dX12_strength_52 : decode cX12_strength 52 = .ok (.iload 5, 2) := by decide +kernel
theorem dX12_strength_54 : decode cX12_strength 54 = .ok (.iaload, 1) := by decide +kernel
theorem dX12_strength_55 : decode cX12_strength 55 = .ok (.goto 5, 3) := by decide +kernel
theorem dX12_strength_58 : decode cX12_strength 58 = .ok (.iload 4, 2) := by decide +kernel
theorem dX12_strength_60 : decode cX12_strength 60 = .ok (.istore 4, 2) := by decide +kernel
theorem dX12_strength_62 : decode cX12_strength 62 = .ok (.iinc 5 1, 3) := by decide +kernel
theorem dX12_strength_65 : decode cX12_strength 65 = .ok (.goto (-59), 3) := by decide +kernel
theorem dX12_strength_68 : decode cX12_strength 68 = .ok (.iload 4, 2) := by decide +kernel
theorem dX12_strength_70 : decode cX12_strength 70 = .ok (.ireturn, 1) := by decide +kernel
theorem dX12_bring_0 : decode cX12_bring 0 = .ok (.aload_n 0, 1) := by decide +kernel
theorem dX12_bring_1 : decode cX12_bring 1 = .ok (.getfield 22, 3) := by decide +kernel
theorem dX12_bring_4 : decode cX12_bring 4 = .ok (.iload_n 2, 1) := by decide +kernel
theorem dX12_bring_5 : decode cX12_bring 5 = .ok (.bipush 6, 2) := by decide +kernel
theorem dX12_bring_7 : decode cX12_bring 7 = .ok (.idiv, 1) := by decide +kernel
theorem dX12_bring_8 : decode cX12_bring 8 = .ok (.iaload, 1) := by decide +kernel
theorem dX12_bring_9 : decode cX12_bring 9 = .ok (.istore 4, 2) := by decide +kernel
theorem dX12_bring_11 : decode cX12_bring 11 = .ok (.aload_n 0, 1) := by decide +kernel
theorem dX12_bring_12 : decode cX12_bring 12 = .ok (.getfield 22, 3) := by decide +kernel
theorem dX12_bring_15 : decode cX12_bring 15 = .ok (.iload_n 3, 1) := by decide +kernel
theorem dX12_bring_16 : decode cX12_bring 16 = .ok (.bipush 6, 2) := by decide +kernel
theorem dX12_bring_18 : decode cX12_bring 18 = .ok (.idiv, 1) := by decide +kernel
theorem dX12_bring_19 : decode cX12_bring 19 = .ok (.iaload, 1) := by decide +kernel
theorem dX12_bring_20 : decode cX12_bring 20 = .ok (.istore 5, 2) := by decide +kernel
theorem dX12_bring_22 : decode cX12_bring 22 = .ok (.aload_n 0, 1) := by decide +kernel
theorem dX12_bring_23 : decode cX12_bring 23 = .ok (.iload_n 1, 1) := by decide +kernel
theorem dX12_bring_24 : decode cX12_bring 24 = .ok (.aload_n 0, 1) := by decide +kernel
theorem dX12_bring_25 : decode cX12_bring 25 = .ok (.getfield 28, 3) := by decide +kernel
theorem dX12_bring_28 : decode cX12_bring 28 = .ok (.iload_n 2, 1) := by decide +kernel
theorem dX12_bring_29 : decode cX12_bring 29 = .ok (.iaload, 1) := by decide +kernel
theorem dX12_bring_30 : decode cX12_bring 30 = .ok (.aload_n 0, 1) := by decide +kernel
theorem dX12_bring_31 : decode cX12_bring 31 = .ok (.getfield 28, 3) := by decide +kernel
theorem dX12_bring_34 : decode cX12_bring 34 = .ok (.iload_n 3, 1) := by decide +kernel
theorem dX12_bring_35 : decode cX12_bring 35 = .ok (.iaload, 1) := by decide +kernel
theorem dX12_bring_36 : decode cX12_bring 36 = .ok (.invokevirtual 257, 3) := by decide +kernel
theorem dX12_bring_39 : decode cX12_bring 39 = .ok (.iload 4, 2) := by decide +kernel
theorem dX12_bring_41 : decode cX12_bring 41 = .ok (.ifCond .lt 15, 3) := by decide +kernel
theorem dX12_bring_44 : decode cX12_bring 44 = .ok (.iload 4, 2) := by decide +kernel
theorem dX12_bring_46 : decode cX12_bring 46 = .ok (.iload 5, 2) := by decide +kernel
theorem dX12_bring_48 : decode cX12_bring 48 = .ok (.if_icmp .ne 8, 3) := by decide +kernel
theorem dX12_bring_51 : decode cX12_bring 51 = .ok (.bipush 10, 2) := by decide +kernel
theorem dX12_bring_53 : decode cX12_bring 53 = .ok (.goto 4, 3) := by decide +kernel
theorem dX12_bring_56 : decode cX12_bring 56 = .ok (.iconst 0, 1) := by decide +kernel
theorem dX12_bring_57 : decode cX12_bring 57 = .ok (.iadd, 1) := by decide +kernel
theorem dX12_bring_58 : decode cX12_bring 58 = .ok (.ireturn, 1) := by decide +kernel
theorem dX12_findChoices_0 : decode cX12_findChoices 0 = .ok (.iconst 0, 1) := by decide +kernel
theorem dX12_findChoices_1 : decode cX12_findChoices 1 = .ok (.istore_n 2, 1) := by decide +kernel
theorem dX12_findChoices_2 : decode cX12_findChoices 2 = .ok (.iload_n 2, 1) := by decide +kernel
theorem dX12_findChoices_3 : decode cX12_findChoices 3 = .ok (.aload_n 0, 1) := by decide +kernel
theorem dX12_findChoices_4 : decode cX12_findChoices 4 = .ok (.getfield 165, 3) := by decide +kernel
theorem dX12_findChoices_7 : decode cX12_findChoices 7 = .ok (.if_icmp .ge 130, 3) := by decide +kernel
theorem dX12_findChoices_10 : decode cX12_findChoices 10 = .ok (.aload_n 0, 1) := by decide +kernel
theorem dX12_findChoices_11 : decode cX12_findChoices 11 = .ok (.getfield 83, 3) := by decide +kernel
theorem dX12_findChoices_14 : decode cX12_findChoices 14 = .ok (.iload_n 2, 1) := by decide +kernel
theorem dX12_findChoices_15 : decode cX12_findChoices 15 = .ok (.iconst 0, 1) := by decide +kernel
theorem dX12_findChoices_16 : decode cX12_findChoices 16 = .ok (.iastore, 1) := by decide +kernel
theorem dX12_findChoices_17 : decode cX12_findChoices 17 = .ok (.aload_n 0, 1) := by decide +kernel
theorem dX12_findChoices_18 : decode cX12_findChoices 18 = .ok (.aload_n 0, 1) := by decide +kernel
theorem dX12_findChoices_19 : decode cX12_findChoices 19 = .ok (.getfield 254, 3) := by decide +kernel
theorem dX12_findChoices_22 : decode cX12_findChoices 22 = .ok (.aload_n 0, 1) := by decide +kernel
theorem dX12_findChoices_23 : decode cX12_findChoices 23 = .ok (.getfield 80, 3) := by decide +kernel
theorem dX12_findChoices_26 : decode cX12_findChoices 26 = .ok (.iload_n 2, 1) := by decide +kernel
theorem dX12_findChoices_27 : decode cX12_findChoices 27 = .ok (.iaload, 1) := by decide +kernel
theorem dX12_findChoices_28 : decode cX12_findChoices 28 = .ok (.iload_n 1, 1) := by decide +kernel
theorem dX12_findChoices_29 : decode cX12_findChoices 29 = .ok (.invokevirtual 174, 3) := by decide +kernel
theorem dX12_findChoices_32 : decode cX12_findChoices 32 = .ok (.istore_n 3, 1) := by decide +kernel
theorem dX12_findChoices_33 : decode cX12_findChoices 33 = .ok (.iconst 3, 1) := by decide +kernel
theorem dX12_findChoices_34 : decode cX12_findChoices 34 = .ok (.iload_n 3, 1) := by decide +kernel
theorem dX12_findChoices_35 : decode cX12_findChoices 35 = .ok (.imul, 1) := by decide +kernel
theorem dX12_findChoices_36 : decode cX12_findChoices 36 = .ok (.istore 4, 2) := by decide +kernel
theorem dX12_findChoices_38 : decode cX12_findChoices 38 = .ok (.iload_n 3, 1) := by decide +kernel
theorem dX12_findChoices_39 : decode cX12_findChoices 39 = .ok (.ifCond .lt 92, 3) := by decide +kernel
theorem dX12_findChoices_42 : decode cX12_findChoices 42 = .ok (.iload 4, 2) := by decide +kernel
theorem dX12_findChoices_44 : decode cX12_findChoices 44 = .ok (.iconst 3, 1) := by decide +kernel
theorem dX12_findChoices_45 : decode cX12_findChoices 45 = .ok (.iload_n 3, 1) := by decide +kernel
theorem dX12_findChoices_46 : decode cX12_findChoices 46 = .ok (.imul, 1) := by decide +kernel
theorem dX12_findChoices_47 : decode cX12_findChoices 47 = .ok (.aload_n 0, 1) := by decide +kernel
theorem dX12_findChoices_48 : decode cX12_findChoices 48 = .ok (.getfield 19, 3) := by decide +kernel
theorem dX12_findChoices_51 : decode cX12_findChoices 51 = .ok (.iload_n 3, 1) := by decide +kernel
theorem dX12_findChoices_52 : decode cX12_findChoices 52 = .ok (.iaload, 1) := by decide +kernel
theorem dX12_findChoices_53 : decode cX12_findChoices 53 = .ok (.iadd, 1) := by decide +kernel
theorem dX12_findChoices_54 : decode cX12_findChoices 54 = .ok (.if_icmp .ge 77, 3) := by decide +kernel
theorem dX12_findChoices_57 : decode cX12_findChoices 57 = .ok (.bipush 6, 2) := by decide +kernel
theorem dX12_findChoices_59 : decode cX12_findChoices 59 = .ok (.iload 4, 2) := by decide +kernel
theorem dX12_findChoices_61 : decode cX12_findChoices 61 = .ok (.imul, 1) := by decide +kernel
theorem dX12_findChoices_62 : decode cX12_findChoices 62 = .ok (.istore 5, 2) := by decide +kernel
theorem dX12_findChoices_64 : decode cX12_findChoices 64 = .ok (.iload 5, 2) := by decide +kernel
theorem dX12_findChoices_66 : decode cX12_findChoices 66 = .ok (.bipush 6, 2) := by decide +kernel
theorem dX12_findChoices_68 : decode cX12_findChoices 68 = .ok (.iload 4, 2) := by decide +kernel
theorem dX12_findChoices_70 : decode cX12_findChoices 70 = .ok (.imul, 1) := by decide +kernel
theorem dX12_findChoices_71 : decode cX12_findChoices 71 = .ok (.aload_n 0, 1) := by decide +kernel
theorem dX12_findChoices_72 : decode cX12_findChoices 72 = .ok (.getfield 25, 3) := by decide +kernel
theorem dX12_findChoices_75 : decode cX12_findChoices 75 = .ok (.iload 4, 2) := by decide +kernel
theorem dX12_findChoices_77 : decode cX12_findChoices 77 = .ok (.iaload, 1) := by decide +kernel
theorem dX12_findChoices_78 : decode cX12_findChoices 78 = .ok (.iadd, 1) := by decide +kernel
theorem dX12_findChoices_79 : decode cX12_findChoices 79 = .ok (.if_icmp .ge 46, 3) := by decide +kernel
theorem dX12_findChoices_82 : decode cX12_findChoices 82 = .ok (.aload_n 0, 1) := by decide +kernel
theorem dX12_findChoices_83 : decode cX12_findChoices 83 = .ok (.iload 5, 2) := by decide +kernel
theorem dX12_findChoices_85 : decode cX12_findChoices 85 = .ok (.invokevirtual 171, 3) := by decide +kernel
theorem dX12_findChoices_88 : decode cX12_findChoices 88 = .ok (.ifCond .eq 31, 3) := by decide +kernel
theorem dX12_findChoices_91 : decode cX12_findChoices 91 = .ok (.aload_n 0, 1) := by decide +kernel
theorem dX12_findChoices_92 : decode cX12_findChoices 92 = .ok (.getfield 86, 3) := by decide +kernel
theorem dX12_findChoices_95 : decode cX12_findChoices 95 = .ok (.bipush 18, 2) := by decide +kernel
theorem dX12_findChoices_97 : decode cX12_findChoices 97 = .ok (.iload_n 2, 1) := by decide +kernel
theorem dX12_findChoices_98 : decode cX12_findChoices 98 = .ok (.imul, 1) := by decide +kernel
theorem dX12_findChoices_99 : decode cX12_findChoices 99 = .ok (.aload_n 0, 1) := by decide +kernel
theorem dX12_findChoices_100 : decode cX12_findChoices 100 = .ok (.getfield 83, 3) := by decide +kernel
theorem dX12_findChoices_103 : decode cX12_findChoices 103 = .ok (.iload_n 2, 1) := by decide +kernel
theorem dX12_findChoices_104 : decode cX12_findChoices 104 = .ok (.iaload, 1) := by decide +kernel
theorem dX12_findChoices_105 : decode cX12_findChoices 105 = .ok (.iadd, 1) := by decide +kernel
theorem dX12_findChoices_106 : decode cX12_findChoices 106 = .ok (.iload 5, 2) := by decide +kernel
theorem dX12_findChoices_108 : decode cX12_findChoices 108 = .ok (.iastore, 1) := by decide +kernel
theorem dX12_findChoices_109 : decode cX12_findChoices 109 = .ok (.aload_n 0, 1) := by decide +kernel
theorem dX12_findChoices_110 : decode cX12_findChoices 110 = .ok (.getfield 83, 3) := by decide +kernel
theorem dX12_findChoices_113 : decode cX12_findChoices 113 = .ok (.iload_n 2, 1) := by decide +kernel
theorem dX12_findChoices_114 : decode cX12_findChoices 114 = .ok (.dup2, 1) := by decide +kernel
theorem dX12_findChoices_115 : decode cX12_findChoices 115 = .ok (.iaload, 1) := by decide +kernel
theorem dX12_findChoices_116 : decode cX12_findChoices 116 = .ok (.iconst 1, 1) := by decide +kernel
theorem dX12_findChoices_117 : decode cX12_findChoices 117 = .ok (.iadd, 1) := by decide +kernel
theorem dX12_findChoices_118 : decode cX12_findChoices 118 = .ok (.iastore, 1) := by decide +kernel
theorem dX12_findChoices_119 : decode cX12_findChoices 119 = .ok (.iinc 5 1, 3) := by decide +kernel
theorem dX12_findChoices_122 : decode cX12_findChoices 122 = .ok (.goto (-58), 3) := by decide +kernel
theorem dX12_findChoices_125 : decode cX12_findChoices 125 = .ok (.iinc 4 1, 3) := by decide +kernel
theorem dX12_findChoices_128 : decode cX12_findChoices 128 = .ok (.goto (-90), 3) := by decide +kernel
theorem dX12_findChoices_131 : decode cX12_findChoices 131 = .ok (.iinc 2 1, 3) := by decide +kernel
theorem dX12_findChoices_134 : decode cX12_findChoices 134 = .ok (.goto (-132), 3) := by decide +kernel
theorem dX12_findChoices_137 : decode cX12_findChoices 137 = .ok (.return_, 1) := by decide +kernel
theorem dX12_from_0 : decode cX12_from 0 = .ok (.iload_n 2, 1) := by decide +kernel
theorem dX12_from_1 : decode cX12_from 1 = .ok (.aload_n 0, 1) := by decide +kernel
theorem dX12_from_2 : decode cX12_from 2 = .ok (.getfield 165, 3) := by decide +kernel
theorem dX12_from_5 : decode cX12_from 5 = .ok (.iconst 1, 1) := by decide +kernel
theorem dX12_from_6 : decode cX12_from 6 = .ok (.isub, 1) := by decide +kernel
theorem dX12_from_7 : decode cX12_from 7 = .ok (.if_icmp .ne 5, 3) := by decide +kernel
theorem dX12_from_10 : decode cX12_from 10 = .ok (.iconst 0, 1) := by decide +kernel
theorem dX12_from_11 : decode cX12_from 11 = .ok (.ireturn, 1) := by decide +kernel
theorem dX12_from_12 : decode cX12_from 12 = .ok (.iconst 0, 1) := by decide +kernel
theorem dX12_from_13 : decode cX12_from 13 = .ok (.istore 4, 2) := by decide +kernel
theorem dX12_from_15 : decode cX12_from 15 = .ok (.iconst 0, 1) := by decide +kernel
theorem dX12_from_16 : decode cX12_from 16 = .ok (.istore 5, 2) := by decide +kernel
theorem dX12_from_18 : decode cX12_from 18 = .ok (.iload 5, 2) := by decide +kernel
theorem dX12_from_20 : decode cX12_from 20 = .ok (.aload_n 0, 1) := by decide +kernel
theorem dX12_from_21 : decode cX12_from 21 = .ok (.getfield 83, 3) := by decide +kernel
theorem dX12_from_24 : decode cX12_from 24 = .ok (.iload_n 2, 1) := by decide +kernel
theorem dX12_from_25 : decode cX12_from 25 = .ok (.iconst 1, 1) := by decide +kernel
theorem dX12_from_26 : decode cX12_from 26 = .ok (.iadd, 1) := by decide +kernel
theorem dX12_from_27 : decode cX12_from 27 = .ok (.iaload, 1) := by decide +kernel
theorem dX12_from_28 : decode cX12_from 28 = .ok (.ifCond .ne 7, 3) := by decide +kernel
theorem dX12_from_31 : decode cX12_from 31 = .ok (.iconst 1, 1) := by decide +kernel
theorem dX12_from_32 : decode cX12_from 32 = .ok (.goto 11, 3) := by decide +kernel
theorem dX12_from_35 : decode cX12_from 35 = .ok (.aload_n 0, 1) := by decide +kernel
theorem dX12_from_36 : decode cX12_from 36 = .ok (.getfield 83, 3) := by decide +kernel
theorem dX12_from_39 : decode cX12_from 39 = .ok (.iload_n 2, 1) := by decide +kernel
theorem dX12_from_40 : decode cX12_from 40 = .ok (.iconst 1, 1) := by decide +kernel
theorem dX12_from_41 : decode cX12_from 41 = .ok (.iadd, 1) := by decide +kernel
theorem dX12_from_42 : decode cX12_from 42 = .ok (.iaload, 1) := by decide +kernel
theorem dX12_from_43 : decode cX12_from 43 = .ok (.if_icmp .ge 108, 3) := by decide +kernel
theorem dX12_from_46 : decode cX12_from 46 = .ok (.aload_n 0, 1) := by decide +kernel
theorem dX12_from_47 : decode cX12_from 47 = .ok (.getfield 83, 3) := by decide +kernel
theorem dX12_from_50 : decode cX12_from 50 = .ok (.iload_n 2, 1) := by decide +kernel
theorem dX12_from_51 : decode cX12_from 51 = .ok (.iaload, 1) := by decide +kernel
theorem dX12_from_52 : decode cX12_from 52 = .ok (.ifCond .le 18, 3) := by decide +kernel
theorem dX12_from_55 : decode cX12_from 55 = .ok (.aload_n 0, 1) := by decide +kernel
theorem dX12_from_56 : decode cX12_from 56 = .ok (.getfield 83, 3) := by decide +kernel
theorem dX12_from_59 : decode cX12_from 59 = .ok (.iload_n 2, 1) := by decide +kernel
theorem dX12_from_60 : decode cX12_from 60 = .ok (.iconst 1, 1) := by decide +kernel
theorem dX12_from_61 : decode cX12_from 61 = .ok (.iadd, 1) := by decide +kernel
theorem dX12_from_62 : decode cX12_from 62 = .ok (.iaload, 1) := by decide +kernel
theorem dX12_from_63 : decode cX12_from 63 = .ok (.ifCond .le 7, 3) := by decide +kernel
theorem dX12_from_66 : decode cX12_from 66 = .ok (.iconst 1, 1) := by decide +kernel
theorem dX12_from_67 : decode cX12_from 67 = .ok (.goto 4, 3) := by decide +kernel
theorem dX12_from_70 : decode cX12_from 70 = .ok (.iconst 0, 1) := by decide +kernel
theorem dX12_from_71 : decode cX12_from 71 = .ok (.istore 6, 2) := by decide +kernel
theorem dX12_from_73 : decode cX12_from 73 = .ok (.aload_n 0, 1) := by decide +kernel
theorem dX12_from_74 : decode cX12_from 74 = .ok (.getfield 89, 3) := by decide +kernel
theorem dX12_from_77 : decode cX12_from 77 = .ok (.bipush 18, 2) := by decide +kernel
theorem dX12_from_79 : decode cX12_from 79 = .ok (.iload_n 2, 1) := by decide +kernel
theorem dX12_from_80 : decode cX12_from 80 = .ok (.iconst 1, 1) := by decide +kernel
theorem dX12_from_81 : decode cX12_from 81 = .ok (.iadd, 1) := by decide +kernel
theorem dX12_from_82 : decode cX12_from 82 = .ok (.imul, 1) := by decide +kernel
theorem dX12_from_83 : decode cX12_from 83 = .ok (.iload 5, 2) := by decide +kernel
theorem dX12_from_85 : decode cX12_from 85 = .ok (.iadd, 1) := by decide +kernel
theorem dX12_from_86 : decode cX12_from 86 = .ok (.iaload, 1) := by decide +kernel
theorem dX12_from_87 : decode cX12_from 87 = .ok (.iload 6, 2) := by decide +kernel
theorem dX12_from_89 : decode cX12_from 89 = .ok (.ifCond .eq 36, 3) := by decide +kernel
theorem dX12_from_92 : decode cX12_from 92 = .ok (.aload_n 0, 1) := by decide +kernel
theorem dX12_from_93 : decode cX12_from 93 = .ok (.iload_n 1, 1) := by decide +kernel
theorem dX12_from_94 : decode cX12_from 94 = .ok (.aload_n 0, 1) := by decide +kernel
theorem dX12_from_95 : decode cX12_from 95 = .ok (.getfield 86, 3) := by decide +kernel
theorem dX12_from_98 : decode cX12_from 98 = .ok (.bipush 18, 2) := by decide +kernel
theorem dX12_from_100 : decode cX12_from 100 = .ok (.iload_n 2, 1) := by decide +kernel
theorem dX12_from_101 : decode cX12_from 101 = .ok (.imul, 1) := by decide +kernel
theorem dX12_from_102 : decode cX12_from 102 = .ok (.iload_n 3, 1) := by decide +kernel
theorem dX12_from_103 : decode cX12_from 103 = .ok (.iadd, 1) := by decide +kernel
theorem dX12_from_104 : decode cX12_from 104 = .ok (.iaload, 1) := by decide +kernel
theorem dX12_from_105 : decode cX12_from 105 = .ok (.aload_n 0, 1) := by decide +kernel
theorem dX12_from_106 : decode cX12_from 106 = .ok (.getfield 86, 3) := by decide +kernel
theorem dX12_from_109 : decode cX12_from 109 = .ok (.bipush 18, 2) := by decide +kernel
theorem dX12_from_111 : decode cX12_from 111 = .ok (.iload_n 2, 1) := by decide +kernel
theorem dX12_from_112 : decode cX12_from 112 = .ok (.iconst 1, 1) := by decide +kernel
theorem dX12_from_113 : decode cX12_from 113 = .ok (.iadd, 1) := by decide +kernel
theorem dX12_from_114 : decode cX12_from 114 = .ok (.imul, 1) := by decide +kernel
theorem dX12_from_115 : decode cX12_from 115 = .ok (.iload 5, 2) := by decide +kernel
theorem dX12_from_117 : decode cX12_from 117 = .ok (.iadd, 1) := by decide +kernel
theorem dX12_from_118 : decode cX12_from 118 = .ok (.iaload, 1) := by decide +kernel
theorem dX12_from_119 : decode cX12_from 119 = .ok (.invokevirtual 260, 3) := by decide +kernel
theorem dX12_from_122 : decode cX12_from 122 = .ok (.goto 4, 3) := by decide +kernel
theorem dX12_from_125 : decode cX12_from 125 = .ok (.iconst 0, 1) := by decide +kernel
theorem dX12_from_126 : decode cX12_from 126 = .ok (.iadd, 1) := by decide +kernel
theorem dX12_from_127 : decode cX12_from 127 = .ok (.istore 7, 2) := by decide +kernel
theorem dX12_from_129 : decode cX12_from 129 = .ok (.iload 7, 2) := by decide +kernel
theorem dX12_from_131 : decode cX12_from 131 = .ok (.iload 4, 2) := by decide +kernel
theorem dX12_from_133 : decode cX12_from 133 = .ok (.if_icmp .le 8, 3) := by decide +kernel
theorem dX12_from_136 : decode cX12_from 136 = .ok (.iload 7, 2) := by decide +kernel
theorem dX12_from_138 : decode cX12_from 138 = .ok (.goto 5, 3) := by decide +kernel
theorem dX12_from_141 : decode cX12_from 141 = .ok (.iload 4, 2) := by decide +kernel
theorem dX12_from_143 : decode cX12_from 143 = .ok (.istore 4, 2) := by decide +kernel
theorem dX12_from_145 : decode cX12_from 145 = .ok (.iinc 5 1, 3) := by decide +kernel
theorem dX12_from_148 : decode cX12_from 148 = .ok (.goto (-130), 3) := by decide +kernel
theorem dX12_from_151 : decode cX12_from 151 = .ok (.iload 4, 2) := by decide +kernel
theorem dX12_from_153 : decode cX12_from 153 = .ok (.ireturn, 1) := by decide +kernel
theorem dX12_put_0 : decode cX12_put 0 = .ok (.iload_n 1, 1) := by decide +kernel
theorem dX12_put_1 : decode cX12_put 1 = .ok (.invokestatic 147, 3) := by decide +kernel
theorem dX12_put_4 : decode cX12_put 4 = .ok (.ifCond .ne 7, 3) := by decide +kernel
theorem dX12_put_7 : decode cX12_put 7 = .ok (.sipush (-1001), 3) := by decide +kernel
theorem dX12_put_10 : decode cX12_put 10 = .ok (.ireturn, 1) := by decide +kernel
theorem dX12_put_11 : decode cX12_put 11 = .ok (.iload_n 3, 1) := by decide +kernel
theorem dX12_put_12 : decode cX12_put 12 = .ok (.i2l, 1) := by decide +kernel
theorem dX12_put_13 : decode cX12_put 13 = .ok (.lconst 0, 1) := by decide +kernel
theorem dX12_put_14 : decode cX12_put 14 = .ok (.lconst 1, 1) := by decide +kernel
theorem dX12_put_15 : decode cX12_put 15 = .ok (.invokestatic 100, 3) := by decide +kernel
theorem dX12_put_18 : decode cX12_put 18 = .ok (.ifCond .ne 7, 3) := by decide +kernel
theorem dX12_put_21 : decode cX12_put 21 = .ok (.sipush (-1002), 3) := by decide +kernel
theorem dX12_put_24 : decode cX12_put 24 = .ok (.ireturn, 1) := by decide +kernel
theorem dX12_put_25 : decode cX12_put 25 = .ok (.aload_n 0, 1) := by decide +kernel
theorem dX12_put_26 : decode cX12_put 26 = .ok (.getfield 165, 3) := by decide +kernel
theorem dX12_put_29 : decode cX12_put 29 = .ok (.ifCond .eq 11, 3) := by decide +kernel
theorem dX12_put_32 : decode cX12_put 32 = .ok (.aload_n 0, 1) := by decide +kernel
theorem dX12_put_33 : decode cX12_put 33 = .ok (.getfield 254, 3) := by decide +kernel
theorem dX12_put_36 : decode cX12_put 36 = .ok (.iload_n 1, 1) := by decide +kernel
theorem dX12_put_37 : decode cX12_put 37 = .ok (.if_icmp .ne 7, 3) := by decide +kernel
theorem dX12_put_40 : decode cX12_put 40 = .ok (.sipush (-1003), 3) := by decide +kernel
theorem dX12_put_43 : decode cX12_put 43 = .ok (.ireturn, 1) := by decide +kernel
theorem dX12_put_44 : decode cX12_put 44 = .ok (.aload_n 0, 1) := by decide +kernel
theorem dX12_put_45 : decode cX12_put 45 = .ok (.iload_n 1, 1) := by decide +kernel
theorem dX12_put_46 : decode cX12_put 46 = .ok (.invokevirtual 263, 3) := by decide +kernel
theorem dX12_put_49 : decode cX12_put 49 = .ok (.aload_n 0, 1) := by decide +kernel
theorem dX12_put_50 : decode cX12_put 50 = .ok (.getfield 165, 3) := by decide +kernel
theorem dX12_put_53 : decode cX12_put 53 = .ok (.iconst 1, 1) := by decide +kernel
theorem dX12_put_54 : decode cX12_put 54 = .ok (.isub, 1) := by decide +kernel
theorem dX12_put_55 : decode cX12_put 55 = .ok (.istore 4, 2) := by decide +kernel
theorem dX12_put_57 : decode cX12_put 57 = .ok (.iload 4, 2) := by decide +kernel
theorem dX12_put_59 : decode cX12_put 59 = .ok (.ifCond .lt 66, 3) := by decide +kernel
theorem dX12_put_62 : decode cX12_put 62 = .ok (.iconst 0, 1) := by decide +kernel
theorem dX12_put_63 : decode cX12_put 63 = .ok (.istore 5, 2) := by decide +kernel
theorem dX12_put_65 : decode cX12_put 65 = .ok (.iload 5, 2) := by decide +kernel
theorem dX12_put_67 : decode cX12_put 67 = .ok (.aload_n 0, 1) := by decide +kernel
theorem dX12_put_68 : decode cX12_put 68 = .ok (.getfield 83, 3) := by decide +kernel
theorem dX12_put_71 : decode cX12_put 71 = .ok (.iload 4, 2) := by decide +kernel
theorem dX12_put_73 : decode cX12_put 73 = .ok (.iaload, 1) := by decide +kernel
theorem dX12_put_74 : decode cX12_put 74 = .ok (.ifCond .ne 7, 3) := by decide +kernel
theorem dX12_put_77 : decode cX12_put 77 = .ok (.iconst 1, 1) := by decide +kernel
theorem dX12_put_78 : decode cX12_put 78 = .ok (.goto 10, 3) := by decide +kernel
theorem dX12_put_81 : decode cX12_put 81 = .ok (.aload_n 0, 1) := by decide +kernel
theorem dX12_put_82 : decode cX12_put 82 = .ok (.getfield 83, 3) := by decide +kernel
theorem dX12_put_85 : decode cX12_put 85 = .ok (.iload 4, 2) := by decide +kernel
theorem dX12_put_87 : decode cX12_put 87 = .ok (.iaload, 1) := by decide +kernel
theorem dX12_put_88 : decode cX12_put 88 = .ok (.if_icmp .ge 31, 3) := by decide +kernel
theorem dX12_put_91 : decode cX12_put 91 = .ok (.aload_n 0, 1) := by decide +kernel
theorem dX12_put_92 : decode cX12_put 92 = .ok (.getfield 89, 3) := by decide +kernel
theorem dX12_put_95 : decode cX12_put 95 = .ok (.bipush 18, 2) := by decide +kernel
theorem dX12_put_97 : decode cX12_put 97 = .ok (.iload 4, 2) := by decide +kernel
theorem dX12_put_99 : decode cX12_put 99 = .ok (.imul, 1) := by decide +kernel
theorem dX12_put_100 : decode cX12_put 100 = .ok (.iload 5, 2) := by decide +kernel
theorem dX12_put_102 : decode cX12_put 102 = .ok (.iadd, 1) := by decide +kernel
theorem dX12_put_103 : decode cX12_put 103 = .ok (.aload_n 0, 1) := by decide +kernel
theorem dX12_put_104 : decode cX12_put 104 = .ok (.iload_n 1, 1) := by decide +kernel
theorem dX12_put_105 : decode cX12_put 105 = .ok (.iload 4, 2) := by decide +kernel
theorem dX12_put_107 : decode cX12_put 107 = .ok (.iload 5, 2) := by decide +kernel
theorem dX12_put_109 : decode cX12_put 109 = .ok (.invokevirtual 267, 3) := by decide +kernel
theorem dX12_put_112 : decode cX12_put 112 = .ok (.iastore, 1) := by decide +kernel
theorem dX12_put_113 : decode cX12_put 113 = .ok (.iinc 5 1, 3) := by decide +kernel
theorem dX12_put_116 : decode cX12_put 116 = .ok (.goto (-51), 3) := by decide +kernel
theorem dX12_put_119 : decode cX12_put 119 = .ok (.iinc 4 (-1), 3) := by decide +kernel
theorem dX12_put_122 : decode cX12_put 122 = .ok (.goto (-65), 3) := by decide +kernel
theorem dX12_put_125 : decode cX12_put 125 = .ok (.iconst 0, 1) := by decide +kernel
theorem dX12_put_126 : decode cX12_put 126 = .ok (.istore 4, 2) := by decide +kernel
theorem dX12_put_128 : decode cX12_put 128 = .ok (.iconst 0, 1) := by decide +kernel
theorem dX12_put_129 : decode cX12_put 129 = .ok (.istore 5, 2) := by decide +kernel
theorem dX12_put_131 : decode cX12_put 131 = .ok (.iload 5, 2) := by decide +kernel
theorem dX12_put_133 : decode cX12_put 133 = .ok (.aload_n 0, 1) := by decide +kernel
theorem dX12_put_134 : decode cX12_put 134 = .ok (.getfield 83, 3) := by decide +kernel
theorem dX12_put_137 : decode cX12_put 137 = .ok (.iconst 0, 1) := by decide +kernel
theorem dX12_put_138 : decode cX12_put 138 = .ok (.iaload, 1) := by decide +kernel
theorem dX12_put_139 : decode cX12_put 139 = .ok (.ifCond .ne 7, 3) := by decide +kernel
theorem dX12_put_142 : decode cX12_put 142 = .ok (.iconst 1, 1) := by decide +kernel
theorem dX12_put_143 : decode cX12_put 143 = .ok (.goto 9, 3) := by decide +kernel
theorem dX12_put_146 : decode cX12_put 146 = .ok (.aload_n 0, 1) := by decide +kernel
theorem dX12_put_147 : decode cX12_put 147 = .ok (.getfield 83, 3) := by decide +kernel
theorem dX12_put_150 : decode cX12_put 150 = .ok (.iconst 0, 1) := by decide +kernel
theorem dX12_put_151 : decode cX12_put 151 = .ok (.iaload, 1) := by decide +kernel
theorem dX12_put_152 : decode cX12_put 152 = .ok (.if_icmp .ge 35, 3) := by decide +kernel
theorem dX12_put_155 : decode cX12_put 155 = .ok (.aload_n 0, 1) := by decide +kernel
theorem dX12_put_156 : decode cX12_put 156 = .ok (.getfield 89, 3) := by decide +kernel
theorem dX12_put_159 : decode cX12_put 159 = .ok (.iload 5, 2) := by decide +kernel
theorem dX12_put_161 : decode cX12_put 161 = .ok (.iaload, 1) := by decide +kernel
theorem dX12_put_162 : decode cX12_put 162 = .ok (.iload 4, 2) := by decide +kernel
theorem dX12_put_164 : decode cX12_put 164 = .ok (.if_icmp .le 13, 3) := by decide +kernel
theorem dX12_put_167 : decode cX12_put 167 = .ok (.aload_n 0, 1) := by decide +kernel
theorem dX12_put_168 : decode cX12_put 168 = .ok (.getfield 89, 3) := by decide +kernel
theorem dX12_put_171 : decode cX12_put 171 = .ok (.iload 5, 2) := by decide +kernel
theorem dX12_put_173 : decode cX12_put 173 = .ok (.iaload, 1) := by decide +kernel
theorem dX12_put_174 : decode cX12_put 174 = .ok (.goto 5, 3) := by decide +kernel
theorem dX12_put_177 : decode cX12_put 177 = .ok (.iload 4, 2) := by decide +kernel
theorem dX12_put_179 : decode cX12_put 179 = .ok (.istore 4, 2) := by decide +kernel
theorem dX12_put_181 : decode cX12_put 181 = .ok (.iinc 5 1, 3) := by decide +kernel
theorem dX12_put_184 : decode cX12_put 184 = .ok (.goto (-53), 3) := by decide +kernel
theorem dX12_put_187 : decode cX12_put 187 = .ok (.iload_n 2, 1) := by decide +kernel
theorem dX12_put_188 : decode cX12_put 188 = .ok (.iconst (-1), 1) := by decide +kernel
theorem dX12_put_189 : decode cX12_put 189 = .ok (.if_icmp .ne 6, 3) := by decide +kernel
theorem dX12_put_192 : decode cX12_put 192 = .ok (.iload 4, 2) := by decide +kernel
theorem dX12_put_194 : decode cX12_put 194 = .ok (.ireturn, 1) := by decide +kernel
theorem dX12_put_195 : decode cX12_put 195 = .ok (.iload_n 2, 1) := by decide +kernel
theorem dX12_put_196 : decode cX12_put 196 = .ok (.i2l, 1) := by decide +kernel
theorem dX12_put_197 : decode cX12_put 197 = .ok (.lconst 0, 1) := by decide +kernel
theorem dX12_put_198 : decode cX12_put 198 = .ok (.aload_n 0, 1) := by decide +kernel
theorem dX12_put_199 : decode cX12_put 199 = .ok (.getfield 165, 3) := by decide +kernel
theorem dX12_put_202 : decode cX12_put 202 = .ok (.iconst 1, 1) := by decide +kernel
theorem dX12_put_203 : decode cX12_put 203 = .ok (.isub, 1) := by decide +kernel
theorem dX12_put_204 : decode cX12_put 204 = .ok (.i2l, 1) := by decide +kernel
theorem dX12_put_205 : decode cX12_put 205 = .ok (.invokestatic 100, 3) := by decide +kernel
theorem dX12_put_208 : decode cX12_put 208 = .ok (.ifCond .eq 12, 3) := by decide +kernel
theorem dX12_put_211 : decode cX12_put 211 = .ok (.aload_n 0, 1) := by decide +kernel
theorem dX12_put_212 : decode cX12_put 212 = .ok (.getfield 83, 3) := by decide +kernel
theorem dX12_put_215 : decode cX12_put 215 = .ok (.iload_n 2, 1) := by decide +kernel
theorem dX12_put_216 : decode cX12_put 216 = .ok (.iaload, 1) := by decide +kernel
theorem dX12_put_217 : decode cX12_put 217 = .ok (.ifCond .ne 5, 3) := by decide +kernel
theorem dX12_put_220 : decode cX12_put 220 = .ok (.iconst (-1), 1) := by decide +kernel
theorem dX12_put_221 : decode cX12_put 221 = .ok (.ireturn, 1) := by decide +kernel
theorem dX12_put_222 : decode cX12_put 222 = .ok (.iconst 0, 1) := by decide +kernel
theorem dX12_put_223 : decode cX12_put 223 = .ok (.istore 5, 2) := by decide +kernel
theorem dX12_put_225 : decode cX12_put 225 = .ok (.iload 4, 2) := by decide +kernel
theorem dX12_put_227 : decode cX12_put 227 = .ok (.istore 6, 2) := by decide +kernel
theorem dX12_put_229 : decode cX12_put 229 = .ok (.iconst 0, 1) := by decide +kernel
theorem dX12_put_230 : decode cX12_put 230 = .ok (.istore 7, 2) := by decide +kernel
theorem dX12_put_232 : decode cX12_put 232 = .ok (.iload 7, 2) := by decide +kernel
theorem dX12_put_234 : decode cX12_put 234 = .ok (.iload_n 2, 1) := by decide +kernel
theorem dX12_put_235 : decode cX12_put 235 = .ok (.if_icmp .gt 163, 3) := by decide +kernel
theorem dX12_put_238 : decode cX12_put 238 = .ok (.iconst 0, 1) := by decide +kernel
theorem dX12_put_239 : decode cX12_put 239 = .ok (.istore 8, 2) := by decide +kernel
theorem dX12_put_241 : decode cX12_put 241 = .ok (.iconst 0, 1) := by decide +kernel
theorem dX12_put_242 : decode cX12_put 242 = .ok (.istore 9, 2) := by decide +kernel
theorem dX12_put_244 : decode cX12_put 244 = .ok (.iload 9, 2) := by decide +kernel
theorem dX12_put_246 : decode cX12_put 246 = .ok (.ifCond .ne 127, 3) := by decide +kernel
theorem dX12_put_249 : decode cX12_put 249 = .ok (.iload 7, 2) := by decide +kernel
theorem dX12_put_251 : decode cX12_put 251 = .ok (.ifCond .le 29, 3) := by decide +kernel
theorem dX12_put_254 : decode cX12_put 254 = .ok (.aload_n 0, 1) := by decide +kernel
theorem dX12_put_255 : decode cX12_put 255 = .ok (.getfield 83, 3) := by decide +kernel
theorem dX12_put_258 : decode cX12_put 258 = .ok (.iload 7, 2) := by decide +kernel
theorem dX12_put_260 : decode cX12_put 260 = .ok (.iconst 1, 1) := by decide +kernel
theorem dX12_put_261 : decode cX12_put 261 = .ok (.isub, 1) := by decide +kernel
theorem dX12_put_262 : decode cX12_put 262 = .ok (.iaload, 1) := by decide +kernel
theorem dX12_put_263 : decode cX12_put 263 = .ok (.ifCond .le 17, 3) := by decide +kernel
theorem dX12_put_266 : decode cX12_put 266 = .ok (.aload_n 0, 1) := by decide +kernel
theorem dX12_put_267 : decode cX12_put 267 = .ok (.getfield 83, 3) := by decide +kernel
theorem dX12_put_270 : decode cX12_put 270 = .ok (.iload 7, 2) := by decide +kernel
theorem dX12_put_272 : decode cX12_put 272 = .ok (.iaload, 1) := by decide +kernel
theorem dX12_put_273 : decode cX12_put 273 = .ok (.ifCond .le 7, 3) := by decide +kernel
theorem dX12_put_276 : decode cX12_put 276 = .ok (.iconst 1, 1) := by decide +kernel
theorem dX12_put_277 : decode cX12_put 277 = .ok (.goto 4, 3) := by decide +kernel
theorem dX12_put_280 : decode cX12_put 280 = .ok (.iconst 0, 1) := by decide +kernel
theorem dX12_put_281 : decode cX12_put 281 = .ok (.istore 10, 2) := by decide +kernel
theorem dX12_put_283 : decode cX12_put 283 = .ok (.iload 10, 2) := by decide +kernel
theorem dX12_put_285 : decode cX12_put 285 = .ok (.ifCond .eq 39, 3) := by decide +kernel
theorem dX12_put_288 : decode cX12_put 288 = .ok (.aload_n 0, 1) := by decide +kernel
theorem dX12_put_289 : decode cX12_put 289 = .ok (.iload_n 1, 1) := by decide +kernel
theorem dX12_put_290 : decode cX12_put 290 = .ok (.aload_n 0, 1) := by decide +kernel
theorem dX12_put_291 : decode cX12_put 291 = .ok (.getfield 86, 3) := by decide +kernel
theorem dX12_put_294 : decode cX12_put 294 = .ok (.bipush 18, 2) := by decide +kernel
theorem dX12_put_296 : decode cX12_put 296 = .ok (.iload 7, 2) := by decide +kernel
theorem dX12_put_298 : decode cX12_put 298 = .ok (.iconst 1, 1) := by decide +kernel
theorem dX12_put_299 : decode cX12_put 299 = .ok (.isub, 1) := by decide +kernel
theorem dX12_put_300 : decode cX12_put 300 = .ok (.imul, 1) := by decide +kernel
theorem dX12_put_301 : decode cX12_put 301 = .ok (.iload 5, 2) := by decide +kernel
theorem dX12_put_303 : decode cX12_put 303 = .ok (.iadd, 1) := by decide +kernel
theorem dX12_put_304 : decode cX12_put 304 = .ok (.iaload, 1) := by decide +kernel
theorem dX12_put_305 : decode cX12_put 305 = .ok (.aload_n 0, 1) := by decide +kernel
theorem dX12_put_306 : decode cX12_put 306 = .ok (.getfield 86, 3) := by decide +kernel
theorem dX12_put_309 : decode cX12_put 309 = .ok (.bipush 18, 2) := by decide +kernel
theorem dX12_put_311 : decode cX12_put 311 = .ok (.iload 7, 2) := by decide +kernel
theorem dX12_put_313 : decode cX12_put 313 = .ok (.imul, 1) := by decide +kernel
theorem dX12_put_314 : decode cX12_put 314 = .ok (.iload 8, 2) := by decide +kernel
theorem dX12_put_316 : decode cX12_put 316 = .ok (.iadd, 1) := by decide +kernel
theorem dX12_put_317 : decode cX12_put 317 = .ok (.iaload, 1) := by decide +kernel
theorem dX12_put_318 : decode cX12_put 318 = .ok (.invokevirtual 260, 3) := by decide +kernel
theorem dX12_put_321 : decode cX12_put 321 = .ok (.goto 4, 3) := by decide +kernel
theorem dX12_put_324 : decode cX12_put 324 = .ok (.iconst 0, 1) := by decide +kernel
theorem dX12_put_325 : decode cX12_put 325 = .ok (.istore 11, 2) := by decide +kernel
theorem dX12_put_327 : decode cX12_put 327 = .ok (.aload_n 0, 1) := by decide +kernel
theorem dX12_put_328 : decode cX12_put 328 = .ok (.getfield 89, 3) := by decide +kernel
theorem dX12_put_331 : decode cX12_put 331 = .ok (.bipush 18, 2) := by decide +kernel
theorem dX12_put_333 : decode cX12_put 333 = .ok (.iload 7, 2) := by decide +kernel
theorem dX12_put_335 : decode cX12_put 335 = .ok (.imul, 1) := by decide +kernel
theorem dX12_put_336 : decode cX12_put 336 = .ok (.iload 8, 2) := by decide +kernel
theorem dX12_put_338 : decode cX12_put 338 = .ok (.iadd, 1) := by decide +kernel
theorem dX12_put_339 : decode cX12_put 339 = .ok (.iaload, 1) := by decide +kernel
theorem dX12_put_340 : decode cX12_put 340 = .ok (.iload 11, 2) := by decide +kernel
theorem dX12_put_342 : decode cX12_put 342 = .ok (.iadd, 1) := by decide +kernel
theorem dX12_put_343 : decode cX12_put 343 = .ok (.iload 6, 2) := by decide +kernel
theorem dX12_put_345 : decode cX12_put 345 = .ok (.if_icmp .ne 7, 3) := by decide +kernel
theorem dX12_put_348 : decode cX12_put 348 = .ok (.iconst 1, 1) := by decide +kernel
theorem dX12_put_349 : decode cX12_put 349 = .ok (.goto 4, 3) := by decide +kernel
theorem dX12_put_352 : decode cX12_put 352 = .ok (.iconst 0, 1) := by decide +kernel
theorem dX12_put_353 : decode cX12_put 353 = .ok (.istore 9, 2) := by decide +kernel
theorem dX12_put_355 : decode cX12_put 355 = .ok (.iload 8, 2) := by decide +kernel
theorem dX12_put_357 : decode cX12_put 357 = .ok (.iload 9, 2) := by decide +kernel
theorem dX12_put_359 : decode cX12_put 359 = .ok (.ifCond .eq 7, 3) := by decide +kernel
theorem dX12_put_362 : decode cX12_put 362 = .ok (.iconst 0, 1) := by decide +kernel
theorem dX12_put_363 : decode cX12_put 363 = .ok (.goto 4, 3) := by decide +kernel
theorem dX12_put_366 : decode cX12_put 366 = .ok (.iconst 1, 1) := by decide +kernel
theorem dX12_put_367 : decode cX12_put 367 = .ok (.iadd, 1) := by decide +kernel
theorem dX12_put_368 : decode cX12_put 368 = .ok (.istore 8, 2) := by decide +kernel
theorem dX12_put_370 : decode cX12_put 370 = .ok (.goto (-126), 3) := by decide +kernel
theorem dX12_put_373 : decode cX12_put 373 = .ok (.iload 8, 2) := by decide +kernel
theorem dX12_put_375 : decode cX12_put 375 = .ok (.istore 5, 2) := by decide +kernel
theorem dX12_put_377 : decode cX12_put 377 = .ok (.aload_n 0, 1) := by decide +kernel
theorem dX12_put_378 : decode cX12_put 378 = .ok (.getfield 89, 3) := by decide +kernel
theorem dX12_put_381 : decode cX12_put 381 = .ok (.bipush 18, 2) := by decide +kernel
theorem dX12_put_383 : decode cX12_put 383 = .ok (.iload 7, 2) := by decide +kernel
theorem dX12_put_385 : decode cX12_put 385 = .ok (.imul, 1) := by decide +kernel
theorem dX12_put_386 : decode cX12_put 386 = .ok (.iload 8, 2) := by decide +kernel
theorem dX12_put_388 : decode cX12_put 388 = .ok (.iadd, 1) := by decide +kernel
theorem dX12_put_389 : decode cX12_put 389 = .ok (.iaload, 1) := by decide +kernel
theorem dX12_put_390 : decode cX12_put 390 = .ok (.istore 6, 2) := by decide +kernel
theorem dX12_put_392 : decode cX12_put 392 = .ok (.iinc 7 1, 3) := by decide +kernel
theorem dX12_put_395 : decode cX12_put 395 = .ok (.goto (-163), 3) := by decide +kernel
theorem dX12_put_398 : decode cX12_put 398 = .ok (.aload_n 0, 1) := by decide +kernel
theorem dX12_put_399 : decode cX12_put 399 = .ok (.getfield 86, 3) := by decide +kernel
theorem dX12_put_402 : decode cX12_put 402 = .ok (.bipush 18, 2) := by decide +kernel
theorem dX12_put_404 : decode cX12_put 404 = .ok (.iload_n 2, 1) := by decide +kernel
theorem dX12_put_405 : decode cX12_put 405 = .ok (.imul, 1) := by decide +kernel
theorem dX12_put_406 : decode cX12_put 406 = .ok (.iload 5, 2) := by decide +kernel
theorem dX12_put_408 : decode cX12_put 408 = .ok (.iadd, 1) := by decide +kernel
theorem dX12_put_409 : decode cX12_put 409 = .ok (.iaload, 1) := by decide +kernel
theorem dX12_put_410 : decode cX12_put 410 = .ok (.istore 7, 2) := by decide +kernel
theorem dX12_put_412 : decode cX12_put 412 = .ok (.iload_n 3, 1) := by decide +kernel
theorem dX12_put_413 : decode cX12_put 413 = .ok (.ifCond .ne 13, 3) := by decide +kernel
theorem dX12_put_416 : decode cX12_put 416 = .ok (.aload_n 0, 1) := by decide +kernel
theorem dX12_put_417 : decode cX12_put 417 = .ok (.getfield 28, 3) := by decide +kernel
theorem dX12_put_420 : decode cX12_put 420 = .ok (.iload 7, 2) := by decide +kernel
theorem dX12_put_422 : decode cX12_put 422 = .ok (.iaload, 1) := by decide +kernel
theorem dX12_put_423 : decode cX12_put 423 = .ok (.goto 10, 3) := by decide +kernel
theorem dX12_put_426 : decode cX12_put 426 = .ok (.iload 7, 2) := by decide +kernel
theorem dX12_put_428 : decode cX12_put 428 = .ok (.bipush 6, 2) := by decide +kernel
theorem dX12_put_430 : decode cX12_put 430 = .ok (.idiv, 1) := by decide +kernel
theorem dX12_put_431 : decode cX12_put 431 = .ok (.iconst 3, 1) := by decide +kernel
theorem dX12_put_432 : decode cX12_put 432 = .ok (.irem, 1) := by decide +kernel
theorem dX12_put_433 : decode cX12_put 433 = .ok (.ireturn, 1) := by decide +kernel
theorem dX12_leads_0 : decode cX12_leads 0 = .ok (.iconst 0, 1) := by decide +kernel
theorem dX12_leads_1 : decode cX12_leads 1 = .ok (.istore_n 3, 1) := by decide +kernel
theorem dX12_leads_2 : decode cX12_leads 2 = .ok (.iconst 0, 1) := by decide +kernel
theorem dX12_leads_3 : decode cX12_leads 3 = .ok (.istore 4, 2) := by decide +kernel
theorem dX12_leads_5 : decode cX12_leads 5 = .ok (.iload 4, 2) := by decide +kernel
theorem dX12_leads_7 : decode cX12_leads 7 = .ok (.aload_n 0, 1) := by decide +kernel
theorem dX12_leads_8 : decode cX12_leads 8 = .ok (.getfield 153, 3) := by decide +kernel
theorem dX12_leads_11 : decode cX12_leads 11 = .ok (.if_icmp .ge 50, 3) := by decide +kernel
theorem dX12_leads_14 : decode cX12_leads 14 = .ok (.iload_n 3, 1) := by decide +kernel
theorem dX12_leads_15 : decode cX12_leads 15 = .ok (.ifCond .ne 34, 3) := by decide +kernel
theorem dX12_leads_18 : decode cX12_leads 18 = .ok (.aload_n 0, 1) := by decide +kernel
theorem dX12_leads_19 : decode cX12_leads 19 = .ok (.iload 4, 2) := by decide +kernel
theorem dX12_leads_21 : decode cX12_leads 21 = .ok (.invokevirtual 168, 3) := by decide +kernel
theorem dX12_leads_24 : decode cX12_leads 24 = .ok (.ifCond .eq 29, 3) := by decide +kernel
theorem dX12_leads_27 : decode cX12_leads 27 = .ok (.aload_n 0, 1) := by decide +kernel
theorem dX12_leads_28 : decode cX12_leads 28 = .ok (.getfield 7, 3) := by decide +kernel
theorem dX12_leads_31 : decode cX12_leads 31 = .ok (.iload 4, 2) := by decide +kernel
theorem dX12_leads_33 : decode cX12_leads 33 = .ok (.iaload, 1) := by decide +kernel
theorem dX12_leads_34 : decode cX12_leads 34 = .ok (.iload_n 1, 1) := by decide +kernel
theorem dX12_leads_35 : decode cX12_leads 35 = .ok (.if_icmp .ne 18, 3) := by decide +kernel
theorem dX12_leads_38 : decode cX12_leads 38 = .ok (.aload_n 0, 1) := by decide +kernel
theorem dX12_leads_39 : decode cX12_leads 39 = .ok (.getfield 13, 3) := by decide +kernel
theorem dX12_leads_42 : decode cX12_leads 42 = .ok (.iload 4, 2) := by decide +kernel
theorem dX12_leads_44 : decode cX12_leads 44 = .ok (.iaload, 1) := by decide +kernel
theorem dX12_leads_45 : decode cX12_leads 45 = .ok (.iload_n 2, 1) := by decide +kernel
theorem dX12_leads_46 : decode cX12_leads 46 = .ok (.if_icmp .ne 7, 3) := by decide +kernel
theorem dX12_leads_49 : decode cX12_leads 49 = .ok (.iconst 1, 1) := by decide +kernel
theorem dX12_leads_50 : decode cX12_leads 50 = .ok (.goto 4, 3) := by decide +kernel
theorem dX12_leads_53 : decode cX12_leads 53 = .ok (.iconst 0, 1) := by decide +kernel
theorem dX12_leads_54 : decode cX12_leads 54 = .ok (.istore_n 3, 1) := by decide +kernel
theorem dX12_leads_55 : decode cX12_leads 55 = .ok (.iinc 4 1, 3) := by decide +kernel
theorem dX12_leads_58 : decode cX12_leads 58 = .ok (.goto (-53), 3) := by decide +kernel
theorem dX12_leads_61 : decode cX12_leads 61 = .ok (.iload_n 3, 1) := by decide +kernel
theorem dX12_leads_62 : decode cX12_leads 62 = .ok (.ireturn, 1) := by decide +kernel
theorem dX12_findChain_0 : decode cX12_findChain 0 = .ok (.aload_n 0, 1) := by decide +kernel
theorem dX12_findChain_1 : decode cX12_findChain 1 = .ok (.iconst 0, 1) := by decide +kernel
theorem dX12_findChain_2 : decode cX12_findChain 2 = .ok (.putfield 270, 3) := by decide +kernel
theorem dX12_findChain_5 : decode cX12_findChain 5 = .ok (.iconst 0, 1) := by decide +kernel
theorem dX12_findChain_6 : decode cX12_findChain 6 = .ok (.istore_n 3, 1) := by decide +kernel
theorem dX12_findChain_7 : decode cX12_findChain 7 = .ok (.iload_n 3, 1) := by decide +kernel
theorem dX12_findChain_8 : decode cX12_findChain 8 = .ok (.iconst 4, 1) := by decide +kernel
theorem dX12_findChain_9 : decode cX12_findChain 9 = .ok (.if_icmp .ge 199, 3) := by decide +kernel
theorem dX12_findChain_12 : decode cX12_findChain 12 = .ok (.iconst 0, 1) := by decide +kernel
theorem dX12_findChain_13 : decode cX12_findChain 13 = .ok (.istore 4, 2) := by decide +kernel
theorem dX12_findChain_15 : decode cX12_findChain 15 = .ok (.iload 4, 2) := by decide +kernel
theorem dX12_findChain_17 : decode cX12_findChain 17 = .ok (.iconst 4, 1) := by decide +kernel
theorem dX12_findChain_18 : decode cX12_findChain 18 = .ok (.if_icmp .ge 184, 3) := by decide +kernel
theorem dX12_findChain_21 : decode cX12_findChain 21 = .ok (.aload_n 0, 1) := by decide +kernel
theorem dX12_findChain_22 : decode cX12_findChain 22 = .ok (.iload_n 1, 1) := by decide +kernel
theorem dX12_findChain_23 : decode cX12_findChain 23 = .ok (.iload_n 2, 1) := by decide +kernel
theorem dX12_findChain_24 : decode cX12_findChain 24 = .ok (.invokevirtual 273, 3) := by decide +kernel
theorem dX12_findChain_27 : decode cX12_findChain 27 = .ok (.istore 5, 2) := by decide +kernel
theorem dX12_findChain_29 : decode cX12_findChain 29 = .ok (.aload_n 0, 1) := by decide +kernel
theorem dX12_findChain_30 : decode cX12_findChain 30 = .ok (.iload_n 1, 1) := by decide +kernel
theorem dX12_findChain_31 : decode cX12_findChain 31 = .ok (.iload_n 3, 1) := by decide +kernel
theorem dX12_findChain_32 : decode cX12_findChain 32 = .ok (.invokevirtual 273, 3) := by decide +kernel
theorem dX12_findChain_35 : decode cX12_findChain 35 = .ok (.ifCond .eq 16, 3) := by decide +kernel
theorem dX12_findChain_38 : decode cX12_findChain 38 = .ok (.aload_n 0, 1) := by decide +kernel
theorem dX12_findChain_39 : decode cX12_findChain 39 = .ok (.iload_n 3, 1) := by decide +kernel
theorem dX12_findChain_40 : decode cX12_findChain 40 = .ok (.iload_n 2, 1) := by decide +kernel
theorem dX12_findChain_41 : decode cX12_findChain 41 = .ok (.invokevirtual 273, 3) := by decide +kernel
theorem dX12_findChain_44 : decode cX12_findChain 44 = .ok (.ifCond .eq 7, 3) := by decide +kernel
theorem dX12_findChain_47 : decode cX12_findChain 47 = .ok (.iconst 1, 1) := by decide +kernel
theorem dX12_findChain_48 : decode cX12_findChain 48 = .ok (.goto 4, 3) := by decide +kernel
theorem dX12_findChain_51 : decode cX12_findChain 51 = .ok (.iconst 0, 1) := by decide +kernel
theorem dX12_findChain_52 : decode cX12_findChain 52 = .ok (.istore 6, 2) := by decide +kernel
theorem dX12_findChain_54 : decode cX12_findChain 54 = .ok (.aload_n 0, 1) := by decide +kernel
theorem dX12_findChain_55 : decode cX12_findChain 55 = .ok (.iload_n 1, 1) := by decide +kernel
theorem dX12_findChain_56 : decode cX12_findChain 56 = .ok (.iload_n 3, 1) := by decide +kernel
theorem dX12_findChain_57 : decode cX12_findChain 57 = .ok (.invokevirtual 273, 3) := by decide +kernel
theorem dX12_findChain_60 : decode cX12_findChain 60 = .ok (.ifCond .eq 27, 3) := by decide +kernel
theorem dX12_findChain_63 : decode cX12_findChain 63 = .ok (.aload_n 0, 1) := by decide +kernel
theorem dX12_findChain_64 : decode cX12_findChain 64 = .ok (.iload_n 3, 1) := by decide +kernel
theorem dX12_findChain_65 : decode cX12_findChain 65 = .ok (.iload 4, 2) := by decide +kernel
theorem dX12_findChain_67 : decode cX12_findChain 67 = .ok (.invokevirtual 273, 3) := by decide +kernel
theorem dX12_findChain_70 : decode cX12_findChain 70 = .ok (.ifCond .eq 17, 3) := by decide +kernel
theorem dX12_findChain_73 : decode cX12_findChain 73 = .ok (.aload_n 0, 1) := by decide +kernel
theorem dX12_findChain_74 : decode cX12_findChain 74 = .ok (.iload 4, 2) := by decide +kernel
theorem dX12_findChain_76 : decode cX12_findChain 76 = .ok (.iload_n 2, 1) := by decide +kernel
theorem dX12_findChain_77 : decode cX12_findChain 77 = .ok (.invokevirtual 273, 3) := by decide +kernel
theorem dX12_findChain_80 : decode cX12_findChain 80 = .ok (.ifCond .eq 7, 3) := by decide +kernel
theorem dX12_findChain_83 : decode cX12_findChain 83 = .ok (.iconst 1, 1) := by decide +kernel
theorem dX12_findChain_84 : decode cX12_findChain 84 = .ok (.goto 4, 3) := by decide +kernel
theorem dX12_findChain_87 : decode cX12_findChain 87 = .ok (.iconst 0, 1) := by decide +kernel
theorem dX12_findChain_88 : decode cX12_findChain 88 = .ok (.istore 7, 2) := by decide +kernel
theorem dX12_findChain_90 : decode cX12_findChain 90 = .ok (.iload 5, 2) := by decide +kernel
theorem dX12_findChain_92 : decode cX12_findChain 92 = .ok (.ifCond .eq 7, 3) := by decide +kernel
theorem dX12_findChain_95 : decode cX12_findChain 95 = .ok (.iconst 2, 1) := by decide +kernel
theorem dX12_findChain_96 : decode cX12_findChain 96 = .ok (.goto 22, 3) := by decide +kernel
theorem dX12_findChain_99 : decode cX12_findChain 99 = .ok (.iload 6, 2) := by decide +kernel
theorem dX12_findChain_101 : decode cX12_findChain 101 = .ok (.ifCond .eq 7, 3) := by decide +kernel
theorem dX12_findChain_104 : decode cX12_findChain 104 = .ok (.iconst 3, 1) := by decide +kernel
theorem dX12_findChain_105 : decode cX12_findChain 105 = .ok (.goto 13, 3) := by decide +kernel
theorem dX12_findChain_108 : decode cX12_findChain 108 = .ok (.iload 7, 2) := by decide +kernel
theorem dX12_findChain_110 : decode cX12_findChain 110 = .ok (.ifCond .eq 7, 3) := by decide +kernel
theorem dX12_findChain_113 : decode cX12_findChain 113 = .ok (.iconst 4, 1) := by decide +kernel
theorem dX12_findChain_114 : decode cX12_findChain 114 = .ok (.goto 4, 3) := by decide +kernel
theorem dX12_findChain_117 : decode cX12_findChain 117 = .ok (.iconst 0, 1) := by decide +kernel
theorem dX12_findChain_118 : decode cX12_findChain 118 = .ok (.istore 8, 2) := by decide +kernel
theorem dX12_findChain_120 : decode cX12_findChain 120 = .ok (.iload 8, 2) := by decide +kernel
theorem dX12_findChain_122 : decode cX12_findChain 122 = .ok (.ifCond .le 74, 3) := by decide +kernel
theorem dX12_findChain_125 : decode cX12_findChain 125 = .ok (.aload_n 0, 1) := by decide +kernel
theorem dX12_findChain_126 : decode cX12_findChain 126 = .ok (.getfield 270, 3) := by decide +kernel
theorem dX12_findChain_129 : decode cX12_findChain 129 = .ok (.ifCond .eq 12, 3) := by decide +kernel
theorem dX12_findChain_132 : decode cX12_findChain 132 = .ok (.iload 8, 2) := by decide +kernel
theorem dX12_findChain_134 : decode cX12_findChain 134 = .ok (.aload_n 0, 1) := by decide +kernel
theorem dX12_findChain_135 : decode cX12_findChain 135 = .ok (.getfield 270, 3) := by decide +kernel
theorem dX12_findChain_138 : decode cX12_findChain 138 = .ok (.if_icmp .ge 58, 3) := by decide +kernel
theorem dX12_findChain_141 : decode cX12_findChain 141 = .ok (.aload_n 0, 1) := by decide +kernel
theorem dX12_findChain_142 : decode cX12_findChain 142 = .ok (.iload 8, 2) := by decide +kernel
theorem dX12_findChain_144 : decode cX12_findChain 144 = .ok (.putfield 270, 3) := by decide +kernel
theorem dX12_findChain_147 : decode cX12_findChain 147 = .ok (.aload_n 0, 1) := by decide +kernel
theorem dX12_findChain_148 : decode cX12_findChain 148 = .ok (.getfield 92, 3) := by decide +kernel
theorem dX12_findChain_151 : decode cX12_findChain 151 = .ok (.iconst 0, 1) := by decide +kernel
theorem dX12_findChain_152 : decode cX12_findChain 152 = .ok (.iload_n 1, 1) := by decide +kernel
theorem dX12_findChain_153 : decode cX12_findChain 153 = .ok (.iastore, 1) := by decide +kernel
theorem dX12_findChain_154 : decode cX12_findChain 154 = .ok (.aload_n 0, 1) := by decide +kernel
theorem dX12_findChain_155 : decode cX12_findChain 155 = .ok (.getfield 92, 3) := by decide +kernel
theorem dX12_findChain_158 : decode cX12_findChain 158 = .ok (.iconst 1, 1) := by decide +kernel
theorem dX12_findChain_159 : decode cX12_findChain 159 = .ok (.iload 8, 2) := by decide +kernel
theorem dX12_findChain_161 : decode cX12_findChain 161 = .ok (.iconst 2, 1) := by decide +kernel
theorem dX12_findChain_162 : decode cX12_findChain 162 = .ok (.if_icmp .ne 7, 3) := by decide +kernel
theorem dX12_findChain_165 : decode cX12_findChain 165 = .ok (.iload_n 2, 1) := by decide +kernel
theorem dX12_findChain_166 : decode cX12_findChain 166 = .ok (.goto 4, 3) := by decide +kernel
theorem dX12_findChain_169 : decode cX12_findChain 169 = .ok (.iload_n 3, 1) := by decide +kernel
theorem dX12_findChain_170 : decode cX12_findChain 170 = .ok (.iastore, 1) := by decide +kernel
theorem dX12_findChain_171 : decode cX12_findChain 171 = .ok (.aload_n 0, 1) := by decide +kernel
theorem dX12_findChain_172 : decode cX12_findChain 172 = .ok (.getfield 92, 3) := by decide +kernel
theorem dX12_findChain_175 : decode cX12_findChain 175 = .ok (.iconst 2, 1) := by decide +kernel
theorem dX12_findChain_176 : decode cX12_findChain 176 = .ok (.iload 8, 2) := by decide +kernel
theorem dX12_findChain_178 : decode cX12_findChain 178 = .ok (.iconst 3, 1) := by decide +kernel
theorem dX12_findChain_179 : decode cX12_findChain 179 = .ok (.if_icmp .ne 7, 3) := by decide +kernel
theorem dX12_findChain_182 : decode cX12_findChain 182 = .ok (.iload_n 2, 1) := by decide +kernel
theorem dX12_findChain_183 : decode cX12_findChain 183 = .ok (.goto 5, 3) := by decide +kernel
theorem dX12_findChain_186 : decode cX12_findChain 186 = .ok (.iload 4, 2) := by decide +kernel
theorem dX12_findChain_188 : decode cX12_findChain 188 = .ok (.iastore, 1) := by decide +kernel
theorem dX12_findChain_189 : decode cX12_findChain 189 = .ok (.aload_n 0, 1) := by decide +kernel
theorem dX12_findChain_190 : decode cX12_findChain 190 = .ok (.getfield 92, 3) := by decide +kernel
theorem dX12_findChain_193 : decode cX12_findChain 193 = .ok (.iconst 3, 1) := by decide +kernel
theorem dX12_findChain_194 : decode cX12_findChain 194 = .ok (.iload_n 2, 1) := by decide +kernel
theorem dX12_findChain_195 : decode cX12_findChain 195 = .ok (.iastore, 1) := by decide +kernel
theorem dX12_findChain_196 : decode cX12_findChain 196 = .ok (.iinc 4 1, 3) := by decide +kernel
theorem dX12_findChain_199 : decode cX12_findChain 199 = .ok (.goto (-184), 3) := by decide +kernel
theorem dX12_findChain_202 : decode cX12_findChain 202 = .ok (.iinc 3 1, 3) := by decide +kernel
theorem dX12_findChain_205 : decode cX12_findChain 205 = .ok (.goto (-198), 3) := by decide +kernel
theorem dX12_findChain_208 : decode cX12_findChain 208 = .ok (.return_, 1) := by decide +kernel
theorem dX12_chain_0 : decode cX12_chain 0 = .ok (.iload_n 1, 1) := by decide +kernel
theorem dX12_chain_1 : decode cX12_chain 1 = .ok (.invokestatic 147, 3) := by decide +kernel
theorem dX12_chain_4 : decode cX12_chain 4 = .ok (.ifCond .eq 10, 3) := by decide +kernel
theorem dX12_chain_7 : decode cX12_chain 7 = .ok (.iload_n 2, 1) := by decide +kernel
theorem dX12_chain_8 : decode cX12_chain 8 = .ok (.invokestatic 147, 3) := by decide +kernel
theorem dX12_chain_11 : decode cX12_chain 11 = .ok (.ifCond .ne 7, 3) := by decide +kernel
theorem dX12_chain_14 : decode cX12_chain 14 = .ok (.sipush (-1001), 3) := by decide +kernel
theorem dX12_chain_17 : decode cX12_chain 17 = .ok (.ireturn, 1) := by decide +kernel
theorem dX12_chain_18 : decode cX12_chain 18 = .ok (.iload_n 1, 1) := by decide +kernel
theorem dX12_chain_19 : decode cX12_chain 19 = .ok (.iload_n 2, 1) := by decide +kernel
theorem dX12_chain_20 : decode cX12_chain 20 = .ok (.if_icmp .ne 7, 3) := by decide +kernel
theorem dX12_chain_23 : decode cX12_chain 23 = .ok (.sipush (-1002), 3) := by decide +kernel
theorem dX12_chain_26 : decode cX12_chain 26 = .ok (.ireturn, 1) := by decide +kernel
theorem dX12_chain_27 : decode cX12_chain 27 = .ok (.aload_n 0, 1) := by decide +kernel
theorem dX12_chain_28 : decode cX12_chain 28 = .ok (.iload_n 1, 1) := by decide +kernel
theorem dX12_chain_29 : decode cX12_chain 29 = .ok (.iload_n 2, 1) := by decide +kernel
theorem dX12_chain_30 : decode cX12_chain 30 = .ok (.invokevirtual 277, 3) := by decide +kernel
theorem dX12_chain_33 : decode cX12_chain 33 = .ok (.iload_n 3, 1) := by decide +kernel
theorem dX12_chain_34 : decode cX12_chain 34 = .ok (.iconst (-1), 1) := by decide +kernel
theorem dX12_chain_35 : decode cX12_chain 35 = .ok (.if_icmp .ne 19, 3) := by decide +kernel
theorem dX12_chain_38 : decode cX12_chain 38 = .ok (.aload_n 0, 1) := by decide +kernel
theorem dX12_chain_39 : decode cX12_chain 39 = .ok (.getfield 270, 3) := by decide +kernel
theorem dX12_chain_42 : decode cX12_chain 42 = .ok (.ifCond .ne 7, 3) := by decide +kernel
theorem dX12_chain_45 : decode cX12_chain 45 = .ok (.iconst (-1), 1) := by decide +kernel
theorem dX12_chain_46 : decode cX12_chain 46 = .ok (.goto 7, 3) := by decide +kernel
theorem dX12_chain_49 : decode cX12_chain 49 = .ok (.aload_n 0, 1) := by decide +kernel
theorem dX12_chain_50 : decode cX12_chain 50 = .ok (.getfield 270, 3) := by decide +kernel
theorem dX12_chain_53 : decode cX12_chain 53 = .ok (.ireturn, 1) := by decide +kernel
theorem dX12_chain_54 : decode cX12_chain 54 = .ok (.iload_n 3, 1) := by decide +kernel
theorem dX12_chain_55 : decode cX12_chain 55 = .ok (.i2l, 1) := by decide +kernel
theorem dX12_chain_56 : decode cX12_chain 56 = .ok (.lconst 0, 1) := by decide +kernel
theorem dX12_chain_57 : decode cX12_chain 57 = .ok (.aload_n 0, 1) := by decide +kernel
theorem dX12_chain_58 : decode cX12_chain 58 = .ok (.getfield 270, 3) := by decide +kernel
theorem dX12_chain_61 : decode cX12_chain 61 = .ok (.iconst 1, 1) := by decide +kernel
theorem dX12_chain_62 : decode cX12_chain 62 = .ok (.isub, 1) := by decide +kernel
theorem dX12_chain_63 : decode cX12_chain 63 = .ok (.i2l, 1) := by decide +kernel
theorem dX12_chain_64 : decode cX12_chain 64 = .ok (.invokestatic 100, 3) := by decide +kernel
theorem dX12_chain_67 : decode cX12_chain 67 = .ok (.ifCond .eq 12, 3) := by decide +kernel
theorem dX12_chain_70 : decode cX12_chain 70 = .ok (.aload_n 0, 1) := by decide +kernel
theorem dX12_chain_71 : decode cX12_chain 71 = .ok (.getfield 92, 3) := by decide +kernel
theorem dX12_chain_74 : decode cX12_chain 74 = .ok (.iload_n 3, 1) := by decide +kernel
theorem dX12_chain_75 : decode cX12_chain 75 = .ok (.iaload, 1) := by decide +kernel
theorem dX12_chain_76 : decode cX12_chain 76 = .ok (.goto 4, 3) := by decide +kernel
theorem dX12_chain_79 : decode cX12_chain 79 = .ok (.iconst (-1), 1) := by decide +kernel
theorem dX12_chain_80 : decode cX12_chain 80 = .ok (.ireturn, 1) := by decide +kernel
theorem dX12_hasSome_0 : decode cX12_hasSome 0 = .ok (.iconst 0, 1) := by decide +kernel
theorem dX12_hasSome_1 : decode cX12_hasSome 1 = .ok (.istore_n 3, 1) := by decide +kernel
theorem dX12_hasSome_2 : decode cX12_hasSome 2 = .ok (.iconst 0, 1) := by decide +kernel
theorem dX12_hasSome_3 : decode cX12_hasSome 3 = .ok (.istore 4, 2) := by decide +kernel
theorem dX12_hasSome_5 : decode cX12_hasSome 5 = .ok (.iload 4, 2) := by decide +kernel

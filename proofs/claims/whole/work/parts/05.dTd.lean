theorem d_Mo_init_0 : decode m_Mo_init.2.1 0 = .ok (.aload_n 0, 1) := by decide +kernel
theorem d_Mo_init_1 : decode m_Mo_init.2.1 1 = .ok (.invokespecial 1, 3) := by decide +kernel
theorem d_Mo_init_4 : decode m_Mo_init.2.1 4 = .ok (.aload_n 0, 1) := by decide +kernel
theorem d_Mo_init_5 : decode m_Mo_init.2.1 5 = .ok (.bipush 30, 2) := by decide +kernel
theorem d_Mo_init_7 : decode m_Mo_init.2.1 7 = .ok (.newarray .int, 2) := by decide +kernel
theorem d_Mo_init_9 : decode m_Mo_init.2.1 9 = .ok (.putfield 7, 3) := by decide +kernel
theorem d_Mo_init_12 : decode m_Mo_init.2.1 12 = .ok (.aload_n 0, 1) := by decide +kernel
theorem d_Mo_init_13 : decode m_Mo_init.2.1 13 = .ok (.bipush 30, 2) := by decide +kernel
theorem d_Mo_init_15 : decode m_Mo_init.2.1 15 = .ok (.newarray .int, 2) := by decide +kernel
theorem d_Mo_init_17 : decode m_Mo_init.2.1 17 = .ok (.putfield 13, 3) := by decide +kernel
theorem d_Mo_init_20 : decode m_Mo_init.2.1 20 = .ok (.aload_n 0, 1) := by decide +kernel
theorem d_Mo_init_21 : decode m_Mo_init.2.1 21 = .ok (.bipush 30, 2) := by decide +kernel
theorem d_Mo_init_23 : decode m_Mo_init.2.1 23 = .ok (.newarray .int, 2) := by decide +kernel
theorem d_Mo_init_25 : decode m_Mo_init.2.1 25 = .ok (.putfield 16, 3) := by decide +kernel
theorem d_Mo_init_28 : decode m_Mo_init.2.1 28 = .ok (.aload_n 0, 1) := by decide +kernel
theorem d_Mo_init_29 : decode m_Mo_init.2.1 29 = .ok (.bipush 30, 2) := by decide +kernel
theorem d_Mo_init_31 : decode m_Mo_init.2.1 31 = .ok (.newarray .int, 2) := by decide +kernel
theorem d_Mo_init_33 : decode m_Mo_init.2.1 33 = .ok (.putfield 19, 3) := by decide +kernel
theorem d_Mo_init_36 : decode m_Mo_init.2.1 36 = .ok (.aload_n 0, 1) := by decide +kernel
theorem d_Mo_init_37 : decode m_Mo_init.2.1 37 = .ok (.bipush 24, 2) := by decide +kernel
theorem d_Mo_init_39 : decode m_Mo_init.2.1 39 = .ok (.newarray .int, 2) := by decide +kernel
theorem d_Mo_init_41 : decode m_Mo_init.2.1 41 = .ok (.putfield 22, 3) := by decide +kernel
theorem d_Mo_init_44 : decode m_Mo_init.2.1 44 = .ok (.aload_n 0, 1) := by decide +kernel
theorem d_Mo_init_45 : decode m_Mo_init.2.1 45 = .ok (.sipush 144, 3) := by decide +kernel
theorem d_Mo_init_48 : decode m_Mo_init.2.1 48 = .ok (.newarray .int, 2) := by decide +kernel
theorem d_Mo_init_50 : decode m_Mo_init.2.1 50 = .ok (.putfield 25, 3) := by decide +kernel
theorem d_Mo_init_53 : decode m_Mo_init.2.1 53 = .ok (.aload_n 0, 1) := by decide +kernel
theorem d_Mo_init_54 : decode m_Mo_init.2.1 54 = .ok (.bipush 12, 2) := by decide +kernel
theorem d_Mo_init_56 : decode m_Mo_init.2.1 56 = .ok (.newarray .int, 2) := by decide +kernel
theorem d_Mo_init_58 : decode m_Mo_init.2.1 58 = .ok (.putfield 28, 3) := by decide +kernel
theorem d_Mo_init_61 : decode m_Mo_init.2.1 61 = .ok (.aload_n 0, 1) := by decide +kernel
theorem d_Mo_init_62 : decode m_Mo_init.2.1 62 = .ok (.bipush 12, 2) := by decide +kernel
theorem d_Mo_init_64 : decode m_Mo_init.2.1 64 = .ok (.newarray .int, 2) := by decide +kernel
theorem d_Mo_init_66 : decode m_Mo_init.2.1 66 = .ok (.putfield 31, 3) := by decide +kernel
theorem d_Mo_init_69 : decode m_Mo_init.2.1 69 = .ok (.aload_n 0, 1) := by decide +kernel
theorem d_Mo_init_70 : decode m_Mo_init.2.1 70 = .ok (.iconst 3, 1) := by decide +kernel
theorem d_Mo_init_71 : decode m_Mo_init.2.1 71 = .ok (.putfield 34, 3) := by decide +kernel
theorem d_Mo_init_74 : decode m_Mo_init.2.1 74 = .ok (.aload_n 0, 1) := by decide +kernel
theorem d_Mo_init_75 : decode m_Mo_init.2.1 75 = .ok (.bipush 12, 2) := by decide +kernel
theorem d_Mo_init_77 : decode m_Mo_init.2.1 77 = .ok (.newarray .int, 2) := by decide +kernel
theorem d_Mo_init_79 : decode m_Mo_init.2.1 79 = .ok (.putfield 38, 3) := by decide +kernel
theorem d_Mo_init_82 : decode m_Mo_init.2.1 82 = .ok (.aload_n 0, 1) := by decide +kernel
theorem d_Mo_init_83 : decode m_Mo_init.2.1 83 = .ok (.bipush 48, 2) := by decide +kernel
theorem d_Mo_init_85 : decode m_Mo_init.2.1 85 = .ok (.newarray .int, 2) := by decide +kernel
theorem d_Mo_init_87 : decode m_Mo_init.2.1 87 = .ok (.putfield 41, 3) := by decide +kernel
theorem d_Mo_init_90 : decode m_Mo_init.2.1 90 = .ok (.aload_n 0, 1) := by decide +kernel
theorem d_Mo_init_91 : decode m_Mo_init.2.1 91 = .ok (.sipush 768, 3) := by decide +kernel
theorem d_Mo_init_94 : decode m_Mo_init.2.1 94 = .ok (.newarray .int, 2) := by decide +kernel
theorem d_Mo_init_96 : decode m_Mo_init.2.1 96 = .ok (.putfield 44, 3) := by decide +kernel
theorem d_Mo_init_99 : decode m_Mo_init.2.1 99 = .ok (.aload_n 0, 1) := by decide +kernel
theorem d_Mo_init_100 : decode m_Mo_init.2.1 100 = .ok (.bipush 12, 2) := by decide +kernel
theorem d_Mo_init_102 : decode m_Mo_init.2.1 102 = .ok (.newarray .int, 2) := by decide +kernel
theorem d_Mo_init_104 : decode m_Mo_init.2.1 104 = .ok (.putfield 47, 3) := by decide +kernel
theorem d_Mo_init_107 : decode m_Mo_init.2.1 107 = .ok (.aload_n 0, 1) := by decide +kernel
theorem d_Mo_init_108 : decode m_Mo_init.2.1 108 = .ok (.getfield 7, 3) := by decide +kernel
theorem d_Mo_init_111 : decode m_Mo_init.2.1 111 = .ok (.iconst 0, 1) := by decide +kernel
theorem d_Mo_init_112 : decode m_Mo_init.2.1 112 = .ok (.bipush 32, 2) := by decide +kernel
theorem d_Mo_init_114 : decode m_Mo_init.2.1 114 = .ok (.iastore, 1) := by decide +kernel
theorem d_Mo_init_115 : decode m_Mo_init.2.1 115 = .ok (.aload_n 0, 1) := by decide +kernel
theorem d_Mo_init_116 : decode m_Mo_init.2.1 116 = .ok (.getfield 7, 3) := by decide +kernel
theorem d_Mo_init_119 : decode m_Mo_init.2.1 119 = .ok (.iconst 1, 1) := by decide +kernel
theorem d_Mo_init_120 : decode m_Mo_init.2.1 120 = .ok (.bipush 45, 2) := by decide +kernel
theorem d_Mo_init_122 : decode m_Mo_init.2.1 122 = .ok (.iastore, 1) := by decide +kernel
theorem d_Mo_init_123 : decode m_Mo_init.2.1 123 = .ok (.aload_n 0, 1) := by decide +kernel
theorem d_Mo_init_124 : decode m_Mo_init.2.1 124 = .ok (.getfield 13, 3) := by decide +kernel
theorem d_Mo_init_127 : decode m_Mo_init.2.1 127 = .ok (.iconst 0, 1) := by decide +kernel
theorem d_Mo_init_128 : decode m_Mo_init.2.1 128 = .ok (.iconst 1, 1) := by decide +kernel
theorem d_Mo_init_129 : decode m_Mo_init.2.1 129 = .ok (.iastore, 1) := by decide +kernel
theorem d_Mo_init_130 : decode m_Mo_init.2.1 130 = .ok (.aload_n 0, 1) := by decide +kernel
theorem d_Mo_init_131 : decode m_Mo_init.2.1 131 = .ok (.getfield 13, 3) := by decide +kernel
theorem d_Mo_init_134 : decode m_Mo_init.2.1 134 = .ok (.iconst 1, 1) := by decide +kernel
theorem d_Mo_init_135 : decode m_Mo_init.2.1 135 = .ok (.iconst 1, 1) := by decide +kernel
theorem d_Mo_init_136 : decode m_Mo_init.2.1 136 = .ok (.iastore, 1) := by decide +kernel
theorem d_Mo_init_137 : decode m_Mo_init.2.1 137 = .ok (.iconst 0, 1) := by decide +kernel
theorem d_Mo_init_138 : decode m_Mo_init.2.1 138 = .ok (.istore_n 1, 1) := by decide +kernel
theorem d_Mo_init_139 : decode m_Mo_init.2.1 139 = .ok (.iload_n 1, 1) := by decide +kernel
theorem d_Mo_init_140 : decode m_Mo_init.2.1 140 = .ok (.bipush 8, 2) := by decide +kernel
theorem d_Mo_init_142 : decode m_Mo_init.2.1 142 = .ok (.if_icmp .ge 59, 3) := by decide +kernel
theorem d_Mo_init_145 : decode m_Mo_init.2.1 145 = .ok (.aload_n 0, 1) := by decide +kernel
theorem d_Mo_init_146 : decode m_Mo_init.2.1 146 = .ok (.getfield 7, 3) := by decide +kernel
theorem d_Mo_init_149 : decode m_Mo_init.2.1 149 = .ok (.iconst 2, 1) := by decide +kernel
theorem d_Mo_init_150 : decode m_Mo_init.2.1 150 = .ok (.iconst 2, 1) := by decide +kernel
theorem d_Mo_init_151 : decode m_Mo_init.2.1 151 = .ok (.iload_n 1, 1) := by decide +kernel
theorem d_Mo_init_152 : decode m_Mo_init.2.1 152 = .ok (.imul, 1) := by decide +kernel
theorem d_Mo_init_153 : decode m_Mo_init.2.1 153 = .ok (.iadd, 1) := by decide +kernel
theorem d_Mo_init_154 : decode m_Mo_init.2.1 154 = .ok (.bipush 97, 2) := by decide +kernel
theorem d_Mo_init_156 : decode m_Mo_init.2.1 156 = .ok (.iload_n 1, 1) := by decide +kernel
theorem d_Mo_init_157 : decode m_Mo_init.2.1 157 = .ok (.iadd, 1) := by decide +kernel
theorem d_Mo_init_158 : decode m_Mo_init.2.1 158 = .ok (.iastore, 1) := by decide +kernel
theorem d_Mo_init_159 : decode m_Mo_init.2.1 159 = .ok (.aload_n 0, 1) := by decide +kernel
theorem d_Mo_init_160 : decode m_Mo_init.2.1 160 = .ok (.getfield 7, 3) := by decide +kernel
theorem d_Mo_init_163 : decode m_Mo_init.2.1 163 = .ok (.iconst 3, 1) := by decide +kernel
theorem d_Mo_init_164 : decode m_Mo_init.2.1 164 = .ok (.iconst 2, 1) := by decide +kernel
theorem d_Mo_init_165 : decode m_Mo_init.2.1 165 = .ok (.iload_n 1, 1) := by decide +kernel
theorem d_Mo_init_166 : decode m_Mo_init.2.1 166 = .ok (.imul, 1) := by decide +kernel
theorem d_Mo_init_167 : decode m_Mo_init.2.1 167 = .ok (.iadd, 1) := by decide +kernel
theorem d_Mo_init_168 : decode m_Mo_init.2.1 168 = .ok (.bipush 65, 2) := by decide +kernel
theorem d_Mo_init_170 : decode m_Mo_init.2.1 170 = .ok (.iload_n 1, 1) := by decide +kernel
theorem d_Mo_init_171 : decode m_Mo_init.2.1 171 = .ok (.iadd, 1) := by decide +kernel
theorem d_Mo_init_172 : decode m_Mo_init.2.1 172 = .ok (.iastore, 1) := by decide +kernel
theorem d_Mo_init_173 : decode m_Mo_init.2.1 173 = .ok (.aload_n 0, 1) := by decide +kernel
theorem d_Mo_init_174 : decode m_Mo_init.2.1 174 = .ok (.getfield 13, 3) := by decide +kernel
theorem d_Mo_init_177 : decode m_Mo_init.2.1 177 = .ok (.iconst 2, 1) := by decide +kernel
theorem d_Mo_init_178 : decode m_Mo_init.2.1 178 = .ok (.iconst 2, 1) := by decide +kernel
theorem d_Mo_init_179 : decode m_Mo_init.2.1 179 = .ok (.iload_n 1, 1) := by decide +kernel
theorem d_Mo_init_180 : decode m_Mo_init.2.1 180 = .ok (.imul, 1) := by decide +kernel
theorem d_Mo_init_181 : decode m_Mo_init.2.1 181 = .ok (.iadd, 1) := by decide +kernel
theorem d_Mo_init_182 : decode m_Mo_init.2.1 182 = .ok (.iconst 1, 1) := by decide +kernel
theorem d_Mo_init_183 : decode m_Mo_init.2.1 183 = .ok (.iastore, 1) := by decide +kernel
theorem d_Mo_init_184 : decode m_Mo_init.2.1 184 = .ok (.aload_n 0, 1) := by decide +kernel
theorem d_Mo_init_185 : decode m_Mo_init.2.1 185 = .ok (.getfield 13, 3) := by decide +kernel
theorem d_Mo_init_188 : decode m_Mo_init.2.1 188 = .ok (.iconst 3, 1) := by decide +kernel
theorem d_Mo_init_189 : decode m_Mo_init.2.1 189 = .ok (.iconst 2, 1) := by decide +kernel
theorem d_Mo_init_190 : decode m_Mo_init.2.1 190 = .ok (.iload_n 1, 1) := by decide +kernel
theorem d_Mo_init_191 : decode m_Mo_init.2.1 191 = .ok (.imul, 1) := by decide +kernel
theorem d_Mo_init_192 : decode m_Mo_init.2.1 192 = .ok (.iadd, 1) := by decide +kernel
theorem d_Mo_init_193 : decode m_Mo_init.2.1 193 = .ok (.iconst 3, 1) := by decide +kernel
theorem d_Mo_init_194 : decode m_Mo_init.2.1 194 = .ok (.iastore, 1) := by decide +kernel
theorem d_Mo_init_195 : decode m_Mo_init.2.1 195 = .ok (.iinc 1 1, 3) := by decide +kernel
theorem d_Mo_init_198 : decode m_Mo_init.2.1 198 = .ok (.goto (-59), 3) := by decide +kernel
theorem d_Mo_init_201 : decode m_Mo_init.2.1 201 = .ok (.aload_n 0, 1) := by decide +kernel
theorem d_Mo_init_202 : decode m_Mo_init.2.1 202 = .ok (.bipush 18, 2) := by decide +kernel
theorem d_Mo_init_204 : decode m_Mo_init.2.1 204 = .ok (.putfield 50, 3) := by decide +kernel
theorem d_Mo_init_207 : decode m_Mo_init.2.1 207 = .ok (.return_, 1) := by decide +kernel
theorem d_Mo_isLetter_0 : decode m_Mo_isLetter.2.1 0 = .ok (.iload_n 0, 1) := by decide +kernel
theorem d_Mo_isLetter_1 : decode m_Mo_isLetter.2.1 1 = .ok (.bipush 97, 2) := by decide +kernel
theorem d_Mo_isLetter_3 : decode m_Mo_isLetter.2.1 3 = .ok (.if_icmp .lt 9, 3) := by decide +kernel
theorem d_Mo_isLetter_6 : decode m_Mo_isLetter.2.1 6 = .ok (.iload_n 0, 1) := by decide +kernel
theorem d_Mo_isLetter_7 : decode m_Mo_isLetter.2.1 7 = .ok (.bipush 104, 2) := by decide +kernel
theorem d_Mo_isLetter_9 : decode m_Mo_isLetter.2.1 9 = .ok (.if_icmp .le 15, 3) := by decide +kernel
theorem d_Mo_isLetter_12 : decode m_Mo_isLetter.2.1 12 = .ok (.iload_n 0, 1) := by decide +kernel
theorem d_Mo_isLetter_13 : decode m_Mo_isLetter.2.1 13 = .ok (.bipush 65, 2) := by decide +kernel
theorem d_Mo_isLetter_15 : decode m_Mo_isLetter.2.1 15 = .ok (.if_icmp .lt 13, 3) := by decide +kernel
theorem d_Mo_isLetter_18 : decode m_Mo_isLetter.2.1 18 = .ok (.iload_n 0, 1) := by decide +kernel
theorem d_Mo_isLetter_19 : decode m_Mo_isLetter.2.1 19 = .ok (.bipush 72, 2) := by decide +kernel
theorem d_Mo_isLetter_21 : decode m_Mo_isLetter.2.1 21 = .ok (.if_icmp .gt 7, 3) := by decide +kernel
theorem d_Mo_isLetter_24 : decode m_Mo_isLetter.2.1 24 = .ok (.iconst 1, 1) := by decide +kernel
theorem d_Mo_isLetter_25 : decode m_Mo_isLetter.2.1 25 = .ok (.goto 4, 3) := by decide +kernel
theorem d_Mo_isLetter_28 : decode m_Mo_isLetter.2.1 28 = .ok (.iconst 0, 1) := by decide +kernel
theorem d_Mo_isLetter_29 : decode m_Mo_isLetter.2.1 29 = .ok (.ireturn, 1) := by decide +kernel
theorem d_Mo_isMark_0 : decode m_Mo_isMark.2.1 0 = .ok (.iload_n 0, 1) := by decide +kernel
theorem d_Mo_isMark_1 : decode m_Mo_isMark.2.1 1 = .ok (.bipush 49, 2) := by decide +kernel
theorem d_Mo_isMark_3 : decode m_Mo_isMark.2.1 3 = .ok (.if_icmp .lt 13, 3) := by decide +kernel
theorem d_Mo_isMark_6 : decode m_Mo_isMark.2.1 6 = .ok (.iload_n 0, 1) := by decide +kernel
theorem d_Mo_isMark_7 : decode m_Mo_isMark.2.1 7 = .ok (.bipush 52, 2) := by decide +kernel
theorem d_Mo_isMark_9 : decode m_Mo_isMark.2.1 9 = .ok (.if_icmp .gt 7, 3) := by decide +kernel
theorem d_Mo_isMark_12 : decode m_Mo_isMark.2.1 12 = .ok (.iconst 1, 1) := by decide +kernel
theorem d_Mo_isMark_13 : decode m_Mo_isMark.2.1 13 = .ok (.goto 4, 3) := by decide +kernel
theorem d_Mo_isMark_16 : decode m_Mo_isMark.2.1 16 = .ok (.iconst 0, 1) := by decide +kernel
theorem d_Mo_isMark_17 : decode m_Mo_isMark.2.1 17 = .ok (.ireturn, 1) := by decide +kernel
theorem d_Mo_classOf_0 : decode m_Mo_classOf.2.1 0 = .ok (.iload_n 0, 1) := by decide +kernel
theorem d_Mo_classOf_1 : decode m_Mo_classOf.2.1 1 = .ok (.bipush 51, 2) := by decide +kernel
theorem d_Mo_classOf_3 : decode m_Mo_classOf.2.1 3 = .ok (.if_icmp .ge 7, 3) := by decide +kernel
theorem d_Mo_classOf_6 : decode m_Mo_classOf.2.1 6 = .ok (.iconst 1, 1) := by decide +kernel
theorem d_Mo_classOf_7 : decode m_Mo_classOf.2.1 7 = .ok (.goto 4, 3) := by decide +kernel
theorem d_Mo_classOf_10 : decode m_Mo_classOf.2.1 10 = .ok (.iconst 2, 1) := by decide +kernel
theorem d_Mo_classOf_11 : decode m_Mo_classOf.2.1 11 = .ok (.ireturn, 1) := by decide +kernel
theorem d_Mo_isLine_0 : decode m_Mo_isLine.2.1 0 = .ok (.iload_n 1, 1) := by decide +kernel
theorem d_Mo_isLine_1 : decode m_Mo_isLine.2.1 1 = .ok (.ifCond .eq 8, 3) := by decide +kernel
theorem d_Mo_isLine_4 : decode m_Mo_isLine.2.1 4 = .ok (.iload_n 1, 1) := by decide +kernel
theorem d_Mo_isLine_5 : decode m_Mo_isLine.2.1 5 = .ok (.iconst 1, 1) := by decide +kernel
theorem d_Mo_isLine_6 : decode m_Mo_isLine.2.1 6 = .ok (.if_icmp .ne 7, 3) := by decide +kernel
theorem d_Mo_isLine_9 : decode m_Mo_isLine.2.1 9 = .ok (.iconst 1, 1) := by decide +kernel
theorem d_Mo_isLine_10 : decode m_Mo_isLine.2.1 10 = .ok (.goto 4, 3) := by decide +kernel
theorem d_Mo_isLine_13 : decode m_Mo_isLine.2.1 13 = .ok (.iconst 0, 1) := by decide +kernel
theorem d_Mo_isLine_14 : decode m_Mo_isLine.2.1 14 = .ok (.ireturn, 1) := by decide +kernel
theorem d_Mo_type_0 : decode m_Mo_type.2.1 0 = .ok (.iload_n 1, 1) := by decide +kernel
theorem d_Mo_type_1 : decode m_Mo_type.2.1 1 = .ok (.iconst 2, 1) := by decide +kernel
theorem d_Mo_type_2 : decode m_Mo_type.2.1 2 = .ok (.if_icmp .ne 48, 3) := by decide +kernel
theorem d_Mo_type_5 : decode m_Mo_type.2.1 5 = .ok (.aload_n 0, 1) := by decide +kernel
theorem d_Mo_type_6 : decode m_Mo_type.2.1 6 = .ok (.getfield 53, 3) := by decide +kernel
theorem d_Mo_type_9 : decode m_Mo_type.2.1 9 = .ok (.bipush 24, 2) := by decide +kernel
theorem d_Mo_type_11 : decode m_Mo_type.2.1 11 = .ok (.if_icmp .eq 15, 3) := by decide +kernel
theorem d_Mo_type_14 : decode m_Mo_type.2.1 14 = .ok (.iload_n 2, 1) := by decide +kernel
theorem d_Mo_type_15 : decode m_Mo_type.2.1 15 = .ok (.bipush 32, 2) := by decide +kernel
theorem d_Mo_type_17 : decode m_Mo_type.2.1 17 = .ok (.if_icmp .lt 9, 3) := by decide +kernel
theorem d_Mo_type_20 : decode m_Mo_type.2.1 20 = .ok (.iload_n 2, 1) := by decide +kernel
theorem d_Mo_type_21 : decode m_Mo_type.2.1 21 = .ok (.bipush 126, 2) := by decide +kernel
theorem d_Mo_type_23 : decode m_Mo_type.2.1 23 = .ok (.if_icmp .le 5, 3) := by decide +kernel
theorem d_Mo_type_26 : decode m_Mo_type.2.1 26 = .ok (.iconst 0, 1) := by decide +kernel
theorem d_Mo_type_27 : decode m_Mo_type.2.1 27 = .ok (.ireturn, 1) := by decide +kernel
theorem d_Mo_type_28 : decode m_Mo_type.2.1 28 = .ok (.aload_n 0, 1) := by decide +kernel
theorem d_Mo_type_29 : decode m_Mo_type.2.1 29 = .ok (.getfield 22, 3) := by decide +kernel
theorem d_Mo_type_32 : decode m_Mo_type.2.1 32 = .ok (.aload_n 0, 1) := by decide +kernel
theorem d_Mo_type_33 : decode m_Mo_type.2.1 33 = .ok (.getfield 53, 3) := by decide +kernel
theorem d_Mo_type_36 : decode m_Mo_type.2.1 36 = .ok (.iload_n 2, 1) := by decide +kernel
theorem d_Mo_type_37 : decode m_Mo_type.2.1 37 = .ok (.iastore, 1) := by decide +kernel
theorem d_Mo_type_38 : decode m_Mo_type.2.1 38 = .ok (.aload_n 0, 1) := by decide +kernel
theorem d_Mo_type_39 : decode m_Mo_type.2.1 39 = .ok (.dup, 1) := by decide +kernel
theorem d_Mo_type_40 : decode m_Mo_type.2.1 40 = .ok (.getfield 53, 3) := by decide +kernel
theorem d_Mo_type_43 : decode m_Mo_type.2.1 43 = .ok (.iconst 1, 1) := by decide +kernel
theorem d_Mo_type_44 : decode m_Mo_type.2.1 44 = .ok (.iadd, 1) := by decide +kernel
theorem d_Mo_type_45 : decode m_Mo_type.2.1 45 = .ok (.putfield 53, 3) := by decide +kernel
theorem d_Mo_type_48 : decode m_Mo_type.2.1 48 = .ok (.iconst 1, 1) := by decide +kernel
theorem d_Mo_type_49 : decode m_Mo_type.2.1 49 = .ok (.ireturn, 1) := by decide +kernel
theorem d_Mo_type_50 : decode m_Mo_type.2.1 50 = .ok (.iload_n 2, 1) := by decide +kernel
theorem d_Mo_type_51 : decode m_Mo_type.2.1 51 = .ok (.invokestatic 56, 3) := by decide +kernel
theorem d_Mo_type_54 : decode m_Mo_type.2.1 54 = .ok (.ifCond .ne 22, 3) := by decide +kernel
theorem d_Mo_type_57 : decode m_Mo_type.2.1 57 = .ok (.iload_n 2, 1) := by decide +kernel
theorem d_Mo_type_58 : decode m_Mo_type.2.1 58 = .ok (.invokestatic 60, 3) := by decide +kernel
theorem d_Mo_type_61 : decode m_Mo_type.2.1 61 = .ok (.ifCond .ne 15, 3) := by decide +kernel
theorem d_Mo_type_64 : decode m_Mo_type.2.1 64 = .ok (.iload_n 2, 1) := by decide +kernel
theorem d_Mo_type_65 : decode m_Mo_type.2.1 65 = .ok (.bipush 32, 2) := by decide +kernel
theorem d_Mo_type_67 : decode m_Mo_type.2.1 67 = .ok (.if_icmp .eq 9, 3) := by decide +kernel
theorem d_Mo_type_70 : decode m_Mo_type.2.1 70 = .ok (.iload_n 2, 1) := by decide +kernel
theorem d_Mo_type_71 : decode m_Mo_type.2.1 71 = .ok (.bipush 45, 2) := by decide +kernel
theorem d_Mo_type_73 : decode m_Mo_type.2.1 73 = .ok (.if_icmp .ne 7, 3) := by decide +kernel
theorem d_Mo_type_76 : decode m_Mo_type.2.1 76 = .ok (.iconst 1, 1) := by decide +kernel
theorem d_Mo_type_77 : decode m_Mo_type.2.1 77 = .ok (.goto 4, 3) := by decide +kernel
theorem d_Mo_type_80 : decode m_Mo_type.2.1 80 = .ok (.iconst 0, 1) := by decide +kernel
theorem d_Mo_type_81 : decode m_Mo_type.2.1 81 = .ok (.istore_n 3, 1) := by decide +kernel
theorem d_Mo_type_82 : decode m_Mo_type.2.1 82 = .ok (.aload_n 0, 1) := by decide +kernel
theorem d_Mo_type_83 : decode m_Mo_type.2.1 83 = .ok (.iload_n 1, 1) := by decide +kernel
theorem d_Mo_type_84 : decode m_Mo_type.2.1 84 = .ok (.invokevirtual 63, 3) := by decide +kernel
theorem d_Mo_type_87 : decode m_Mo_type.2.1 87 = .ok (.ifCond .eq 18, 3) := by decide +kernel
theorem d_Mo_type_90 : decode m_Mo_type.2.1 90 = .ok (.iload_n 3, 1) := by decide +kernel
theorem d_Mo_type_91 : decode m_Mo_type.2.1 91 = .ok (.ifCond .eq 14, 3) := by decide +kernel
theorem d_Mo_type_94 : decode m_Mo_type.2.1 94 = .ok (.aload_n 0, 1) := by decide +kernel
theorem d_Mo_type_95 : decode m_Mo_type.2.1 95 = .ok (.getfield 28, 3) := by decide +kernel
theorem d_Mo_type_98 : decode m_Mo_type.2.1 98 = .ok (.iload_n 1, 1) := by decide +kernel
theorem d_Mo_type_99 : decode m_Mo_type.2.1 99 = .ok (.iaload, 1) := by decide +kernel
theorem d_Mo_type_100 : decode m_Mo_type.2.1 100 = .ok (.bipush 12, 2) := by decide +kernel
theorem d_Mo_type_102 : decode m_Mo_type.2.1 102 = .ok (.if_icmp .ne 5, 3) := by decide +kernel
theorem d_Mo_type_105 : decode m_Mo_type.2.1 105 = .ok (.iconst 0, 1) := by decide +kernel
theorem d_Mo_type_106 : decode m_Mo_type.2.1 106 = .ok (.ireturn, 1) := by decide +kernel
theorem d_Mo_type_107 : decode m_Mo_type.2.1 107 = .ok (.aload_n 0, 1) := by decide +kernel
theorem d_Mo_type_108 : decode m_Mo_type.2.1 108 = .ok (.getfield 25, 3) := by decide +kernel
theorem d_Mo_type_111 : decode m_Mo_type.2.1 111 = .ok (.bipush 12, 2) := by decide +kernel
theorem d_Mo_type_113 : decode m_Mo_type.2.1 113 = .ok (.iload_n 1, 1) := by decide +kernel
theorem d_Mo_type_114 : decode m_Mo_type.2.1 114 = .ok (.imul, 1) := by decide +kernel
theorem d_Mo_type_115 : decode m_Mo_type.2.1 115 = .ok (.aload_n 0, 1) := by decide +kernel
theorem d_Mo_type_116 : decode m_Mo_type.2.1 116 = .ok (.getfield 28, 3) := by decide +kernel
theorem d_Mo_type_119 : decode m_Mo_type.2.1 119 = .ok (.iload_n 1, 1) := by decide +kernel
theorem d_Mo_type_120 : decode m_Mo_type.2.1 120 = .ok (.iaload, 1) := by decide +kernel
theorem d_Mo_type_121 : decode m_Mo_type.2.1 121 = .ok (.iadd, 1) := by decide +kernel
theorem d_Mo_type_122 : decode m_Mo_type.2.1 122 = .ok (.iload_n 2, 1) := by decide +kernel
theorem d_Mo_type_123 : decode m_Mo_type.2.1 123 = .ok (.iastore, 1) := by decide +kernel
theorem d_Mo_type_124 : decode m_Mo_type.2.1 124 = .ok (.aload_n 0, 1) := by decide +kernel
theorem d_Mo_type_125 : decode m_Mo_type.2.1 125 = .ok (.getfield 28, 3) := by decide +kernel
theorem d_Mo_type_128 : decode m_Mo_type.2.1 128 = .ok (.iload_n 1, 1) := by decide +kernel
theorem d_Mo_type_129 : decode m_Mo_type.2.1 129 = .ok (.dup2, 1) := by decide +kernel
theorem d_Mo_type_130 : decode m_Mo_type.2.1 130 = .ok (.iaload, 1) := by decide +kernel
theorem d_Mo_type_131 : decode m_Mo_type.2.1 131 = .ok (.iconst 1, 1) := by decide +kernel
theorem d_Mo_type_132 : decode m_Mo_type.2.1 132 = .ok (.iadd, 1) := by decide +kernel
theorem d_Mo_type_133 : decode m_Mo_type.2.1 133 = .ok (.iastore, 1) := by decide +kernel
theorem d_Mo_type_134 : decode m_Mo_type.2.1 134 = .ok (.iconst 1, 1) := by decide +kernel
theorem d_Mo_type_135 : decode m_Mo_type.2.1 135 = .ok (.ireturn, 1) := by decide +kernel
theorem d_Mo_wipe_0 : decode m_Mo_wipe.2.1 0 = .ok (.iload_n 1, 1) := by decide +kernel
theorem d_Mo_wipe_1 : decode m_Mo_wipe.2.1 1 = .ok (.ifCond .lt 8, 3) := by decide +kernel
theorem d_Mo_wipe_4 : decode m_Mo_wipe.2.1 4 = .ok (.iload_n 1, 1) := by decide +kernel
theorem d_Mo_wipe_5 : decode m_Mo_wipe.2.1 5 = .ok (.iconst 2, 1) := by decide +kernel
theorem d_Mo_wipe_6 : decode m_Mo_wipe.2.1 6 = .ok (.if_icmp .le 5, 3) := by decide +kernel
theorem d_Mo_wipe_9 : decode m_Mo_wipe.2.1 9 = .ok (.iconst (-1), 1) := by decide +kernel
theorem d_Mo_wipe_10 : decode m_Mo_wipe.2.1 10 = .ok (.ireturn, 1) := by decide +kernel
theorem d_Mo_wipe_11 : decode m_Mo_wipe.2.1 11 = .ok (.iload_n 1, 1) := by decide +kernel
theorem d_Mo_wipe_12 : decode m_Mo_wipe.2.1 12 = .ok (.iconst 2, 1) := by decide +kernel
theorem d_Mo_wipe_13 : decode m_Mo_wipe.2.1 13 = .ok (.if_icmp .ne 10, 3) := by decide +kernel
theorem d_Mo_wipe_16 : decode m_Mo_wipe.2.1 16 = .ok (.aload_n 0, 1) := by decide +kernel
theorem d_Mo_wipe_17 : decode m_Mo_wipe.2.1 17 = .ok (.getfield 53, 3) := by decide +kernel
theorem d_Mo_wipe_20 : decode m_Mo_wipe.2.1 20 = .ok (.goto 9, 3) := by decide +kernel
theorem d_Mo_wipe_23 : decode m_Mo_wipe.2.1 23 = .ok (.aload_n 0, 1) := by decide +kernel
theorem d_Mo_wipe_24 : decode m_Mo_wipe.2.1 24 = .ok (.getfield 28, 3) := by decide +kernel
theorem d_Mo_wipe_27 : decode m_Mo_wipe.2.1 27 = .ok (.iload_n 1, 1) := by decide +kernel
theorem d_Mo_wipe_28 : decode m_Mo_wipe.2.1 28 = .ok (.iaload, 1) := by decide +kernel
theorem d_Mo_wipe_29 : decode m_Mo_wipe.2.1 29 = .ok (.istore_n 2, 1) := by decide +kernel
theorem d_Mo_wipe_30 : decode m_Mo_wipe.2.1 30 = .ok (.iload_n 1, 1) := by decide +kernel
theorem d_Mo_wipe_31 : decode m_Mo_wipe.2.1 31 = .ok (.iconst 2, 1) := by decide +kernel
theorem d_Mo_wipe_32 : decode m_Mo_wipe.2.1 32 = .ok (.if_icmp .ne 11, 3) := by decide +kernel
theorem d_Mo_wipe_35 : decode m_Mo_wipe.2.1 35 = .ok (.aload_n 0, 1) := by decide +kernel
theorem d_Mo_wipe_36 : decode m_Mo_wipe.2.1 36 = .ok (.iconst 0, 1) := by decide +kernel
theorem d_Mo_wipe_37 : decode m_Mo_wipe.2.1 37 = .ok (.putfield 53, 3) := by decide +kernel
theorem d_Mo_wipe_40 : decode m_Mo_wipe.2.1 40 = .ok (.goto 10, 3) := by decide +kernel
theorem d_Mo_wipe_43 : decode m_Mo_wipe.2.1 43 = .ok (.aload_n 0, 1) := by decide +kernel
theorem d_Mo_wipe_44 : decode m_Mo_wipe.2.1 44 = .ok (.getfield 28, 3) := by decide +kernel
theorem d_Mo_wipe_47 : decode m_Mo_wipe.2.1 47 = .ok (.iload_n 1, 1) := by decide +kernel
theorem d_Mo_wipe_48 : decode m_Mo_wipe.2.1 48 = .ok (.iconst 0, 1) := by decide +kernel
theorem d_Mo_wipe_49 : decode m_Mo_wipe.2.1 49 = .ok (.iastore, 1) := by decide +kernel
theorem d_Mo_wipe_50 : decode m_Mo_wipe.2.1 50 = .ok (.iload_n 2, 1) := by decide +kernel
theorem d_Mo_wipe_51 : decode m_Mo_wipe.2.1 51 = .ok (.ireturn, 1) := by decide +kernel
theorem d_Mo_after_0 : decode m_Mo_after.2.1 0 = .ok (.iload_n 0, 1) := by decide +kernel
theorem d_Mo_after_1 : decode m_Mo_after.2.1 1 = .ok (.bipush 10, 2) := by decide +kernel
theorem d_Mo_after_3 : decode m_Mo_after.2.1 3 = .ok (.irem, 1) := by decide +kernel
theorem d_Mo_after_4 : decode m_Mo_after.2.1 4 = .ok (.istore_n 2, 1) := by decide +kernel
theorem d_Mo_after_5 : decode m_Mo_after.2.1 5 = .ok (.iload_n 0, 1) := by decide +kernel
theorem d_Mo_after_6 : decode m_Mo_after.2.1 6 = .ok (.iload_n 2, 1) := by decide +kernel
theorem d_Mo_after_7 : decode m_Mo_after.2.1 7 = .ok (.isub, 1) := by decide +kernel
theorem d_Mo_after_8 : decode m_Mo_after.2.1 8 = .ok (.istore_n 3, 1) := by decide +kernel
theorem d_Mo_after_9 : decode m_Mo_after.2.1 9 = .ok (.iload_n 2, 1) := by decide +kernel
theorem d_Mo_after_10 : decode m_Mo_after.2.1 10 = .ok (.ifCond .ne 15, 3) := by decide +kernel
theorem d_Mo_after_13 : decode m_Mo_after.2.1 13 = .ok (.iload_n 1, 1) := by decide +kernel
theorem d_Mo_after_14 : decode m_Mo_after.2.1 14 = .ok (.bipush 38, 2) := by decide +kernel
theorem d_Mo_after_16 : decode m_Mo_after.2.1 16 = .ok (.if_icmp .ne 7, 3) := by decide +kernel
theorem d_Mo_after_19 : decode m_Mo_after.2.1 19 = .ok (.iconst 1, 1) := by decide +kernel
theorem d_Mo_after_20 : decode m_Mo_after.2.1 20 = .ok (.goto 4, 3) := by decide +kernel
theorem d_Mo_after_23 : decode m_Mo_after.2.1 23 = .ok (.iconst (-1), 1) := by decide +kernel
theorem d_Mo_after_24 : decode m_Mo_after.2.1 24 = .ok (.ireturn, 1) := by decide +kernel
theorem d_Mo_after_25 : decode m_Mo_after.2.1 25 = .ok (.iload_n 1, 1) := by decide +kernel
theorem d_Mo_after_26 : decode m_Mo_after.2.1 26 = .ok (.invokestatic 56, 3) := by decide +kernel
theorem d_Mo_after_29 : decode m_Mo_after.2.1 29 = .ok (.ifCond .eq 33, 3) := by decide +kernel
theorem d_Mo_after_32 : decode m_Mo_after.2.1 32 = .ok (.iload_n 2, 1) := by decide +kernel
theorem d_Mo_after_33 : decode m_Mo_after.2.1 33 = .ok (.iconst 4, 1) := by decide +kernel
theorem d_Mo_after_34 : decode m_Mo_after.2.1 34 = .ok (.if_icmp .lt 8, 3) := by decide +kernel
theorem d_Mo_after_37 : decode m_Mo_after.2.1 37 = .ok (.iload_n 2, 1) := by decide +kernel
theorem d_Mo_after_38 : decode m_Mo_after.2.1 38 = .ok (.iconst 4, 1) := by decide +kernel
theorem d_Mo_after_39 : decode m_Mo_after.2.1 39 = .ok (.if_icmp .le 23, 3) := by decide +kernel
theorem d_Mo_after_42 : decode m_Mo_after.2.1 42 = .ok (.iload_n 3, 1) := by decide +kernel
theorem d_Mo_after_43 : decode m_Mo_after.2.1 43 = .ok (.iload_n 2, 1) := by decide +kernel
theorem d_Mo_after_44 : decode m_Mo_after.2.1 44 = .ok (.iconst 2, 1) := by decide +kernel
theorem d_Mo_after_45 : decode m_Mo_after.2.1 45 = .ok (.if_icmp .eq 8, 3) := by decide +kernel
theorem d_Mo_after_48 : decode m_Mo_after.2.1 48 = .ok (.iload_n 2, 1) := by decide +kernel
theorem d_Mo_after_49 : decode m_Mo_after.2.1 49 = .ok (.iconst 3, 1) := by decide +kernel
theorem d_Mo_after_50 : decode m_Mo_after.2.1 50 = .ok (.if_icmp .ne 9, 3) := by decide +kernel
theorem d_Mo_after_53 : decode m_Mo_after.2.1 53 = .ok (.iload_n 2, 1) := by decide +kernel
theorem d_Mo_after_54 : decode m_Mo_after.2.1 54 = .ok (.iconst 1, 1) := by decide +kernel
theorem d_Mo_after_55 : decode m_Mo_after.2.1 55 = .ok (.iadd, 1) := by decide +kernel
theorem d_Mo_after_56 : decode m_Mo_after.2.1 56 = .ok (.goto 4, 3) := by decide +kernel
theorem d_Mo_after_59 : decode m_Mo_after.2.1 59 = .ok (.iconst 2, 1) := by decide +kernel
theorem d_Mo_after_60 : decode m_Mo_after.2.1 60 = .ok (.iadd, 1) := by decide +kernel
theorem d_Mo_after_61 : decode m_Mo_after.2.1 61 = .ok (.ireturn, 1) := by decide +kernel
theorem d_Mo_after_62 : decode m_Mo_after.2.1 62 = .ok (.iload_n 1, 1) := by decide +kernel
theorem d_Mo_after_63 : decode m_Mo_after.2.1 63 = .ok (.invokestatic 60, 3) := by decide +kernel
theorem d_Mo_after_66 : decode m_Mo_after.2.1 66 = .ok (.ifCond .eq 21, 3) := by decide +kernel
theorem d_Mo_after_69 : decode m_Mo_after.2.1 69 = .ok (.iload_n 2, 1) := by decide +kernel
theorem d_Mo_after_70 : decode m_Mo_after.2.1 70 = .ok (.iconst 2, 1) := by decide +kernel
theorem d_Mo_after_71 : decode m_Mo_after.2.1 71 = .ok (.if_icmp .eq 8, 3) := by decide +kernel
theorem d_Mo_after_74 : decode m_Mo_after.2.1 74 = .ok (.iload_n 2, 1) := by decide +kernel
theorem d_Mo_after_75 : decode m_Mo_after.2.1 75 = .ok (.iconst 3, 1) := by decide +kernel
theorem d_Mo_after_76 : decode m_Mo_after.2.1 76 = .ok (.if_icmp .ne 9, 3) := by decide +kernel
theorem d_Mo_after_79 : decode m_Mo_after.2.1 79 = .ok (.iload_n 0, 1) := by decide +kernel
theorem d_Mo_after_80 : decode m_Mo_after.2.1 80 = .ok (.iconst 1, 1) := by decide +kernel
theorem d_Mo_after_81 : decode m_Mo_after.2.1 81 = .ok (.iadd, 1) := by decide +kernel
theorem d_Mo_after_82 : decode m_Mo_after.2.1 82 = .ok (.goto 4, 3) := by decide +kernel
theorem d_Mo_after_85 : decode m_Mo_after.2.1 85 = .ok (.iconst (-1), 1) := by decide +kernel
theorem d_Mo_after_86 : decode m_Mo_after.2.1 86 = .ok (.ireturn, 1) := by decide +kernel
theorem d_Mo_after_87 : decode m_Mo_after.2.1 87 = .ok (.iload_n 1, 1) := by decide +kernel
theorem d_Mo_after_88 : decode m_Mo_after.2.1 88 = .ok (.bipush 61, 2) := by decide +kernel
theorem d_Mo_after_90 : decode m_Mo_after.2.1 90 = .ok (.if_icmp .ne 20, 3) := by decide +kernel
theorem d_Mo_after_93 : decode m_Mo_after.2.1 93 = .ok (.iload_n 2, 1) := by decide +kernel
theorem d_Mo_after_94 : decode m_Mo_after.2.1 94 = .ok (.iconst 1, 1) := by decide +kernel
theorem d_Mo_after_95 : decode m_Mo_after.2.1 95 = .ok (.if_icmp .le 13, 3) := by decide +kernel
theorem d_Mo_after_98 : decode m_Mo_after.2.1 98 = .ok (.iload_n 2, 1) := by decide +kernel
theorem d_Mo_after_99 : decode m_Mo_after.2.1 99 = .ok (.iconst 5, 1) := by decide +kernel
theorem d_Mo_after_100 : decode m_Mo_after.2.1 100 = .ok (.if_icmp .ge 8, 3) := by decide +kernel
theorem d_Mo_after_103 : decode m_Mo_after.2.1 103 = .ok (.bipush 11, 2) := by decide +kernel
theorem d_Mo_after_105 : decode m_Mo_after.2.1 105 = .ok (.goto 4, 3) := by decide +kernel
theorem d_Mo_after_108 : decode m_Mo_after.2.1 108 = .ok (.iconst (-1), 1) := by decide +kernel
theorem d_Mo_after_109 : decode m_Mo_after.2.1 109 = .ok (.ireturn, 1) := by decide +kernel
theorem d_Mo_after_110 : decode m_Mo_after.2.1 110 = .ok (.iload_n 1, 1) := by decide +kernel
theorem d_Mo_after_111 : decode m_Mo_after.2.1 111 = .ok (.bipush 60, 2) := by decide +kernel
theorem d_Mo_after_113 : decode m_Mo_after.2.1 113 = .ok (.if_icmp .ne 8, 3) := by decide +kernel
theorem d_Mo_after_116 : decode m_Mo_after.2.1 116 = .ok (.iload_n 2, 1) := by decide +kernel
theorem d_Mo_after_117 : decode m_Mo_after.2.1 117 = .ok (.iconst 1, 1) := by decide +kernel
theorem d_Mo_after_118 : decode m_Mo_after.2.1 118 = .ok (.if_icmp .ne 5, 3) := by decide +kernel
theorem d_Mo_after_121 : decode m_Mo_after.2.1 121 = .ok (.iconst (-1), 1) := by decide +kernel
theorem d_Mo_after_122 : decode m_Mo_after.2.1 122 = .ok (.ireturn, 1) := by decide +kernel
theorem d_Mo_after_123 : decode m_Mo_after.2.1 123 = .ok (.iload_n 2, 1) := by decide +kernel
theorem d_Mo_after_124 : decode m_Mo_after.2.1 124 = .ok (.iconst 5, 1) := by decide +kernel
theorem d_Mo_after_125 : decode m_Mo_after.2.1 125 = .ok (.if_icmp .ge 8, 3) := by decide +kernel
theorem d_Mo_after_128 : decode m_Mo_after.2.1 128 = .ok (.bipush 15, 2) := by decide +kernel
theorem d_Mo_after_130 : decode m_Mo_after.2.1 130 = .ok (.goto 15, 3) := by decide +kernel
theorem d_Mo_after_133 : decode m_Mo_after.2.1 133 = .ok (.iload_n 2, 1) := by decide +kernel
theorem d_Mo_after_134 : decode m_Mo_after.2.1 134 = .ok (.iconst 5, 1) := by decide +kernel
theorem d_Mo_after_135 : decode m_Mo_after.2.1 135 = .ok (.if_icmp .ne 8, 3) := by decide +kernel
theorem d_Mo_after_138 : decode m_Mo_after.2.1 138 = .ok (.bipush 16, 2) := by decide +kernel
theorem d_Mo_after_140 : decode m_Mo_after.2.1 140 = .ok (.goto 5, 3) := by decide +kernel
theorem d_Mo_after_143 : decode m_Mo_after.2.1 143 = .ok (.bipush 11, 2) := by decide +kernel
theorem d_Mo_after_145 : decode m_Mo_after.2.1 145 = .ok (.ireturn, 1) := by decide +kernel
theorem d_Mo_fault_0 : decode m_Mo_fault.2.1 0 = .ok (.iconst 0, 1) := by decide +kernel
theorem d_Mo_fault_1 : decode m_Mo_fault.2.1 1 = .ok (.istore_n 1, 1) := by decide +kernel
theorem d_Mo_fault_2 : decode m_Mo_fault.2.1 2 = .ok (.iconst 0, 1) := by decide +kernel
theorem d_Mo_fault_3 : decode m_Mo_fault.2.1 3 = .ok (.istore_n 2, 1) := by decide +kernel
theorem d_Mo_fault_4 : decode m_Mo_fault.2.1 4 = .ok (.iload_n 2, 1) := by decide +kernel
theorem d_Mo_fault_5 : decode m_Mo_fault.2.1 5 = .ok (.aload_n 0, 1) := by decide +kernel
theorem d_Mo_fault_6 : decode m_Mo_fault.2.1 6 = .ok (.getfield 53, 3) := by decide +kernel
theorem d_Mo_fault_9 : decode m_Mo_fault.2.1 9 = .ok (.if_icmp .ge 26, 3) := by decide +kernel
theorem d_Mo_fault_12 : decode m_Mo_fault.2.1 12 = .ok (.iload_n 1, 1) := by decide +kernel
theorem d_Mo_fault_13 : decode m_Mo_fault.2.1 13 = .ok (.aload_n 0, 1) := by decide +kernel
theorem d_Mo_fault_14 : decode m_Mo_fault.2.1 14 = .ok (.getfield 22, 3) := by decide +kernel
theorem d_Mo_fault_17 : decode m_Mo_fault.2.1 17 = .ok (.iload_n 2, 1) := by decide +kernel
theorem d_Mo_fault_18 : decode m_Mo_fault.2.1 18 = .ok (.iaload, 1) := by decide +kernel
theorem d_Mo_fault_19 : decode m_Mo_fault.2.1 19 = .ok (.invokestatic 66, 3) := by decide +kernel
theorem d_Mo_fault_22 : decode m_Mo_fault.2.1 22 = .ok (.istore_n 1, 1) := by decide +kernel
theorem d_Mo_fault_23 : decode m_Mo_fault.2.1 23 = .ok (.iload_n 1, 1) := by decide +kernel
theorem d_Mo_fault_24 : decode m_Mo_fault.2.1 24 = .ok (.ifCond .ge 5, 3) := by decide +kernel
theorem d_Mo_fault_27 : decode m_Mo_fault.2.1 27 = .ok (.iload_n 2, 1) := by decide +kernel
theorem d_Mo_fault_28 : decode m_Mo_fault.2.1 28 = .ok (.ireturn, 1) := by decide +kernel
theorem d_Mo_fault_29 : decode m_Mo_fault.2.1 29 = .ok (.iinc 2 1, 3) := by decide +kernel
theorem d_Mo_fault_32 : decode m_Mo_fault.2.1 32 = .ok (.goto (-28), 3) := by decide +kernel
theorem d_Mo_fault_35 : decode m_Mo_fault.2.1 35 = .ok (.iload_n 1, 1) := by decide +kernel
theorem d_Mo_fault_36 : decode m_Mo_fault.2.1 36 = .ok (.bipush 11, 2) := by decide +kernel
theorem d_Mo_fault_38 : decode m_Mo_fault.2.1 38 = .ok (.if_icmp .le 13, 3) := by decide +kernel
theorem d_Mo_fault_41 : decode m_Mo_fault.2.1 41 = .ok (.iload_n 1, 1) := by decide +kernel
theorem d_Mo_fault_42 : decode m_Mo_fault.2.1 42 = .ok (.bipush 15, 2) := by decide +kernel
theorem d_Mo_fault_44 : decode m_Mo_fault.2.1 44 = .ok (.if_icmp .ge 7, 3) := by decide +kernel
theorem d_Mo_fault_47 : decode m_Mo_fault.2.1 47 = .ok (.iconst (-1), 1) := by decide +kernel
theorem d_Mo_fault_48 : decode m_Mo_fault.2.1 48 = .ok (.goto 7, 3) := by decide +kernel
theorem d_Mo_fault_51 : decode m_Mo_fault.2.1 51 = .ok (.aload_n 0, 1) := by decide +kernel
theorem d_Mo_fault_52 : decode m_Mo_fault.2.1 52 = .ok (.getfield 53, 3) := by decide +kernel
theorem d_Mo_fault_55 : decode m_Mo_fault.2.1 55 = .ok (.ireturn, 1) := by decide +kernel
theorem d_Mo_findNew_0 : decode m_Mo_findNew.2.1 0 = .ok (.iconst 0, 1) := by decide +kernel
theorem d_Mo_findNew_1 : decode m_Mo_findNew.2.1 1 = .ok (.istore_n 2, 1) := by decide +kernel
theorem d_Mo_findNew_2 : decode m_Mo_findNew.2.1 2 = .ok (.iload_n 2, 1) := by decide +kernel
theorem d_Mo_findNew_3 : decode m_Mo_findNew.2.1 3 = .ok (.aload_n 0, 1) := by decide +kernel
theorem d_Mo_findNew_4 : decode m_Mo_findNew.2.1 4 = .ok (.getfield 70, 3) := by decide +kernel
theorem d_Mo_findNew_7 : decode m_Mo_findNew.2.1 7 = .ok (.if_icmp .ge 21, 3) := by decide +kernel
theorem d_Mo_findNew_10 : decode m_Mo_findNew.2.1 10 = .ok (.aload_n 0, 1) := by decide +kernel
theorem d_Mo_findNew_11 : decode m_Mo_findNew.2.1 11 = .ok (.getfield 16, 3) := by decide +kernel
theorem d_Mo_findNew_14 : decode m_Mo_findNew.2.1 14 = .ok (.iload_n 2, 1) := by decide +kernel
theorem d_Mo_findNew_15 : decode m_Mo_findNew.2.1 15 = .ok (.iaload, 1) := by decide +kernel
theorem d_Mo_findNew_16 : decode m_Mo_findNew.2.1 16 = .ok (.iload_n 1, 1) := by decide +kernel
theorem d_Mo_findNew_17 : decode m_Mo_findNew.2.1 17 = .ok (.if_icmp .ne 5, 3) := by decide +kernel
theorem d_Mo_findNew_20 : decode m_Mo_findNew.2.1 20 = .ok (.iload_n 2, 1) := by decide +kernel
theorem d_Mo_findNew_21 : decode m_Mo_findNew.2.1 21 = .ok (.ireturn, 1) := by decide +kernel
theorem d_Mo_findNew_22 : decode m_Mo_findNew.2.1 22 = .ok (.iinc 2 1, 3) := by decide +kernel
theorem d_Mo_findNew_25 : decode m_Mo_findNew.2.1 25 = .ok (.goto (-23), 3) := by decide +kernel
theorem d_Mo_findNew_28 : decode m_Mo_findNew.2.1 28 = .ok (.iconst (-1), 1) := by decide +kernel
theorem d_Mo_findNew_29 : decode m_Mo_findNew.2.1 29 = .ok (.ireturn, 1) := by decide +kernel
theorem d_Mo_takeOut_0 : decode m_Mo_takeOut.2.1 0 = .ok (.iload_n 1, 1) := by decide +kernel
theorem d_Mo_takeOut_1 : decode m_Mo_takeOut.2.1 1 = .ok (.iconst 1, 1) := by decide +kernel
theorem d_Mo_takeOut_2 : decode m_Mo_takeOut.2.1 2 = .ok (.iadd, 1) := by decide +kernel
theorem d_Mo_takeOut_3 : decode m_Mo_takeOut.2.1 3 = .ok (.aload_n 0, 1) := by decide +kernel
theorem d_Mo_takeOut_4 : decode m_Mo_takeOut.2.1 4 = .ok (.getfield 70, 3) := by decide +kernel
theorem d_Mo_takeOut_7 : decode m_Mo_takeOut.2.1 7 = .ok (.if_icmp .ge 34, 3) := by decide +kernel
theorem d_Mo_takeOut_10 : decode m_Mo_takeOut.2.1 10 = .ok (.aload_n 0, 1) := by decide +kernel
theorem d_Mo_takeOut_11 : decode m_Mo_takeOut.2.1 11 = .ok (.getfield 19, 3) := by decide +kernel
theorem d_Mo_takeOut_14 : decode m_Mo_takeOut.2.1 14 = .ok (.iload_n 1, 1) := by decide +kernel
theorem d_Mo_takeOut_15 : decode m_Mo_takeOut.2.1 15 = .ok (.iaload, 1) := by decide +kernel
theorem d_Mo_takeOut_16 : decode m_Mo_takeOut.2.1 16 = .ok (.aload_n 0, 1) := by decide +kernel
theorem d_Mo_takeOut_17 : decode m_Mo_takeOut.2.1 17 = .ok (.getfield 19, 3) := by decide +kernel
theorem d_Mo_takeOut_20 : decode m_Mo_takeOut.2.1 20 = .ok (.iload_n 1, 1) := by decide +kernel
theorem d_Mo_takeOut_21 : decode m_Mo_takeOut.2.1 21 = .ok (.iconst 1, 1) := by decide +kernel
theorem d_Mo_takeOut_22 : decode m_Mo_takeOut.2.1 22 = .ok (.iadd, 1) := by decide +kernel
theorem d_Mo_takeOut_23 : decode m_Mo_takeOut.2.1 23 = .ok (.iaload, 1) := by decide +kernel
theorem d_Mo_takeOut_24 : decode m_Mo_takeOut.2.1 24 = .ok (.if_icmp .ge 17, 3) := by decide +kernel
theorem d_Mo_takeOut_27 : decode m_Mo_takeOut.2.1 27 = .ok (.aload_n 0, 1) := by decide +kernel
theorem d_Mo_takeOut_28 : decode m_Mo_takeOut.2.1 28 = .ok (.getfield 19, 3) := by decide +kernel
theorem d_Mo_takeOut_31 : decode m_Mo_takeOut.2.1 31 = .ok (.iload_n 1, 1) := by decide +kernel
theorem d_Mo_takeOut_32 : decode m_Mo_takeOut.2.1 32 = .ok (.iconst 1, 1) := by decide +kernel
theorem d_Mo_takeOut_33 : decode m_Mo_takeOut.2.1 33 = .ok (.iadd, 1) := by decide +kernel
theorem d_Mo_takeOut_34 : decode m_Mo_takeOut.2.1 34 = .ok (.aload_n 0, 1) := by decide +kernel
theorem d_Mo_takeOut_35 : decode m_Mo_takeOut.2.1 35 = .ok (.getfield 19, 3) := by decide +kernel
theorem d_Mo_takeOut_38 : decode m_Mo_takeOut.2.1 38 = .ok (.iload_n 1, 1) := by decide +kernel
theorem d_Mo_takeOut_39 : decode m_Mo_takeOut.2.1 39 = .ok (.iaload, 1) := by decide +kernel
theorem d_Mo_takeOut_40 : decode m_Mo_takeOut.2.1 40 = .ok (.iastore, 1) := by decide +kernel
theorem d_Mo_takeOut_41 : decode m_Mo_takeOut.2.1 41 = .ok (.iload_n 1, 1) := by decide +kernel
theorem d_Mo_takeOut_42 : decode m_Mo_takeOut.2.1 42 = .ok (.istore_n 2, 1) := by decide +kernel
theorem d_Mo_takeOut_43 : decode m_Mo_takeOut.2.1 43 = .ok (.iload_n 2, 1) := by decide +kernel
theorem d_Mo_takeOut_44 : decode m_Mo_takeOut.2.1 44 = .ok (.iconst 1, 1) := by decide +kernel
theorem d_Mo_takeOut_45 : decode m_Mo_takeOut.2.1 45 = .ok (.iadd, 1) := by decide +kernel
theorem d_Mo_takeOut_46 : decode m_Mo_takeOut.2.1 46 = .ok (.aload_n 0, 1) := by decide +kernel
theorem d_Mo_takeOut_47 : decode m_Mo_takeOut.2.1 47 = .ok (.getfield 70, 3) := by decide +kernel
theorem d_Mo_takeOut_50 : decode m_Mo_takeOut.2.1 50 = .ok (.if_icmp .ge 37, 3) := by decide +kernel
theorem d_Mo_takeOut_53 : decode m_Mo_takeOut.2.1 53 = .ok (.aload_n 0, 1) := by decide +kernel
theorem d_Mo_takeOut_54 : decode m_Mo_takeOut.2.1 54 = .ok (.getfield 16, 3) := by decide +kernel
theorem d_Mo_takeOut_57 : decode m_Mo_takeOut.2.1 57 = .ok (.iload_n 2, 1) := by decide +kernel
theorem d_Mo_takeOut_58 : decode m_Mo_takeOut.2.1 58 = .ok (.aload_n 0, 1) := by decide +kernel
theorem d_Mo_takeOut_59 : decode m_Mo_takeOut.2.1 59 = .ok (.getfield 16, 3) := by decide +kernel
theorem d_Mo_takeOut_62 : decode m_Mo_takeOut.2.1 62 = .ok (.iload_n 2, 1) := by decide +kernel
theorem d_Mo_takeOut_63 : decode m_Mo_takeOut.2.1 63 = .ok (.iconst 1, 1) := by decide +kernel
theorem d_Mo_takeOut_64 : decode m_Mo_takeOut.2.1 64 = .ok (.iadd, 1) := by decide +kernel
theorem d_Mo_takeOut_65 : decode m_Mo_takeOut.2.1 65 = .ok (.iaload, 1) := by decide +kernel
theorem d_Mo_takeOut_66 : decode m_Mo_takeOut.2.1 66 = .ok (.iastore, 1) := by decide +kernel
theorem d_Mo_takeOut_67 : decode m_Mo_takeOut.2.1 67 = .ok (.aload_n 0, 1) := by decide +kernel
theorem d_Mo_takeOut_68 : decode m_Mo_takeOut.2.1 68 = .ok (.getfield 19, 3) := by decide +kernel
theorem d_Mo_takeOut_71 : decode m_Mo_takeOut.2.1 71 = .ok (.iload_n 2, 1) := by decide +kernel
theorem d_Mo_takeOut_72 : decode m_Mo_takeOut.2.1 72 = .ok (.aload_n 0, 1) := by decide +kernel
theorem d_Mo_takeOut_73 : decode m_Mo_takeOut.2.1 73 = .ok (.getfield 19, 3) := by decide +kernel
theorem d_Mo_takeOut_76 : decode m_Mo_takeOut.2.1 76 = .ok (.iload_n 2, 1) := by decide +kernel
theorem d_Mo_takeOut_77 : decode m_Mo_takeOut.2.1 77 = .ok (.iconst 1, 1) := by decide +kernel
theorem d_Mo_takeOut_78 : decode m_Mo_takeOut.2.1 78 = .ok (.iadd, 1) := by decide +kernel
theorem d_Mo_takeOut_79 : decode m_Mo_takeOut.2.1 79 = .ok (.iaload, 1) := by decide +kernel
theorem d_Mo_takeOut_80 : decode m_Mo_takeOut.2.1 80 = .ok (.iastore, 1) := by decide +kernel
theorem d_Mo_takeOut_81 : decode m_Mo_takeOut.2.1 81 = .ok (.iinc 2 1, 3) := by decide +kernel
theorem d_Mo_takeOut_84 : decode m_Mo_takeOut.2.1 84 = .ok (.goto (-41), 3) := by decide +kernel
theorem d_Mo_takeOut_87 : decode m_Mo_takeOut.2.1 87 = .ok (.aload_n 0, 1) := by decide +kernel
theorem d_Mo_takeOut_88 : decode m_Mo_takeOut.2.1 88 = .ok (.dup, 1) := by decide +kernel
theorem d_Mo_takeOut_89 : decode m_Mo_takeOut.2.1 89 = .ok (.getfield 70, 3) := by decide +kernel
theorem d_Mo_takeOut_92 : decode m_Mo_takeOut.2.1 92 = .ok (.iconst 1, 1) := by decide +kernel
theorem d_Mo_takeOut_93 : decode m_Mo_takeOut.2.1 93 = .ok (.isub, 1) := by decide +kernel
theorem d_Mo_takeOut_94 : decode m_Mo_takeOut.2.1 94 = .ok (.putfield 70, 3) := by decide +kernel
theorem d_Mo_takeOut_97 : decode m_Mo_takeOut.2.1 97 = .ok (.return_, 1) := by decide +kernel
theorem d_Mo_putIn_0 : decode m_Mo_putIn.2.1 0 = .ok (.iload_n 3, 1) := by decide +kernel
theorem d_Mo_putIn_1 : decode m_Mo_putIn.2.1 1 = .ok (.iconst 1, 1) := by decide +kernel
theorem d_Mo_putIn_2 : decode m_Mo_putIn.2.1 2 = .ok (.iadd, 1) := by decide +kernel
theorem d_Mo_putIn_3 : decode m_Mo_putIn.2.1 3 = .ok (.istore 4, 2) := by decide +kernel
theorem d_Mo_putIn_5 : decode m_Mo_putIn.2.1 5 = .ok (.iload 4, 2) := by decide +kernel
theorem d_Mo_putIn_7 : decode m_Mo_putIn.2.1 7 = .ok (.aload_n 0, 1) := by decide +kernel
theorem d_Mo_putIn_8 : decode m_Mo_putIn.2.1 8 = .ok (.getfield 70, 3) := by decide +kernel
theorem d_Mo_putIn_11 : decode m_Mo_putIn.2.1 11 = .ok (.if_icmp .ge 20, 3) := by decide +kernel
theorem d_Mo_putIn_14 : decode m_Mo_putIn.2.1 14 = .ok (.aload_n 0, 1) := by decide +kernel
theorem d_Mo_putIn_15 : decode m_Mo_putIn.2.1 15 = .ok (.getfield 19, 3) := by decide +kernel
theorem d_Mo_putIn_18 : decode m_Mo_putIn.2.1 18 = .ok (.iload 4, 2) := by decide +kernel
theorem d_Mo_putIn_20 : decode m_Mo_putIn.2.1 20 = .ok (.iaload, 1) := by decide +kernel
theorem d_Mo_putIn_21 : decode m_Mo_putIn.2.1 21 = .ok (.iload_n 2, 1) := by decide +kernel
theorem d_Mo_putIn_22 : decode m_Mo_putIn.2.1 22 = .ok (.if_icmp .le 9, 3) := by decide +kernel
theorem d_Mo_putIn_25 : decode m_Mo_putIn.2.1 25 = .ok (.iinc 4 1, 3) := by decide +kernel
theorem d_Mo_putIn_28 : decode m_Mo_putIn.2.1 28 = .ok (.goto (-23), 3) := by decide +kernel
theorem d_Mo_putIn_31 : decode m_Mo_putIn.2.1 31 = .ok (.aload_n 0, 1) := by decide +kernel
theorem d_Mo_putIn_32 : decode m_Mo_putIn.2.1 32 = .ok (.getfield 70, 3) := by decide +kernel
theorem d_Mo_putIn_35 : decode m_Mo_putIn.2.1 35 = .ok (.istore 5, 2) := by decide +kernel
theorem d_Mo_putIn_37 : decode m_Mo_putIn.2.1 37 = .ok (.iload 5, 2) := by decide +kernel
theorem d_Mo_putIn_39 : decode m_Mo_putIn.2.1 39 = .ok (.iload 4, 2) := by decide +kernel
theorem d_Mo_putIn_41 : decode m_Mo_putIn.2.1 41 = .ok (.if_icmp .le 41, 3) := by decide +kernel
theorem d_Mo_putIn_44 : decode m_Mo_putIn.2.1 44 = .ok (.aload_n 0, 1) := by decide +kernel
theorem d_Mo_putIn_45 : decode m_Mo_putIn.2.1 45 = .ok (.getfield 16, 3) := by decide +kernel
theorem d_Mo_putIn_48 : decode m_Mo_putIn.2.1 48 = .ok (.iload 5, 2) := by decide +kernel
theorem d_Mo_putIn_50 : decode m_Mo_putIn.2.1 50 = .ok (.aload_n 0, 1) := by decide +kernel
theorem d_Mo_putIn_51 : decode m_Mo_putIn.2.1 51 = .ok (.getfield 16, 3) := by decide +kernel
theorem d_Mo_putIn_54 : decode m_Mo_putIn.2.1 54 = .ok (.iload 5, 2) := by decide +kernel
theorem d_Mo_putIn_56 : decode m_Mo_putIn.2.1 56 = .ok (.iconst 1, 1) := by decide +kernel
theorem d_Mo_putIn_57 : decode m_Mo_putIn.2.1 57 = .ok (.isub, 1) := by decide +kernel
theorem d_Mo_putIn_58 : decode m_Mo_putIn.2.1 58 = .ok (.iaload, 1) := by decide +kernel
theorem d_Mo_putIn_59 : decode m_Mo_putIn.2.1 59 = .ok (.iastore, 1) := by decide +kernel
theorem d_Mo_putIn_60 : decode m_Mo_putIn.2.1 60 = .ok (.aload_n 0, 1) := by decide +kernel
theorem d_Mo_putIn_61 : decode m_Mo_putIn.2.1 61 = .ok (.getfield 19, 3) := by decide +kernel
theorem d_Mo_putIn_64 : decode m_Mo_putIn.2.1 64 = .ok (.iload 5, 2) := by decide +kernel
theorem d_Mo_putIn_66 : decode m_Mo_putIn.2.1 66 = .ok (.aload_n 0, 1) := by decide +kernel
theorem d_Mo_putIn_67 : decode m_Mo_putIn.2.1 67 = .ok (.getfield 19, 3) := by decide +kernel
theorem d_Mo_putIn_70 : decode m_Mo_putIn.2.1 70 = .ok (.iload 5, 2) := by decide +kernel
theorem d_Mo_putIn_72 : decode m_Mo_putIn.2.1 72 = .ok (.iconst 1, 1) := by decide +kernel
theorem d_Mo_putIn_73 : decode m_Mo_putIn.2.1 73 = .ok (.isub, 1) := by decide +kernel
theorem d_Mo_putIn_74 : decode m_Mo_putIn.2.1 74 = .ok (.iaload, 1) := by decide +kernel
theorem d_Mo_putIn_75 : decode m_Mo_putIn.2.1 75 = .ok (.iastore, 1) := by decide +kernel
theorem d_Mo_putIn_76 : decode m_Mo_putIn.2.1 76 = .ok (.iinc 5 (-1), 3) := by decide +kernel
theorem d_Mo_putIn_79 : decode m_Mo_putIn.2.1 79 = .ok (.goto (-42), 3) := by decide +kernel
theorem d_Mo_putIn_82 : decode m_Mo_putIn.2.1 82 = .ok (.aload_n 0, 1) := by decide +kernel
theorem d_Mo_putIn_83 : decode m_Mo_putIn.2.1 83 = .ok (.getfield 16, 3) := by decide +kernel
theorem d_Mo_putIn_86 : decode m_Mo_putIn.2.1 86 = .ok (.iload 4, 2) := by decide +kernel
theorem d_Mo_putIn_88 : decode m_Mo_putIn.2.1 88 = .ok (.iload_n 1, 1) := by decide +kernel
theorem d_Mo_putIn_89 : decode m_Mo_putIn.2.1 89 = .ok (.iastore, 1) := by decide +kernel
theorem d_Mo_putIn_90 : decode m_Mo_putIn.2.1 90 = .ok (.aload_n 0, 1) := by decide +kernel
theorem d_Mo_putIn_91 : decode m_Mo_putIn.2.1 91 = .ok (.getfield 19, 3) := by decide +kernel
theorem d_Mo_putIn_94 : decode m_Mo_putIn.2.1 94 = .ok (.iload 4, 2) := by decide +kernel
theorem d_Mo_putIn_96 : decode m_Mo_putIn.2.1 96 = .ok (.iload_n 2, 1) := by decide +kernel
theorem d_Mo_putIn_97 : decode m_Mo_putIn.2.1 97 = .ok (.iastore, 1) := by decide +kernel
theorem d_Mo_putIn_98 : decode m_Mo_putIn.2.1 98 = .ok (.aload_n 0, 1) := by decide +kernel
theorem d_Mo_putIn_99 : decode m_Mo_putIn.2.1 99 = .ok (.dup, 1) := by decide +kernel
theorem d_Mo_putIn_100 : decode m_Mo_putIn.2.1 100 = .ok (.getfield 70, 3) := by decide +kernel
theorem d_Mo_putIn_103 : decode m_Mo_putIn.2.1 103 = .ok (.iconst 1, 1) := by decide +kernel
theorem d_Mo_putIn_104 : decode m_Mo_putIn.2.1 104 = .ok (.iadd, 1) := by decide +kernel
theorem d_Mo_putIn_105 : decode m_Mo_putIn.2.1 105 = .ok (.putfield 70, 3) := by decide +kernel
theorem d_Mo_putIn_108 : decode m_Mo_putIn.2.1 108 = .ok (.return_, 1) := by decide +kernel
theorem d_Mo_relate_0 : decode m_Mo_relate.2.1 0 = .ok (.iload_n 3, 1) := by decide +kernel
theorem d_Mo_relate_1 : decode m_Mo_relate.2.1 1 = .ok (.iload_n 1, 1) := by decide +kernel
theorem d_Mo_relate_2 : decode m_Mo_relate.2.1 2 = .ok (.if_icmp .ne 6, 3) := by decide +kernel
theorem d_Mo_relate_5 : decode m_Mo_relate.2.1 5 = .ok (.bipush (-101), 2) := by decide +kernel
theorem d_Mo_relate_7 : decode m_Mo_relate.2.1 7 = .ok (.ireturn, 1) := by decide +kernel
theorem d_Mo_relate_8 : decode m_Mo_relate.2.1 8 = .ok (.aload_n 0, 1) := by decide +kernel
theorem d_Mo_relate_9 : decode m_Mo_relate.2.1 9 = .ok (.iload_n 3, 1) := by decide +kernel
theorem d_Mo_relate_10 : decode m_Mo_relate.2.1 10 = .ok (.invokevirtual 73, 3) := by decide +kernel
theorem d_Mo_relate_13 : decode m_Mo_relate.2.1 13 = .ok (.istore 4, 2) := by decide +kernel
theorem d_Mo_relate_15 : decode m_Mo_relate.2.1 15 = .ok (.iload 4, 2) := by decide +kernel
theorem d_Mo_relate_17 : decode m_Mo_relate.2.1 17 = .ok (.ifCond .lt 12, 3) := by decide +kernel
theorem d_Mo_relate_20 : decode m_Mo_relate.2.1 20 = .ok (.aload_n 0, 1) := by decide +kernel
theorem d_Mo_relate_21 : decode m_Mo_relate.2.1 21 = .ok (.iload 4, 2) := by decide +kernel
theorem d_Mo_relate_23 : decode m_Mo_relate.2.1 23 = .ok (.invokevirtual 77, 3) := by decide +kernel
theorem d_Mo_relate_26 : decode m_Mo_relate.2.1 26 = .ok (.goto 15, 3) := by decide +kernel
theorem d_Mo_relate_29 : decode m_Mo_relate.2.1 29 = .ok (.aload_n 0, 1) := by decide +kernel
theorem d_Mo_relate_30 : decode m_Mo_relate.2.1 30 = .ok (.getfield 70, 3) := by decide +kernel
theorem d_Mo_relate_33 : decode m_Mo_relate.2.1 33 = .ok (.bipush 30, 2) := by decide +kernel
theorem d_Mo_relate_35 : decode m_Mo_relate.2.1 35 = .ok (.if_icmp .ne 6, 3) := by decide +kernel
theorem d_Mo_relate_38 : decode m_Mo_relate.2.1 38 = .ok (.bipush (-102), 2) := by decide +kernel
theorem d_Mo_relate_40 : decode m_Mo_relate.2.1 40 = .ok (.ireturn, 1) := by decide +kernel
theorem d_Mo_relate_41 : decode m_Mo_relate.2.1 41 = .ok (.aload_n 0, 1) := by decide +kernel
theorem d_Mo_relate_42 : decode m_Mo_relate.2.1 42 = .ok (.iload_n 1, 1) := by decide +kernel
theorem d_Mo_relate_43 : decode m_Mo_relate.2.1 43 = .ok (.invokevirtual 73, 3) := by decide +kernel
theorem d_Mo_relate_46 : decode m_Mo_relate.2.1 46 = .ok (.istore 5, 2) := by decide +kernel
theorem d_Mo_relate_48 : decode m_Mo_relate.2.1 48 = .ok (.aload_n 0, 1) := by decide +kernel
theorem d_Mo_relate_49 : decode m_Mo_relate.2.1 49 = .ok (.iload_n 3, 1) := by decide +kernel
theorem d_Mo_relate_50 : decode m_Mo_relate.2.1 50 = .ok (.iload_n 2, 1) := by decide +kernel
theorem d_Mo_relate_51 : decode m_Mo_relate.2.1 51 = .ok (.iload 5, 2) := by decide +kernel
theorem d_Mo_relate_53 : decode m_Mo_relate.2.1 53 = .ok (.invokevirtual 81, 3) := by decide +kernel
theorem d_Mo_relate_56 : decode m_Mo_relate.2.1 56 = .ok (.iconst 0, 1) := by decide +kernel
theorem d_Mo_relate_57 : decode m_Mo_relate.2.1 57 = .ok (.ireturn, 1) := by decide +kernel
theorem d_Mo_done_0 : decode m_Mo_done.2.1 0 = .ok (.aload_n 0, 1) := by decide +kernel
theorem d_Mo_done_1 : decode m_Mo_done.2.1 1 = .ok (.aload_n 0, 1) := by decide +kernel
theorem d_Mo_done_2 : decode m_Mo_done.2.1 2 = .ok (.getfield 50, 3) := by decide +kernel
theorem d_Mo_done_5 : decode m_Mo_done.2.1 5 = .ok (.putfield 70, 3) := by decide +kernel
theorem d_Mo_done_8 : decode m_Mo_done.2.1 8 = .ok (.iconst 0, 1) := by decide +kernel
theorem d_Mo_done_9 : decode m_Mo_done.2.1 9 = .ok (.istore_n 1, 1) := by decide +kernel
theorem d_Mo_done_10 : decode m_Mo_done.2.1 10 = .ok (.iload_n 1, 1) := by decide +kernel
theorem d_Mo_done_11 : decode m_Mo_done.2.1 11 = .ok (.aload_n 0, 1) := by decide +kernel
theorem d_Mo_done_12 : decode m_Mo_done.2.1 12 = .ok (.getfield 50, 3) := by decide +kernel
theorem d_Mo_done_15 : decode m_Mo_done.2.1 15 = .ok (.if_icmp .ge 33, 3) := by decide +kernel
theorem d_Mo_done_18 : decode m_Mo_done.2.1 18 = .ok (.aload_n 0, 1) := by decide +kernel
theorem d_Mo_done_19 : decode m_Mo_done.2.1 19 = .ok (.getfield 16, 3) := by decide +kernel
theorem d_Mo_done_22 : decode m_Mo_done.2.1 22 = .ok (.iload_n 1, 1) := by decide +kernel
theorem d_Mo_done_23 : decode m_Mo_done.2.1 23 = .ok (.aload_n 0, 1) := by decide +kernel
theorem d_Mo_done_24 : decode m_Mo_done.2.1 24 = .ok (.getfield 7, 3) := by decide +kernel
theorem d_Mo_done_27 : decode m_Mo_done.2.1 27 = .ok (.iload_n 1, 1) := by decide +kernel
theorem d_Mo_done_28 : decode m_Mo_done.2.1 28 = .ok (.iaload, 1) := by decide +kernel
theorem d_Mo_done_29 : decode m_Mo_done.2.1 29 = .ok (.iastore, 1) := by decide +kernel
theorem d_Mo_done_30 : decode m_Mo_done.2.1 30 = .ok (.aload_n 0, 1) := by decide +kernel
theorem d_Mo_done_31 : decode m_Mo_done.2.1 31 = .ok (.getfield 19, 3) := by decide +kernel
theorem d_Mo_done_34 : decode m_Mo_done.2.1 34 = .ok (.iload_n 1, 1) := by decide +kernel
theorem d_Mo_done_35 : decode m_Mo_done.2.1 35 = .ok (.aload_n 0, 1) := by decide +kernel
theorem d_Mo_done_36 : decode m_Mo_done.2.1 36 = .ok (.getfield 13, 3) := by decide +kernel
theorem d_Mo_done_39 : decode m_Mo_done.2.1 39 = .ok (.iload_n 1, 1) := by decide +kernel
theorem d_Mo_done_40 : decode m_Mo_done.2.1 40 = .ok (.iaload, 1) := by decide +kernel
theorem d_Mo_done_41 : decode m_Mo_done.2.1 41 = .ok (.iastore, 1) := by decide +kernel
theorem d_Mo_done_42 : decode m_Mo_done.2.1 42 = .ok (.iinc 1 1, 3) := by decide +kernel
theorem d_Mo_done_45 : decode m_Mo_done.2.1 45 = .ok (.goto (-35), 3) := by decide +kernel
theorem d_Mo_done_48 : decode m_Mo_done.2.1 48 = .ok (.iconst 0, 1) := by decide +kernel
theorem d_Mo_done_49 : decode m_Mo_done.2.1 49 = .ok (.istore_n 1, 1) := by decide +kernel
theorem d_Mo_done_50 : decode m_Mo_done.2.1 50 = .ok (.iconst 1, 1) := by decide +kernel
theorem d_Mo_done_51 : decode m_Mo_done.2.1 51 = .ok (.istore_n 2, 1) := by decide +kernel
theorem d_Mo_done_52 : decode m_Mo_done.2.1 52 = .ok (.iconst 0, 1) := by decide +kernel
theorem d_Mo_done_53 : decode m_Mo_done.2.1 53 = .ok (.istore_n 3, 1) := by decide +kernel
theorem d_Mo_done_54 : decode m_Mo_done.2.1 54 = .ok (.iload_n 2, 1) := by decide +kernel
theorem d_Mo_done_55 : decode m_Mo_done.2.1 55 = .ok (.aload_n 0, 1) := by decide +kernel
theorem d_Mo_done_56 : decode m_Mo_done.2.1 56 = .ok (.getfield 53, 3) := by decide +kernel
theorem d_Mo_done_59 : decode m_Mo_done.2.1 59 = .ok (.if_icmp .ge 173, 3) := by decide +kernel
theorem d_Mo_done_62 : decode m_Mo_done.2.1 62 = .ok (.iconst 0, 1) := by decide +kernel
theorem d_Mo_done_63 : decode m_Mo_done.2.1 63 = .ok (.istore 4, 2) := by decide +kernel
theorem d_Mo_done_65 : decode m_Mo_done.2.1 65 = .ok (.iconst 0, 1) := by decide +kernel
theorem d_Mo_done_66 : decode m_Mo_done.2.1 66 = .ok (.istore 5, 2) := by decide +kernel
theorem d_Mo_done_68 : decode m_Mo_done.2.1 68 = .ok (.iload_n 2, 1) := by decide +kernel
theorem d_Mo_done_69 : decode m_Mo_done.2.1 69 = .ok (.aload_n 0, 1) := by decide +kernel
theorem d_Mo_done_70 : decode m_Mo_done.2.1 70 = .ok (.getfield 53, 3) := by decide +kernel
theorem d_Mo_done_73 : decode m_Mo_done.2.1 73 = .ok (.if_icmp .ge 54, 3) := by decide +kernel
theorem d_Mo_done_76 : decode m_Mo_done.2.1 76 = .ok (.aload_n 0, 1) := by decide +kernel
theorem d_Mo_done_77 : decode m_Mo_done.2.1 77 = .ok (.getfield 22, 3) := by decide +kernel
theorem d_Mo_done_80 : decode m_Mo_done.2.1 80 = .ok (.iload_n 2, 1) := by decide +kernel
theorem d_Mo_done_81 : decode m_Mo_done.2.1 81 = .ok (.iaload, 1) := by decide +kernel
theorem d_Mo_done_82 : decode m_Mo_done.2.1 82 = .ok (.invokestatic 56, 3) := by decide +kernel
theorem d_Mo_done_85 : decode m_Mo_done.2.1 85 = .ok (.ifCond .ne 15, 3) := by decide +kernel
theorem d_Mo_done_88 : decode m_Mo_done.2.1 88 = .ok (.aload_n 0, 1) := by decide +kernel
theorem d_Mo_done_89 : decode m_Mo_done.2.1 89 = .ok (.getfield 22, 3) := by decide +kernel
theorem d_Mo_done_92 : decode m_Mo_done.2.1 92 = .ok (.iload_n 2, 1) := by decide +kernel
theorem d_Mo_done_93 : decode m_Mo_done.2.1 93 = .ok (.iaload, 1) := by decide +kernel
theorem d_Mo_done_94 : decode m_Mo_done.2.1 94 = .ok (.invokestatic 60, 3) := by decide +kernel
theorem d_Mo_done_97 : decode m_Mo_done.2.1 97 = .ok (.ifCond .eq 30, 3) := by decide +kernel
theorem d_Mo_done_100 : decode m_Mo_done.2.1 100 = .ok (.iload 4, 2) := by decide +kernel
theorem d_Mo_done_102 : decode m_Mo_done.2.1 102 = .ok (.aload_n 0, 1) := by decide +kernel
theorem d_Mo_done_103 : decode m_Mo_done.2.1 103 = .ok (.getfield 22, 3) := by decide +kernel
theorem d_Mo_done_106 : decode m_Mo_done.2.1 106 = .ok (.iload_n 2, 1) := by decide +kernel
theorem d_Mo_done_107 : decode m_Mo_done.2.1 107 = .ok (.iaload, 1) := by decide +kernel
theorem d_Mo_done_108 : decode m_Mo_done.2.1 108 = .ok (.iload 5, 2) := by decide +kernel
theorem d_Mo_done_110 : decode m_Mo_done.2.1 110 = .ok (.ishl, 1) := by decide +kernel
theorem d_Mo_done_111 : decode m_Mo_done.2.1 111 = .ok (.iadd, 1) := by decide +kernel
theorem d_Mo_done_112 : decode m_Mo_done.2.1 112 = .ok (.istore 4, 2) := by decide +kernel
theorem d_Mo_done_114 : decode m_Mo_done.2.1 114 = .ok (.iload 5, 2) := by decide +kernel
theorem d_Mo_done_116 : decode m_Mo_done.2.1 116 = .ok (.bipush 7, 2) := by decide +kernel
theorem d_Mo_done_118 : decode m_Mo_done.2.1 118 = .ok (.iadd, 1) := by decide +kernel
theorem d_Mo_done_119 : decode m_Mo_done.2.1 119 = .ok (.istore 5, 2) := by decide +kernel
theorem d_Mo_done_121 : decode m_Mo_done.2.1 121 = .ok (.iinc 2 1, 3) := by decide +kernel
theorem d_Mo_done_124 : decode m_Mo_done.2.1 124 = .ok (.goto (-56), 3) := by decide +kernel
theorem d_Mo_done_127 : decode m_Mo_done.2.1 127 = .ok (.iload_n 3, 1) := by decide +kernel
theorem d_Mo_done_128 : decode m_Mo_done.2.1 128 = .ok (.ifCond .ne 15, 3) := by decide +kernel
theorem d_Mo_done_131 : decode m_Mo_done.2.1 131 = .ok (.aload_n 0, 1) := by decide +kernel
theorem d_Mo_done_132 : decode m_Mo_done.2.1 132 = .ok (.iload 4, 2) := by decide +kernel
theorem d_Mo_done_134 : decode m_Mo_done.2.1 134 = .ok (.invokevirtual 73, 3) := by decide +kernel
theorem d_Mo_done_137 : decode m_Mo_done.2.1 137 = .ok (.ifCond .ge 6, 3) := by decide +kernel
theorem d_Mo_done_140 : decode m_Mo_done.2.1 140 = .ok (.bipush (-100), 2) := by decide +kernel
theorem d_Mo_done_142 : decode m_Mo_done.2.1 142 = .ok (.ireturn, 1) := by decide +kernel
theorem d_Mo_done_143 : decode m_Mo_done.2.1 143 = .ok (.iload_n 3, 1) := by decide +kernel
theorem d_Mo_done_144 : decode m_Mo_done.2.1 144 = .ok (.ifCond .ne 7, 3) := by decide +kernel
theorem d_Mo_done_147 : decode m_Mo_done.2.1 147 = .ok (.iconst 0, 1) := by decide +kernel
theorem d_Mo_done_148 : decode m_Mo_done.2.1 148 = .ok (.goto 11, 3) := by decide +kernel
theorem d_Mo_done_151 : decode m_Mo_done.2.1 151 = .ok (.aload_n 0, 1) := by decide +kernel
theorem d_Mo_done_152 : decode m_Mo_done.2.1 152 = .ok (.iload_n 1, 1) := by decide +kernel
theorem d_Mo_done_153 : decode m_Mo_done.2.1 153 = .ok (.iload_n 3, 1) := by decide +kernel
theorem d_Mo_done_154 : decode m_Mo_done.2.1 154 = .ok (.iload 4, 2) := by decide +kernel
theorem d_Mo_done_156 : decode m_Mo_done.2.1 156 = .ok (.invokevirtual 85, 3) := by decide +kernel
theorem d_Mo_done_159 : decode m_Mo_done.2.1 159 = .ok (.istore 6, 2) := by decide +kernel
theorem d_Mo_done_161 : decode m_Mo_done.2.1 161 = .ok (.iload 6, 2) := by decide +kernel
theorem d_Mo_done_163 : decode m_Mo_done.2.1 163 = .ok (.ifCond .ge 6, 3) := by decide +kernel
theorem d_Mo_done_166 : decode m_Mo_done.2.1 166 = .ok (.iload 6, 2) := by decide +kernel
theorem d_Mo_done_168 : decode m_Mo_done.2.1 168 = .ok (.ireturn, 1) := by decide +kernel
theorem d_Mo_done_169 : decode m_Mo_done.2.1 169 = .ok (.iload 4, 2) := by decide +kernel
theorem d_Mo_done_171 : decode m_Mo_done.2.1 171 = .ok (.istore_n 1, 1) := by decide +kernel
theorem d_Mo_done_172 : decode m_Mo_done.2.1 172 = .ok (.iconst 0, 1) := by decide +kernel
theorem d_Mo_done_173 : decode m_Mo_done.2.1 173 = .ok (.istore_n 3, 1) := by decide +kernel
theorem d_Mo_done_174 : decode m_Mo_done.2.1 174 = .ok (.iload_n 2, 1) := by decide +kernel
theorem d_Mo_done_175 : decode m_Mo_done.2.1 175 = .ok (.aload_n 0, 1) := by decide +kernel
theorem d_Mo_done_176 : decode m_Mo_done.2.1 176 = .ok (.getfield 53, 3) := by decide +kernel
theorem d_Mo_done_179 : decode m_Mo_done.2.1 179 = .ok (.if_icmp .ge 50, 3) := by decide +kernel
theorem d_Mo_done_182 : decode m_Mo_done.2.1 182 = .ok (.aload_n 0, 1) := by decide +kernel
theorem d_Mo_done_183 : decode m_Mo_done.2.1 183 = .ok (.getfield 22, 3) := by decide +kernel
theorem d_Mo_done_186 : decode m_Mo_done.2.1 186 = .ok (.iload_n 2, 1) := by decide +kernel
theorem d_Mo_done_187 : decode m_Mo_done.2.1 187 = .ok (.iaload, 1) := by decide +kernel
theorem d_Mo_done_188 : decode m_Mo_done.2.1 188 = .ok (.bipush 60, 2) := by decide +kernel
theorem d_Mo_done_190 : decode m_Mo_done.2.1 190 = .ok (.if_icmp .eq 14, 3) := by decide +kernel
theorem d_Mo_done_193 : decode m_Mo_done.2.1 193 = .ok (.aload_n 0, 1) := by decide +kernel
theorem d_Mo_done_194 : decode m_Mo_done.2.1 194 = .ok (.getfield 22, 3) := by decide +kernel
theorem d_Mo_done_197 : decode m_Mo_done.2.1 197 = .ok (.iload_n 2, 1) := by decide +kernel
theorem d_Mo_done_198 : decode m_Mo_done.2.1 198 = .ok (.iaload, 1) := by decide +kernel
theorem d_Mo_done_199 : decode m_Mo_done.2.1 199 = .ok (.bipush 61, 2) := by decide +kernel
theorem d_Mo_done_201 : decode m_Mo_done.2.1 201 = .ok (.if_icmp .ne 28, 3) := by decide +kernel
theorem d_Mo_done_204 : decode m_Mo_done.2.1 204 = .ok (.aload_n 0, 1) := by decide +kernel
theorem d_Mo_done_205 : decode m_Mo_done.2.1 205 = .ok (.getfield 22, 3) := by decide +kernel
theorem d_Mo_done_208 : decode m_Mo_done.2.1 208 = .ok (.iload_n 2, 1) := by decide +kernel
theorem d_Mo_done_209 : decode m_Mo_done.2.1 209 = .ok (.iaload, 1) := by decide +kernel
theorem d_Mo_done_210 : decode m_Mo_done.2.1 210 = .ok (.bipush 61, 2) := by decide +kernel
theorem d_Mo_done_212 : decode m_Mo_done.2.1 212 = .ok (.if_icmp .ne 7, 3) := by decide +kernel
theorem d_Mo_done_215 : decode m_Mo_done.2.1 215 = .ok (.iconst 4, 1) := by decide +kernel
theorem d_Mo_done_216 : decode m_Mo_done.2.1 216 = .ok (.goto 6, 3) := by decide +kernel
theorem d_Mo_done_219 : decode m_Mo_done.2.1 219 = .ok (.iload_n 3, 1) := by decide +kernel
theorem d_Mo_done_220 : decode m_Mo_done.2.1 220 = .ok (.iconst 1, 1) := by decide +kernel
theorem d_Mo_done_221 : decode m_Mo_done.2.1 221 = .ok (.iadd, 1) := by decide +kernel
theorem d_Mo_done_222 : decode m_Mo_done.2.1 222 = .ok (.istore_n 3, 1) := by decide +kernel
theorem d_Mo_done_223 : decode m_Mo_done.2.1 223 = .ok (.iinc 2 1, 3) := by decide +kernel
theorem d_Mo_done_226 : decode m_Mo_done.2.1 226 = .ok (.goto (-52), 3) := by decide +kernel
theorem d_Mo_done_229 : decode m_Mo_done.2.1 229 = .ok (.goto (-175), 3) := by decide +kernel
theorem d_Mo_done_232 : decode m_Mo_done.2.1 232 = .ok (.aload_n 0, 1) := by decide +kernel
theorem d_Mo_done_233 : decode m_Mo_done.2.1 233 = .ok (.aload_n 0, 1) := by decide +kernel
theorem d_Mo_done_234 : decode m_Mo_done.2.1 234 = .ok (.getfield 70, 3) := by decide +kernel
theorem d_Mo_done_237 : decode m_Mo_done.2.1 237 = .ok (.putfield 50, 3) := by decide +kernel
theorem d_Mo_done_240 : decode m_Mo_done.2.1 240 = .ok (.iconst 0, 1) := by decide +kernel
theorem d_Mo_done_241 : decode m_Mo_done.2.1 241 = .ok (.istore 4, 2) := by decide +kernel
theorem d_Mo_done_243 : decode m_Mo_done.2.1 243 = .ok (.iload 4, 2) := by decide +kernel
theorem d_Mo_done_245 : decode m_Mo_done.2.1 245 = .ok (.aload_n 0, 1) := by decide +kernel
theorem d_Mo_done_246 : decode m_Mo_done.2.1 246 = .ok (.getfield 50, 3) := by decide +kernel
theorem d_Mo_done_249 : decode m_Mo_done.2.1 249 = .ok (.if_icmp .ge 37, 3) := by decide +kernel
theorem d_Mo_done_252 : decode m_Mo_done.2.1 252 = .ok (.aload_n 0, 1) := by decide +kernel
theorem d_Mo_done_253 : decode m_Mo_done.2.1 253 = .ok (.getfield 7, 3) := by decide +kernel
theorem d_Mo_done_256 : decode m_Mo_done.2.1 256 = .ok (.iload 4, 2) := by decide +kernel
theorem d_Mo_done_258 : decode m_Mo_done.2.1 258 = .ok (.aload_n 0, 1) := by decide +kernel
theorem d_Mo_done_259 : decode m_Mo_done.2.1 259 = .ok (.getfield 16, 3) := by decide +kernel
theorem d_Mo_done_262 : decode m_Mo_done.2.1 262 = .ok (.iload 4, 2) := by decide +kernel
theorem d_Mo_done_264 : decode m_Mo_done.2.1 264 = .ok (.iaload, 1) := by decide +kernel
theorem d_Mo_done_265 : decode m_Mo_done.2.1 265 = .ok (.iastore, 1) := by decide +kernel
theorem d_Mo_done_266 : decode m_Mo_done.2.1 266 = .ok (.aload_n 0, 1) := by decide +kernel
theorem d_Mo_done_267 : decode m_Mo_done.2.1 267 = .ok (.getfield 13, 3) := by decide +kernel
theorem d_Mo_done_270 : decode m_Mo_done.2.1 270 = .ok (.iload 4, 2) := by decide +kernel
theorem d_Mo_done_272 : decode m_Mo_done.2.1 272 = .ok (.aload_n 0, 1) := by decide +kernel
theorem d_Mo_done_273 : decode m_Mo_done.2.1 273 = .ok (.getfield 19, 3) := by decide +kernel
theorem d_Mo_done_276 : decode m_Mo_done.2.1 276 = .ok (.iload 4, 2) := by decide +kernel
theorem d_Mo_done_278 : decode m_Mo_done.2.1 278 = .ok (.iaload, 1) := by decide +kernel
theorem d_Mo_done_279 : decode m_Mo_done.2.1 279 = .ok (.iastore, 1) := by decide +kernel
theorem d_Mo_done_280 : decode m_Mo_done.2.1 280 = .ok (.iinc 4 1, 3) := by decide +kernel
theorem d_Mo_done_283 : decode m_Mo_done.2.1 283 = .ok (.goto (-40), 3) := by decide +kernel
theorem d_Mo_done_286 : decode m_Mo_done.2.1 286 = .ok (.aload_n 0, 1) := by decide +kernel
theorem d_Mo_done_287 : decode m_Mo_done.2.1 287 = .ok (.getfield 50, 3) := by decide +kernel
theorem d_Mo_done_290 : decode m_Mo_done.2.1 290 = .ok (.ireturn, 1) := by decide +kernel
theorem d_Mo_tailor_0 : decode m_Mo_tailor.2.1 0 = .ok (.aload_n 0, 1) := by decide +kernel
theorem d_Mo_tailor_1 : decode m_Mo_tailor.2.1 1 = .ok (.invokevirtual 89, 3) := by decide +kernel
theorem d_Mo_tailor_4 : decode m_Mo_tailor.2.1 4 = .ok (.istore_n 1, 1) := by decide +kernel
theorem d_Mo_tailor_5 : decode m_Mo_tailor.2.1 5 = .ok (.iload_n 1, 1) := by decide +kernel
theorem d_Mo_tailor_6 : decode m_Mo_tailor.2.1 6 = .ok (.ifCond .ge 10, 3) := by decide +kernel
theorem d_Mo_tailor_9 : decode m_Mo_tailor.2.1 9 = .ok (.aload_n 0, 1) := by decide +kernel
theorem d_Mo_tailor_10 : decode m_Mo_tailor.2.1 10 = .ok (.invokevirtual 93, 3) := by decide +kernel
theorem d_Mo_tailor_13 : decode m_Mo_tailor.2.1 13 = .ok (.goto 6, 3) := by decide +kernel
theorem d_Mo_tailor_16 : decode m_Mo_tailor.2.1 16 = .ok (.iconst (-1), 1) := by decide +kernel
theorem d_Mo_tailor_17 : decode m_Mo_tailor.2.1 17 = .ok (.iload_n 1, 1) := by decide +kernel
theorem d_Mo_tailor_18 : decode m_Mo_tailor.2.1 18 = .ok (.isub, 1) := by decide +kernel
theorem d_Mo_tailor_19 : decode m_Mo_tailor.2.1 19 = .ok (.istore_n 2, 1) := by decide +kernel
theorem d_Mo_tailor_20 : decode m_Mo_tailor.2.1 20 = .ok (.aload_n 0, 1) := by decide +kernel
theorem d_Mo_tailor_21 : decode m_Mo_tailor.2.1 21 = .ok (.iconst 0, 1) := by decide +kernel
theorem d_Mo_tailor_22 : decode m_Mo_tailor.2.1 22 = .ok (.putfield 53, 3) := by decide +kernel
theorem d_Mo_tailor_25 : decode m_Mo_tailor.2.1 25 = .ok (.iload_n 2, 1) := by decide +kernel
theorem d_Mo_tailor_26 : decode m_Mo_tailor.2.1 26 = .ok (.ireturn, 1) := by decide +kernel
theorem d_Mo_entries_0 : decode m_Mo_entries.2.1 0 = .ok (.aload_n 0, 1) := by decide +kernel
theorem d_Mo_entries_1 : decode m_Mo_entries.2.1 1 = .ok (.getfield 50, 3) := by decide +kernel
theorem d_Mo_entries_4 : decode m_Mo_entries.2.1 4 = .ok (.ireturn, 1) := by decide +kernel
theorem d_Mo_find_0 : decode m_Mo_find.2.1 0 = .ok (.iconst 0, 1) := by decide +kernel
theorem d_Mo_find_1 : decode m_Mo_find.2.1 1 = .ok (.istore_n 2, 1) := by decide +kernel
theorem d_Mo_find_2 : decode m_Mo_find.2.1 2 = .ok (.iload_n 2, 1) := by decide +kernel
theorem d_Mo_find_3 : decode m_Mo_find.2.1 3 = .ok (.aload_n 0, 1) := by decide +kernel
theorem d_Mo_find_4 : decode m_Mo_find.2.1 4 = .ok (.getfield 50, 3) := by decide +kernel
theorem d_Mo_find_7 : decode m_Mo_find.2.1 7 = .ok (.if_icmp .ge 21, 3) := by decide +kernel
theorem d_Mo_find_10 : decode m_Mo_find.2.1 10 = .ok (.aload_n 0, 1) := by decide +kernel
theorem d_Mo_find_11 : decode m_Mo_find.2.1 11 = .ok (.getfield 7, 3) := by decide +kernel
theorem d_Mo_find_14 : decode m_Mo_find.2.1 14 = .ok (.iload_n 2, 1) := by decide +kernel
theorem d_Mo_find_15 : decode m_Mo_find.2.1 15 = .ok (.iaload, 1) := by decide +kernel
theorem d_Mo_find_16 : decode m_Mo_find.2.1 16 = .ok (.iload_n 1, 1) := by decide +kernel
theorem d_Mo_find_17 : decode m_Mo_find.2.1 17 = .ok (.if_icmp .ne 5, 3) := by decide +kernel
theorem d_Mo_find_20 : decode m_Mo_find.2.1 20 = .ok (.iload_n 2, 1) := by decide +kernel
theorem d_Mo_find_21 : decode m_Mo_find.2.1 21 = .ok (.ireturn, 1) := by decide +kernel
theorem d_Mo_find_22 : decode m_Mo_find.2.1 22 = .ok (.iinc 2 1, 3) := by decide +kernel
theorem d_Mo_find_25 : decode m_Mo_find.2.1 25 = .ok (.goto (-23), 3) := by decide +kernel
theorem d_Mo_find_28 : decode m_Mo_find.2.1 28 = .ok (.iconst (-1), 1) := by decide +kernel
theorem d_Mo_find_29 : decode m_Mo_find.2.1 29 = .ok (.ireturn, 1) := by decide +kernel
theorem d_Mo_weight_0 : decode m_Mo_weight.2.1 0 = .ok (.iload_n 2, 1) := by decide +kernel
theorem d_Mo_weight_1 : decode m_Mo_weight.2.1 1 = .ok (.iconst 1, 1) := by decide +kernel
theorem d_Mo_weight_2 : decode m_Mo_weight.2.1 2 = .ok (.if_icmp .ne 7, 3) := by decide +kernel
theorem d_Mo_weight_5 : decode m_Mo_weight.2.1 5 = .ok (.iconst 0, 1) := by decide +kernel
theorem d_Mo_weight_6 : decode m_Mo_weight.2.1 6 = .ok (.goto 4, 3) := by decide +kernel
theorem d_Mo_weight_9 : decode m_Mo_weight.2.1 9 = .ok (.iconst 1, 1) := by decide +kernel
theorem d_Mo_weight_10 : decode m_Mo_weight.2.1 10 = .ok (.istore_n 3, 1) := by decide +kernel
theorem d_Mo_weight_11 : decode m_Mo_weight.2.1 11 = .ok (.iconst 0, 1) := by decide +kernel
theorem d_Mo_weight_12 : decode m_Mo_weight.2.1 12 = .ok (.istore 4, 2) := by decide +kernel
theorem d_Mo_weight_14 : decode m_Mo_weight.2.1 14 = .ok (.iload 4, 2) := by decide +kernel
theorem d_Mo_weight_16 : decode m_Mo_weight.2.1 16 = .ok (.iload_n 1, 1) := by decide +kernel
theorem d_Mo_weight_17 : decode m_Mo_weight.2.1 17 = .ok (.if_icmp .gt 39, 3) := by decide +kernel
theorem d_Mo_weight_20 : decode m_Mo_weight.2.1 20 = .ok (.aload_n 0, 1) := by decide +kernel
theorem d_Mo_weight_21 : decode m_Mo_weight.2.1 21 = .ok (.getfield 13, 3) := by decide +kernel
theorem d_Mo_weight_24 : decode m_Mo_weight.2.1 24 = .ok (.iload 4, 2) := by decide +kernel
theorem d_Mo_weight_26 : decode m_Mo_weight.2.1 26 = .ok (.iaload, 1) := by decide +kernel
theorem d_Mo_weight_27 : decode m_Mo_weight.2.1 27 = .ok (.iload_n 2, 1) := by decide +kernel
theorem d_Mo_weight_28 : decode m_Mo_weight.2.1 28 = .ok (.if_icmp .ge 8, 3) := by decide +kernel
theorem d_Mo_weight_31 : decode m_Mo_weight.2.1 31 = .ok (.iconst 1, 1) := by decide +kernel
theorem d_Mo_weight_32 : decode m_Mo_weight.2.1 32 = .ok (.istore_n 3, 1) := by decide +kernel
theorem d_Mo_weight_33 : decode m_Mo_weight.2.1 33 = .ok (.goto 17, 3) := by decide +kernel
theorem d_Mo_weight_36 : decode m_Mo_weight.2.1 36 = .ok (.aload_n 0, 1) := by decide +kernel
theorem d_Mo_weight_37 : decode m_Mo_weight.2.1 37 = .ok (.getfield 13, 3) := by decide +kernel
theorem d_Mo_weight_40 : decode m_Mo_weight.2.1 40 = .ok (.iload 4, 2) := by decide +kernel
theorem d_Mo_weight_42 : decode m_Mo_weight.2.1 42 = .ok (.iaload, 1) := by decide +kernel
theorem d_Mo_weight_43 : decode m_Mo_weight.2.1 43 = .ok (.iload_n 2, 1) := by decide +kernel
theorem d_Mo_weight_44 : decode m_Mo_weight.2.1 44 = .ok (.if_icmp .ne 6, 3) := by decide +kernel
theorem d_Mo_weight_47 : decode m_Mo_weight.2.1 47 = .ok (.iinc 3 1, 3) := by decide +kernel
theorem d_Mo_weight_50 : decode m_Mo_weight.2.1 50 = .ok (.iinc 4 1, 3) := by decide +kernel
theorem d_Mo_weight_53 : decode m_Mo_weight.2.1 53 = .ok (.goto (-39), 3) := by decide +kernel
theorem d_Mo_weight_56 : decode m_Mo_weight.2.1 56 = .ok (.iload_n 3, 1) := by decide +kernel
theorem d_Mo_weight_57 : decode m_Mo_weight.2.1 57 = .ok (.ireturn, 1) := by decide +kernel
theorem d_Mo_entry_0 : decode m_Mo_entry.2.1 0 = .ok (.iload_n 1, 1) := by decide +kernel
theorem d_Mo_entry_1 : decode m_Mo_entry.2.1 1 = .ok (.ifCond .lt 21, 3) := by decide +kernel
theorem d_Mo_entry_4 : decode m_Mo_entry.2.1 4 = .ok (.iload_n 1, 1) := by decide +kernel
theorem d_Mo_entry_5 : decode m_Mo_entry.2.1 5 = .ok (.aload_n 0, 1) := by decide +kernel
theorem d_Mo_entry_6 : decode m_Mo_entry.2.1 6 = .ok (.getfield 50, 3) := by decide +kernel
theorem d_Mo_entry_9 : decode m_Mo_entry.2.1 9 = .ok (.if_icmp .ge 13, 3) := by decide +kernel
theorem d_Mo_entry_12 : decode m_Mo_entry.2.1 12 = .ok (.iload_n 2, 1) := by decide +kernel
theorem d_Mo_entry_13 : decode m_Mo_entry.2.1 13 = .ok (.ifCond .lt 9, 3) := by decide +kernel
theorem d_Mo_entry_16 : decode m_Mo_entry.2.1 16 = .ok (.iload_n 2, 1) := by decide +kernel
theorem d_Mo_entry_17 : decode m_Mo_entry.2.1 17 = .ok (.bipush 6, 2) := by decide +kernel
theorem d_Mo_entry_19 : decode m_Mo_entry.2.1 19 = .ok (.if_icmp .le 6, 3) := by decide +kernel
theorem d_Mo_entry_22 : decode m_Mo_entry.2.1 22 = .ok (.bipush (-2), 2) := by decide +kernel
theorem d_Mo_entry_24 : decode m_Mo_entry.2.1 24 = .ok (.ireturn, 1) := by decide +kernel
theorem d_Mo_entry_25 : decode m_Mo_entry.2.1 25 = .ok (.iload_n 2, 1) := by decide +kernel
theorem d_Mo_entry_26 : decode m_Mo_entry.2.1 26 = .ok (.iconst 3, 1) := by decide +kernel
theorem d_Mo_entry_27 : decode m_Mo_entry.2.1 27 = .ok (.if_icmp .ge 28, 3) := by decide +kernel
theorem d_Mo_entry_30 : decode m_Mo_entry.2.1 30 = .ok (.aload_n 0, 1) := by decide +kernel
theorem d_Mo_entry_31 : decode m_Mo_entry.2.1 31 = .ok (.getfield 7, 3) := by decide +kernel
theorem d_Mo_entry_34 : decode m_Mo_entry.2.1 34 = .ok (.iload_n 1, 1) := by decide +kernel
theorem d_Mo_entry_35 : decode m_Mo_entry.2.1 35 = .ok (.iaload, 1) := by decide +kernel
theorem d_Mo_entry_36 : decode m_Mo_entry.2.1 36 = .ok (.bipush 7, 2) := by decide +kernel
theorem d_Mo_entry_38 : decode m_Mo_entry.2.1 38 = .ok (.iload_n 2, 1) := by decide +kernel
theorem d_Mo_entry_39 : decode m_Mo_entry.2.1 39 = .ok (.imul, 1) := by decide +kernel
theorem d_Mo_entry_40 : decode m_Mo_entry.2.1 40 = .ok (.ishr, 1) := by decide +kernel
theorem d_Mo_entry_41 : decode m_Mo_entry.2.1 41 = .ok (.bipush 127, 2) := by decide +kernel
theorem d_Mo_entry_43 : decode m_Mo_entry.2.1 43 = .ok (.iand, 1) := by decide +kernel
theorem d_Mo_entry_44 : decode m_Mo_entry.2.1 44 = .ok (.istore_n 3, 1) := by decide +kernel
theorem d_Mo_entry_45 : decode m_Mo_entry.2.1 45 = .ok (.iload_n 3, 1) := by decide +kernel
theorem d_Mo_entry_46 : decode m_Mo_entry.2.1 46 = .ok (.ifCond .ne 7, 3) := by decide +kernel
theorem d_Mo_entry_49 : decode m_Mo_entry.2.1 49 = .ok (.iconst (-1), 1) := by decide +kernel
theorem d_Mo_entry_50 : decode m_Mo_entry.2.1 50 = .ok (.goto 4, 3) := by decide +kernel
theorem d_Mo_entry_53 : decode m_Mo_entry.2.1 53 = .ok (.iload_n 3, 1) := by decide +kernel
theorem d_Mo_entry_54 : decode m_Mo_entry.2.1 54 = .ok (.ireturn, 1) := by decide +kernel
theorem d_Mo_entry_55 : decode m_Mo_entry.2.1 55 = .ok (.iload_n 2, 1) := by decide +kernel
theorem d_Mo_entry_56 : decode m_Mo_entry.2.1 56 = .ok (.iconst 3, 1) := by decide +kernel
theorem d_Mo_entry_57 : decode m_Mo_entry.2.1 57 = .ok (.if_icmp .ne 12, 3) := by decide +kernel
theorem d_Mo_entry_60 : decode m_Mo_entry.2.1 60 = .ok (.aload_n 0, 1) := by decide +kernel
theorem d_Mo_entry_61 : decode m_Mo_entry.2.1 61 = .ok (.getfield 13, 3) := by decide +kernel
theorem d_Mo_entry_64 : decode m_Mo_entry.2.1 64 = .ok (.iload_n 1, 1) := by decide +kernel
theorem d_Mo_entry_65 : decode m_Mo_entry.2.1 65 = .ok (.iaload, 1) := by decide +kernel
theorem d_Mo_entry_66 : decode m_Mo_entry.2.1 66 = .ok (.goto 11, 3) := by decide +kernel
theorem d_Mo_entry_69 : decode m_Mo_entry.2.1 69 = .ok (.aload_n 0, 1) := by decide +kernel
theorem d_Mo_entry_70 : decode m_Mo_entry.2.1 70 = .ok (.iload_n 1, 1) := by decide +kernel
theorem d_Mo_entry_71 : decode m_Mo_entry.2.1 71 = .ok (.iload_n 2, 1) := by decide +kernel
theorem d_Mo_entry_72 : decode m_Mo_entry.2.1 72 = .ok (.iconst 3, 1) := by decide +kernel
theorem d_Mo_entry_73 : decode m_Mo_entry.2.1 73 = .ok (.isub, 1) := by decide +kernel
theorem d_Mo_entry_74 : decode m_Mo_entry.2.1 74 = .ok (.invokevirtual 96, 3) := by decide +kernel
theorem d_Mo_entry_77 : decode m_Mo_entry.2.1 77 = .ok (.ireturn, 1) := by decide +kernel
theorem d_Mo_settle_0 : decode m_Mo_settle.2.1 0 = .ok (.iconst 0, 1) := by decide +kernel
theorem d_Mo_settle_1 : decode m_Mo_settle.2.1 1 = .ok (.istore_n 1, 1) := by decide +kernel
theorem d_Mo_settle_2 : decode m_Mo_settle.2.1 2 = .ok (.iload_n 1, 1) := by decide +kernel
theorem d_Mo_settle_3 : decode m_Mo_settle.2.1 3 = .ok (.aload_n 0, 1) := by decide +kernel
theorem d_Mo_settle_4 : decode m_Mo_settle.2.1 4 = .ok (.getfield 99, 3) := by decide +kernel
theorem d_Mo_settle_7 : decode m_Mo_settle.2.1 7 = .ok (.if_icmp .ge 93, 3) := by decide +kernel
theorem d_Mo_settle_10 : decode m_Mo_settle.2.1 10 = .ok (.iconst 0, 1) := by decide +kernel
theorem d_Mo_settle_11 : decode m_Mo_settle.2.1 11 = .ok (.istore_n 2, 1) := by decide +kernel
theorem d_Mo_settle_12 : decode m_Mo_settle.2.1 12 = .ok (.iload_n 2, 1) := by decide +kernel
theorem d_Mo_settle_13 : decode m_Mo_settle.2.1 13 = .ok (.iconst 1, 1) := by decide +kernel
theorem d_Mo_settle_14 : decode m_Mo_settle.2.1 14 = .ok (.iadd, 1) := by decide +kernel
theorem d_Mo_settle_15 : decode m_Mo_settle.2.1 15 = .ok (.aload_n 0, 1) := by decide +kernel
theorem d_Mo_settle_16 : decode m_Mo_settle.2.1 16 = .ok (.getfield 99, 3) := by decide +kernel
theorem d_Mo_settle_19 : decode m_Mo_settle.2.1 19 = .ok (.if_icmp .ge 75, 3) := by decide +kernel
theorem d_Mo_settle_22 : decode m_Mo_settle.2.1 22 = .ok (.aload_n 0, 1) := by decide +kernel
theorem d_Mo_settle_23 : decode m_Mo_settle.2.1 23 = .ok (.getfield 38, 3) := by decide +kernel
theorem d_Mo_settle_26 : decode m_Mo_settle.2.1 26 = .ok (.iload_n 2, 1) := by decide +kernel
theorem d_Mo_settle_27 : decode m_Mo_settle.2.1 27 = .ok (.iaload, 1) := by decide +kernel
theorem d_Mo_settle_28 : decode m_Mo_settle.2.1 28 = .ok (.istore_n 3, 1) := by decide +kernel
theorem d_Mo_settle_29 : decode m_Mo_settle.2.1 29 = .ok (.aload_n 0, 1) := by decide +kernel
theorem d_Mo_settle_30 : decode m_Mo_settle.2.1 30 = .ok (.getfield 38, 3) := by decide +kernel
theorem d_Mo_settle_33 : decode m_Mo_settle.2.1 33 = .ok (.iload_n 2, 1) := by decide +kernel
theorem d_Mo_settle_34 : decode m_Mo_settle.2.1 34 = .ok (.iconst 1, 1) := by decide +kernel
theorem d_Mo_settle_35 : decode m_Mo_settle.2.1 35 = .ok (.iadd, 1) := by decide +kernel
theorem d_Mo_settle_36 : decode m_Mo_settle.2.1 36 = .ok (.iaload, 1) := by decide +kernel
theorem d_Mo_settle_37 : decode m_Mo_settle.2.1 37 = .ok (.istore 4, 2) := by decide +kernel
theorem d_Mo_settle_39 : decode m_Mo_settle.2.1 39 = .ok (.iload_n 3, 1) := by decide +kernel
theorem d_Mo_settle_40 : decode m_Mo_settle.2.1 40 = .ok (.invokestatic 60, 3) := by decide +kernel
theorem d_Mo_settle_43 : decode m_Mo_settle.2.1 43 = .ok (.ifCond .eq 45, 3) := by decide +kernel
theorem d_Mo_settle_46 : decode m_Mo_settle.2.1 46 = .ok (.iload 4, 2) := by decide +kernel
theorem d_Mo_settle_48 : decode m_Mo_settle.2.1 48 = .ok (.invokestatic 60, 3) := by decide +kernel
theorem d_Mo_settle_51 : decode m_Mo_settle.2.1 51 = .ok (.ifCond .eq 37, 3) := by decide +kernel
theorem d_Mo_settle_54 : decode m_Mo_settle.2.1 54 = .ok (.iload_n 3, 1) := by decide +kernel
theorem d_Mo_settle_55 : decode m_Mo_settle.2.1 55 = .ok (.invokestatic 102, 3) := by decide +kernel
theorem d_Mo_settle_58 : decode m_Mo_settle.2.1 58 = .ok (.iconst 2, 1) := by decide +kernel
theorem d_Mo_settle_59 : decode m_Mo_settle.2.1 59 = .ok (.if_icmp .ne 29, 3) := by decide +kernel
theorem d_Mo_settle_62 : decode m_Mo_settle.2.1 62 = .ok (.iload 4, 2) := by decide +kernel
theorem d_Mo_settle_64 : decode m_Mo_settle.2.1 64 = .ok (.invokestatic 102, 3) := by decide +kernel
theorem d_Mo_settle_67 : decode m_Mo_settle.2.1 67 = .ok (.iconst 1, 1) := by decide +kernel
theorem d_Mo_settle_68 : decode m_Mo_settle.2.1 68 = .ok (.if_icmp .ne 20, 3) := by decide +kernel
theorem d_Mo_settle_71 : decode m_Mo_settle.2.1 71 = .ok (.aload_n 0, 1) := by decide +kernel
theorem d_Mo_settle_72 : decode m_Mo_settle.2.1 72 = .ok (.getfield 38, 3) := by decide +kernel
theorem d_Mo_settle_75 : decode m_Mo_settle.2.1 75 = .ok (.iload_n 2, 1) := by decide +kernel
theorem d_Mo_settle_76 : decode m_Mo_settle.2.1 76 = .ok (.iload 4, 2) := by decide +kernel
theorem d_Mo_settle_78 : decode m_Mo_settle.2.1 78 = .ok (.iastore, 1) := by decide +kernel
theorem d_Mo_settle_79 : decode m_Mo_settle.2.1 79 = .ok (.aload_n 0, 1) := by decide +kernel
theorem d_Mo_settle_80 : decode m_Mo_settle.2.1 80 = .ok (.getfield 38, 3) := by decide +kernel
theorem d_Mo_settle_83 : decode m_Mo_settle.2.1 83 = .ok (.iload_n 2, 1) := by decide +kernel
theorem d_Mo_settle_84 : decode m_Mo_settle.2.1 84 = .ok (.iconst 1, 1) := by decide +kernel
theorem d_Mo_settle_85 : decode m_Mo_settle.2.1 85 = .ok (.iadd, 1) := by decide +kernel
theorem d_Mo_settle_86 : decode m_Mo_settle.2.1 86 = .ok (.iload_n 3, 1) := by decide +kernel
theorem d_Mo_settle_87 : decode m_Mo_settle.2.1 87 = .ok (.iastore, 1) := by decide +kernel
theorem d_Mo_settle_88 : decode m_Mo_settle.2.1 88 = .ok (.iinc 2 1, 3) := by decide +kernel
theorem d_Mo_settle_91 : decode m_Mo_settle.2.1 91 = .ok (.goto (-79), 3) := by decide +kernel
theorem d_Mo_settle_94 : decode m_Mo_settle.2.1 94 = .ok (.iinc 1 1, 3) := by decide +kernel
theorem d_Mo_settle_97 : decode m_Mo_settle.2.1 97 = .ok (.goto (-95), 3) := by decide +kernel
theorem d_Mo_settle_100 : decode m_Mo_settle.2.1 100 = .ok (.return_, 1) := by decide +kernel
theorem d_Mo_remove_0 : decode m_Mo_remove.2.1 0 = .ok (.iload_n 1, 1) := by decide +kernel
theorem d_Mo_remove_1 : decode m_Mo_remove.2.1 1 = .ok (.istore_n 2, 1) := by decide +kernel
theorem d_Mo_remove_2 : decode m_Mo_remove.2.1 2 = .ok (.iload_n 2, 1) := by decide +kernel
theorem d_Mo_remove_3 : decode m_Mo_remove.2.1 3 = .ok (.iconst 1, 1) := by decide +kernel
theorem d_Mo_remove_4 : decode m_Mo_remove.2.1 4 = .ok (.iadd, 1) := by decide +kernel
theorem d_Mo_remove_5 : decode m_Mo_remove.2.1 5 = .ok (.aload_n 0, 1) := by decide +kernel
theorem d_Mo_remove_6 : decode m_Mo_remove.2.1 6 = .ok (.getfield 99, 3) := by decide +kernel
theorem d_Mo_remove_9 : decode m_Mo_remove.2.1 9 = .ok (.if_icmp .ge 23, 3) := by decide +kernel
theorem d_Mo_remove_12 : decode m_Mo_remove.2.1 12 = .ok (.aload_n 0, 1) := by decide +kernel
theorem d_Mo_remove_13 : decode m_Mo_remove.2.1 13 = .ok (.getfield 38, 3) := by decide +kernel
theorem d_Mo_remove_16 : decode m_Mo_remove.2.1 16 = .ok (.iload_n 2, 1) := by decide +kernel
theorem d_Mo_remove_17 : decode m_Mo_remove.2.1 17 = .ok (.aload_n 0, 1) := by decide +kernel
theorem d_Mo_remove_18 : decode m_Mo_remove.2.1 18 = .ok (.getfield 38, 3) := by decide +kernel
theorem d_Mo_remove_21 : decode m_Mo_remove.2.1 21 = .ok (.iload_n 2, 1) := by decide +kernel
theorem d_Mo_remove_22 : decode m_Mo_remove.2.1 22 = .ok (.iconst 1, 1) := by decide +kernel
theorem d_Mo_remove_23 : decode m_Mo_remove.2.1 23 = .ok (.iadd, 1) := by decide +kernel
theorem d_Mo_remove_24 : decode m_Mo_remove.2.1 24 = .ok (.iaload, 1) := by decide +kernel
theorem d_Mo_remove_25 : decode m_Mo_remove.2.1 25 = .ok (.iastore, 1) := by decide +kernel
theorem d_Mo_remove_26 : decode m_Mo_remove.2.1 26 = .ok (.iinc 2 1, 3) := by decide +kernel
theorem d_Mo_remove_29 : decode m_Mo_remove.2.1 29 = .ok (.goto (-27), 3) := by decide +kernel
theorem d_Mo_remove_32 : decode m_Mo_remove.2.1 32 = .ok (.aload_n 0, 1) := by decide +kernel
theorem d_Mo_remove_33 : decode m_Mo_remove.2.1 33 = .ok (.dup, 1) := by decide +kernel
theorem d_Mo_remove_34 : decode m_Mo_remove.2.1 34 = .ok (.getfield 99, 3) := by decide +kernel
theorem d_Mo_remove_37 : decode m_Mo_remove.2.1 37 = .ok (.iconst 1, 1) := by decide +kernel
theorem d_Mo_remove_38 : decode m_Mo_remove.2.1 38 = .ok (.isub, 1) := by decide +kernel
theorem d_Mo_remove_39 : decode m_Mo_remove.2.1 39 = .ok (.putfield 99, 3) := by decide +kernel
theorem d_Mo_remove_42 : decode m_Mo_remove.2.1 42 = .ok (.return_, 1) := by decide +kernel
theorem d_Mo_element_0 : decode m_Mo_element.2.1 0 = .ok (.aload_n 0, 1) := by decide +kernel
theorem d_Mo_element_1 : decode m_Mo_element.2.1 1 = .ok (.getfield 41, 3) := by decide +kernel
theorem d_Mo_element_4 : decode m_Mo_element.2.1 4 = .ok (.iconst 4, 1) := by decide +kernel
theorem d_Mo_element_5 : decode m_Mo_element.2.1 5 = .ok (.aload_n 0, 1) := by decide +kernel
theorem d_Mo_element_6 : decode m_Mo_element.2.1 6 = .ok (.getfield 105, 3) := by decide +kernel
theorem d_Mo_element_9 : decode m_Mo_element.2.1 9 = .ok (.imul, 1) := by decide +kernel
theorem d_Mo_element_10 : decode m_Mo_element.2.1 10 = .ok (.iload_n 1, 1) := by decide +kernel
theorem d_Mo_element_11 : decode m_Mo_element.2.1 11 = .ok (.iastore, 1) := by decide +kernel
theorem d_Mo_element_12 : decode m_Mo_element.2.1 12 = .ok (.aload_n 0, 1) := by decide +kernel
theorem d_Mo_element_13 : decode m_Mo_element.2.1 13 = .ok (.getfield 41, 3) := by decide +kernel
theorem d_Mo_element_16 : decode m_Mo_element.2.1 16 = .ok (.iconst 4, 1) := by decide +kernel
theorem d_Mo_element_17 : decode m_Mo_element.2.1 17 = .ok (.aload_n 0, 1) := by decide +kernel
theorem d_Mo_element_18 : decode m_Mo_element.2.1 18 = .ok (.getfield 105, 3) := by decide +kernel
theorem d_Mo_element_21 : decode m_Mo_element.2.1 21 = .ok (.imul, 1) := by decide +kernel
theorem d_Mo_element_22 : decode m_Mo_element.2.1 22 = .ok (.iconst 1, 1) := by decide +kernel
theorem d_Mo_element_23 : decode m_Mo_element.2.1 23 = .ok (.iadd, 1) := by decide +kernel
theorem d_Mo_element_24 : decode m_Mo_element.2.1 24 = .ok (.iload_n 2, 1) := by decide +kernel
theorem d_Mo_element_25 : decode m_Mo_element.2.1 25 = .ok (.iastore, 1) := by decide +kernel
theorem d_Mo_element_26 : decode m_Mo_element.2.1 26 = .ok (.aload_n 0, 1) := by decide +kernel
theorem d_Mo_element_27 : decode m_Mo_element.2.1 27 = .ok (.getfield 41, 3) := by decide +kernel
theorem d_Mo_element_30 : decode m_Mo_element.2.1 30 = .ok (.iconst 4, 1) := by decide +kernel
theorem d_Mo_element_31 : decode m_Mo_element.2.1 31 = .ok (.aload_n 0, 1) := by decide +kernel
theorem d_Mo_element_32 : decode m_Mo_element.2.1 32 = .ok (.getfield 105, 3) := by decide +kernel
theorem d_Mo_element_35 : decode m_Mo_element.2.1 35 = .ok (.imul, 1) := by decide +kernel
theorem d_Mo_element_36 : decode m_Mo_element.2.1 36 = .ok (.iconst 2, 1) := by decide +kernel
theorem d_Mo_element_37 : decode m_Mo_element.2.1 37 = .ok (.iadd, 1) := by decide +kernel
theorem d_Mo_element_38 : decode m_Mo_element.2.1 38 = .ok (.iload_n 3, 1) := by decide +kernel
theorem d_Mo_element_39 : decode m_Mo_element.2.1 39 = .ok (.iastore, 1) := by decide +kernel
theorem d_Mo_element_40 : decode m_Mo_element.2.1 40 = .ok (.aload_n 0, 1) := by decide +kernel
theorem d_Mo_element_41 : decode m_Mo_element.2.1 41 = .ok (.getfield 41, 3) := by decide +kernel
theorem d_Mo_element_44 : decode m_Mo_element.2.1 44 = .ok (.iconst 4, 1) := by decide +kernel
theorem d_Mo_element_45 : decode m_Mo_element.2.1 45 = .ok (.aload_n 0, 1) := by decide +kernel
theorem d_Mo_element_46 : decode m_Mo_element.2.1 46 = .ok (.getfield 105, 3) := by decide +kernel
theorem d_Mo_element_49 : decode m_Mo_element.2.1 49 = .ok (.imul, 1) := by decide +kernel
theorem d_Mo_element_50 : decode m_Mo_element.2.1 50 = .ok (.iconst 3, 1) := by decide +kernel
theorem d_Mo_element_51 : decode m_Mo_element.2.1 51 = .ok (.iadd, 1) := by decide +kernel
theorem d_Mo_element_52 : decode m_Mo_element.2.1 52 = .ok (.aload_n 0, 1) := by decide +kernel
theorem d_Mo_element_53 : decode m_Mo_element.2.1 53 = .ok (.getfield 108, 3) := by decide +kernel
theorem d_Mo_element_56 : decode m_Mo_element.2.1 56 = .ok (.ifCond .eq 8, 3) := by decide +kernel
theorem d_Mo_element_59 : decode m_Mo_element.2.1 59 = .ok (.iload 4, 2) := by decide +kernel
theorem d_Mo_element_61 : decode m_Mo_element.2.1 61 = .ok (.goto 4, 3) := by decide +kernel
theorem d_Mo_element_64 : decode m_Mo_element.2.1 64 = .ok (.iconst 0, 1) := by decide +kernel
theorem d_Mo_element_65 : decode m_Mo_element.2.1 65 = .ok (.iastore, 1) := by decide +kernel
theorem d_Mo_element_66 : decode m_Mo_element.2.1 66 = .ok (.aload_n 0, 1) := by decide +kernel
theorem d_Mo_element_67 : decode m_Mo_element.2.1 67 = .ok (.dup, 1) := by decide +kernel
theorem d_Mo_element_68 : decode m_Mo_element.2.1 68 = .ok (.getfield 105, 3) := by decide +kernel
theorem d_Mo_element_71 : decode m_Mo_element.2.1 71 = .ok (.iconst 1, 1) := by decide +kernel
theorem d_Mo_element_72 : decode m_Mo_element.2.1 72 = .ok (.iadd, 1) := by decide +kernel
theorem d_Mo_element_73 : decode m_Mo_element.2.1 73 = .ok (.putfield 105, 3) := by decide +kernel
theorem d_Mo_element_76 : decode m_Mo_element.2.1 76 = .ok (.return_, 1) := by decide +kernel
theorem d_Mo_markElement_0 : decode m_Mo_markElement.2.1 0 = .ok (.aload_n 0, 1) := by decide +kernel
theorem d_Mo_markElement_1 : decode m_Mo_markElement.2.1 1 = .ok (.getfield 108, 3) := by decide +kernel
theorem d_Mo_markElement_4 : decode m_Mo_markElement.2.1 4 = .ok (.ifCond .eq 21, 3) := by decide +kernel
theorem d_Mo_markElement_7 : decode m_Mo_markElement.2.1 7 = .ok (.aload_n 0, 1) := by decide +kernel
theorem d_Mo_markElement_8 : decode m_Mo_markElement.2.1 8 = .ok (.getfield 112, 3) := by decide +kernel
theorem d_Mo_markElement_11 : decode m_Mo_markElement.2.1 11 = .ok (.ifCond .eq 14, 3) := by decide +kernel
theorem d_Mo_markElement_14 : decode m_Mo_markElement.2.1 14 = .ok (.aload_n 0, 1) := by decide +kernel
theorem d_Mo_markElement_15 : decode m_Mo_markElement.2.1 15 = .ok (.iconst 0, 1) := by decide +kernel
theorem d_Mo_markElement_16 : decode m_Mo_markElement.2.1 16 = .ok (.iconst 0, 1) := by decide +kernel
theorem d_Mo_markElement_17 : decode m_Mo_markElement.2.1 17 = .ok (.iconst 0, 1) := by decide +kernel
theorem d_Mo_markElement_18 : decode m_Mo_markElement.2.1 18 = .ok (.iconst 0, 1) := by decide +kernel
theorem d_Mo_markElement_19 : decode m_Mo_markElement.2.1 19 = .ok (.invokevirtual 115, 3) := by decide +kernel
theorem d_Mo_markElement_22 : decode m_Mo_markElement.2.1 22 = .ok (.goto 17, 3) := by decide +kernel
theorem d_Mo_markElement_25 : decode m_Mo_markElement.2.1 25 = .ok (.aload_n 0, 1) := by decide +kernel
theorem d_Mo_markElement_26 : decode m_Mo_markElement.2.1 26 = .ok (.iconst 0, 1) := by decide +kernel
theorem d_Mo_markElement_27 : decode m_Mo_markElement.2.1 27 = .ok (.bipush 100, 2) := by decide +kernel
theorem d_Mo_markElement_29 : decode m_Mo_markElement.2.1 29 = .ok (.iload_n 1, 1) := by decide +kernel
theorem d_Mo_markElement_30 : decode m_Mo_markElement.2.1 30 = .ok (.iadd, 1) := by decide +kernel
theorem d_Mo_markElement_31 : decode m_Mo_markElement.2.1 31 = .ok (.bipush 48, 2) := by decide +kernel
theorem d_Mo_markElement_33 : decode m_Mo_markElement.2.1 33 = .ok (.isub, 1) := by decide +kernel
theorem d_Mo_markElement_34 : decode m_Mo_markElement.2.1 34 = .ok (.iconst 1, 1) := by decide +kernel
theorem d_Mo_markElement_35 : decode m_Mo_markElement.2.1 35 = .ok (.iconst 0, 1) := by decide +kernel
theorem d_Mo_markElement_36 : decode m_Mo_markElement.2.1 36 = .ok (.invokevirtual 115, 3) := by decide +kernel
theorem d_Mo_markElement_39 : decode m_Mo_markElement.2.1 39 = .ok (.return_, 1) := by decide +kernel
theorem d_Mo_begins_0 : decode m_Mo_begins.2.1 0 = .ok (.iconst 0, 1) := by decide +kernel
theorem d_Mo_begins_1 : decode m_Mo_begins.2.1 1 = .ok (.istore_n 2, 1) := by decide +kernel
theorem d_Mo_begins_2 : decode m_Mo_begins.2.1 2 = .ok (.iload_n 1, 1) := by decide +kernel
theorem d_Mo_begins_3 : decode m_Mo_begins.2.1 3 = .ok (.iconst 1, 1) := by decide +kernel
theorem d_Mo_begins_4 : decode m_Mo_begins.2.1 4 = .ok (.isub, 1) := by decide +kernel
theorem d_Mo_begins_5 : decode m_Mo_begins.2.1 5 = .ok (.istore_n 3, 1) := by decide +kernel
theorem d_Mo_begins_6 : decode m_Mo_begins.2.1 6 = .ok (.iload_n 3, 1) := by decide +kernel
theorem d_Mo_begins_7 : decode m_Mo_begins.2.1 7 = .ok (.ifCond .lt 22, 3) := by decide +kernel
theorem d_Mo_begins_10 : decode m_Mo_begins.2.1 10 = .ok (.sipush 128, 3) := by decide +kernel
theorem d_Mo_begins_13 : decode m_Mo_begins.2.1 13 = .ok (.iload_n 2, 1) := by decide +kernel
theorem d_Mo_begins_14 : decode m_Mo_begins.2.1 14 = .ok (.imul, 1) := by decide +kernel
theorem d_Mo_begins_15 : decode m_Mo_begins.2.1 15 = .ok (.aload_n 0, 1) := by decide +kernel
theorem d_Mo_begins_16 : decode m_Mo_begins.2.1 16 = .ok (.getfield 38, 3) := by decide +kernel
theorem d_Mo_begins_19 : decode m_Mo_begins.2.1 19 = .ok (.iload_n 3, 1) := by decide +kernel
theorem d_Mo_begins_20 : decode m_Mo_begins.2.1 20 = .ok (.iaload, 1) := by decide +kernel
theorem d_Mo_begins_21 : decode m_Mo_begins.2.1 21 = .ok (.iadd, 1) := by decide +kernel
theorem d_Mo_begins_22 : decode m_Mo_begins.2.1 22 = .ok (.istore_n 2, 1) := by decide +kernel
theorem d_Mo_begins_23 : decode m_Mo_begins.2.1 23 = .ok (.iinc 3 (-1), 3) := by decide +kernel
theorem d_Mo_begins_26 : decode m_Mo_begins.2.1 26 = .ok (.goto (-20), 3) := by decide +kernel
theorem d_Mo_begins_29 : decode m_Mo_begins.2.1 29 = .ok (.iload_n 2, 1) := by decide +kernel
theorem d_Mo_begins_30 : decode m_Mo_begins.2.1 30 = .ok (.ireturn, 1) := by decide +kernel
theorem d_Mo_entryElement_0 : decode m_Mo_entryElement.2.1 0 = .ok (.aload_n 0, 1) := by decide +kernel
theorem d_Mo_entryElement_1 : decode m_Mo_entryElement.2.1 1 = .ok (.getfield 99, 3) := by decide +kernel
theorem d_Mo_entryElement_4 : decode m_Mo_entryElement.2.1 4 = .ok (.iconst 3, 1) := by decide +kernel
theorem d_Mo_entryElement_5 : decode m_Mo_entryElement.2.1 5 = .ok (.if_icmp .ge 10, 3) := by decide +kernel
theorem d_Mo_entryElement_8 : decode m_Mo_entryElement.2.1 8 = .ok (.aload_n 0, 1) := by decide +kernel
theorem d_Mo_entryElement_9 : decode m_Mo_entryElement.2.1 9 = .ok (.getfield 99, 3) := by decide +kernel
theorem d_Mo_entryElement_12 : decode m_Mo_entryElement.2.1 12 = .ok (.goto 4, 3) := by decide +kernel
theorem d_Mo_entryElement_15 : decode m_Mo_entryElement.2.1 15 = .ok (.iconst 3, 1) := by decide +kernel
theorem d_Mo_entryElement_16 : decode m_Mo_entryElement.2.1 16 = .ok (.istore_n 1, 1) := by decide +kernel
theorem d_Mo_entryElement_17 : decode m_Mo_entryElement.2.1 17 = .ok (.aload_n 0, 1) := by decide +kernel
theorem d_Mo_entryElement_18 : decode m_Mo_entryElement.2.1 18 = .ok (.iload_n 1, 1) := by decide +kernel
theorem d_Mo_entryElement_19 : decode m_Mo_entryElement.2.1 19 = .ok (.invokevirtual 119, 3) := by decide +kernel
theorem d_Mo_entryElement_22 : decode m_Mo_entryElement.2.1 22 = .ok (.istore_n 2, 1) := by decide +kernel
theorem d_Mo_entryElement_23 : decode m_Mo_entryElement.2.1 23 = .ok (.aload_n 0, 1) := by decide +kernel
theorem d_Mo_entryElement_24 : decode m_Mo_entryElement.2.1 24 = .ok (.iload_n 2, 1) := by decide +kernel
theorem d_Mo_entryElement_25 : decode m_Mo_entryElement.2.1 25 = .ok (.invokevirtual 122, 3) := by decide +kernel
theorem d_Mo_entryElement_28 : decode m_Mo_entryElement.2.1 28 = .ok (.ifCond .ge 15, 3) := by decide +kernel
theorem d_Mo_entryElement_31 : decode m_Mo_entryElement.2.1 31 = .ok (.iinc 1 (-1), 3) := by decide +kernel
theorem d_Mo_entryElement_34 : decode m_Mo_entryElement.2.1 34 = .ok (.aload_n 0, 1) := by decide +kernel
theorem d_Mo_entryElement_35 : decode m_Mo_entryElement.2.1 35 = .ok (.iload_n 1, 1) := by decide +kernel
theorem d_Mo_entryElement_36 : decode m_Mo_entryElement.2.1 36 = .ok (.invokevirtual 119, 3) := by decide +kernel
theorem d_Mo_entryElement_39 : decode m_Mo_entryElement.2.1 39 = .ok (.istore_n 2, 1) := by decide +kernel
theorem d_Mo_entryElement_40 : decode m_Mo_entryElement.2.1 40 = .ok (.goto (-17), 3) := by decide +kernel
theorem d_Mo_entryElement_43 : decode m_Mo_entryElement.2.1 43 = .ok (.iconst 0, 1) := by decide +kernel
theorem d_Mo_entryElement_44 : decode m_Mo_entryElement.2.1 44 = .ok (.istore_n 3, 1) := by decide +kernel
theorem d_Mo_entryElement_45 : decode m_Mo_entryElement.2.1 45 = .ok (.iload_n 3, 1) := by decide +kernel
theorem d_Mo_entryElement_46 : decode m_Mo_entryElement.2.1 46 = .ok (.iload_n 1, 1) := by decide +kernel
theorem d_Mo_entryElement_47 : decode m_Mo_entryElement.2.1 47 = .ok (.if_icmp .ge 14, 3) := by decide +kernel
theorem d_Mo_entryElement_50 : decode m_Mo_entryElement.2.1 50 = .ok (.aload_n 0, 1) := by decide +kernel
theorem d_Mo_entryElement_51 : decode m_Mo_entryElement.2.1 51 = .ok (.iconst 0, 1) := by decide +kernel
theorem d_Mo_entryElement_52 : decode m_Mo_entryElement.2.1 52 = .ok (.invokevirtual 125, 3) := by decide +kernel
theorem d_Mo_entryElement_55 : decode m_Mo_entryElement.2.1 55 = .ok (.iinc 3 1, 3) := by decide +kernel
theorem d_Mo_entryElement_58 : decode m_Mo_entryElement.2.1 58 = .ok (.goto (-13), 3) := by decide +kernel
theorem d_Mo_entryElement_61 : decode m_Mo_entryElement.2.1 61 = .ok (.iconst 0, 1) := by decide +kernel
theorem d_Mo_entryElement_62 : decode m_Mo_entryElement.2.1 62 = .ok (.istore_n 3, 1) := by decide +kernel
theorem d_Mo_entryElement_63 : decode m_Mo_entryElement.2.1 63 = .ok (.iconst 0, 1) := by decide +kernel
theorem d_Mo_entryElement_64 : decode m_Mo_entryElement.2.1 64 = .ok (.istore 4, 2) := by decide +kernel
theorem d_Mo_entryElement_66 : decode m_Mo_entryElement.2.1 66 = .ok (.iconst 0, 1) := by decide +kernel
theorem d_Mo_entryElement_67 : decode m_Mo_entryElement.2.1 67 = .ok (.istore 5, 2) := by decide +kernel
theorem d_Mo_entryElement_69 : decode m_Mo_entryElement.2.1 69 = .ok (.iload 5, 2) := by decide +kernel
theorem d_Mo_entryElement_71 : decode m_Mo_entryElement.2.1 71 = .ok (.aload_n 0, 1) := by decide +kernel
theorem d_Mo_entryElement_72 : decode m_Mo_entryElement.2.1 72 = .ok (.getfield 99, 3) := by decide +kernel
theorem d_Mo_entryElement_75 : decode m_Mo_entryElement.2.1 75 = .ok (.if_icmp .ge 132, 3) := by decide +kernel
theorem d_Mo_entryElement_78 : decode m_Mo_entryElement.2.1 78 = .ok (.aload_n 0, 1) := by decide +kernel
theorem d_Mo_entryElement_79 : decode m_Mo_entryElement.2.1 79 = .ok (.getfield 38, 3) := by decide +kernel
theorem d_Mo_entryElement_82 : decode m_Mo_entryElement.2.1 82 = .ok (.iload 5, 2) := by decide +kernel
theorem d_Mo_entryElement_84 : decode m_Mo_entryElement.2.1 84 = .ok (.iaload, 1) := by decide +kernel
theorem d_Mo_entryElement_85 : decode m_Mo_entryElement.2.1 85 = .ok (.invokestatic 60, 3) := by decide +kernel
theorem d_Mo_entryElement_88 : decode m_Mo_entryElement.2.1 88 = .ok (.ifCond .eq 119, 3) := by decide +kernel
theorem d_Mo_entryElement_91 : decode m_Mo_entryElement.2.1 91 = .ok (.aload_n 0, 1) := by decide +kernel
theorem d_Mo_entryElement_92 : decode m_Mo_entryElement.2.1 92 = .ok (.getfield 38, 3) := by decide +kernel
theorem d_Mo_entryElement_95 : decode m_Mo_entryElement.2.1 95 = .ok (.iload 5, 2) := by decide +kernel
theorem d_Mo_entryElement_97 : decode m_Mo_entryElement.2.1 97 = .ok (.iaload, 1) := by decide +kernel
theorem d_Mo_entryElement_98 : decode m_Mo_entryElement.2.1 98 = .ok (.invokestatic 102, 3) := by decide +kernel
theorem d_Mo_entryElement_101 : decode m_Mo_entryElement.2.1 101 = .ok (.istore 6, 2) := by decide +kernel
theorem d_Mo_entryElement_103 : decode m_Mo_entryElement.2.1 103 = .ok (.iload 6, 2) := by decide +kernel
theorem d_Mo_entryElement_105 : decode m_Mo_entryElement.2.1 105 = .ok (.iconst 1, 1) := by decide +kernel
theorem d_Mo_entryElement_106 : decode m_Mo_entryElement.2.1 106 = .ok (.if_icmp .ne 7, 3) := by decide +kernel
theorem d_Mo_entryElement_109 : decode m_Mo_entryElement.2.1 109 = .ok (.iload_n 3, 1) := by decide +kernel
theorem d_Mo_entryElement_110 : decode m_Mo_entryElement.2.1 110 = .ok (.goto 5, 3) := by decide +kernel
theorem d_Mo_entryElement_113 : decode m_Mo_entryElement.2.1 113 = .ok (.iload 4, 2) := by decide +kernel
theorem d_Mo_entryElement_115 : decode m_Mo_entryElement.2.1 115 = .ok (.istore 7, 2) := by decide +kernel
theorem d_Mo_entryElement_117 : decode m_Mo_entryElement.2.1 117 = .ok (.iload_n 2, 1) := by decide +kernel
theorem d_Mo_entryElement_118 : decode m_Mo_entryElement.2.1 118 = .ok (.aload_n 0, 1) := by decide +kernel
theorem d_Mo_entryElement_119 : decode m_Mo_entryElement.2.1 119 = .ok (.getfield 38, 3) := by decide +kernel
theorem d_Mo_entryElement_122 : decode m_Mo_entryElement.2.1 122 = .ok (.iload 5, 2) := by decide +kernel
theorem d_Mo_entryElement_124 : decode m_Mo_entryElement.2.1 124 = .ok (.iaload, 1) := by decide +kernel
theorem d_Mo_entryElement_125 : decode m_Mo_entryElement.2.1 125 = .ok (.bipush 7, 2) := by decide +kernel
theorem d_Mo_entryElement_127 : decode m_Mo_entryElement.2.1 127 = .ok (.iload_n 1, 1) := by decide +kernel
theorem d_Mo_entryElement_128 : decode m_Mo_entryElement.2.1 128 = .ok (.imul, 1) := by decide +kernel
theorem d_Mo_entryElement_129 : decode m_Mo_entryElement.2.1 129 = .ok (.ishl, 1) := by decide +kernel
theorem d_Mo_entryElement_130 : decode m_Mo_entryElement.2.1 130 = .ok (.iadd, 1) := by decide +kernel
theorem d_Mo_entryElement_131 : decode m_Mo_entryElement.2.1 131 = .ok (.istore 8, 2) := by decide +kernel
theorem d_Mo_entryElement_133 : decode m_Mo_entryElement.2.1 133 = .ok (.iload 7, 2) := by decide +kernel
theorem d_Mo_entryElement_135 : decode m_Mo_entryElement.2.1 135 = .ok (.ifCond .ne 32, 3) := by decide +kernel
theorem d_Mo_entryElement_138 : decode m_Mo_entryElement.2.1 138 = .ok (.iload_n 1, 1) := by decide +kernel
theorem d_Mo_entryElement_139 : decode m_Mo_entryElement.2.1 139 = .ok (.iconst 3, 1) := by decide +kernel
theorem d_Mo_entryElement_140 : decode m_Mo_entryElement.2.1 140 = .ok (.if_icmp .ge 27, 3) := by decide +kernel
theorem d_Mo_entryElement_143 : decode m_Mo_entryElement.2.1 143 = .ok (.aload_n 0, 1) := by decide +kernel
theorem d_Mo_entryElement_144 : decode m_Mo_entryElement.2.1 144 = .ok (.iload 8, 2) := by decide +kernel
theorem d_Mo_entryElement_146 : decode m_Mo_entryElement.2.1 146 = .ok (.invokevirtual 122, 3) := by decide +kernel
theorem d_Mo_entryElement_149 : decode m_Mo_entryElement.2.1 149 = .ok (.ifCond .lt 18, 3) := by decide +kernel
theorem d_Mo_entryElement_152 : decode m_Mo_entryElement.2.1 152 = .ok (.iload 8, 2) := by decide +kernel
theorem d_Mo_entryElement_154 : decode m_Mo_entryElement.2.1 154 = .ok (.istore_n 2, 1) := by decide +kernel
theorem d_Mo_entryElement_155 : decode m_Mo_entryElement.2.1 155 = .ok (.iinc 1 1, 3) := by decide +kernel
theorem d_Mo_entryElement_158 : decode m_Mo_entryElement.2.1 158 = .ok (.aload_n 0, 1) := by decide +kernel
theorem d_Mo_entryElement_159 : decode m_Mo_entryElement.2.1 159 = .ok (.iload 5, 2) := by decide +kernel
theorem d_Mo_entryElement_161 : decode m_Mo_entryElement.2.1 161 = .ok (.invokevirtual 125, 3) := by decide +kernel
theorem d_Mo_entryElement_164 : decode m_Mo_entryElement.2.1 164 = .ok (.goto 40, 3) := by decide +kernel
theorem d_Mo_entryElement_167 : decode m_Mo_entryElement.2.1 167 = .ok (.iload_n 3, 1) := by decide +kernel
theorem d_Mo_entryElement_168 : decode m_Mo_entryElement.2.1 168 = .ok (.ifCond .ne 9, 3) := by decide +kernel
theorem d_Mo_entryElement_171 : decode m_Mo_entryElement.2.1 171 = .ok (.iload 6, 2) := by decide +kernel
theorem d_Mo_entryElement_173 : decode m_Mo_entryElement.2.1 173 = .ok (.iconst 1, 1) := by decide +kernel
theorem d_Mo_entryElement_174 : decode m_Mo_entryElement.2.1 174 = .ok (.if_icmp .ne 7, 3) := by decide +kernel
theorem d_Mo_entryElement_177 : decode m_Mo_entryElement.2.1 177 = .ok (.iconst 1, 1) := by decide +kernel
theorem d_Mo_entryElement_178 : decode m_Mo_entryElement.2.1 178 = .ok (.goto 4, 3) := by decide +kernel
theorem d_Mo_entryElement_181 : decode m_Mo_entryElement.2.1 181 = .ok (.iconst 0, 1) := by decide +kernel
theorem d_Mo_entryElement_182 : decode m_Mo_entryElement.2.1 182 = .ok (.istore_n 3, 1) := by decide +kernel
theorem d_Mo_entryElement_183 : decode m_Mo_entryElement.2.1 183 = .ok (.iload 4, 2) := by decide +kernel
theorem d_Mo_entryElement_185 : decode m_Mo_entryElement.2.1 185 = .ok (.ifCond .ne 9, 3) := by decide +kernel
theorem d_Mo_entryElement_188 : decode m_Mo_entryElement.2.1 188 = .ok (.iload 6, 2) := by decide +kernel
theorem d_Mo_entryElement_190 : decode m_Mo_entryElement.2.1 190 = .ok (.iconst 2, 1) := by decide +kernel
theorem d_Mo_entryElement_191 : decode m_Mo_entryElement.2.1 191 = .ok (.if_icmp .ne 7, 3) := by decide +kernel
theorem d_Mo_entryElement_194 : decode m_Mo_entryElement.2.1 194 = .ok (.iconst 1, 1) := by decide +kernel
theorem d_Mo_entryElement_195 : decode m_Mo_entryElement.2.1 195 = .ok (.goto 4, 3) := by decide +kernel
theorem d_Mo_entryElement_198 : decode m_Mo_entryElement.2.1 198 = .ok (.iconst 0, 1) := by decide +kernel
theorem d_Mo_entryElement_199 : decode m_Mo_entryElement.2.1 199 = .ok (.istore 4, 2) := by decide +kernel
theorem d_Mo_entryElement_201 : decode m_Mo_entryElement.2.1 201 = .ok (.iinc 5 1, 3) := by decide +kernel
theorem d_Mo_entryElement_204 : decode m_Mo_entryElement.2.1 204 = .ok (.goto (-135), 3) := by decide +kernel
theorem d_Mo_entryElement_207 : decode m_Mo_entryElement.2.1 207 = .ok (.aload_n 0, 1) := by decide +kernel
theorem d_Mo_entryElement_208 : decode m_Mo_entryElement.2.1 208 = .ok (.iload_n 2, 1) := by decide +kernel
theorem d_Mo_entryElement_209 : decode m_Mo_entryElement.2.1 209 = .ok (.invokevirtual 122, 3) := by decide +kernel
theorem d_Mo_entryElement_212 : decode m_Mo_entryElement.2.1 212 = .ok (.istore 6, 2) := by decide +kernel
theorem d_Mo_entryElement_214 : decode m_Mo_entryElement.2.1 214 = .ok (.aload_n 0, 1) := by decide +kernel
theorem d_Mo_entryElement_215 : decode m_Mo_entryElement.2.1 215 = .ok (.iload_n 2, 1) := by decide +kernel
theorem d_Mo_entryElement_216 : decode m_Mo_entryElement.2.1 216 = .ok (.bipush 32, 2) := by decide +kernel
theorem d_Mo_entryElement_218 : decode m_Mo_entryElement.2.1 218 = .ok (.if_icmp .eq 9, 3) := by decide +kernel
theorem d_Mo_entryElement_221 : decode m_Mo_entryElement.2.1 221 = .ok (.iload_n 2, 1) := by decide +kernel
theorem d_Mo_entryElement_222 : decode m_Mo_entryElement.2.1 222 = .ok (.bipush 45, 2) := by decide +kernel
theorem d_Mo_entryElement_224 : decode m_Mo_entryElement.2.1 224 = .ok (.if_icmp .ne 7, 3) := by decide +kernel
theorem d_Mo_entryElement_227 : decode m_Mo_entryElement.2.1 227 = .ok (.iconst 1, 1) := by decide +kernel
theorem d_Mo_entryElement_228 : decode m_Mo_entryElement.2.1 228 = .ok (.goto 4, 3) := by decide +kernel
theorem d_Mo_entryElement_231 : decode m_Mo_entryElement.2.1 231 = .ok (.iconst 0, 1) := by decide +kernel
theorem d_Mo_entryElement_232 : decode m_Mo_entryElement.2.1 232 = .ok (.putfield 112, 3) := by decide +kernel
theorem d_Mo_entryElement_235 : decode m_Mo_entryElement.2.1 235 = .ok (.aload_n 0, 1) := by decide +kernel
theorem d_Mo_entryElement_236 : decode m_Mo_entryElement.2.1 236 = .ok (.getfield 108, 3) := by decide +kernel
theorem d_Mo_entryElement_239 : decode m_Mo_entryElement.2.1 239 = .ok (.ifCond .eq 27, 3) := by decide +kernel
theorem d_Mo_entryElement_242 : decode m_Mo_entryElement.2.1 242 = .ok (.aload_n 0, 1) := by decide +kernel
theorem d_Mo_entryElement_243 : decode m_Mo_entryElement.2.1 243 = .ok (.getfield 112, 3) := by decide +kernel
theorem d_Mo_entryElement_246 : decode m_Mo_entryElement.2.1 246 = .ok (.ifCond .eq 20, 3) := by decide +kernel
theorem d_Mo_entryElement_249 : decode m_Mo_entryElement.2.1 249 = .ok (.aload_n 0, 1) := by decide +kernel
theorem d_Mo_entryElement_250 : decode m_Mo_entryElement.2.1 250 = .ok (.iconst 0, 1) := by decide +kernel
theorem d_Mo_entryElement_251 : decode m_Mo_entryElement.2.1 251 = .ok (.iconst 0, 1) := by decide +kernel
theorem d_Mo_entryElement_252 : decode m_Mo_entryElement.2.1 252 = .ok (.iconst 0, 1) := by decide +kernel
theorem d_Mo_entryElement_253 : decode m_Mo_entryElement.2.1 253 = .ok (.aload_n 0, 1) := by decide +kernel
theorem d_Mo_entryElement_254 : decode m_Mo_entryElement.2.1 254 = .ok (.iload 6, 2) := by decide +kernel
theorem d_Mo_entryElement_256 : decode m_Mo_entryElement.2.1 256 = .ok (.iconst 1, 1) := by decide +kernel
theorem d_Mo_entryElement_257 : decode m_Mo_entryElement.2.1 257 = .ok (.invokevirtual 96, 3) := by decide +kernel
theorem d_Mo_entryElement_260 : decode m_Mo_entryElement.2.1 260 = .ok (.invokevirtual 115, 3) := by decide +kernel
theorem d_Mo_entryElement_263 : decode m_Mo_entryElement.2.1 263 = .ok (.goto 31, 3) := by decide +kernel
theorem d_Mo_entryElement_266 : decode m_Mo_entryElement.2.1 266 = .ok (.aload_n 0, 1) := by decide +kernel
theorem d_Mo_entryElement_267 : decode m_Mo_entryElement.2.1 267 = .ok (.aload_n 0, 1) := by decide +kernel
theorem d_Mo_entryElement_268 : decode m_Mo_entryElement.2.1 268 = .ok (.iload 6, 2) := by decide +kernel
theorem d_Mo_entryElement_270 : decode m_Mo_entryElement.2.1 270 = .ok (.iconst 1, 1) := by decide +kernel
theorem d_Mo_entryElement_271 : decode m_Mo_entryElement.2.1 271 = .ok (.invokevirtual 96, 3) := by decide +kernel
theorem d_Mo_entryElement_274 : decode m_Mo_entryElement.2.1 274 = .ok (.aload_n 0, 1) := by decide +kernel
theorem d_Mo_entryElement_275 : decode m_Mo_entryElement.2.1 275 = .ok (.iload 6, 2) := by decide +kernel
theorem d_Mo_entryElement_277 : decode m_Mo_entryElement.2.1 277 = .ok (.iconst 2, 1) := by decide +kernel
theorem d_Mo_entryElement_278 : decode m_Mo_entryElement.2.1 278 = .ok (.invokevirtual 96, 3) := by decide +kernel
theorem d_Mo_entryElement_281 : decode m_Mo_entryElement.2.1 281 = .ok (.aload_n 0, 1) := by decide +kernel
theorem d_Mo_entryElement_282 : decode m_Mo_entryElement.2.1 282 = .ok (.iload 6, 2) := by decide +kernel
theorem d_Mo_entryElement_284 : decode m_Mo_entryElement.2.1 284 = .ok (.iconst 3, 1) := by decide +kernel
theorem d_Mo_entryElement_285 : decode m_Mo_entryElement.2.1 285 = .ok (.invokevirtual 96, 3) := by decide +kernel
theorem d_Mo_entryElement_288 : decode m_Mo_entryElement.2.1 288 = .ok (.sipush 1000, 3) := by decide +kernel
theorem d_Mo_entryElement_291 : decode m_Mo_entryElement.2.1 291 = .ok (.invokevirtual 115, 3) := by decide +kernel
theorem d_Mo_entryElement_294 : decode m_Mo_entryElement.2.1 294 = .ok (.return_, 1) := by decide +kernel
theorem d_Mo_findElements_0 : decode m_Mo_findElements.2.1 0 = .ok (.aload_n 0, 1) := by decide +kernel
theorem d_Mo_findElements_1 : decode m_Mo_findElements.2.1 1 = .ok (.aload_n 0, 1) := by decide +kernel
theorem d_Mo_findElements_2 : decode m_Mo_findElements.2.1 2 = .ok (.getfield 28, 3) := by decide +kernel
theorem d_Mo_findElements_5 : decode m_Mo_findElements.2.1 5 = .ok (.iload_n 1, 1) := by decide +kernel
theorem d_Mo_findElements_6 : decode m_Mo_findElements.2.1 6 = .ok (.iaload, 1) := by decide +kernel
theorem d_Mo_findElements_7 : decode m_Mo_findElements.2.1 7 = .ok (.putfield 99, 3) := by decide +kernel
theorem d_Mo_findElements_10 : decode m_Mo_findElements.2.1 10 = .ok (.iconst 0, 1) := by decide +kernel
theorem d_Mo_findElements_11 : decode m_Mo_findElements.2.1 11 = .ok (.istore_n 2, 1) := by decide +kernel
theorem d_Mo_findElements_12 : decode m_Mo_findElements.2.1 12 = .ok (.iload_n 2, 1) := by decide +kernel
theorem d_Mo_findElements_13 : decode m_Mo_findElements.2.1 13 = .ok (.aload_n 0, 1) := by decide +kernel
theorem d_Mo_findElements_14 : decode m_Mo_findElements.2.1 14 = .ok (.getfield 99, 3) := by decide +kernel
theorem d_Mo_findElements_17 : decode m_Mo_findElements.2.1 17 = .ok (.if_icmp .ge 26, 3) := by decide +kernel
theorem d_Mo_findElements_20 : decode m_Mo_findElements.2.1 20 = .ok (.aload_n 0, 1) := by decide +kernel
theorem d_Mo_findElements_21 : decode m_Mo_findElements.2.1 21 = .ok (.getfield 38, 3) := by decide +kernel
theorem d_Mo_findElements_24 : decode m_Mo_findElements.2.1 24 = .ok (.iload_n 2, 1) := by decide +kernel
theorem d_Mo_findElements_25 : decode m_Mo_findElements.2.1 25 = .ok (.aload_n 0, 1) := by decide +kernel
theorem d_Mo_findElements_26 : decode m_Mo_findElements.2.1 26 = .ok (.getfield 25, 3) := by decide +kernel
theorem d_Mo_findElements_29 : decode m_Mo_findElements.2.1 29 = .ok (.bipush 12, 2) := by decide +kernel
theorem d_Mo_findElements_31 : decode m_Mo_findElements.2.1 31 = .ok (.iload_n 1, 1) := by decide +kernel
theorem d_Mo_findElements_32 : decode m_Mo_findElements.2.1 32 = .ok (.imul, 1) := by decide +kernel
theorem d_Mo_findElements_33 : decode m_Mo_findElements.2.1 33 = .ok (.iload_n 2, 1) := by decide +kernel
theorem d_Mo_findElements_34 : decode m_Mo_findElements.2.1 34 = .ok (.iadd, 1) := by decide +kernel
theorem d_Mo_findElements_35 : decode m_Mo_findElements.2.1 35 = .ok (.iaload, 1) := by decide +kernel
theorem d_Mo_findElements_36 : decode m_Mo_findElements.2.1 36 = .ok (.iastore, 1) := by decide +kernel
theorem d_Mo_findElements_37 : decode m_Mo_findElements.2.1 37 = .ok (.iinc 2 1, 3) := by decide +kernel
theorem d_Mo_findElements_40 : decode m_Mo_findElements.2.1 40 = .ok (.goto (-28), 3) := by decide +kernel
theorem d_Mo_findElements_43 : decode m_Mo_findElements.2.1 43 = .ok (.aload_n 0, 1) := by decide +kernel
theorem d_Mo_findElements_44 : decode m_Mo_findElements.2.1 44 = .ok (.invokevirtual 128, 3) := by decide +kernel
theorem d_Mo_findElements_47 : decode m_Mo_findElements.2.1 47 = .ok (.aload_n 0, 1) := by decide +kernel
theorem d_Mo_findElements_48 : decode m_Mo_findElements.2.1 48 = .ok (.iconst 0, 1) := by decide +kernel
theorem d_Mo_findElements_49 : decode m_Mo_findElements.2.1 49 = .ok (.putfield 105, 3) := by decide +kernel
theorem d_Mo_findElements_52 : decode m_Mo_findElements.2.1 52 = .ok (.aload_n 0, 1) := by decide +kernel
theorem d_Mo_findElements_53 : decode m_Mo_findElements.2.1 53 = .ok (.iconst 0, 1) := by decide +kernel
theorem d_Mo_findElements_54 : decode m_Mo_findElements.2.1 54 = .ok (.putfield 112, 3) := by decide +kernel
theorem d_Mo_findElements_57 : decode m_Mo_findElements.2.1 57 = .ok (.aload_n 0, 1) := by decide +kernel
theorem d_Mo_findElements_58 : decode m_Mo_findElements.2.1 58 = .ok (.getfield 99, 3) := by decide +kernel
theorem d_Mo_findElements_61 : decode m_Mo_findElements.2.1 61 = .ok (.ifCond .le 40, 3) := by decide +kernel
theorem d_Mo_findElements_64 : decode m_Mo_findElements.2.1 64 = .ok (.aload_n 0, 1) := by decide +kernel
theorem d_Mo_findElements_65 : decode m_Mo_findElements.2.1 65 = .ok (.getfield 38, 3) := by decide +kernel
theorem d_Mo_findElements_68 : decode m_Mo_findElements.2.1 68 = .ok (.iconst 0, 1) := by decide +kernel
theorem d_Mo_findElements_69 : decode m_Mo_findElements.2.1 69 = .ok (.iaload, 1) := by decide +kernel
theorem d_Mo_findElements_70 : decode m_Mo_findElements.2.1 70 = .ok (.invokestatic 60, 3) := by decide +kernel
theorem d_Mo_findElements_73 : decode m_Mo_findElements.2.1 73 = .ok (.ifCond .eq 21, 3) := by decide +kernel
theorem d_Mo_findElements_76 : decode m_Mo_findElements.2.1 76 = .ok (.aload_n 0, 1) := by decide +kernel
theorem d_Mo_findElements_77 : decode m_Mo_findElements.2.1 77 = .ok (.aload_n 0, 1) := by decide +kernel
theorem d_Mo_findElements_78 : decode m_Mo_findElements.2.1 78 = .ok (.getfield 38, 3) := by decide +kernel
theorem d_Mo_findElements_81 : decode m_Mo_findElements.2.1 81 = .ok (.iconst 0, 1) := by decide +kernel
theorem d_Mo_findElements_82 : decode m_Mo_findElements.2.1 82 = .ok (.iaload, 1) := by decide +kernel
theorem d_Mo_findElements_83 : decode m_Mo_findElements.2.1 83 = .ok (.invokevirtual 131, 3) := by decide +kernel
theorem d_Mo_findElements_86 : decode m_Mo_findElements.2.1 86 = .ok (.aload_n 0, 1) := by decide +kernel
theorem d_Mo_findElements_87 : decode m_Mo_findElements.2.1 87 = .ok (.iconst 0, 1) := by decide +kernel
theorem d_Mo_findElements_88 : decode m_Mo_findElements.2.1 88 = .ok (.invokevirtual 125, 3) := by decide +kernel
theorem d_Mo_findElements_91 : decode m_Mo_findElements.2.1 91 = .ok (.goto (-34), 3) := by decide +kernel
theorem d_Mo_findElements_94 : decode m_Mo_findElements.2.1 94 = .ok (.aload_n 0, 1) := by decide +kernel
theorem d_Mo_findElements_95 : decode m_Mo_findElements.2.1 95 = .ok (.invokevirtual 134, 3) := by decide +kernel
theorem d_Mo_findElements_98 : decode m_Mo_findElements.2.1 98 = .ok (.goto (-41), 3) := by decide +kernel
theorem d_Mo_findElements_101 : decode m_Mo_findElements.2.1 101 = .ok (.return_, 1) := by decide +kernel
theorem d_Mo_write_0 : decode m_Mo_write.2.1 0 = .ok (.aload_n 0, 1) := by decide +kernel
theorem d_Mo_write_1 : decode m_Mo_write.2.1 1 = .ok (.iload_n 1, 1) := by decide +kernel
theorem d_Mo_write_2 : decode m_Mo_write.2.1 2 = .ok (.invokevirtual 137, 3) := by decide +kernel
theorem d_Mo_write_5 : decode m_Mo_write.2.1 5 = .ok (.iconst 0, 1) := by decide +kernel
theorem d_Mo_write_6 : decode m_Mo_write.2.1 6 = .ok (.istore_n 2, 1) := by decide +kernel
theorem d_Mo_write_7 : decode m_Mo_write.2.1 7 = .ok (.iconst 0, 1) := by decide +kernel
theorem d_Mo_write_8 : decode m_Mo_write.2.1 8 = .ok (.istore_n 3, 1) := by decide +kernel
theorem d_Mo_write_9 : decode m_Mo_write.2.1 9 = .ok (.iload_n 3, 1) := by decide +kernel
theorem d_Mo_write_10 : decode m_Mo_write.2.1 10 = .ok (.aload_n 0, 1) := by decide +kernel
theorem d_Mo_write_11 : decode m_Mo_write.2.1 11 = .ok (.getfield 34, 3) := by decide +kernel
theorem d_Mo_write_14 : decode m_Mo_write.2.1 14 = .ok (.if_icmp .ge 104, 3) := by decide +kernel
theorem d_Mo_write_17 : decode m_Mo_write.2.1 17 = .ok (.iconst 0, 1) := by decide +kernel
theorem d_Mo_write_18 : decode m_Mo_write.2.1 18 = .ok (.istore 4, 2) := by decide +kernel
theorem d_Mo_write_20 : decode m_Mo_write.2.1 20 = .ok (.iload 4, 2) := by decide +kernel
theorem d_Mo_write_22 : decode m_Mo_write.2.1 22 = .ok (.aload_n 0, 1) := by decide +kernel
theorem d_Mo_write_23 : decode m_Mo_write.2.1 23 = .ok (.getfield 105, 3) := by decide +kernel
theorem d_Mo_write_26 : decode m_Mo_write.2.1 26 = .ok (.if_icmp .ge 71, 3) := by decide +kernel
theorem d_Mo_write_29 : decode m_Mo_write.2.1 29 = .ok (.iload_n 3, 1) := by decide +kernel
theorem d_Mo_write_30 : decode m_Mo_write.2.1 30 = .ok (.iconst 1, 1) := by decide +kernel
theorem d_Mo_write_31 : decode m_Mo_write.2.1 31 = .ok (.if_icmp .ne 22, 3) := by decide +kernel
theorem d_Mo_write_34 : decode m_Mo_write.2.1 34 = .ok (.aload_n 0, 1) := by decide +kernel
theorem d_Mo_write_35 : decode m_Mo_write.2.1 35 = .ok (.getfield 140, 3) := by decide +kernel
theorem d_Mo_write_38 : decode m_Mo_write.2.1 38 = .ok (.ifCond .eq 15, 3) := by decide +kernel
theorem d_Mo_write_41 : decode m_Mo_write.2.1 41 = .ok (.aload_n 0, 1) := by decide +kernel
theorem d_Mo_write_42 : decode m_Mo_write.2.1 42 = .ok (.getfield 105, 3) := by decide +kernel
theorem d_Mo_write_45 : decode m_Mo_write.2.1 45 = .ok (.iconst 1, 1) := by decide +kernel
theorem d_Mo_write_46 : decode m_Mo_write.2.1 46 = .ok (.isub, 1) := by decide +kernel
theorem d_Mo_write_47 : decode m_Mo_write.2.1 47 = .ok (.iload 4, 2) := by decide +kernel
theorem d_Mo_write_49 : decode m_Mo_write.2.1 49 = .ok (.isub, 1) := by decide +kernel
theorem d_Mo_write_50 : decode m_Mo_write.2.1 50 = .ok (.goto 5, 3) := by decide +kernel
theorem d_Mo_write_53 : decode m_Mo_write.2.1 53 = .ok (.iload 4, 2) := by decide +kernel
theorem d_Mo_write_55 : decode m_Mo_write.2.1 55 = .ok (.istore 5, 2) := by decide +kernel
theorem d_Mo_write_57 : decode m_Mo_write.2.1 57 = .ok (.aload_n 0, 1) := by decide +kernel
theorem d_Mo_write_58 : decode m_Mo_write.2.1 58 = .ok (.getfield 41, 3) := by decide +kernel
theorem d_Mo_write_61 : decode m_Mo_write.2.1 61 = .ok (.iconst 4, 1) := by decide +kernel
theorem d_Mo_write_62 : decode m_Mo_write.2.1 62 = .ok (.iload 5, 2) := by decide +kernel
theorem d_Mo_write_64 : decode m_Mo_write.2.1 64 = .ok (.imul, 1) := by decide +kernel
theorem d_Mo_write_65 : decode m_Mo_write.2.1 65 = .ok (.iload_n 3, 1) := by decide +kernel
theorem d_Mo_write_66 : decode m_Mo_write.2.1 66 = .ok (.iadd, 1) := by decide +kernel
theorem d_Mo_write_67 : decode m_Mo_write.2.1 67 = .ok (.iaload, 1) := by decide +kernel
theorem d_Mo_write_68 : decode m_Mo_write.2.1 68 = .ok (.istore 6, 2) := by decide +kernel
theorem d_Mo_write_70 : decode m_Mo_write.2.1 70 = .ok (.iload 6, 2) := by decide +kernel
theorem d_Mo_write_72 : decode m_Mo_write.2.1 72 = .ok (.ifCond .eq 19, 3) := by decide +kernel
theorem d_Mo_write_75 : decode m_Mo_write.2.1 75 = .ok (.aload_n 0, 1) := by decide +kernel
theorem d_Mo_write_76 : decode m_Mo_write.2.1 76 = .ok (.getfield 44, 3) := by decide +kernel
theorem d_Mo_write_79 : decode m_Mo_write.2.1 79 = .ok (.bipush 64, 2) := by decide +kernel
theorem d_Mo_write_81 : decode m_Mo_write.2.1 81 = .ok (.iload_n 1, 1) := by decide +kernel
theorem d_Mo_write_82 : decode m_Mo_write.2.1 82 = .ok (.imul, 1) := by decide +kernel
theorem d_Mo_write_83 : decode m_Mo_write.2.1 83 = .ok (.iload_n 2, 1) := by decide +kernel
theorem d_Mo_write_84 : decode m_Mo_write.2.1 84 = .ok (.iadd, 1) := by decide +kernel
theorem d_Mo_write_85 : decode m_Mo_write.2.1 85 = .ok (.iload 6, 2) := by decide +kernel
theorem d_Mo_write_87 : decode m_Mo_write.2.1 87 = .ok (.iastore, 1) := by decide +kernel
theorem d_Mo_write_88 : decode m_Mo_write.2.1 88 = .ok (.iinc 2 1, 3) := by decide +kernel
theorem d_Mo_write_91 : decode m_Mo_write.2.1 91 = .ok (.iinc 4 1, 3) := by decide +kernel
theorem d_Mo_write_94 : decode m_Mo_write.2.1 94 = .ok (.goto (-74), 3) := by decide +kernel
theorem d_Mo_write_97 : decode m_Mo_write.2.1 97 = .ok (.aload_n 0, 1) := by decide +kernel
theorem d_Mo_write_98 : decode m_Mo_write.2.1 98 = .ok (.getfield 44, 3) := by decide +kernel
theorem d_Mo_write_101 : decode m_Mo_write.2.1 101 = .ok (.bipush 64, 2) := by decide +kernel
theorem d_Mo_write_103 : decode m_Mo_write.2.1 103 = .ok (.iload_n 1, 1) := by decide +kernel
theorem d_Mo_write_104 : decode m_Mo_write.2.1 104 = .ok (.imul, 1) := by decide +kernel
theorem d_Mo_write_105 : decode m_Mo_write.2.1 105 = .ok (.iload_n 2, 1) := by decide +kernel
theorem d_Mo_write_106 : decode m_Mo_write.2.1 106 = .ok (.iadd, 1) := by decide +kernel
theorem d_Mo_write_107 : decode m_Mo_write.2.1 107 = .ok (.iconst 0, 1) := by decide +kernel
theorem d_Mo_write_108 : decode m_Mo_write.2.1 108 = .ok (.iastore, 1) := by decide +kernel
theorem d_Mo_write_109 : decode m_Mo_write.2.1 109 = .ok (.iinc 2 1, 3) := by decide +kernel
theorem d_Mo_write_112 : decode m_Mo_write.2.1 112 = .ok (.iinc 3 1, 3) := by decide +kernel
theorem d_Mo_write_115 : decode m_Mo_write.2.1 115 = .ok (.goto (-106), 3) := by decide +kernel
theorem d_Mo_write_118 : decode m_Mo_write.2.1 118 = .ok (.aload_n 0, 1) := by decide +kernel
theorem d_Mo_write_119 : decode m_Mo_write.2.1 119 = .ok (.getfield 47, 3) := by decide +kernel
theorem d_Mo_write_122 : decode m_Mo_write.2.1 122 = .ok (.iload_n 1, 1) := by decide +kernel
theorem d_Mo_write_123 : decode m_Mo_write.2.1 123 = .ok (.iload_n 2, 1) := by decide +kernel
theorem d_Mo_write_124 : decode m_Mo_write.2.1 124 = .ok (.iastore, 1) := by decide +kernel
theorem d_Mo_write_125 : decode m_Mo_write.2.1 125 = .ok (.return_, 1) := by decide +kernel
theorem d_Mo_order_0 : decode m_Mo_order.2.1 0 = .ok (.iconst 0, 1) := by decide +kernel
theorem d_Mo_order_1 : decode m_Mo_order.2.1 1 = .ok (.istore_n 3, 1) := by decide +kernel
theorem d_Mo_order_2 : decode m_Mo_order.2.1 2 = .ok (.iload_n 3, 1) := by decide +kernel
theorem d_Mo_order_3 : decode m_Mo_order.2.1 3 = .ok (.aload_n 0, 1) := by decide +kernel
theorem d_Mo_order_4 : decode m_Mo_order.2.1 4 = .ok (.getfield 47, 3) := by decide +kernel
theorem d_Mo_order_7 : decode m_Mo_order.2.1 7 = .ok (.iload_n 1, 1) := by decide +kernel
theorem d_Mo_order_8 : decode m_Mo_order.2.1 8 = .ok (.iaload, 1) := by decide +kernel
theorem d_Mo_order_9 : decode m_Mo_order.2.1 9 = .ok (.if_icmp .ge 65, 3) := by decide +kernel
theorem d_Mo_order_12 : decode m_Mo_order.2.1 12 = .ok (.iload_n 3, 1) := by decide +kernel
theorem d_Mo_order_13 : decode m_Mo_order.2.1 13 = .ok (.aload_n 0, 1) := by decide +kernel
theorem d_Mo_order_14 : decode m_Mo_order.2.1 14 = .ok (.getfield 47, 3) := by decide +kernel
theorem d_Mo_order_17 : decode m_Mo_order.2.1 17 = .ok (.iload_n 2, 1) := by decide +kernel
theorem d_Mo_order_18 : decode m_Mo_order.2.1 18 = .ok (.iaload, 1) := by decide +kernel
theorem d_Mo_order_19 : decode m_Mo_order.2.1 19 = .ok (.if_icmp .ge 55, 3) := by decide +kernel
theorem d_Mo_order_22 : decode m_Mo_order.2.1 22 = .ok (.aload_n 0, 1) := by decide +kernel
theorem d_Mo_order_23 : decode m_Mo_order.2.1 23 = .ok (.getfield 44, 3) := by decide +kernel
theorem d_Mo_order_26 : decode m_Mo_order.2.1 26 = .ok (.bipush 64, 2) := by decide +kernel
theorem d_Mo_order_28 : decode m_Mo_order.2.1 28 = .ok (.iload_n 1, 1) := by decide +kernel
theorem d_Mo_order_29 : decode m_Mo_order.2.1 29 = .ok (.imul, 1) := by decide +kernel
theorem d_Mo_order_30 : decode m_Mo_order.2.1 30 = .ok (.iload_n 3, 1) := by decide +kernel
theorem d_Mo_order_31 : decode m_Mo_order.2.1 31 = .ok (.iadd, 1) := by decide +kernel
theorem d_Mo_order_32 : decode m_Mo_order.2.1 32 = .ok (.iaload, 1) := by decide +kernel
theorem d_Mo_order_33 : decode m_Mo_order.2.1 33 = .ok (.istore 4, 2) := by decide +kernel
theorem d_Mo_order_35 : decode m_Mo_order.2.1 35 = .ok (.aload_n 0, 1) := by decide +kernel
theorem d_Mo_order_36 : decode m_Mo_order.2.1 36 = .ok (.getfield 44, 3) := by decide +kernel
theorem d_Mo_order_39 : decode m_Mo_order.2.1 39 = .ok (.bipush 64, 2) := by decide +kernel
theorem d_Mo_order_41 : decode m_Mo_order.2.1 41 = .ok (.iload_n 2, 1) := by decide +kernel
theorem d_Mo_order_42 : decode m_Mo_order.2.1 42 = .ok (.imul, 1) := by decide +kernel
theorem d_Mo_order_43 : decode m_Mo_order.2.1 43 = .ok (.iload_n 3, 1) := by decide +kernel
theorem d_Mo_order_44 : decode m_Mo_order.2.1 44 = .ok (.iadd, 1) := by decide +kernel
theorem d_Mo_order_45 : decode m_Mo_order.2.1 45 = .ok (.iaload, 1) := by decide +kernel
theorem d_Mo_order_46 : decode m_Mo_order.2.1 46 = .ok (.istore 5, 2) := by decide +kernel
theorem d_Mo_order_48 : decode m_Mo_order.2.1 48 = .ok (.iload 4, 2) := by decide +kernel
theorem d_Mo_order_50 : decode m_Mo_order.2.1 50 = .ok (.iload 5, 2) := by decide +kernel
theorem d_Mo_order_52 : decode m_Mo_order.2.1 52 = .ok (.if_icmp .eq 16, 3) := by decide +kernel
theorem d_Mo_order_55 : decode m_Mo_order.2.1 55 = .ok (.iload 4, 2) := by decide +kernel
theorem d_Mo_order_57 : decode m_Mo_order.2.1 57 = .ok (.iload 5, 2) := by decide +kernel
theorem d_Mo_order_59 : decode m_Mo_order.2.1 59 = .ok (.if_icmp .ge 7, 3) := by decide +kernel
theorem d_Mo_order_62 : decode m_Mo_order.2.1 62 = .ok (.iconst (-1), 1) := by decide +kernel
theorem d_Mo_order_63 : decode m_Mo_order.2.1 63 = .ok (.goto 4, 3) := by decide +kernel
theorem d_Mo_order_66 : decode m_Mo_order.2.1 66 = .ok (.iconst 1, 1) := by decide +kernel
theorem d_Mo_order_67 : decode m_Mo_order.2.1 67 = .ok (.ireturn, 1) := by decide +kernel
theorem d_Mo_order_68 : decode m_Mo_order.2.1 68 = .ok (.iinc 3 1, 3) := by decide +kernel
theorem d_Mo_order_71 : decode m_Mo_order.2.1 71 = .ok (.goto (-69), 3) := by decide +kernel
theorem d_Mo_order_74 : decode m_Mo_order.2.1 74 = .ok (.iconst 0, 1) := by decide +kernel
theorem d_Mo_order_75 : decode m_Mo_order.2.1 75 = .ok (.ireturn, 1) := by decide +kernel
theorem d_Mo_form_0 : decode m_Mo_form.2.1 0 = .ok (.iload_n 1, 1) := by decide +kernel
theorem d_Mo_form_1 : decode m_Mo_form.2.1 1 = .ok (.iconst 1, 1) := by decide +kernel
theorem d_Mo_form_2 : decode m_Mo_form.2.1 2 = .ok (.if_icmp .lt 8, 3) := by decide +kernel
theorem d_Mo_form_5 : decode m_Mo_form.2.1 5 = .ok (.iload_n 1, 1) := by decide +kernel
theorem d_Mo_form_6 : decode m_Mo_form.2.1 6 = .ok (.iconst 4, 1) := by decide +kernel
theorem d_Mo_form_7 : decode m_Mo_form.2.1 7 = .ok (.if_icmp .le 5, 3) := by decide +kernel
theorem d_Mo_form_10 : decode m_Mo_form.2.1 10 = .ok (.iconst 0, 1) := by decide +kernel
theorem d_Mo_form_11 : decode m_Mo_form.2.1 11 = .ok (.ireturn, 1) := by decide +kernel
theorem d_Mo_form_12 : decode m_Mo_form.2.1 12 = .ok (.aload_n 0, 1) := by decide +kernel
theorem d_Mo_form_13 : decode m_Mo_form.2.1 13 = .ok (.iload_n 1, 1) := by decide +kernel
theorem d_Mo_form_14 : decode m_Mo_form.2.1 14 = .ok (.putfield 34, 3) := by decide +kernel
theorem d_Mo_form_17 : decode m_Mo_form.2.1 17 = .ok (.aload_n 0, 1) := by decide +kernel
theorem d_Mo_form_18 : decode m_Mo_form.2.1 18 = .ok (.iload_n 2, 1) := by decide +kernel
theorem d_Mo_form_19 : decode m_Mo_form.2.1 19 = .ok (.putfield 108, 3) := by decide +kernel
theorem d_Mo_form_22 : decode m_Mo_form.2.1 22 = .ok (.aload_n 0, 1) := by decide +kernel
theorem d_Mo_form_23 : decode m_Mo_form.2.1 23 = .ok (.iload_n 3, 1) := by decide +kernel
theorem d_Mo_form_24 : decode m_Mo_form.2.1 24 = .ok (.putfield 140, 3) := by decide +kernel
theorem d_Mo_form_27 : decode m_Mo_form.2.1 27 = .ok (.iconst 1, 1) := by decide +kernel
theorem d_Mo_form_28 : decode m_Mo_form.2.1 28 = .ok (.ireturn, 1) := by decide +kernel
theorem d_Mo_keyLength_0 : decode m_Mo_keyLength.2.1 0 = .ok (.aload_n 0, 1) := by decide +kernel
theorem d_Mo_keyLength_1 : decode m_Mo_keyLength.2.1 1 = .ok (.iload_n 1, 1) := by decide +kernel
theorem d_Mo_keyLength_2 : decode m_Mo_keyLength.2.1 2 = .ok (.invokevirtual 63, 3) := by decide +kernel
theorem d_Mo_keyLength_5 : decode m_Mo_keyLength.2.1 5 = .ok (.ifCond .ne 5, 3) := by decide +kernel
theorem d_Mo_keyLength_8 : decode m_Mo_keyLength.2.1 8 = .ok (.iconst (-1), 1) := by decide +kernel
theorem d_Mo_keyLength_9 : decode m_Mo_keyLength.2.1 9 = .ok (.ireturn, 1) := by decide +kernel
theorem d_Mo_keyLength_10 : decode m_Mo_keyLength.2.1 10 = .ok (.aload_n 0, 1) := by decide +kernel
theorem d_Mo_keyLength_11 : decode m_Mo_keyLength.2.1 11 = .ok (.iload_n 1, 1) := by decide +kernel
theorem d_Mo_keyLength_12 : decode m_Mo_keyLength.2.1 12 = .ok (.invokevirtual 143, 3) := by decide +kernel
theorem d_Mo_keyLength_15 : decode m_Mo_keyLength.2.1 15 = .ok (.aload_n 0, 1) := by decide +kernel
theorem d_Mo_keyLength_16 : decode m_Mo_keyLength.2.1 16 = .ok (.getfield 47, 3) := by decide +kernel
theorem d_Mo_keyLength_19 : decode m_Mo_keyLength.2.1 19 = .ok (.iload_n 1, 1) := by decide +kernel
theorem d_Mo_keyLength_20 : decode m_Mo_keyLength.2.1 20 = .ok (.iaload, 1) := by decide +kernel
theorem d_Mo_keyLength_21 : decode m_Mo_keyLength.2.1 21 = .ok (.ireturn, 1) := by decide +kernel
theorem d_Mo_keyAt_0 : decode m_Mo_keyAt.2.1 0 = .ok (.aload_n 0, 1) := by decide +kernel
theorem d_Mo_keyAt_1 : decode m_Mo_keyAt.2.1 1 = .ok (.iload_n 1, 1) := by decide +kernel
theorem d_Mo_keyAt_2 : decode m_Mo_keyAt.2.1 2 = .ok (.invokevirtual 63, 3) := by decide +kernel
theorem d_Mo_keyAt_5 : decode m_Mo_keyAt.2.1 5 = .ok (.ifCond .ne 5, 3) := by decide +kernel
theorem d_Mo_keyAt_8 : decode m_Mo_keyAt.2.1 8 = .ok (.iconst (-1), 1) := by decide +kernel
theorem d_Mo_keyAt_9 : decode m_Mo_keyAt.2.1 9 = .ok (.ireturn, 1) := by decide +kernel
theorem d_Mo_keyAt_10 : decode m_Mo_keyAt.2.1 10 = .ok (.aload_n 0, 1) := by decide +kernel
theorem d_Mo_keyAt_11 : decode m_Mo_keyAt.2.1 11 = .ok (.iload_n 1, 1) := by decide +kernel
theorem d_Mo_keyAt_12 : decode m_Mo_keyAt.2.1 12 = .ok (.invokevirtual 143, 3) := by decide +kernel
theorem d_Mo_keyAt_15 : decode m_Mo_keyAt.2.1 15 = .ok (.iload_n 2, 1) := by decide +kernel
theorem d_Mo_keyAt_16 : decode m_Mo_keyAt.2.1 16 = .ok (.ifCond .lt 27, 3) := by decide +kernel
theorem d_Mo_keyAt_19 : decode m_Mo_keyAt.2.1 19 = .ok (.iload_n 2, 1) := by decide +kernel
theorem d_Mo_keyAt_20 : decode m_Mo_keyAt.2.1 20 = .ok (.aload_n 0, 1) := by decide +kernel
theorem d_Mo_keyAt_21 : decode m_Mo_keyAt.2.1 21 = .ok (.getfield 47, 3) := by decide +kernel
theorem d_Mo_keyAt_24 : decode m_Mo_keyAt.2.1 24 = .ok (.iload_n 1, 1) := by decide +kernel
theorem d_Mo_keyAt_25 : decode m_Mo_keyAt.2.1 25 = .ok (.iaload, 1) := by decide +kernel
theorem d_Mo_keyAt_26 : decode m_Mo_keyAt.2.1 26 = .ok (.if_icmp .ge 17, 3) := by decide +kernel
theorem d_Mo_keyAt_29 : decode m_Mo_keyAt.2.1 29 = .ok (.aload_n 0, 1) := by decide +kernel
theorem d_Mo_keyAt_30 : decode m_Mo_keyAt.2.1 30 = .ok (.getfield 44, 3) := by decide +kernel
theorem d_Mo_keyAt_33 : decode m_Mo_keyAt.2.1 33 = .ok (.bipush 64, 2) := by decide +kernel
theorem d_Mo_keyAt_35 : decode m_Mo_keyAt.2.1 35 = .ok (.iload_n 1, 1) := by decide +kernel
theorem d_Mo_keyAt_36 : decode m_Mo_keyAt.2.1 36 = .ok (.imul, 1) := by decide +kernel
theorem d_Mo_keyAt_37 : decode m_Mo_keyAt.2.1 37 = .ok (.iload_n 2, 1) := by decide +kernel
theorem d_Mo_keyAt_38 : decode m_Mo_keyAt.2.1 38 = .ok (.iadd, 1) := by decide +kernel
theorem d_Mo_keyAt_39 : decode m_Mo_keyAt.2.1 39 = .ok (.iaload, 1) := by decide +kernel
theorem d_Mo_keyAt_40 : decode m_Mo_keyAt.2.1 40 = .ok (.goto 4, 3) := by decide +kernel
theorem d_Mo_keyAt_43 : decode m_Mo_keyAt.2.1 43 = .ok (.iconst (-1), 1) := by decide +kernel
theorem d_Mo_keyAt_44 : decode m_Mo_keyAt.2.1 44 = .ok (.ireturn, 1) := by decide +kernel
theorem d_Mo_compare_0 : decode m_Mo_compare.2.1 0 = .ok (.aload_n 0, 1) := by decide +kernel
theorem d_Mo_compare_1 : decode m_Mo_compare.2.1 1 = .ok (.iconst 0, 1) := by decide +kernel
theorem d_Mo_compare_2 : decode m_Mo_compare.2.1 2 = .ok (.invokevirtual 143, 3) := by decide +kernel
theorem d_Mo_compare_5 : decode m_Mo_compare.2.1 5 = .ok (.aload_n 0, 1) := by decide +kernel
theorem d_Mo_compare_6 : decode m_Mo_compare.2.1 6 = .ok (.iconst 1, 1) := by decide +kernel
theorem d_Mo_compare_7 : decode m_Mo_compare.2.1 7 = .ok (.invokevirtual 143, 3) := by decide +kernel
theorem d_Mo_compare_10 : decode m_Mo_compare.2.1 10 = .ok (.aload_n 0, 1) := by decide +kernel
theorem d_Mo_compare_11 : decode m_Mo_compare.2.1 11 = .ok (.iconst 0, 1) := by decide +kernel
theorem d_Mo_compare_12 : decode m_Mo_compare.2.1 12 = .ok (.iconst 1, 1) := by decide +kernel
theorem d_Mo_compare_13 : decode m_Mo_compare.2.1 13 = .ok (.invokevirtual 146, 3) := by decide +kernel
theorem d_Mo_compare_16 : decode m_Mo_compare.2.1 16 = .ok (.ireturn, 1) := by decide +kernel
theorem d_Mo_file_0 : decode m_Mo_file.2.1 0 = .ok (.aload_n 0, 1) := by decide +kernel
theorem d_Mo_file_1 : decode m_Mo_file.2.1 1 = .ok (.iload_n 1, 1) := by decide +kernel
theorem d_Mo_file_2 : decode m_Mo_file.2.1 2 = .ok (.invokevirtual 63, 3) := by decide +kernel
theorem d_Mo_file_5 : decode m_Mo_file.2.1 5 = .ok (.ifCond .eq 12, 3) := by decide +kernel
theorem d_Mo_file_8 : decode m_Mo_file.2.1 8 = .ok (.aload_n 0, 1) := by decide +kernel
theorem d_Mo_file_9 : decode m_Mo_file.2.1 9 = .ok (.getfield 149, 3) := by decide +kernel
theorem d_Mo_file_12 : decode m_Mo_file.2.1 12 = .ok (.bipush 10, 2) := by decide +kernel
theorem d_Mo_file_14 : decode m_Mo_file.2.1 14 = .ok (.if_icmp .ne 5, 3) := by decide +kernel
theorem d_Mo_file_17 : decode m_Mo_file.2.1 17 = .ok (.iconst (-1), 1) := by decide +kernel
theorem d_Mo_file_18 : decode m_Mo_file.2.1 18 = .ok (.ireturn, 1) := by decide +kernel
theorem d_Mo_file_19 : decode m_Mo_file.2.1 19 = .ok (.iconst 2, 1) := by decide +kernel
theorem d_Mo_file_20 : decode m_Mo_file.2.1 20 = .ok (.aload_n 0, 1) := by decide +kernel
theorem d_Mo_file_21 : decode m_Mo_file.2.1 21 = .ok (.getfield 149, 3) := by decide +kernel
theorem d_Mo_file_24 : decode m_Mo_file.2.1 24 = .ok (.iadd, 1) := by decide +kernel
theorem d_Mo_file_25 : decode m_Mo_file.2.1 25 = .ok (.istore_n 2, 1) := by decide +kernel
theorem d_Mo_file_26 : decode m_Mo_file.2.1 26 = .ok (.iconst 0, 1) := by decide +kernel
theorem d_Mo_file_27 : decode m_Mo_file.2.1 27 = .ok (.istore_n 3, 1) := by decide +kernel
theorem d_Mo_file_28 : decode m_Mo_file.2.1 28 = .ok (.iload_n 3, 1) := by decide +kernel
theorem d_Mo_file_29 : decode m_Mo_file.2.1 29 = .ok (.bipush 12, 2) := by decide +kernel
theorem d_Mo_file_31 : decode m_Mo_file.2.1 31 = .ok (.if_icmp .ge 31, 3) := by decide +kernel
theorem d_Mo_file_34 : decode m_Mo_file.2.1 34 = .ok (.aload_n 0, 1) := by decide +kernel
theorem d_Mo_file_35 : decode m_Mo_file.2.1 35 = .ok (.getfield 25, 3) := by decide +kernel
theorem d_Mo_file_38 : decode m_Mo_file.2.1 38 = .ok (.bipush 12, 2) := by decide +kernel
theorem d_Mo_file_40 : decode m_Mo_file.2.1 40 = .ok (.iload_n 2, 1) := by decide +kernel
theorem d_Mo_file_41 : decode m_Mo_file.2.1 41 = .ok (.imul, 1) := by decide +kernel
theorem d_Mo_file_42 : decode m_Mo_file.2.1 42 = .ok (.iload_n 3, 1) := by decide +kernel
theorem d_Mo_file_43 : decode m_Mo_file.2.1 43 = .ok (.iadd, 1) := by decide +kernel
theorem d_Mo_file_44 : decode m_Mo_file.2.1 44 = .ok (.aload_n 0, 1) := by decide +kernel
theorem d_Mo_file_45 : decode m_Mo_file.2.1 45 = .ok (.getfield 25, 3) := by decide +kernel
theorem d_Mo_file_48 : decode m_Mo_file.2.1 48 = .ok (.bipush 12, 2) := by decide +kernel
theorem d_Mo_file_50 : decode m_Mo_file.2.1 50 = .ok (.iload_n 1, 1) := by decide +kernel
theorem d_Mo_file_51 : decode m_Mo_file.2.1 51 = .ok (.imul, 1) := by decide +kernel
theorem d_Mo_file_52 : decode m_Mo_file.2.1 52 = .ok (.iload_n 3, 1) := by decide +kernel
theorem d_Mo_file_53 : decode m_Mo_file.2.1 53 = .ok (.iadd, 1) := by decide +kernel
theorem d_Mo_file_54 : decode m_Mo_file.2.1 54 = .ok (.iaload, 1) := by decide +kernel
theorem d_Mo_file_55 : decode m_Mo_file.2.1 55 = .ok (.iastore, 1) := by decide +kernel
theorem d_Mo_file_56 : decode m_Mo_file.2.1 56 = .ok (.iinc 3 1, 3) := by decide +kernel
theorem d_Mo_file_59 : decode m_Mo_file.2.1 59 = .ok (.goto (-31), 3) := by decide +kernel
theorem d_Mo_file_62 : decode m_Mo_file.2.1 62 = .ok (.aload_n 0, 1) := by decide +kernel
theorem d_Mo_file_63 : decode m_Mo_file.2.1 63 = .ok (.getfield 28, 3) := by decide +kernel
theorem d_Mo_file_66 : decode m_Mo_file.2.1 66 = .ok (.iload_n 2, 1) := by decide +kernel
theorem d_Mo_file_67 : decode m_Mo_file.2.1 67 = .ok (.aload_n 0, 1) := by decide +kernel
theorem d_Mo_file_68 : decode m_Mo_file.2.1 68 = .ok (.getfield 28, 3) := by decide +kernel
theorem d_Mo_file_71 : decode m_Mo_file.2.1 71 = .ok (.iload_n 1, 1) := by decide +kernel
theorem d_Mo_file_72 : decode m_Mo_file.2.1 72 = .ok (.iaload, 1) := by decide +kernel
theorem d_Mo_file_73 : decode m_Mo_file.2.1 73 = .ok (.iastore, 1) := by decide +kernel
theorem d_Mo_file_74 : decode m_Mo_file.2.1 74 = .ok (.aload_n 0, 1) := by decide +kernel
theorem d_Mo_file_75 : decode m_Mo_file.2.1 75 = .ok (.getfield 31, 3) := by decide +kernel
theorem d_Mo_file_78 : decode m_Mo_file.2.1 78 = .ok (.iload_n 2, 1) := by decide +kernel
theorem d_Mo_file_79 : decode m_Mo_file.2.1 79 = .ok (.aload_n 0, 1) := by decide +kernel
theorem d_Mo_file_80 : decode m_Mo_file.2.1 80 = .ok (.getfield 152, 3) := by decide +kernel
theorem d_Mo_file_83 : decode m_Mo_file.2.1 83 = .ok (.iastore, 1) := by decide +kernel
theorem d_Mo_file_84 : decode m_Mo_file.2.1 84 = .ok (.aload_n 0, 1) := by decide +kernel
theorem d_Mo_file_85 : decode m_Mo_file.2.1 85 = .ok (.dup, 1) := by decide +kernel
theorem d_Mo_file_86 : decode m_Mo_file.2.1 86 = .ok (.getfield 149, 3) := by decide +kernel
theorem d_Mo_file_89 : decode m_Mo_file.2.1 89 = .ok (.iconst 1, 1) := by decide +kernel
theorem d_Mo_file_90 : decode m_Mo_file.2.1 90 = .ok (.iadd, 1) := by decide +kernel
theorem d_Mo_file_91 : decode m_Mo_file.2.1 91 = .ok (.putfield 149, 3) := by decide +kernel
theorem d_Mo_file_94 : decode m_Mo_file.2.1 94 = .ok (.aload_n 0, 1) := by decide +kernel
theorem d_Mo_file_95 : decode m_Mo_file.2.1 95 = .ok (.dup, 1) := by decide +kernel
theorem d_Mo_file_96 : decode m_Mo_file.2.1 96 = .ok (.getfield 152, 3) := by decide +kernel
theorem d_Mo_file_99 : decode m_Mo_file.2.1 99 = .ok (.iconst 1, 1) := by decide +kernel
theorem d_Mo_file_100 : decode m_Mo_file.2.1 100 = .ok (.iadd, 1) := by decide +kernel
theorem d_Mo_file_101 : decode m_Mo_file.2.1 101 = .ok (.putfield 152, 3) := by decide +kernel
theorem d_Mo_file_104 : decode m_Mo_file.2.1 104 = .ok (.aload_n 0, 1) := by decide +kernel
theorem d_Mo_file_105 : decode m_Mo_file.2.1 105 = .ok (.getfield 152, 3) := by decide +kernel
theorem d_Mo_file_108 : decode m_Mo_file.2.1 108 = .ok (.iconst 1, 1) := by decide +kernel
theorem d_Mo_file_109 : decode m_Mo_file.2.1 109 = .ok (.isub, 1) := by decide +kernel
theorem d_Mo_file_110 : decode m_Mo_file.2.1 110 = .ok (.ireturn, 1) := by decide +kernel
theorem d_Mo_unfile_0 : decode m_Mo_unfile.2.1 0 = .ok (.iconst (-1), 1) := by decide +kernel
theorem d_Mo_unfile_1 : decode m_Mo_unfile.2.1 1 = .ok (.istore_n 2, 1) := by decide +kernel
theorem d_Mo_unfile_2 : decode m_Mo_unfile.2.1 2 = .ok (.iconst 2, 1) := by decide +kernel
theorem d_Mo_unfile_3 : decode m_Mo_unfile.2.1 3 = .ok (.istore_n 3, 1) := by decide +kernel
theorem d_Mo_unfile_4 : decode m_Mo_unfile.2.1 4 = .ok (.iload_n 3, 1) := by decide +kernel
theorem d_Mo_unfile_5 : decode m_Mo_unfile.2.1 5 = .ok (.iconst 2, 1) := by decide +kernel
theorem d_Mo_unfile_6 : decode m_Mo_unfile.2.1 6 = .ok (.aload_n 0, 1) := by decide +kernel
theorem d_Mo_unfile_7 : decode m_Mo_unfile.2.1 7 = .ok (.getfield 149, 3) := by decide +kernel
theorem d_Mo_unfile_10 : decode m_Mo_unfile.2.1 10 = .ok (.iadd, 1) := by decide +kernel
theorem d_Mo_unfile_11 : decode m_Mo_unfile.2.1 11 = .ok (.if_icmp .ge 25, 3) := by decide +kernel
theorem d_Mo_unfile_14 : decode m_Mo_unfile.2.1 14 = .ok (.aload_n 0, 1) := by decide +kernel
theorem d_Mo_unfile_15 : decode m_Mo_unfile.2.1 15 = .ok (.getfield 31, 3) := by decide +kernel
theorem d_Mo_unfile_18 : decode m_Mo_unfile.2.1 18 = .ok (.iload_n 3, 1) := by decide +kernel
theorem d_Mo_unfile_19 : decode m_Mo_unfile.2.1 19 = .ok (.iaload, 1) := by decide +kernel
theorem d_Mo_unfile_20 : decode m_Mo_unfile.2.1 20 = .ok (.iload_n 1, 1) := by decide +kernel
theorem d_Mo_unfile_21 : decode m_Mo_unfile.2.1 21 = .ok (.if_icmp .ne 7, 3) := by decide +kernel
theorem d_Mo_unfile_24 : decode m_Mo_unfile.2.1 24 = .ok (.iload_n 3, 1) := by decide +kernel
theorem d_Mo_unfile_25 : decode m_Mo_unfile.2.1 25 = .ok (.goto 4, 3) := by decide +kernel
theorem d_Mo_unfile_28 : decode m_Mo_unfile.2.1 28 = .ok (.iload_n 2, 1) := by decide +kernel
theorem d_Mo_unfile_29 : decode m_Mo_unfile.2.1 29 = .ok (.istore_n 2, 1) := by decide +kernel
theorem d_Mo_unfile_30 : decode m_Mo_unfile.2.1 30 = .ok (.iinc 3 1, 3) := by decide +kernel
theorem d_Mo_unfile_33 : decode m_Mo_unfile.2.1 33 = .ok (.goto (-29), 3) := by decide +kernel
theorem d_Mo_unfile_36 : decode m_Mo_unfile.2.1 36 = .ok (.iload_n 2, 1) := by decide +kernel
theorem d_Mo_unfile_37 : decode m_Mo_unfile.2.1 37 = .ok (.ifCond .ge 5, 3) := by decide +kernel
theorem d_Mo_unfile_40 : decode m_Mo_unfile.2.1 40 = .ok (.iconst 0, 1) := by decide +kernel
theorem d_Mo_unfile_41 : decode m_Mo_unfile.2.1 41 = .ok (.ireturn, 1) := by decide +kernel
theorem d_Mo_unfile_42 : decode m_Mo_unfile.2.1 42 = .ok (.iload_n 2, 1) := by decide +kernel
theorem d_Mo_unfile_43 : decode m_Mo_unfile.2.1 43 = .ok (.istore_n 3, 1) := by decide +kernel
theorem d_Mo_unfile_44 : decode m_Mo_unfile.2.1 44 = .ok (.iload_n 3, 1) := by decide +kernel
theorem d_Mo_unfile_45 : decode m_Mo_unfile.2.1 45 = .ok (.iconst 1, 1) := by decide +kernel
theorem d_Mo_unfile_46 : decode m_Mo_unfile.2.1 46 = .ok (.aload_n 0, 1) := by decide +kernel
theorem d_Mo_unfile_47 : decode m_Mo_unfile.2.1 47 = .ok (.getfield 149, 3) := by decide +kernel
theorem d_Mo_unfile_50 : decode m_Mo_unfile.2.1 50 = .ok (.iadd, 1) := by decide +kernel
theorem d_Mo_unfile_51 : decode m_Mo_unfile.2.1 51 = .ok (.if_icmp .ge 80, 3) := by decide +kernel
theorem d_Mo_unfile_54 : decode m_Mo_unfile.2.1 54 = .ok (.iconst 0, 1) := by decide +kernel
theorem d_Mo_unfile_55 : decode m_Mo_unfile.2.1 55 = .ok (.istore 4, 2) := by decide +kernel
theorem d_Mo_unfile_57 : decode m_Mo_unfile.2.1 57 = .ok (.iload 4, 2) := by decide +kernel
theorem d_Mo_unfile_59 : decode m_Mo_unfile.2.1 59 = .ok (.bipush 12, 2) := by decide +kernel
theorem d_Mo_unfile_61 : decode m_Mo_unfile.2.1 61 = .ok (.if_icmp .ge 36, 3) := by decide +kernel
theorem d_Mo_unfile_64 : decode m_Mo_unfile.2.1 64 = .ok (.aload_n 0, 1) := by decide +kernel
theorem d_Mo_unfile_65 : decode m_Mo_unfile.2.1 65 = .ok (.getfield 25, 3) := by decide +kernel
theorem d_Mo_unfile_68 : decode m_Mo_unfile.2.1 68 = .ok (.bipush 12, 2) := by decide +kernel
theorem d_Mo_unfile_70 : decode m_Mo_unfile.2.1 70 = .ok (.iload_n 3, 1) := by decide +kernel
theorem d_Mo_unfile_71 : decode m_Mo_unfile.2.1 71 = .ok (.imul, 1) := by decide +kernel
theorem d_Mo_unfile_72 : decode m_Mo_unfile.2.1 72 = .ok (.iload 4, 2) := by decide +kernel
theorem d_Mo_unfile_74 : decode m_Mo_unfile.2.1 74 = .ok (.iadd, 1) := by decide +kernel
theorem d_Mo_unfile_75 : decode m_Mo_unfile.2.1 75 = .ok (.aload_n 0, 1) := by decide +kernel
theorem d_Mo_unfile_76 : decode m_Mo_unfile.2.1 76 = .ok (.getfield 25, 3) := by decide +kernel
theorem d_Mo_unfile_79 : decode m_Mo_unfile.2.1 79 = .ok (.bipush 12, 2) := by decide +kernel
theorem d_Mo_unfile_81 : decode m_Mo_unfile.2.1 81 = .ok (.iload_n 3, 1) := by decide +kernel
theorem d_Mo_unfile_82 : decode m_Mo_unfile.2.1 82 = .ok (.imul, 1) := by decide +kernel
theorem d_Mo_unfile_83 : decode m_Mo_unfile.2.1 83 = .ok (.bipush 12, 2) := by decide +kernel
theorem d_Mo_unfile_85 : decode m_Mo_unfile.2.1 85 = .ok (.iadd, 1) := by decide +kernel
theorem d_Mo_unfile_86 : decode m_Mo_unfile.2.1 86 = .ok (.iload 4, 2) := by decide +kernel
theorem d_Mo_unfile_88 : decode m_Mo_unfile.2.1 88 = .ok (.iadd, 1) := by decide +kernel
theorem d_Mo_unfile_89 : decode m_Mo_unfile.2.1 89 = .ok (.iaload, 1) := by decide +kernel
theorem d_Mo_unfile_90 : decode m_Mo_unfile.2.1 90 = .ok (.iastore, 1) := by decide +kernel
theorem d_Mo_unfile_91 : decode m_Mo_unfile.2.1 91 = .ok (.iinc 4 1, 3) := by decide +kernel
theorem d_Mo_unfile_94 : decode m_Mo_unfile.2.1 94 = .ok (.goto (-37), 3) := by decide +kernel
theorem d_Mo_unfile_97 : decode m_Mo_unfile.2.1 97 = .ok (.aload_n 0, 1) := by decide +kernel
theorem d_Mo_unfile_98 : decode m_Mo_unfile.2.1 98 = .ok (.getfield 28, 3) := by decide +kernel
theorem d_Mo_unfile_101 : decode m_Mo_unfile.2.1 101 = .ok (.iload_n 3, 1) := by decide +kernel
theorem d_Mo_unfile_102 : decode m_Mo_unfile.2.1 102 = .ok (.aload_n 0, 1) := by decide +kernel
theorem d_Mo_unfile_103 : decode m_Mo_unfile.2.1 103 = .ok (.getfield 28, 3) := by decide +kernel
theorem d_Mo_unfile_106 : decode m_Mo_unfile.2.1 106 = .ok (.iload_n 3, 1) := by decide +kernel
theorem d_Mo_unfile_107 : decode m_Mo_unfile.2.1 107 = .ok (.iconst 1, 1) := by decide +kernel
theorem d_Mo_unfile_108 : decode m_Mo_unfile.2.1 108 = .ok (.iadd, 1) := by decide +kernel
theorem d_Mo_unfile_109 : decode m_Mo_unfile.2.1 109 = .ok (.iaload, 1) := by decide +kernel
theorem d_Mo_unfile_110 : decode m_Mo_unfile.2.1 110 = .ok (.iastore, 1) := by decide +kernel
theorem d_Mo_unfile_111 : decode m_Mo_unfile.2.1 111 = .ok (.aload_n 0, 1) := by decide +kernel
theorem d_Mo_unfile_112 : decode m_Mo_unfile.2.1 112 = .ok (.getfield 31, 3) := by decide +kernel
theorem d_Mo_unfile_115 : decode m_Mo_unfile.2.1 115 = .ok (.iload_n 3, 1) := by decide +kernel
theorem d_Mo_unfile_116 : decode m_Mo_unfile.2.1 116 = .ok (.aload_n 0, 1) := by decide +kernel
theorem d_Mo_unfile_117 : decode m_Mo_unfile.2.1 117 = .ok (.getfield 31, 3) := by decide +kernel
theorem d_Mo_unfile_120 : decode m_Mo_unfile.2.1 120 = .ok (.iload_n 3, 1) := by decide +kernel
theorem d_Mo_unfile_121 : decode m_Mo_unfile.2.1 121 = .ok (.iconst 1, 1) := by decide +kernel
theorem d_Mo_unfile_122 : decode m_Mo_unfile.2.1 122 = .ok (.iadd, 1) := by decide +kernel
theorem d_Mo_unfile_123 : decode m_Mo_unfile.2.1 123 = .ok (.iaload, 1) := by decide +kernel
theorem d_Mo_unfile_124 : decode m_Mo_unfile.2.1 124 = .ok (.iastore, 1) := by decide +kernel
theorem d_Mo_unfile_125 : decode m_Mo_unfile.2.1 125 = .ok (.iinc 3 1, 3) := by decide +kernel
theorem d_Mo_unfile_128 : decode m_Mo_unfile.2.1 128 = .ok (.goto (-84), 3) := by decide +kernel
theorem d_Mo_unfile_131 : decode m_Mo_unfile.2.1 131 = .ok (.aload_n 0, 1) := by decide +kernel
theorem d_Mo_unfile_132 : decode m_Mo_unfile.2.1 132 = .ok (.dup, 1) := by decide +kernel
theorem d_Mo_unfile_133 : decode m_Mo_unfile.2.1 133 = .ok (.getfield 149, 3) := by decide +kernel
theorem d_Mo_unfile_136 : decode m_Mo_unfile.2.1 136 = .ok (.iconst 1, 1) := by decide +kernel
theorem d_Mo_unfile_137 : decode m_Mo_unfile.2.1 137 = .ok (.isub, 1) := by decide +kernel
theorem d_Mo_unfile_138 : decode m_Mo_unfile.2.1 138 = .ok (.putfield 149, 3) := by decide +kernel
theorem d_Mo_unfile_141 : decode m_Mo_unfile.2.1 141 = .ok (.iconst 1, 1) := by decide +kernel
theorem d_Mo_unfile_142 : decode m_Mo_unfile.2.1 142 = .ok (.ireturn, 1) := by decide +kernel
theorem d_Mo_filed_0 : decode m_Mo_filed.2.1 0 = .ok (.aload_n 0, 1) := by decide +kernel
theorem d_Mo_filed_1 : decode m_Mo_filed.2.1 1 = .ok (.getfield 149, 3) := by decide +kernel
theorem d_Mo_filed_4 : decode m_Mo_filed.2.1 4 = .ok (.ireturn, 1) := by decide +kernel
theorem d_Mo_inOrder_0 : decode m_Mo_inOrder.2.1 0 = .ok (.iconst 2, 1) := by decide +kernel
theorem d_Mo_inOrder_1 : decode m_Mo_inOrder.2.1 1 = .ok (.istore_n 2, 1) := by decide +kernel
theorem d_Mo_inOrder_2 : decode m_Mo_inOrder.2.1 2 = .ok (.iload_n 2, 1) := by decide +kernel
theorem d_Mo_inOrder_3 : decode m_Mo_inOrder.2.1 3 = .ok (.iconst 2, 1) := by decide +kernel
theorem d_Mo_inOrder_4 : decode m_Mo_inOrder.2.1 4 = .ok (.aload_n 0, 1) := by decide +kernel
theorem d_Mo_inOrder_5 : decode m_Mo_inOrder.2.1 5 = .ok (.getfield 149, 3) := by decide +kernel
theorem d_Mo_inOrder_8 : decode m_Mo_inOrder.2.1 8 = .ok (.iadd, 1) := by decide +kernel
theorem d_Mo_inOrder_9 : decode m_Mo_inOrder.2.1 9 = .ok (.if_icmp .ge 14, 3) := by decide +kernel
theorem d_Mo_inOrder_12 : decode m_Mo_inOrder.2.1 12 = .ok (.aload_n 0, 1) := by decide +kernel
theorem d_Mo_inOrder_13 : decode m_Mo_inOrder.2.1 13 = .ok (.iload_n 2, 1) := by decide +kernel
theorem d_Mo_inOrder_14 : decode m_Mo_inOrder.2.1 14 = .ok (.invokevirtual 143, 3) := by decide +kernel
theorem d_Mo_inOrder_17 : decode m_Mo_inOrder.2.1 17 = .ok (.iinc 2 1, 3) := by decide +kernel
theorem d_Mo_inOrder_20 : decode m_Mo_inOrder.2.1 20 = .ok (.goto (-18), 3) := by decide +kernel
theorem d_Mo_inOrder_23 : decode m_Mo_inOrder.2.1 23 = .ok (.iconst (-1), 1) := by decide +kernel
theorem d_Mo_inOrder_24 : decode m_Mo_inOrder.2.1 24 = .ok (.istore_n 2, 1) := by decide +kernel
theorem d_Mo_inOrder_25 : decode m_Mo_inOrder.2.1 25 = .ok (.iconst 2, 1) := by decide +kernel
theorem d_Mo_inOrder_26 : decode m_Mo_inOrder.2.1 26 = .ok (.istore_n 3, 1) := by decide +kernel
theorem d_Mo_inOrder_27 : decode m_Mo_inOrder.2.1 27 = .ok (.iload_n 3, 1) := by decide +kernel
theorem d_Mo_inOrder_28 : decode m_Mo_inOrder.2.1 28 = .ok (.iconst 2, 1) := by decide +kernel
theorem d_Mo_inOrder_29 : decode m_Mo_inOrder.2.1 29 = .ok (.aload_n 0, 1) := by decide +kernel
theorem d_Mo_inOrder_30 : decode m_Mo_inOrder.2.1 30 = .ok (.getfield 149, 3) := by decide +kernel
theorem d_Mo_inOrder_33 : decode m_Mo_inOrder.2.1 33 = .ok (.iadd, 1) := by decide +kernel
theorem d_Mo_inOrder_34 : decode m_Mo_inOrder.2.1 34 = .ok (.if_icmp .ge 85, 3) := by decide +kernel
theorem d_Mo_inOrder_37 : decode m_Mo_inOrder.2.1 37 = .ok (.iconst 0, 1) := by decide +kernel
theorem d_Mo_inOrder_38 : decode m_Mo_inOrder.2.1 38 = .ok (.istore 4, 2) := by decide +kernel
theorem d_Mo_inOrder_40 : decode m_Mo_inOrder.2.1 40 = .ok (.iconst 2, 1) := by decide +kernel
theorem d_Mo_inOrder_41 : decode m_Mo_inOrder.2.1 41 = .ok (.istore 5, 2) := by decide +kernel
theorem d_Mo_inOrder_43 : decode m_Mo_inOrder.2.1 43 = .ok (.iload 5, 2) := by decide +kernel
theorem d_Mo_inOrder_45 : decode m_Mo_inOrder.2.1 45 = .ok (.iconst 2, 1) := by decide +kernel
theorem d_Mo_inOrder_46 : decode m_Mo_inOrder.2.1 46 = .ok (.aload_n 0, 1) := by decide +kernel
theorem d_Mo_inOrder_47 : decode m_Mo_inOrder.2.1 47 = .ok (.getfield 149, 3) := by decide +kernel
theorem d_Mo_inOrder_50 : decode m_Mo_inOrder.2.1 50 = .ok (.iadd, 1) := by decide +kernel
theorem d_Mo_inOrder_51 : decode m_Mo_inOrder.2.1 51 = .ok (.if_icmp .ge 45, 3) := by decide +kernel
theorem d_Mo_inOrder_54 : decode m_Mo_inOrder.2.1 54 = .ok (.aload_n 0, 1) := by decide +kernel
theorem d_Mo_inOrder_55 : decode m_Mo_inOrder.2.1 55 = .ok (.iload 5, 2) := by decide +kernel
theorem d_Mo_inOrder_57 : decode m_Mo_inOrder.2.1 57 = .ok (.iload_n 3, 1) := by decide +kernel
theorem d_Mo_inOrder_58 : decode m_Mo_inOrder.2.1 58 = .ok (.invokevirtual 146, 3) := by decide +kernel
theorem d_Mo_inOrder_61 : decode m_Mo_inOrder.2.1 61 = .ok (.istore 6, 2) := by decide +kernel
theorem d_Mo_inOrder_63 : decode m_Mo_inOrder.2.1 63 = .ok (.iload 6, 2) := by decide +kernel
theorem d_Mo_inOrder_65 : decode m_Mo_inOrder.2.1 65 = .ok (.ifCond .lt 14, 3) := by decide +kernel
theorem d_Mo_inOrder_68 : decode m_Mo_inOrder.2.1 68 = .ok (.iload 6, 2) := by decide +kernel
theorem d_Mo_inOrder_70 : decode m_Mo_inOrder.2.1 70 = .ok (.ifCond .ne 16, 3) := by decide +kernel
theorem d_Mo_inOrder_73 : decode m_Mo_inOrder.2.1 73 = .ok (.iload 5, 2) := by decide +kernel
theorem d_Mo_inOrder_75 : decode m_Mo_inOrder.2.1 75 = .ok (.iload_n 3, 1) := by decide +kernel
theorem d_Mo_inOrder_76 : decode m_Mo_inOrder.2.1 76 = .ok (.if_icmp .ge 10, 3) := by decide +kernel
theorem d_Mo_inOrder_79 : decode m_Mo_inOrder.2.1 79 = .ok (.iload 4, 2) := by decide +kernel
theorem d_Mo_inOrder_81 : decode m_Mo_inOrder.2.1 81 = .ok (.iconst 1, 1) := by decide +kernel
theorem d_Mo_inOrder_82 : decode m_Mo_inOrder.2.1 82 = .ok (.iadd, 1) := by decide +kernel
theorem d_Mo_inOrder_83 : decode m_Mo_inOrder.2.1 83 = .ok (.goto 5, 3) := by decide +kernel
theorem d_Mo_inOrder_86 : decode m_Mo_inOrder.2.1 86 = .ok (.iload 4, 2) := by decide +kernel
theorem d_Mo_inOrder_88 : decode m_Mo_inOrder.2.1 88 = .ok (.istore 4, 2) := by decide +kernel
theorem d_Mo_inOrder_90 : decode m_Mo_inOrder.2.1 90 = .ok (.iinc 5 1, 3) := by decide +kernel
theorem d_Mo_inOrder_93 : decode m_Mo_inOrder.2.1 93 = .ok (.goto (-50), 3) := by decide +kernel
theorem d_Mo_inOrder_96 : decode m_Mo_inOrder.2.1 96 = .ok (.iload 4, 2) := by decide +kernel
theorem d_Mo_inOrder_98 : decode m_Mo_inOrder.2.1 98 = .ok (.iload_n 1, 1) := by decide +kernel
theorem d_Mo_inOrder_99 : decode m_Mo_inOrder.2.1 99 = .ok (.if_icmp .ne 12, 3) := by decide +kernel
theorem d_Mo_inOrder_102 : decode m_Mo_inOrder.2.1 102 = .ok (.aload_n 0, 1) := by decide +kernel
theorem d_Mo_inOrder_103 : decode m_Mo_inOrder.2.1 103 = .ok (.getfield 31, 3) := by decide +kernel
theorem d_Mo_inOrder_106 : decode m_Mo_inOrder.2.1 106 = .ok (.iload_n 3, 1) := by decide +kernel
theorem d_Mo_inOrder_107 : decode m_Mo_inOrder.2.1 107 = .ok (.iaload, 1) := by decide +kernel
theorem d_Mo_inOrder_108 : decode m_Mo_inOrder.2.1 108 = .ok (.goto 4, 3) := by decide +kernel
theorem d_Mo_inOrder_111 : decode m_Mo_inOrder.2.1 111 = .ok (.iload_n 2, 1) := by decide +kernel
theorem d_Mo_inOrder_112 : decode m_Mo_inOrder.2.1 112 = .ok (.istore_n 2, 1) := by decide +kernel
theorem d_Mo_inOrder_113 : decode m_Mo_inOrder.2.1 113 = .ok (.iinc 3 1, 3) := by decide +kernel
theorem d_Mo_inOrder_116 : decode m_Mo_inOrder.2.1 116 = .ok (.goto (-89), 3) := by decide +kernel
theorem d_Mo_inOrder_119 : decode m_Mo_inOrder.2.1 119 = .ok (.iload_n 2, 1) := by decide +kernel
theorem d_Mo_inOrder_120 : decode m_Mo_inOrder.2.1 120 = .ok (.ireturn, 1) := by decide +kernel
theorem d_Mo_below_0 : decode m_Mo_below.2.1 0 = .ok (.aload_n 0, 1) := by decide +kernel
theorem d_Mo_below_1 : decode m_Mo_below.2.1 1 = .ok (.iload_n 1, 1) := by decide +kernel
theorem d_Mo_below_2 : decode m_Mo_below.2.1 2 = .ok (.invokevirtual 63, 3) := by decide +kernel
theorem d_Mo_below_5 : decode m_Mo_below.2.1 5 = .ok (.ifCond .ne 5, 3) := by decide +kernel
theorem d_Mo_below_8 : decode m_Mo_below.2.1 8 = .ok (.iconst (-1), 1) := by decide +kernel
theorem d_Mo_below_9 : decode m_Mo_below.2.1 9 = .ok (.ireturn, 1) := by decide +kernel
theorem d_Mo_below_10 : decode m_Mo_below.2.1 10 = .ok (.aload_n 0, 1) := by decide +kernel
theorem d_Mo_below_11 : decode m_Mo_below.2.1 11 = .ok (.iload_n 1, 1) := by decide +kernel
theorem d_Mo_below_12 : decode m_Mo_below.2.1 12 = .ok (.invokevirtual 143, 3) := by decide +kernel
theorem d_Mo_below_15 : decode m_Mo_below.2.1 15 = .ok (.iconst 0, 1) := by decide +kernel
theorem d_Mo_below_16 : decode m_Mo_below.2.1 16 = .ok (.istore_n 2, 1) := by decide +kernel
theorem d_Mo_below_17 : decode m_Mo_below.2.1 17 = .ok (.iconst 2, 1) := by decide +kernel
theorem d_Mo_below_18 : decode m_Mo_below.2.1 18 = .ok (.istore_n 3, 1) := by decide +kernel
theorem d_Mo_below_19 : decode m_Mo_below.2.1 19 = .ok (.iload_n 3, 1) := by decide +kernel
theorem d_Mo_below_20 : decode m_Mo_below.2.1 20 = .ok (.iconst 2, 1) := by decide +kernel
theorem d_Mo_below_21 : decode m_Mo_below.2.1 21 = .ok (.aload_n 0, 1) := by decide +kernel
theorem d_Mo_below_22 : decode m_Mo_below.2.1 22 = .ok (.getfield 149, 3) := by decide +kernel
theorem d_Mo_below_25 : decode m_Mo_below.2.1 25 = .ok (.iadd, 1) := by decide +kernel
theorem d_Mo_below_26 : decode m_Mo_below.2.1 26 = .ok (.if_icmp .ge 31, 3) := by decide +kernel
theorem d_Mo_below_29 : decode m_Mo_below.2.1 29 = .ok (.aload_n 0, 1) := by decide +kernel
theorem d_Mo_below_30 : decode m_Mo_below.2.1 30 = .ok (.iload_n 3, 1) := by decide +kernel
theorem d_Mo_below_31 : decode m_Mo_below.2.1 31 = .ok (.invokevirtual 143, 3) := by decide +kernel
theorem d_Mo_below_34 : decode m_Mo_below.2.1 34 = .ok (.aload_n 0, 1) := by decide +kernel
theorem d_Mo_below_35 : decode m_Mo_below.2.1 35 = .ok (.iload_n 3, 1) := by decide +kernel
theorem d_Mo_below_36 : decode m_Mo_below.2.1 36 = .ok (.iload_n 1, 1) := by decide +kernel
theorem d_Mo_below_37 : decode m_Mo_below.2.1 37 = .ok (.invokevirtual 146, 3) := by decide +kernel
theorem d_Mo_below_40 : decode m_Mo_below.2.1 40 = .ok (.ifCond .ge 9, 3) := by decide +kernel
theorem d_Mo_below_43 : decode m_Mo_below.2.1 43 = .ok (.iload_n 2, 1) := by decide +kernel
theorem d_Mo_below_44 : decode m_Mo_below.2.1 44 = .ok (.iconst 1, 1) := by decide +kernel
theorem d_Mo_below_45 : decode m_Mo_below.2.1 45 = .ok (.iadd, 1) := by decide +kernel
theorem d_Mo_below_46 : decode m_Mo_below.2.1 46 = .ok (.goto 4, 3) := by decide +kernel
theorem d_Mo_below_49 : decode m_Mo_below.2.1 49 = .ok (.iload_n 2, 1) := by decide +kernel
theorem d_Mo_below_50 : decode m_Mo_below.2.1 50 = .ok (.istore_n 2, 1) := by decide +kernel
theorem d_Mo_below_51 : decode m_Mo_below.2.1 51 = .ok (.iinc 3 1, 3) := by decide +kernel
theorem d_Mo_below_54 : decode m_Mo_below.2.1 54 = .ok (.goto (-35), 3) := by decide +kernel
theorem d_Mo_below_57 : decode m_Mo_below.2.1 57 = .ok (.iload_n 2, 1) := by decide +kernel
theorem d_Mo_below_58 : decode m_Mo_below.2.1 58 = .ok (.ireturn, 1) := by decide +kernel

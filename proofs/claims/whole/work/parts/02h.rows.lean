theorem dX8_segment_86 : decode cX8_segment 86 = .ok (.putfield 91, 3) := by decide +kernel
theorem dX8_segment_89 : decode cX8_segment 89 = .ok (.aload_n 0, 1) := by decide +kernel
theorem dX8_segment_90 : decode cX8_segment 90 = .ok (.getfield 91, 3) := by decide +kernel
theorem dX8_segment_93 : decode cX8_segment 93 = .ok (.iload 4, 2) := by decide +kernel
theorem dX8_segment_95 : decode cX8_segment 95 = .ok (.ifCond .eq 7, 3) := by decide +kernel
theorem dX8_segment_98 : decode cX8_segment 98 = .ok (.iconst 2, 1) := by decide +kernel
theorem dX8_segment_99 : decode cX8_segment 99 = .ok (.goto 4, 3) := by decide +kernel
theorem dX8_segment_102 : decode cX8_segment 102 = .ok (.iconst 4, 1) := by decide +kernel
theorem dX8_segment_103 : decode cX8_segment 103 = .ok (.iadd, 1) := by decide +kernel
theorem dX8_segment_104 : decode cX8_segment 104 = .ok (.istore_n 3, 1) := by decide +kernel
theorem dX8_segment_105 : decode cX8_segment 105 = .ok (.aload_n 0, 1) := by decide +kernel
theorem dX8_segment_106 : decode cX8_segment 106 = .ok (.getfield 22, 3) := by decide +kernel
theorem dX8_segment_109 : decode cX8_segment 109 = .ok (.aload_n 0, 1) := by decide +kernel
theorem dX8_segment_110 : decode cX8_segment 110 = .ok (.getfield 97, 3) := by decide +kernel
theorem dX8_segment_113 : decode cX8_segment 113 = .ok (.iload_n 1, 1) := by decide +kernel
theorem dX8_segment_114 : decode cX8_segment 114 = .ok (.iastore, 1) := by decide +kernel
theorem dX8_segment_115 : decode cX8_segment 115 = .ok (.aload_n 0, 1) := by decide +kernel
theorem dX8_segment_116 : decode cX8_segment 116 = .ok (.getfield 25, 3) := by decide +kernel
theorem dX8_segment_119 : decode cX8_segment 119 = .ok (.aload_n 0, 1) := by decide +kernel
theorem dX8_segment_120 : decode cX8_segment 120 = .ok (.getfield 97, 3) := by decide +kernel
theorem dX8_segment_123 : decode cX8_segment 123 = .ok (.iload_n 2, 1) := by decide +kernel
theorem dX8_segment_124 : decode cX8_segment 124 = .ok (.iload_n 1, 1) := by decide +kernel
theorem dX8_segment_125 : decode cX8_segment 125 = .ok (.isub, 1) := by decide +kernel
theorem dX8_segment_126 : decode cX8_segment 126 = .ok (.iastore, 1) := by decide +kernel
theorem dX8_segment_127 : decode cX8_segment 127 = .ok (.aload_n 0, 1) := by decide +kernel
theorem dX8_segment_128 : decode cX8_segment 128 = .ok (.getfield 28, 3) := by decide +kernel
theorem dX8_segment_131 : decode cX8_segment 131 = .ok (.aload_n 0, 1) := by decide +kernel
theorem dX8_segment_132 : decode cX8_segment 132 = .ok (.getfield 97, 3) := by decide +kernel
theorem dX8_segment_135 : decode cX8_segment 135 = .ok (.iload_n 3, 1) := by decide +kernel
theorem dX8_segment_136 : decode cX8_segment 136 = .ok (.iastore, 1) := by decide +kernel
theorem dX8_segment_137 : decode cX8_segment 137 = .ok (.aload_n 0, 1) := by decide +kernel
theorem dX8_segment_138 : decode cX8_segment 138 = .ok (.dup, 1) := by decide +kernel
theorem dX8_segment_139 : decode cX8_segment 139 = .ok (.getfield 97, 3) := by decide +kernel
theorem dX8_segment_142 : decode cX8_segment 142 = .ok (.iconst 1, 1) := by decide +kernel
theorem dX8_segment_143 : decode cX8_segment 143 = .ok (.iadd, 1) := by decide +kernel
theorem dX8_segment_144 : decode cX8_segment 144 = .ok (.putfield 97, 3) := by decide +kernel
theorem dX8_segment_147 : decode cX8_segment 147 = .ok (.iload_n 1, 1) := by decide +kernel
theorem dX8_segment_148 : decode cX8_segment 148 = .ok (.istore 4, 2) := by decide +kernel
theorem dX8_segment_150 : decode cX8_segment 150 = .ok (.iload 4, 2) := by decide +kernel
theorem dX8_segment_152 : decode cX8_segment 152 = .ok (.iload_n 2, 1) := by decide +kernel
theorem dX8_segment_153 : decode cX8_segment 153 = .ok (.if_icmp .ge 27, 3) := by decide +kernel
theorem dX8_segment_156 : decode cX8_segment 156 = .ok (.aload_n 0, 1) := by decide +kernel
theorem dX8_segment_157 : decode cX8_segment 157 = .ok (.aload_n 0, 1) := by decide +kernel
theorem dX8_segment_158 : decode cX8_segment 158 = .ok (.getfield 31, 3) := by decide +kernel
theorem dX8_segment_161 : decode cX8_segment 161 = .ok (.iload 4, 2) := by decide +kernel
theorem dX8_segment_163 : decode cX8_segment 163 = .ok (.iaload, 1) := by decide +kernel
theorem dX8_segment_164 : decode cX8_segment 164 = .ok (.aload_n 0, 1) := by decide +kernel
theorem dX8_segment_165 : decode cX8_segment 165 = .ok (.getfield 91, 3) := by decide +kernel
theorem dX8_segment_168 : decode cX8_segment 168 = .ok (.invokestatic 100, 3) := by decide +kernel
theorem dX8_segment_171 : decode cX8_segment 171 = .ok (.invokevirtual 104, 3) := by decide +kernel
theorem dX8_segment_174 : decode cX8_segment 174 = .ok (.iinc 4 1, 3) := by decide +kernel
theorem dX8_segment_177 : decode cX8_segment 177 = .ok (.goto (-27), 3) := by decide +kernel
theorem dX8_segment_180 : decode cX8_segment 180 = .ok (.iload_n 2, 1) := by decide +kernel
theorem dX8_segment_181 : decode cX8_segment 181 = .ok (.ireturn, 1) := by decide +kernel
set_option maxRecDepth 20000 in
theorem ggX8_decodes_X8_in : GoodIn wsX8_decodes wsX8_in := goodIn_r _ [12] (by decide +kernel) (by decide +kernel)
set_option maxRecDepth 20000 in
theorem gX8_decodes_X8_in : GoodIn wsX8_decodes (va_wsS RX8 44 yX8_in wsX8_in) := goodIn_app (goodIn_of _ (by decide +kernel)) ggX8_decodes_X8_in
set_option maxRecDepth 20000 in
theorem ggX8_decodes_X8_segment : GoodIn wsX8_decodes wsX8_segment := goodIn_r _ [16, 1, 3, 8, 17, 5, 18, 19, 9, 10, 11, 12, 20, 21, 22, 23, 2, 24, 25, 26, 27, 28, 29, 30, 31, 32, 33, 34, 35, 36, 37, 38, 4, 39, 40, 41, 42, 43, 44, 45, 46, 47, 48, 49, 50, 51, 52, 53, 54, 55] (by decide +kernel) (by decide +kernel)
set_option maxRecDepth 20000 in
theorem gX8_decodes_X8_segment : GoodIn wsX8_decodes (wsV RX8 113 RX8 yX8_segment wsX8_segment) := goodIn_app (goodIn_of _ (by decide +kernel)) ggX8_decodes_X8_segment
set_option maxRecDepth 20000 in
theorem ggX8_decodes_X8_prints : GoodIn wsX8_decodes wsX8_prints := goodIn_r _ [37, 38, 4, 39, 40, 41, 42, 43, 44, 45, 46, 47, 48, 49, 50, 51, 52, 53, 54, 55] (by decide +kernel) (by decide +kernel)
set_option maxRecDepth 20000 in
theorem gX8_decodes_X8_prints : GoodIn wsX8_decodes (wsV RX8 104 RX8 yX8_prints wsX8_prints) := goodIn_app (goodIn_of _ (by decide +kernel)) ggX8_decodes_X8_prints
theorem dX8_decodes_0 : decode cX8_decodes 0 = .ok (.aload_n 0, 1) := by decide +kernel
theorem dX8_decodes_1 : decode cX8_decodes 1 = .ok (.iconst 0, 1) := by decide +kernel
theorem dX8_decodes_2 : decode cX8_decodes 2 = .ok (.putfield 34, 3) := by decide +kernel
theorem dX8_decodes_5 : decode cX8_decodes 5 = .ok (.iconst 0, 1) := by decide +kernel
theorem dX8_decodes_6 : decode cX8_decodes 6 = .ok (.istore_n 3, 1) := by decide +kernel
theorem dX8_decodes_7 : decode cX8_decodes 7 = .ok (.iload_n 3, 1) := by decide +kernel
theorem dX8_decodes_8 : decode cX8_decodes 8 = .ok (.aload_n 0, 1) := by decide +kernel
theorem dX8_decodes_9 : decode cX8_decodes 9 = .ok (.getfield 7, 3) := by decide +kernel
theorem dX8_decodes_12 : decode cX8_decodes 12 = .ok (.sipush 201, 3) := by decide +kernel
theorem dX8_decodes_15 : decode cX8_decodes 15 = .ok (.iaload, 1) := by decide +kernel
theorem dX8_decodes_16 : decode cX8_decodes 16 = .ok (.if_icmp .gt 75, 3) := by decide +kernel
theorem dX8_decodes_19 : decode cX8_decodes 19 = .ok (.iload_n 3, 1) := by decide +kernel
theorem dX8_decodes_20 : decode cX8_decodes 20 = .ok (.iload_n 1, 1) := by decide +kernel
theorem dX8_decodes_21 : decode cX8_decodes 21 = .ok (.if_icmp .ne 23, 3) := by decide +kernel
theorem dX8_decodes_24 : decode cX8_decodes 24 = .ok (.aload_n 0, 1) := by decide +kernel
theorem dX8_decodes_25 : decode cX8_decodes 25 = .ok (.getfield 31, 3) := by decide +kernel
theorem dX8_decodes_28 : decode cX8_decodes 28 = .ok (.aload_n 0, 1) := by decide +kernel
theorem dX8_decodes_29 : decode cX8_decodes 29 = .ok (.getfield 34, 3) := by decide +kernel
theorem dX8_decodes_32 : decode cX8_decodes 32 = .ok (.iload_n 2, 1) := by decide +kernel
theorem dX8_decodes_33 : decode cX8_decodes 33 = .ok (.iastore, 1) := by decide +kernel
theorem dX8_decodes_34 : decode cX8_decodes 34 = .ok (.aload_n 0, 1) := by decide +kernel
theorem dX8_decodes_35 : decode cX8_decodes 35 = .ok (.dup, 1) := by decide +kernel
theorem dX8_decodes_36 : decode cX8_decodes 36 = .ok (.getfield 34, 3) := by decide +kernel
theorem dX8_decodes_39 : decode cX8_decodes 39 = .ok (.iconst 1, 1) := by decide +kernel
theorem dX8_decodes_40 : decode cX8_decodes 40 = .ok (.iadd, 1) := by decide +kernel
theorem dX8_decodes_41 : decode cX8_decodes 41 = .ok (.putfield 34, 3) := by decide +kernel
theorem dX8_decodes_44 : decode cX8_decodes 44 = .ok (.iload_n 3, 1) := by decide +kernel
theorem dX8_decodes_45 : decode cX8_decodes 45 = .ok (.aload_n 0, 1) := by decide +kernel
theorem dX8_decodes_46 : decode cX8_decodes 46 = .ok (.getfield 7, 3) := by decide +kernel
theorem dX8_decodes_49 : decode cX8_decodes 49 = .ok (.sipush 201, 3) := by decide +kernel
theorem dX8_decodes_52 : decode cX8_decodes 52 = .ok (.iaload, 1) := by decide +kernel
theorem dX8_decodes_53 : decode cX8_decodes 53 = .ok (.if_icmp .ge 32, 3) := by decide +kernel
theorem dX8_decodes_56 : decode cX8_decodes 56 = .ok (.aload_n 0, 1) := by decide +kernel
theorem dX8_decodes_57 : decode cX8_decodes 57 = .ok (.getfield 31, 3) := by decide +kernel
theorem dX8_decodes_60 : decode cX8_decodes 60 = .ok (.aload_n 0, 1) := by decide +kernel
theorem dX8_decodes_61 : decode cX8_decodes 61 = .ok (.getfield 34, 3) := by decide +kernel
theorem dX8_decodes_64 : decode cX8_decodes 64 = .ok (.aload_n 0, 1) := by decide +kernel
theorem dX8_decodes_65 : decode cX8_decodes 65 = .ok (.getfield 7, 3) := by decide +kernel
theorem dX8_decodes_68 : decode cX8_decodes 68 = .ok (.sipush 202, 3) := by decide +kernel
theorem dX8_decodes_71 : decode cX8_decodes 71 = .ok (.iload_n 3, 1) := by decide +kernel
theorem dX8_decodes_72 : decode cX8_decodes 72 = .ok (.iadd, 1) := by decide +kernel
theorem dX8_decodes_73 : decode cX8_decodes 73 = .ok (.iaload, 1) := by decide +kernel
theorem dX8_decodes_74 : decode cX8_decodes 74 = .ok (.iastore, 1) := by decide +kernel
theorem dX8_decodes_75 : decode cX8_decodes 75 = .ok (.aload_n 0, 1) := by decide +kernel
theorem dX8_decodes_76 : decode cX8_decodes 76 = .ok (.dup, 1) := by decide +kernel
theorem dX8_decodes_77 : decode cX8_decodes 77 = .ok (.getfield 34, 3) := by decide +kernel
theorem dX8_decodes_80 : decode cX8_decodes 80 = .ok (.iconst 1, 1) := by decide +kernel
theorem dX8_decodes_81 : decode cX8_decodes 81 = .ok (.iadd, 1) := by decide +kernel
theorem dX8_decodes_82 : decode cX8_decodes 82 = .ok (.putfield 34, 3) := by decide +kernel
theorem dX8_decodes_85 : decode cX8_decodes 85 = .ok (.iinc 3 1, 3) := by decide +kernel
theorem dX8_decodes_88 : decode cX8_decodes 88 = .ok (.goto (-81), 3) := by decide +kernel
theorem dX8_decodes_91 : decode cX8_decodes 91 = .ok (.aload_n 0, 1) := by decide +kernel
theorem dX8_decodes_92 : decode cX8_decodes 92 = .ok (.iconst 0, 1) := by decide +kernel
theorem dX8_decodes_93 : decode cX8_decodes 93 = .ok (.putfield 88, 3) := by decide +kernel
theorem dX8_decodes_96 : decode cX8_decodes 96 = .ok (.aload_n 0, 1) := by decide +kernel
theorem dX8_decodes_97 : decode cX8_decodes 97 = .ok (.iconst 0, 1) := by decide +kernel
theorem dX8_decodes_98 : decode cX8_decodes 98 = .ok (.putfield 97, 3) := by decide +kernel
theorem dX8_decodes_101 : decode cX8_decodes 101 = .ok (.aload_n 0, 1) := by decide +kernel
theorem dX8_decodes_102 : decode cX8_decodes 102 = .ok (.iconst 0, 1) := by decide +kernel
theorem dX8_decodes_103 : decode cX8_decodes 103 = .ok (.putfield 107, 3) := by decide +kernel
theorem dX8_decodes_106 : decode cX8_decodes 106 = .ok (.aload_n 0, 1) := by decide +kernel
theorem dX8_decodes_107 : decode cX8_decodes 107 = .ok (.iconst 0, 1) := by decide +kernel
theorem dX8_decodes_108 : decode cX8_decodes 108 = .ok (.putfield 110, 3) := by decide +kernel
theorem dX8_decodes_111 : decode cX8_decodes 111 = .ok (.aload_n 0, 1) := by decide +kernel
theorem dX8_decodes_112 : decode cX8_decodes 112 = .ok (.iconst 0, 1) := by decide +kernel
theorem dX8_decodes_113 : decode cX8_decodes 113 = .ok (.putfield 91, 3) := by decide +kernel
theorem dX8_decodes_116 : decode cX8_decodes 116 = .ok (.iconst 0, 1) := by decide +kernel
theorem dX8_decodes_117 : decode cX8_decodes 117 = .ok (.istore_n 3, 1) := by decide +kernel
theorem dX8_decodes_118 : decode cX8_decodes 118 = .ok (.iload_n 3, 1) := by decide +kernel
theorem dX8_decodes_119 : decode cX8_decodes 119 = .ok (.aload_n 0, 1) := by decide +kernel
theorem dX8_decodes_120 : decode cX8_decodes 120 = .ok (.getfield 34, 3) := by decide +kernel
theorem dX8_decodes_123 : decode cX8_decodes 123 = .ok (.if_icmp .ge 175, 3) := by decide +kernel
theorem dX8_decodes_126 : decode cX8_decodes 126 = .ok (.aload_n 0, 1) := by decide +kernel
theorem dX8_decodes_127 : decode cX8_decodes 127 = .ok (.getfield 31, 3) := by decide +kernel
theorem dX8_decodes_130 : decode cX8_decodes 130 = .ok (.iload_n 3, 1) := by decide +kernel
theorem dX8_decodes_131 : decode cX8_decodes 131 = .ok (.iaload, 1) := by decide +kernel
theorem dX8_decodes_132 : decode cX8_decodes 132 = .ok (.istore 4, 2) := by decide +kernel
theorem dX8_decodes_134 : decode cX8_decodes 134 = .ok (.iload 4, 2) := by decide +kernel
theorem dX8_decodes_136 : decode cX8_decodes 136 = .ok (.iconst 1, 1) := by decide +kernel
theorem dX8_decodes_137 : decode cX8_decodes 137 = .ok (.bipush 26, 2) := by decide +kernel
theorem dX8_decodes_139 : decode cX8_decodes 139 = .ok (.invokestatic 44, 3) := by decide +kernel
theorem dX8_decodes_142 : decode cX8_decodes 142 = .ok (.ifCond .eq 12, 3) := by decide +kernel
theorem dX8_decodes_145 : decode cX8_decodes 145 = .ok (.aload_n 0, 1) := by decide +kernel
theorem dX8_decodes_146 : decode cX8_decodes 146 = .ok (.iload_n 3, 1) := by decide +kernel
theorem dX8_decodes_147 : decode cX8_decodes 147 = .ok (.invokevirtual 113, 3) := by decide +kernel
theorem dX8_decodes_150 : decode cX8_decodes 150 = .ok (.istore_n 3, 1) := by decide +kernel
theorem dX8_decodes_151 : decode cX8_decodes 151 = .ok (.goto 144, 3) := by decide +kernel
theorem dX8_decodes_154 : decode cX8_decodes 154 = .ok (.aload_n 0, 1) := by decide +kernel
theorem dX8_decodes_155 : decode cX8_decodes 155 = .ok (.dup, 1) := by decide +kernel
theorem dX8_decodes_156 : decode cX8_decodes 156 = .ok (.getfield 107, 3) := by decide +kernel
theorem dX8_decodes_159 : decode cX8_decodes 159 = .ok (.iload 4, 2) := by decide +kernel
theorem dX8_decodes_161 : decode cX8_decodes 161 = .ok (.bipush 29, 2) := by decide +kernel
theorem dX8_decodes_163 : decode cX8_decodes 163 = .ok (.if_icmp .ne 15, 3) := by decide +kernel
theorem dX8_decodes_166 : decode cX8_decodes 166 = .ok (.aload_n 0, 1) := by decide +kernel
theorem dX8_decodes_167 : decode cX8_decodes 167 = .ok (.getfield 91, 3) := by decide +kernel
theorem dX8_decodes_170 : decode cX8_decodes 170 = .ok (.iconst 1, 1) := by decide +kernel
theorem dX8_decodes_171 : decode cX8_decodes 171 = .ok (.if_icmp .ne 7, 3) := by decide +kernel
theorem dX8_decodes_174 : decode cX8_decodes 174 = .ok (.iconst 1, 1) := by decide +kernel
theorem dX8_decodes_175 : decode cX8_decodes 175 = .ok (.goto 4, 3) := by decide +kernel
theorem dX8_decodes_178 : decode cX8_decodes 178 = .ok (.iconst 0, 1) := by decide +kernel
theorem dX8_decodes_179 : decode cX8_decodes 179 = .ok (.iadd, 1) := by decide +kernel
theorem dX8_decodes_180 : decode cX8_decodes 180 = .ok (.putfield 107, 3) := by decide +kernel
theorem dX8_decodes_183 : decode cX8_decodes 183 = .ok (.aload_n 0, 1) := by decide +kernel
theorem dX8_decodes_184 : decode cX8_decodes 184 = .ok (.dup, 1) := by decide +kernel
theorem dX8_decodes_185 : decode cX8_decodes 185 = .ok (.getfield 110, 3) := by decide +kernel
theorem dX8_decodes_188 : decode cX8_decodes 188 = .ok (.iload 4, 2) := by decide +kernel
theorem dX8_decodes_190 : decode cX8_decodes 190 = .ok (.bipush 29, 2) := by decide +kernel
theorem dX8_decodes_192 : decode cX8_decodes 192 = .ok (.if_icmp .ne 14, 3) := by decide +kernel
theorem dX8_decodes_195 : decode cX8_decodes 195 = .ok (.aload_n 0, 1) := by decide +kernel
theorem dX8_decodes_196 : decode cX8_decodes 196 = .ok (.getfield 91, 3) := by decide +kernel
theorem dX8_decodes_199 : decode cX8_decodes 199 = .ok (.ifCond .ne 7, 3) := by decide +kernel
theorem dX8_decodes_202 : decode cX8_decodes 202 = .ok (.iconst 1, 1) := by decide +kernel
theorem dX8_decodes_203 : decode cX8_decodes 203 = .ok (.goto 4, 3) := by decide +kernel
theorem dX8_decodes_206 : decode cX8_decodes 206 = .ok (.iconst 0, 1) := by decide +kernel
theorem dX8_decodes_207 : decode cX8_decodes 207 = .ok (.iadd, 1) := by decide +kernel
theorem dX8_decodes_208 : decode cX8_decodes 208 = .ok (.putfield 110, 3) := by decide +kernel
theorem dX8_decodes_211 : decode cX8_decodes 211 = .ok (.iload 4, 2) := by decide +kernel
theorem dX8_decodes_213 : decode cX8_decodes 213 = .ok (.bipush 27, 2) := by decide +kernel
theorem dX8_decodes_215 : decode cX8_decodes 215 = .ok (.if_icmp .eq 10, 3) := by decide +kernel
theorem dX8_decodes_218 : decode cX8_decodes 218 = .ok (.iload 4, 2) := by decide +kernel
theorem dX8_decodes_220 : decode cX8_decodes 220 = .ok (.bipush 28, 2) := by decide +kernel
theorem dX8_decodes_222 : decode cX8_decodes 222 = .ok (.if_icmp .ne 21, 3) := by decide +kernel
theorem dX8_decodes_225 : decode cX8_decodes 225 = .ok (.aload_n 0, 1) := by decide +kernel
theorem dX8_decodes_226 : decode cX8_decodes 226 = .ok (.iload 4, 2) := by decide +kernel
theorem dX8_decodes_228 : decode cX8_decodes 228 = .ok (.bipush 27, 2) := by decide +kernel
theorem dX8_decodes_230 : decode cX8_decodes 230 = .ok (.if_icmp .ne 8, 3) := by decide +kernel
theorem dX8_decodes_233 : decode cX8_decodes 233 = .ok (.bipush 32, 2) := by decide +kernel
theorem dX8_decodes_235 : decode cX8_decodes 235 = .ok (.goto 5, 3) := by decide +kernel
theorem dX8_decodes_238 : decode cX8_decodes 238 = .ok (.bipush 10, 2) := by decide +kernel
theorem dX8_decodes_240 : decode cX8_decodes 240 = .ok (.invokevirtual 104, 3) := by decide +kernel
theorem dX8_decodes_243 : decode cX8_decodes 243 = .ok (.aload_n 0, 1) := by decide +kernel
theorem dX8_decodes_244 : decode cX8_decodes 244 = .ok (.iload 4, 2) := by decide +kernel
theorem dX8_decodes_246 : decode cX8_decodes 246 = .ok (.bipush 30, 2) := by decide +kernel
theorem dX8_decodes_248 : decode cX8_decodes 248 = .ok (.if_icmp .ne 7, 3) := by decide +kernel
theorem dX8_decodes_251 : decode cX8_decodes 251 = .ok (.iconst 1, 1) := by decide +kernel
theorem dX8_decodes_252 : decode cX8_decodes 252 = .ok (.goto 37, 3) := by decide +kernel
theorem dX8_decodes_255 : decode cX8_decodes 255 = .ok (.iload 4, 2) := by decide +kernel
theorem dX8_decodes_257 : decode cX8_decodes 257 = .ok (.bipush 31, 2) := by decide +kernel
theorem dX8_decodes_259 : decode cX8_decodes 259 = .ok (.if_icmp .eq 22, 3) := by decide +kernel
theorem dX8_decodes_262 : decode cX8_decodes 262 = .ok (.iload 4, 2) := by decide +kernel
theorem dX8_decodes_264 : decode cX8_decodes 264 = .ok (.bipush 27, 2) := by decide +kernel
theorem dX8_decodes_266 : decode cX8_decodes 266 = .ok (.if_icmp .ne 19, 3) := by decide +kernel
theorem dX8_decodes_269 : decode cX8_decodes 269 = .ok (.aload_n 0, 1) := by decide +kernel
theorem dX8_decodes_270 : decode cX8_decodes 270 = .ok (.getfield 7, 3) := by decide +kernel
theorem dX8_decodes_273 : decode cX8_decodes 273 = .ok (.sipush 604, 3) := by decide +kernel
theorem dX8_decodes_276 : decode cX8_decodes 276 = .ok (.iaload, 1) := by decide +kernel
theorem dX8_decodes_277 : decode cX8_decodes 277 = .ok (.iconst 1, 1) := by decide +kernel
theorem dX8_decodes_278 : decode cX8_decodes 278 = .ok (.if_icmp .ne 7, 3) := by decide +kernel
theorem dX8_decodes_281 : decode cX8_decodes 281 = .ok (.iconst 0, 1) := by decide +kernel
theorem dX8_decodes_282 : decode cX8_decodes 282 = .ok (.goto 7, 3) := by decide +kernel
theorem dX8_decodes_285 : decode cX8_decodes 285 = .ok (.aload_n 0, 1) := by decide +kernel
theorem dX8_decodes_286 : decode cX8_decodes 286 = .ok (.getfield 91, 3) := by decide +kernel
theorem dX8_decodes_289 : decode cX8_decodes 289 = .ok (.putfield 91, 3) := by decide +kernel
theorem dX8_decodes_292 : decode cX8_decodes 292 = .ok (.iinc 3 1, 3) := by decide +kernel
theorem dX8_decodes_295 : decode cX8_decodes 295 = .ok (.goto (-177), 3) := by decide +kernel
theorem dX8_decodes_298 : decode cX8_decodes 298 = .ok (.return_, 1) := by decide +kernel
theorem dX8_withBit_0 : decode cX8_withBit 0 = .ok (.iconst 0, 1) := by decide +kernel
theorem dX8_withBit_1 : decode cX8_withBit 1 = .ok (.istore_n 2, 1) := by decide +kernel
theorem dX8_withBit_2 : decode cX8_withBit 2 = .ok (.iconst 0, 1) := by decide +kernel
theorem dX8_withBit_3 : decode cX8_withBit 3 = .ok (.istore_n 3, 1) := by decide +kernel
theorem dX8_withBit_4 : decode cX8_withBit 4 = .ok (.iload_n 3, 1) := by decide +kernel
theorem dX8_withBit_5 : decode cX8_withBit 5 = .ok (.aload_n 0, 1) := by decide +kernel
theorem dX8_withBit_6 : decode cX8_withBit 6 = .ok (.getfield 97, 3) := by decide +kernel
theorem dX8_withBit_9 : decode cX8_withBit 9 = .ok (.if_icmp .ge 28, 3) := by decide +kernel
theorem dX8_withBit_12 : decode cX8_withBit 12 = .ok (.iload_n 2, 1) := by decide +kernel
theorem dX8_withBit_13 : decode cX8_withBit 13 = .ok (.aload_n 0, 1) := by decide +kernel
theorem dX8_withBit_14 : decode cX8_withBit 14 = .ok (.getfield 28, 3) := by decide +kernel
theorem dX8_withBit_17 : decode cX8_withBit 17 = .ok (.iload_n 3, 1) := by decide +kernel
theorem dX8_withBit_18 : decode cX8_withBit 18 = .ok (.iaload, 1) := by decide +kernel
theorem dX8_withBit_19 : decode cX8_withBit 19 = .ok (.iload_n 1, 1) := by decide +kernel
theorem dX8_withBit_20 : decode cX8_withBit 20 = .ok (.iand, 1) := by decide +kernel
theorem dX8_withBit_21 : decode cX8_withBit 21 = .ok (.ifCond .eq 7, 3) := by decide +kernel
theorem dX8_withBit_24 : decode cX8_withBit 24 = .ok (.iconst 1, 1) := by decide +kernel
theorem dX8_withBit_25 : decode cX8_withBit 25 = .ok (.goto 4, 3) := by decide +kernel
theorem dX8_withBit_28 : decode cX8_withBit 28 = .ok (.iconst 0, 1) := by decide +kernel
theorem dX8_withBit_29 : decode cX8_withBit 29 = .ok (.iadd, 1) := by decide +kernel
theorem dX8_withBit_30 : decode cX8_withBit 30 = .ok (.istore_n 2, 1) := by decide +kernel
theorem dX8_withBit_31 : decode cX8_withBit 31 = .ok (.iinc 3 1, 3) := by decide +kernel
theorem dX8_withBit_34 : decode cX8_withBit 34 = .ok (.goto (-30), 3) := by decide +kernel
theorem dX8_withBit_37 : decode cX8_withBit 37 = .ok (.iload_n 2, 1) := by decide +kernel
theorem dX8_withBit_38 : decode cX8_withBit 38 = .ok (.ireturn, 1) := by decide +kernel
set_option maxRecDepth 20000 in
theorem ggX8_unshiftOnSpace_X8_saves : GoodIn wsX8_unshiftOnSpace wsX8_saves := goodIn_r _ [7, 8, 9, 2, 10, 11, 12, 13, 14, 15, 16, 17, 18, 19, 20, 21, 22, 23, 24, 25, 26] (by decide +kernel) (by decide +kernel)
set_option maxRecDepth 20000 in
theorem gX8_unshiftOnSpace_X8_saves : GoodIn wsX8_unshiftOnSpace (wsV RX8 75 RX8 yX8_saves wsX8_saves) := goodIn_app (goodIn_of _ (by decide +kernel)) ggX8_unshiftOnSpace_X8_saves
theorem dX8_unshiftOnSpace_0 : decode cX8_unshiftOnSpace 0 = .ok (.aload_n 0, 1) := by decide +kernel
theorem dX8_unshiftOnSpace_1 : decode cX8_unshiftOnSpace 1 = .ok (.iconst 0, 1) := by decide +kernel
theorem dX8_unshiftOnSpace_2 : decode cX8_unshiftOnSpace 2 = .ok (.putfield 38, 3) := by decide +kernel
theorem dX8_unshiftOnSpace_5 : decode cX8_unshiftOnSpace 5 = .ok (.aload_n 0, 1) := by decide +kernel
theorem dX8_unshiftOnSpace_6 : decode cX8_unshiftOnSpace 6 = .ok (.invokevirtual 75, 3) := by decide +kernel
theorem dX8_unshiftOnSpace_9 : decode cX8_unshiftOnSpace 9 = .ok (.aload_n 0, 1) := by decide +kernel
theorem dX8_unshiftOnSpace_10 : decode cX8_unshiftOnSpace 10 = .ok (.getfield 7, 3) := by decide +kernel
theorem dX8_unshiftOnSpace_13 : decode cX8_unshiftOnSpace 13 = .ok (.sipush 604, 3) := by decide +kernel
theorem dX8_unshiftOnSpace_16 : decode cX8_unshiftOnSpace 16 = .ok (.iaload, 1) := by decide +kernel
theorem dX8_unshiftOnSpace_17 : decode cX8_unshiftOnSpace 17 = .ok (.iconst 1, 1) := by decide +kernel
theorem dX8_unshiftOnSpace_18 : decode cX8_unshiftOnSpace 18 = .ok (.if_icmp .ne 7, 3) := by decide +kernel
theorem dX8_unshiftOnSpace_21 : decode cX8_unshiftOnSpace 21 = .ok (.iconst 1, 1) := by decide +kernel
theorem dX8_unshiftOnSpace_22 : decode cX8_unshiftOnSpace 22 = .ok (.goto 4, 3) := by decide +kernel
theorem dX8_unshiftOnSpace_25 : decode cX8_unshiftOnSpace 25 = .ok (.iconst 0, 1) := by decide +kernel
theorem dX8_unshiftOnSpace_26 : decode cX8_unshiftOnSpace 26 = .ok (.istore_n 2, 1) := by decide +kernel
theorem dX8_unshiftOnSpace_27 : decode cX8_unshiftOnSpace 27 = .ok (.aload_n 0, 1) := by decide +kernel
theorem dX8_unshiftOnSpace_28 : decode cX8_unshiftOnSpace 28 = .ok (.getfield 7, 3) := by decide +kernel
theorem dX8_unshiftOnSpace_31 : decode cX8_unshiftOnSpace 31 = .ok (.sipush 604, 3) := by decide +kernel
theorem dX8_unshiftOnSpace_34 : decode cX8_unshiftOnSpace 34 = .ok (.iload_n 1, 1) := by decide +kernel
theorem dX8_unshiftOnSpace_35 : decode cX8_unshiftOnSpace 35 = .ok (.ifCond .eq 7, 3) := by decide +kernel
theorem dX8_unshiftOnSpace_38 : decode cX8_unshiftOnSpace 38 = .ok (.iconst 1, 1) := by decide +kernel
theorem dX8_unshiftOnSpace_39 : decode cX8_unshiftOnSpace 39 = .ok (.goto 4, 3) := by decide +kernel
theorem dX8_unshiftOnSpace_42 : decode cX8_unshiftOnSpace 42 = .ok (.iconst 0, 1) := by decide +kernel
theorem dX8_unshiftOnSpace_43 : decode cX8_unshiftOnSpace 43 = .ok (.iastore, 1) := by decide +kernel
theorem dX8_unshiftOnSpace_44 : decode cX8_unshiftOnSpace 44 = .ok (.iload_n 2, 1) := by decide +kernel
theorem dX8_unshiftOnSpace_45 : decode cX8_unshiftOnSpace 45 = .ok (.ireturn, 1) := by decide +kernel
set_option maxRecDepth 20000 in
theorem ggX8_known_X8_codeOf : GoodIn wsX8_known wsX8_codeOf := goodIn_r _ [7, 8, 9, 6, 10, 11, 12, 13, 14, 15, 16, 17, 18, 19] (by decide +kernel) (by decide +kernel)
set_option maxRecDepth 20000 in
theorem gX8_known_X8_codeOf : GoodIn wsX8_known (va_wsS RX8 59 yX8_codeOf wsX8_codeOf) := goodIn_app (goodIn_of _ (by decide +kernel)) ggX8_known_X8_codeOf
theorem dX8_known_0 : decode cX8_known 0 = .ok (.iconst 0, 1) := by decide +kernel
theorem dX8_known_1 : decode cX8_known 1 = .ok (.istore_n 1, 1) := by decide +kernel
theorem dX8_known_2 : decode cX8_known 2 = .ok (.iconst 0, 1) := by decide +kernel
theorem dX8_known_3 : decode cX8_known 3 = .ok (.istore_n 2, 1) := by decide +kernel
theorem dX8_known_4 : decode cX8_known 4 = .ok (.iload_n 1, 1) := by decide +kernel
theorem dX8_known_5 : decode cX8_known 5 = .ok (.aload_n 0, 1) := by decide +kernel
theorem dX8_known_6 : decode cX8_known 6 = .ok (.getfield 7, 3) := by decide +kernel
theorem dX8_known_9 : decode cX8_known 9 = .ok (.sipush 805, 3) := by decide +kernel
theorem dX8_known_12 : decode cX8_known 12 = .ok (.iaload, 1) := by decide +kernel
theorem dX8_known_13 : decode cX8_known 13 = .ok (.if_icmp .ge 98, 3) := by decide +kernel
theorem dX8_known_16 : decode cX8_known 16 = .ok (.iload_n 2, 1) := by decide +kernel
theorem dX8_known_17 : decode cX8_known 17 = .ok (.ifCond .ne 94, 3) := by decide +kernel
theorem dX8_known_20 : decode cX8_known 20 = .ok (.aload_n 0, 1) := by decide +kernel
theorem dX8_known_21 : decode cX8_known 21 = .ok (.getfield 7, 3) := by decide +kernel
theorem dX8_known_24 : decode cX8_known 24 = .ok (.sipush 806, 3) := by decide +kernel
theorem dX8_known_27 : decode cX8_known 27 = .ok (.iload_n 1, 1) := by decide +kernel
theorem dX8_known_28 : decode cX8_known 28 = .ok (.iadd, 1) := by decide +kernel
theorem dX8_known_29 : decode cX8_known 29 = .ok (.iaload, 1) := by decide +kernel
theorem dX8_known_30 : decode cX8_known 30 = .ok (.aload_n 0, 1) := by decide +kernel
theorem dX8_known_31 : decode cX8_known 31 = .ok (.getfield 62, 3) := by decide +kernel
theorem dX8_known_34 : decode cX8_known 34 = .ok (.if_icmp .ne 7, 3) := by decide +kernel
theorem dX8_known_37 : decode cX8_known 37 = .ok (.iconst 1, 1) := by decide +kernel
theorem dX8_known_38 : decode cX8_known 38 = .ok (.goto 4, 3) := by decide +kernel
theorem dX8_known_41 : decode cX8_known 41 = .ok (.iconst 0, 1) := by decide +kernel
theorem dX8_known_42 : decode cX8_known 42 = .ok (.istore_n 2, 1) := by decide +kernel
theorem dX8_known_43 : decode cX8_known 43 = .ok (.iconst 0, 1) := by decide +kernel
theorem dX8_known_44 : decode cX8_known 44 = .ok (.istore_n 3, 1) := by decide +kernel
theorem dX8_known_45 : decode cX8_known 45 = .ok (.iload_n 3, 1) := by decide +kernel
theorem dX8_known_46 : decode cX8_known 46 = .ok (.aload_n 0, 1) := by decide +kernel
theorem dX8_known_47 : decode cX8_known 47 = .ok (.getfield 62, 3) := by decide +kernel
theorem dX8_known_50 : decode cX8_known 50 = .ok (.if_icmp .ge 46, 3) := by decide +kernel
theorem dX8_known_53 : decode cX8_known 53 = .ok (.iload_n 2, 1) := by decide +kernel
theorem dX8_known_54 : decode cX8_known 54 = .ok (.ifCond .eq 42, 3) := by decide +kernel
theorem dX8_known_57 : decode cX8_known 57 = .ok (.aload_n 0, 1) := by decide +kernel
theorem dX8_known_58 : decode cX8_known 58 = .ok (.getfield 7, 3) := by decide +kernel
theorem dX8_known_61 : decode cX8_known 61 = .ok (.sipush 826, 3) := by decide +kernel
theorem dX8_known_64 : decode cX8_known 64 = .ok (.bipush 6, 2) := by decide +kernel
theorem dX8_known_66 : decode cX8_known 66 = .ok (.iload_n 1, 1) := by decide +kernel
theorem dX8_known_67 : decode cX8_known 67 = .ok (.imul, 1) := by decide +kernel
theorem dX8_known_68 : decode cX8_known 68 = .ok (.iadd, 1) := by decide +kernel
theorem dX8_known_69 : decode cX8_known 69 = .ok (.iload_n 3, 1) := by decide +kernel
theorem dX8_known_70 : decode cX8_known 70 = .ok (.iadd, 1) := by decide +kernel
theorem dX8_known_71 : decode cX8_known 71 = .ok (.iaload, 1) := by decide +kernel
theorem dX8_known_72 : decode cX8_known 72 = .ok (.aload_n 0, 1) := by decide +kernel
theorem dX8_known_73 : decode cX8_known 73 = .ok (.getfield 16, 3) := by decide +kernel
theorem dX8_known_76 : decode cX8_known 76 = .ok (.iload_n 3, 1) := by decide +kernel
theorem dX8_known_77 : decode cX8_known 77 = .ok (.iaload, 1) := by decide +kernel
theorem dX8_known_78 : decode cX8_known 78 = .ok (.invokestatic 59, 3) := by decide +kernel
theorem dX8_known_81 : decode cX8_known 81 = .ok (.if_icmp .ne 7, 3) := by decide +kernel
theorem dX8_known_84 : decode cX8_known 84 = .ok (.iconst 1, 1) := by decide +kernel
theorem dX8_known_85 : decode cX8_known 85 = .ok (.goto 4, 3) := by decide +kernel
theorem dX8_known_88 : decode cX8_known 88 = .ok (.iconst 0, 1) := by decide +kernel
theorem dX8_known_89 : decode cX8_known 89 = .ok (.istore_n 2, 1) := by decide +kernel
theorem dX8_known_90 : decode cX8_known 90 = .ok (.iinc 3 1, 3) := by decide +kernel
theorem dX8_known_93 : decode cX8_known 93 = .ok (.goto (-48), 3) := by decide +kernel
theorem dX8_known_96 : decode cX8_known 96 = .ok (.iload_n 1, 1) := by decide +kernel
theorem dX8_known_97 : decode cX8_known 97 = .ok (.iload_n 2, 1) := by decide +kernel
theorem dX8_known_98 : decode cX8_known 98 = .ok (.ifCond .eq 7, 3) := by decide +kernel
theorem dX8_known_101 : decode cX8_known 101 = .ok (.iconst 0, 1) := by decide +kernel
theorem dX8_known_102 : decode cX8_known 102 = .ok (.goto 4, 3) := by decide +kernel
theorem dX8_known_105 : decode cX8_known 105 = .ok (.iconst 1, 1) := by decide +kernel
theorem dX8_known_106 : decode cX8_known 106 = .ok (.iadd, 1) := by decide +kernel
theorem dX8_known_107 : decode cX8_known 107 = .ok (.istore_n 1, 1) := by decide +kernel
theorem dX8_known_108 : decode cX8_known 108 = .ok (.goto (-104), 3) := by decide +kernel
theorem dX8_known_111 : decode cX8_known 111 = .ok (.iload_n 1, 1) := by decide +kernel
theorem dX8_known_112 : decode cX8_known 112 = .ok (.ireturn, 1) := by decide +kernel
set_option maxRecDepth 20000 in
theorem ggX8_hasWord_X8_in : GoodIn wsX8_hasWord wsX8_in := goodIn_r _ [6] (by decide +kernel) (by decide +kernel)
set_option maxRecDepth 20000 in
theorem gX8_hasWord_X8_in : GoodIn wsX8_hasWord (va_wsS RX8 44 yX8_in wsX8_in) := goodIn_app (goodIn_of _ (by decide +kernel)) ggX8_hasWord_X8_in
set_option maxRecDepth 20000 in
theorem ggX8_hasWord_X8_isLetter : GoodIn wsX8_hasWord wsX8_isLetter := goodIn_r _ [9, 3, 4, 5, 6] (by decide +kernel) (by decide +kernel)
set_option maxRecDepth 20000 in
theorem gX8_hasWord_X8_isLetter : GoodIn wsX8_hasWord (va_wsS RX8 52 yX8_isLetter wsX8_isLetter) := goodIn_app (goodIn_of _ (by decide +kernel)) ggX8_hasWord_X8_isLetter
theorem dX8_hasWord_0 : decode cX8_hasWord 0 = .ok (.aload_n 0, 1) := by decide +kernel
theorem dX8_hasWord_1 : decode cX8_hasWord 1 = .ok (.getfield 62, 3) := by decide +kernel
theorem dX8_hasWord_4 : decode cX8_hasWord 4 = .ok (.iconst 1, 1) := by decide +kernel
theorem dX8_hasWord_5 : decode cX8_hasWord 5 = .ok (.bipush 6, 2) := by decide +kernel
theorem dX8_hasWord_7 : decode cX8_hasWord 7 = .ok (.invokestatic 44, 3) := by decide +kernel
theorem dX8_hasWord_10 : decode cX8_hasWord 10 = .ok (.istore_n 1, 1) := by decide +kernel
theorem dX8_hasWord_11 : decode cX8_hasWord 11 = .ok (.iconst 0, 1) := by decide +kernel
theorem dX8_hasWord_12 : decode cX8_hasWord 12 = .ok (.istore_n 2, 1) := by decide +kernel
theorem dX8_hasWord_13 : decode cX8_hasWord 13 = .ok (.iload_n 2, 1) := by decide +kernel
theorem dX8_hasWord_14 : decode cX8_hasWord 14 = .ok (.aload_n 0, 1) := by decide +kernel
theorem dX8_hasWord_15 : decode cX8_hasWord 15 = .ok (.getfield 62, 3) := by decide +kernel
theorem dX8_hasWord_18 : decode cX8_hasWord 18 = .ok (.if_icmp .ge 31, 3) := by decide +kernel
theorem dX8_hasWord_21 : decode cX8_hasWord 21 = .ok (.iload_n 1, 1) := by decide +kernel
theorem dX8_hasWord_22 : decode cX8_hasWord 22 = .ok (.ifCond .eq 19, 3) := by decide +kernel
theorem dX8_hasWord_25 : decode cX8_hasWord 25 = .ok (.aload_n 0, 1) := by decide +kernel
theorem dX8_hasWord_26 : decode cX8_hasWord 26 = .ok (.getfield 16, 3) := by decide +kernel
theorem dX8_hasWord_29 : decode cX8_hasWord 29 = .ok (.iload_n 2, 1) := by decide +kernel
theorem dX8_hasWord_30 : decode cX8_hasWord 30 = .ok (.iaload, 1) := by decide +kernel
theorem dX8_hasWord_31 : decode cX8_hasWord 31 = .ok (.invokestatic 52, 3) := by decide +kernel
theorem dX8_hasWord_34 : decode cX8_hasWord 34 = .ok (.ifCond .eq 7, 3) := by decide +kernel
theorem dX8_hasWord_37 : decode cX8_hasWord 37 = .ok (.iconst 1, 1) := by decide +kernel
theorem dX8_hasWord_38 : decode cX8_hasWord 38 = .ok (.goto 4, 3) := by decide +kernel
theorem dX8_hasWord_41 : decode cX8_hasWord 41 = .ok (.iconst 0, 1) := by decide +kernel
theorem dX8_hasWord_42 : decode cX8_hasWord 42 = .ok (.istore_n 1, 1) := by decide +kernel
theorem dX8_hasWord_43 : decode cX8_hasWord 43 = .ok (.iinc 2 1, 3) := by decide +kernel
theorem dX8_hasWord_46 : decode cX8_hasWord 46 = .ok (.goto (-33), 3) := by decide +kernel
theorem dX8_hasWord_49 : decode cX8_hasWord 49 = .ok (.iload_n 1, 1) := by decide +kernel
theorem dX8_hasWord_50 : decode cX8_hasWord 50 = .ok (.ireturn, 1) := by decide +kernel
set_option maxRecDepth 20000 in
theorem ggX8_learn_X8_hasWord : GoodIn wsX8_learn wsX8_hasWord := goodIn_r _ [8, 2, 3, 9, 10, 7, 11, 12, 13, 14, 39, 40, 41, 42, 43, 44, 45, 46, 47, 48, 49, 50, 51, 52, 53, 54, 55] (by decide +kernel) (by decide +kernel)
set_option maxRecDepth 20000 in
theorem gX8_learn_X8_hasWord : GoodIn wsX8_learn (wsV RX8 116 RX8 yX8_hasWord wsX8_hasWord) := goodIn_app (goodIn_of _ (by decide +kernel)) ggX8_learn_X8_hasWord
set_option maxRecDepth 20000 in
theorem ggX8_learn_X8_known : GoodIn wsX8_learn wsX8_known := goodIn_r _ [18, 1, 2, 3, 19, 20, 7, 21, 12, 13, 14, 9, 10, 11, 22, 23, 24, 25, 26, 27, 39, 40, 41, 42, 43, 44, 45, 46, 47, 48, 49, 50, 51, 52, 53, 54, 55] (by decide +kernel) (by decide +kernel)
set_option maxRecDepth 20000 in
theorem gX8_learn_X8_known : GoodIn wsX8_learn (wsV RX8 120 RX8 yX8_known wsX8_known) := goodIn_app (goodIn_of _ (by decide +kernel)) ggX8_learn_X8_known
set_option maxRecDepth 20000 in
theorem ggX8_learn_X8_refused : GoodIn wsX8_learn wsX8_refused := goodIn_r _ [31, 32, 39, 40, 41, 42, 43, 44, 45, 46, 47, 48, 49, 50, 51, 52, 53, 54, 55] (by decide +kernel) (by decide +kernel)
set_option maxRecDepth 20000 in
theorem gX8_learn_X8_refused : GoodIn wsX8_learn (wsV RX8 65 RX8 yX8_refused wsX8_refused) := goodIn_app (goodIn_of _ (by decide +kernel)) ggX8_learn_X8_refused
set_option maxRecDepth 20000 in
theorem ggX8_learn_X8_saves : GoodIn wsX8_learn wsX8_saves := goodIn_r _ [36, 37, 38, 1, 39, 40, 41, 42, 43, 44, 45, 46, 47, 48, 49, 50, 51, 52, 53, 54, 55] (by decide +kernel) (by decide +kernel)
set_option maxRecDepth 20000 in
theorem gX8_learn_X8_saves : GoodIn wsX8_learn (wsV RX8 75 RX8 yX8_saves wsX8_saves) := goodIn_app (goodIn_of _ (by decide +kernel)) ggX8_learn_X8_saves
set_option maxRecDepth 20000 in
theorem ggX8_learn_X8_codeOf : GoodIn wsX8_learn wsX8_codeOf := goodIn_r _ [21, 12, 13, 7, 14, 9, 10, 11, 22, 23, 24, 25, 26, 27] (by decide +kernel) (by decide +kernel)
set_option maxRecDepth 20000 in
theorem gX8_learn_X8_codeOf : GoodIn wsX8_learn (va_wsS RX8 59 yX8_codeOf wsX8_codeOf) := goodIn_app (goodIn_of _ (by decide +kernel)) ggX8_learn_X8_codeOf
theorem dX8_learn_0 : decode cX8_learn 0 = .ok (.aload_n 0, 1) := by decide +kernel
theorem dX8_learn_1 : decode cX8_learn 1 = .ok (.aload_n 0, 1) := by decide +kernel
theorem dX8_learn_2 : decode cX8_learn 2 = .ok (.invokevirtual 116, 3) := by decide +kernel
theorem dX8_learn_5 : decode cX8_learn 5 = .ok (.ifCond .ne 7, 3) := by decide +kernel
theorem dX8_learn_8 : decode cX8_learn 8 = .ok (.iconst 1, 1) := by decide +kernel
theorem dX8_learn_9 : decode cX8_learn 9 = .ok (.goto 17, 3) := by decide +kernel
theorem dX8_learn_12 : decode cX8_learn 12 = .ok (.aload_n 0, 1) := by decide +kernel
theorem dX8_learn_13 : decode cX8_learn 13 = .ok (.invokevirtual 120, 3) := by decide +kernel
theorem dX8_learn_16 : decode cX8_learn 16 = .ok (.bipush 20, 2) := by decide +kernel
theorem dX8_learn_18 : decode cX8_learn 18 = .ok (.if_icmp .ne 7, 3) := by decide +kernel
theorem dX8_learn_21 : decode cX8_learn 21 = .ok (.iconst 2, 1) := by decide +kernel
theorem dX8_learn_22 : decode cX8_learn 22 = .ok (.goto 4, 3) := by decide +kernel
theorem dX8_learn_25 : decode cX8_learn 25 = .ok (.iconst 0, 1) := by decide +kernel
theorem dX8_learn_26 : decode cX8_learn 26 = .ok (.invokevirtual 65, 3) := by decide +kernel
theorem dX8_learn_29 : decode cX8_learn 29 = .ok (.ifCond .eq 5, 3) := by decide +kernel
theorem dX8_learn_32 : decode cX8_learn 32 = .ok (.iconst 0, 1) := by decide +kernel
theorem dX8_learn_33 : decode cX8_learn 33 = .ok (.ireturn, 1) := by decide +kernel
theorem dX8_learn_34 : decode cX8_learn 34 = .ok (.aload_n 0, 1) := by decide +kernel
theorem dX8_learn_35 : decode cX8_learn 35 = .ok (.invokevirtual 75, 3) := by decide +kernel
theorem dX8_learn_38 : decode cX8_learn 38 = .ok (.aload_n 0, 1) := by decide +kernel
theorem dX8_learn_39 : decode cX8_learn 39 = .ok (.invokevirtual 120, 3) := by decide +kernel
theorem dX8_learn_42 : decode cX8_learn 42 = .ok (.istore_n 1, 1) := by decide +kernel
theorem dX8_learn_43 : decode cX8_learn 43 = .ok (.iload_n 1, 1) := by decide +kernel
theorem dX8_learn_44 : decode cX8_learn 44 = .ok (.aload_n 0, 1) := by decide +kernel
theorem dX8_learn_45 : decode cX8_learn 45 = .ok (.getfield 7, 3) := by decide +kernel
theorem dX8_learn_48 : decode cX8_learn 48 = .ok (.sipush 805, 3) := by decide +kernel
theorem dX8_learn_51 : decode cX8_learn 51 = .ok (.iaload, 1) := by decide +kernel
theorem dX8_learn_52 : decode cX8_learn 52 = .ok (.if_icmp .ne 79, 3) := by decide +kernel
theorem dX8_learn_55 : decode cX8_learn 55 = .ok (.aload_n 0, 1) := by decide +kernel
theorem dX8_learn_56 : decode cX8_learn 56 = .ok (.getfield 7, 3) := by decide +kernel
theorem dX8_learn_59 : decode cX8_learn 59 = .ok (.sipush 806, 3) := by decide +kernel
theorem dX8_learn_62 : decode cX8_learn 62 = .ok (.iload_n 1, 1) := by decide +kernel
theorem dX8_learn_63 : decode cX8_learn 63 = .ok (.iadd, 1) := by decide +kernel
theorem dX8_learn_64 : decode cX8_learn 64 = .ok (.aload_n 0, 1) := by decide +kernel
theorem dX8_learn_65 : decode cX8_learn 65 = .ok (.getfield 62, 3) := by decide +kernel
theorem dX8_learn_68 : decode cX8_learn 68 = .ok (.iastore, 1) := by decide +kernel
theorem dX8_learn_69 : decode cX8_learn 69 = .ok (.iconst 0, 1) := by decide +kernel
theorem dX8_learn_70 : decode cX8_learn 70 = .ok (.istore_n 2, 1) := by decide +kernel
theorem dX8_learn_71 : decode cX8_learn 71 = .ok (.iload_n 2, 1) := by decide +kernel
theorem dX8_learn_72 : decode cX8_learn 72 = .ok (.bipush 6, 2) := by decide +kernel
theorem dX8_learn_74 : decode cX8_learn 74 = .ok (.if_icmp .ge 45, 3) := by decide +kernel
theorem dX8_learn_77 : decode cX8_learn 77 = .ok (.aload_n 0, 1) := by decide +kernel
theorem dX8_learn_78 : decode cX8_learn 78 = .ok (.getfield 7, 3) := by decide +kernel
theorem dX8_learn_81 : decode cX8_learn 81 = .ok (.sipush 826, 3) := by decide +kernel
theorem dX8_learn_84 : decode cX8_learn 84 = .ok (.bipush 6, 2) := by decide +kernel
theorem dX8_learn_86 : decode cX8_learn 86 = .ok (.iload_n 1, 1) := by decide +kernel
theorem dX8_learn_87 : decode cX8_learn 87 = .ok (.imul, 1) := by decide +kernel
theorem dX8_learn_88 : decode cX8_learn 88 = .ok (.iadd, 1) := by decide +kernel
theorem dX8_learn_89 : decode cX8_learn 89 = .ok (.iload_n 2, 1) := by decide +kernel
theorem dX8_learn_90 : decode cX8_learn 90 = .ok (.iadd, 1) := by decide +kernel
theorem dX8_learn_91 : decode cX8_learn 91 = .ok (.iload_n 2, 1) := by decide +kernel
theorem dX8_learn_92 : decode cX8_learn 92 = .ok (.aload_n 0, 1) := by decide +kernel
theorem dX8_learn_93 : decode cX8_learn 93 = .ok (.getfield 62, 3) := by decide +kernel
theorem dX8_learn_96 : decode cX8_learn 96 = .ok (.if_icmp .ge 15, 3) := by decide +kernel
theorem dX8_learn_99 : decode cX8_learn 99 = .ok (.aload_n 0, 1) := by decide +kernel
theorem dX8_learn_100 : decode cX8_learn 100 = .ok (.getfield 16, 3) := by decide +kernel
theorem dX8_learn_103 : decode cX8_learn 103 = .ok (.iload_n 2, 1) := by decide +kernel
theorem dX8_learn_104 : decode cX8_learn 104 = .ok (.iaload, 1) := by decide +kernel
theorem dX8_learn_105 : decode cX8_learn 105 = .ok (.invokestatic 59, 3) := by decide +kernel
theorem dX8_learn_108 : decode cX8_learn 108 = .ok (.goto 4, 3) := by decide +kernel
theorem dX8_learn_111 : decode cX8_learn 111 = .ok (.iconst 0, 1) := by decide +kernel
theorem dX8_learn_112 : decode cX8_learn 112 = .ok (.iastore, 1) := by decide +kernel
theorem dX8_learn_113 : decode cX8_learn 113 = .ok (.iinc 2 1, 3) := by decide +kernel
theorem dX8_learn_116 : decode cX8_learn 116 = .ok (.goto (-45), 3) := by decide +kernel
theorem dX8_learn_119 : decode cX8_learn 119 = .ok (.aload_n 0, 1) := by decide +kernel
theorem dX8_learn_120 : decode cX8_learn 120 = .ok (.getfield 7, 3) := by decide +kernel
theorem dX8_learn_123 : decode cX8_learn 123 = .ok (.sipush 805, 3) := by decide +kernel
theorem dX8_learn_126 : decode cX8_learn 126 = .ok (.dup2, 1) := by decide +kernel
theorem dX8_learn_127 : decode cX8_learn 127 = .ok (.iaload, 1) := by decide +kernel
theorem dX8_learn_128 : decode cX8_learn 128 = .ok (.iconst 1, 1) := by decide +kernel
theorem dX8_learn_129 : decode cX8_learn 129 = .ok (.iadd, 1) := by decide +kernel
theorem dX8_learn_130 : decode cX8_learn 130 = .ok (.iastore, 1) := by decide +kernel
theorem dX8_learn_131 : decode cX8_learn 131 = .ok (.aload_n 0, 1) := by decide +kernel
theorem dX8_learn_132 : decode cX8_learn 132 = .ok (.iconst 0, 1) := by decide +kernel
theorem dX8_learn_133 : decode cX8_learn 133 = .ok (.putfield 62, 3) := by decide +kernel
theorem dX8_learn_136 : decode cX8_learn 136 = .ok (.aload_n 0, 1) := by decide +kernel
theorem dX8_learn_137 : decode cX8_learn 137 = .ok (.getfield 7, 3) := by decide +kernel
theorem dX8_learn_140 : decode cX8_learn 140 = .ok (.sipush 805, 3) := by decide +kernel
theorem dX8_learn_143 : decode cX8_learn 143 = .ok (.iaload, 1) := by decide +kernel
theorem dX8_learn_144 : decode cX8_learn 144 = .ok (.ireturn, 1) := by decide +kernel
set_option maxRecDepth 20000 in
theorem ggX8_isIn_X8_in : GoodIn wsX8_isIn wsX8_in := goodIn_r _ [5] (by decide +kernel) (by decide +kernel)
set_option maxRecDepth 20000 in
theorem gX8_isIn_X8_in : GoodIn wsX8_isIn (va_wsS RX8 44 yX8_in wsX8_in) := goodIn_app (goodIn_of _ (by decide +kernel)) ggX8_isIn_X8_in
theorem dX8_isIn_0 : decode cX8_isIn 0 = .ok (.iload_n 1, 1) := by decide +kernel
theorem dX8_isIn_1 : decode cX8_isIn 1 = .ok (.iconst 0, 1) := by decide +kernel
theorem dX8_isIn_2 : decode cX8_isIn 2 = .ok (.aload_n 0, 1) := by decide +kernel
theorem dX8_isIn_3 : decode cX8_isIn 3 = .ok (.getfield 7, 3) := by decide +kernel
theorem dX8_isIn_6 : decode cX8_isIn 6 = .ok (.sipush 805, 3) := by decide +kernel
theorem dX8_isIn_9 : decode cX8_isIn 9 = .ok (.iaload, 1) := by decide +kernel
theorem dX8_isIn_10 : decode cX8_isIn 10 = .ok (.iconst 1, 1) := by decide +kernel
theorem dX8_isIn_11 : decode cX8_isIn 11 = .ok (.isub, 1) := by decide +kernel
theorem dX8_isIn_12 : decode cX8_isIn 12 = .ok (.invokestatic 44, 3) := by decide +kernel
theorem dX8_isIn_15 : decode cX8_isIn 15 = .ok (.ireturn, 1) := by decide +kernel
set_option maxRecDepth 20000 in
theorem ggX8_forget_X8_isIn : GoodIn wsX8_forget wsX8_isIn := goodIn_r _ [6, 1, 7, 8, 5, 9, 21, 22, 23, 24, 25, 26, 27, 28, 29, 30, 31, 32, 33, 34, 35, 36, 37] (by decide +kernel) (by decide +kernel)
set_option maxRecDepth 20000 in
theorem gX8_forget_X8_isIn : GoodIn wsX8_forget (wsV RX8 123 RX8 yX8_isIn wsX8_isIn) := goodIn_app (goodIn_of _ (by decide +kernel)) ggX8_forget_X8_isIn
set_option maxRecDepth 20000 in
theorem ggX8_forget_X8_refused : GoodIn wsX8_forget wsX8_refused := goodIn_r _ [13, 14, 21, 22, 23, 24, 25, 26, 27, 28, 29, 30, 31, 32, 33, 34, 35, 36, 37] (by decide +kernel) (by decide +kernel)
set_option maxRecDepth 20000 in
theorem gX8_forget_X8_refused : GoodIn wsX8_forget (wsV RX8 65 RX8 yX8_refused wsX8_refused) := goodIn_app (goodIn_of _ (by decide +kernel)) ggX8_forget_X8_refused
set_option maxRecDepth 20000 in
theorem ggX8_forget_X8_saves : GoodIn wsX8_forget wsX8_saves := goodIn_r _ [18, 19, 20, 1, 21, 22, 23, 24, 25, 26, 27, 28, 29, 30, 31, 32, 33, 34, 35, 36, 37] (by decide +kernel) (by decide +kernel)
set_option maxRecDepth 20000 in
theorem gX8_forget_X8_saves : GoodIn wsX8_forget (wsV RX8 75 RX8 yX8_saves wsX8_saves) := goodIn_app (goodIn_of _ (by decide +kernel)) ggX8_forget_X8_saves
theorem dX8_forget_0 : decode cX8_forget 0 = .ok (.aload_n 0, 1) := by decide +kernel
theorem dX8_forget_1 : decode cX8_forget 1 = .ok (.aload_n 0, 1) := by decide +kernel
theorem dX8_forget_2 : decode cX8_forget 2 = .ok (.iload_n 1, 1) := by decide +kernel
theorem dX8_forget_3 : decode cX8_forget 3 = .ok (.invokevirtual 123, 3) := by decide +kernel
theorem dX8_forget_6 : decode cX8_forget 6 = .ok (.ifCond .eq 7, 3) := by decide +kernel
theorem dX8_forget_9 : decode cX8_forget 9 = .ok (.iconst 0, 1) := by decide +kernel
theorem dX8_forget_10 : decode cX8_forget 10 = .ok (.goto 4, 3) := by decide +kernel
theorem dX8_forget_13 : decode cX8_forget 13 = .ok (.iconst 1, 1) := by decide +kernel
theorem dX8_forget_14 : decode cX8_forget 14 = .ok (.invokevirtual 65, 3) := by decide +kernel
theorem dX8_forget_17 : decode cX8_forget 17 = .ok (.ifCond .eq 5, 3) := by decide +kernel
theorem dX8_forget_20 : decode cX8_forget 20 = .ok (.iconst 0, 1) := by decide +kernel
theorem dX8_forget_21 : decode cX8_forget 21 = .ok (.ireturn, 1) := by decide +kernel
theorem dX8_forget_22 : decode cX8_forget 22 = .ok (.aload_n 0, 1) := by decide +kernel
theorem dX8_forget_23 : decode cX8_forget 23 = .ok (.invokevirtual 75, 3) := by decide +kernel
theorem dX8_forget_26 : decode cX8_forget 26 = .ok (.aload_n 0, 1) := by decide +kernel
theorem dX8_forget_27 : decode cX8_forget 27 = .ok (.getfield 7, 3) := by decide +kernel
theorem dX8_forget_30 : decode cX8_forget 30 = .ok (.sipush 806, 3) := by decide +kernel
theorem dX8_forget_33 : decode cX8_forget 33 = .ok (.iload_n 1, 1) := by decide +kernel
theorem dX8_forget_34 : decode cX8_forget 34 = .ok (.iadd, 1) := by decide +kernel
theorem dX8_forget_35 : decode cX8_forget 35 = .ok (.iaload, 1) := by decide +kernel
theorem dX8_forget_36 : decode cX8_forget 36 = .ok (.istore_n 2, 1) := by decide +kernel
theorem dX8_forget_37 : decode cX8_forget 37 = .ok (.aload_n 0, 1) := by decide +kernel
theorem dX8_forget_38 : decode cX8_forget 38 = .ok (.getfield 7, 3) := by decide +kernel
theorem dX8_forget_41 : decode cX8_forget 41 = .ok (.sipush 805, 3) := by decide +kernel
theorem dX8_forget_44 : decode cX8_forget 44 = .ok (.dup2, 1) := by decide +kernel
theorem dX8_forget_45 : decode cX8_forget 45 = .ok (.iaload, 1) := by decide +kernel
theorem dX8_forget_46 : decode cX8_forget 46 = .ok (.iconst 1, 1) := by decide +kernel
theorem dX8_forget_47 : decode cX8_forget 47 = .ok (.isub, 1) := by decide +kernel
theorem dX8_forget_48 : decode cX8_forget 48 = .ok (.iastore, 1) := by decide +kernel
theorem dX8_forget_49 : decode cX8_forget 49 = .ok (.iload_n 1, 1) := by decide +kernel
theorem dX8_forget_50 : decode cX8_forget 50 = .ok (.istore_n 3, 1) := by decide +kernel
theorem dX8_forget_51 : decode cX8_forget 51 = .ok (.iload_n 3, 1) := by decide +kernel
theorem dX8_forget_52 : decode cX8_forget 52 = .ok (.aload_n 0, 1) := by decide +kernel
theorem dX8_forget_53 : decode cX8_forget 53 = .ok (.getfield 7, 3) := by decide +kernel
theorem dX8_forget_56 : decode cX8_forget 56 = .ok (.sipush 805, 3) := by decide +kernel
theorem dX8_forget_59 : decode cX8_forget 59 = .ok (.iaload, 1) := by decide +kernel
theorem dX8_forget_60 : decode cX8_forget 60 = .ok (.if_icmp .ge 81, 3) := by decide +kernel
theorem dX8_forget_63 : decode cX8_forget 63 = .ok (.aload_n 0, 1) := by decide +kernel
theorem dX8_forget_64 : decode cX8_forget 64 = .ok (.getfield 7, 3) := by decide +kernel
theorem dX8_forget_67 : decode cX8_forget 67 = .ok (.sipush 806, 3) := by decide +kernel
theorem dX8_forget_70 : decode cX8_forget 70 = .ok (.iload_n 3, 1) := by decide +kernel
theorem dX8_forget_71 : decode cX8_forget 71 = .ok (.iadd, 1) := by decide +kernel
theorem dX8_forget_72 : decode cX8_forget 72 = .ok (.aload_n 0, 1) := by decide +kernel
theorem dX8_forget_73 : decode cX8_forget 73 = .ok (.getfield 7, 3) := by decide +kernel
theorem dX8_forget_76 : decode cX8_forget 76 = .ok (.sipush 806, 3) := by decide +kernel
theorem dX8_forget_79 : decode cX8_forget 79 = .ok (.iload_n 3, 1) := by decide +kernel
theorem dX8_forget_80 : decode cX8_forget 80 = .ok (.iadd, 1) := by decide +kernel
theorem dX8_forget_81 : decode cX8_forget 81 = .ok (.iconst 1, 1) := by decide +kernel
theorem dX8_forget_82 : decode cX8_forget 82 = .ok (.iadd, 1) := by decide +kernel
theorem dX8_forget_83 : decode cX8_forget 83 = .ok (.iaload, 1) := by decide +kernel
theorem dX8_forget_84 : decode cX8_forget 84 = .ok (.iastore, 1) := by decide +kernel
theorem dX8_forget_85 : decode cX8_forget 85 = .ok (.iconst 0, 1) := by decide +kernel
theorem dX8_forget_86 : decode cX8_forget 86 = .ok (.istore 4, 2) := by decide +kernel
theorem dX8_forget_88 : decode cX8_forget 88 = .ok (.iload 4, 2) := by decide +kernel
theorem dX8_forget_90 : decode cX8_forget 90 = .ok (.bipush 6, 2) := by decide +kernel
theorem dX8_forget_92 : decode cX8_forget 92 = .ok (.if_icmp .ge 43, 3) := by decide +kernel
theorem dX8_forget_95 : decode cX8_forget 95 = .ok (.aload_n 0, 1) := by decide +kernel
theorem dX8_forget_96 : decode cX8_forget 96 = .ok (.getfield 7, 3) := by decide +kernel
theorem dX8_forget_99 : decode cX8_forget 99 = .ok (.sipush 826, 3) := by decide +kernel
theorem dX8_forget_102 : decode cX8_forget 102 = .ok (.bipush 6, 2) := by decide +kernel
theorem dX8_forget_104 : decode cX8_forget 104 = .ok (.iload_n 3, 1) := by decide +kernel
theorem dX8_forget_105 : decode cX8_forget 105 = .ok (.imul, 1) := by decide +kernel
theorem dX8_forget_106 : decode cX8_forget 106 = .ok (.iadd, 1) := by decide +kernel
theorem dX8_forget_107 : decode cX8_forget 107 = .ok (.iload 4, 2) := by decide +kernel
theorem dX8_forget_109 : decode cX8_forget 109 = .ok (.iadd, 1) := by decide +kernel
theorem dX8_forget_110 : decode cX8_forget 110 = .ok (.aload_n 0, 1) := by decide +kernel
theorem dX8_forget_111 : decode cX8_forget 111 = .ok (.getfield 7, 3) := by decide +kernel
theorem dX8_forget_114 : decode cX8_forget 114 = .ok (.sipush 826, 3) := by decide +kernel
theorem dX8_forget_117 : decode cX8_forget 117 = .ok (.bipush 6, 2) := by decide +kernel
theorem dX8_forget_119 : decode cX8_forget 119 = .ok (.iload_n 3, 1) := by decide +kernel
theorem dX8_forget_120 : decode cX8_forget 120 = .ok (.iconst 1, 1) := by decide +kernel
theorem dX8_forget_121 : decode cX8_forget 121 = .ok (.iadd, 1) := by decide +kernel
theorem dX8_forget_122 : decode cX8_forget 122 = .ok (.imul, 1) := by decide +kernel
theorem dX8_forget_123 : decode cX8_forget 123 = .ok (.iadd, 1) := by decide +kernel
theorem dX8_forget_124 : decode cX8_forget 124 = .ok (.iload 4, 2) := by decide +kernel
theorem dX8_forget_126 : decode cX8_forget 126 = .ok (.iadd, 1) := by decide +kernel
theorem dX8_forget_127 : decode cX8_forget 127 = .ok (.iaload, 1) := by decide +kernel
theorem dX8_forget_128 : decode cX8_forget 128 = .ok (.iastore, 1) := by decide +kernel
theorem dX8_forget_129 : decode cX8_forget 129 = .ok (.iinc 4 1, 3) := by decide +kernel
theorem dX8_forget_132 : decode cX8_forget 132 = .ok (.goto (-44), 3) := by decide +kernel
theorem dX8_forget_135 : decode cX8_forget 135 = .ok (.iinc 3 1, 3) := by decide +kernel
theorem dX8_forget_138 : decode cX8_forget 138 = .ok (.goto (-87), 3) := by decide +kernel
theorem dX8_forget_141 : decode cX8_forget 141 = .ok (.iload_n 2, 1) := by decide +kernel
theorem dX8_forget_142 : decode cX8_forget 142 = .ok (.ireturn, 1) := by decide +kernel
theorem dX8_words_0 : decode cX8_words 0 = .ok (.aload_n 0, 1) := by decide +kernel
theorem dX8_words_1 : decode cX8_words 1 = .ok (.iconst 0, 1) := by decide +kernel
theorem dX8_words_2 : decode cX8_words 2 = .ok (.putfield 38, 3) := by decide +kernel
theorem dX8_words_5 : decode cX8_words 5 = .ok (.aload_n 0, 1) := by decide +kernel
theorem dX8_words_6 : decode cX8_words 6 = .ok (.getfield 7, 3) := by decide +kernel
theorem dX8_words_9 : decode cX8_words 9 = .ok (.sipush 805, 3) := by decide +kernel
theorem dX8_words_12 : decode cX8_words 12 = .ok (.iaload, 1) := by decide +kernel
theorem dX8_words_13 : decode cX8_words 13 = .ok (.ireturn, 1) := by decide +kernel
set_option maxRecDepth 20000 in
theorem ggX8_wordLetter_X8_isIn : GoodIn wsX8_wordLetter wsX8_isIn := goodIn_r _ [6, 1, 7, 8, 5, 9, 15, 16, 17, 18, 19, 20, 21, 22, 23, 24, 25, 26, 27, 28, 29, 30, 31] (by decide +kernel) (by decide +kernel)
set_option maxRecDepth 20000 in
theorem gX8_wordLetter_X8_isIn : GoodIn wsX8_wordLetter (wsV RX8 123 RX8 yX8_isIn wsX8_isIn) := goodIn_app (goodIn_of _ (by decide +kernel)) ggX8_wordLetter_X8_isIn
set_option maxRecDepth 20000 in
theorem ggX8_wordLetter_X8_in : GoodIn wsX8_wordLetter wsX8_in := goodIn_r _ [9] (by decide +kernel) (by decide +kernel)
set_option maxRecDepth 20000 in
theorem gX8_wordLetter_X8_in : GoodIn wsX8_wordLetter (va_wsS RX8 44 yX8_in wsX8_in) := goodIn_app (goodIn_of _ (by decide +kernel)) ggX8_wordLetter_X8_in
set_option maxRecDepth 20000 in
theorem ggX8_wordLetter_X8_refused : GoodIn wsX8_wordLetter wsX8_refused := goodIn_r _ [13, 14, 15, 16, 17, 18, 19, 20, 21, 22, 23, 24, 25, 26, 27, 28, 29, 30, 31] (by decide +kernel) (by decide +kernel)
set_option maxRecDepth 20000 in
theorem gX8_wordLetter_X8_refused : GoodIn wsX8_wordLetter (wsV RX8 65 RX8 yX8_refused wsX8_refused) := goodIn_app (goodIn_of _ (by decide +kernel)) ggX8_wordLetter_X8_refused
theorem dX8_wordLetter_0 : decode cX8_wordLetter 0 = .ok (.aload_n 0, 1) := by decide +kernel
theorem dX8_wordLetter_1 : decode cX8_wordLetter 1 = .ok (.aload_n 0, 1) := by decide +kernel
theorem dX8_wordLetter_2 : decode cX8_wordLetter 2 = .ok (.iload_n 1, 1) := by decide +kernel
theorem dX8_wordLetter_3 : decode cX8_wordLetter 3 = .ok (.invokevirtual 123, 3) := by decide +kernel
theorem dX8_wordLetter_6 : decode cX8_wordLetter 6 = .ok (.ifCond .eq 16, 3) := by decide +kernel
theorem dX8_wordLetter_9 : decode cX8_wordLetter 9 = .ok (.iload_n 2, 1) := by decide +kernel
theorem dX8_wordLetter_10 : decode cX8_wordLetter 10 = .ok (.iconst 0, 1) := by decide +kernel
theorem dX8_wordLetter_11 : decode cX8_wordLetter 11 = .ok (.iconst 5, 1) := by decide +kernel
theorem dX8_wordLetter_12 : decode cX8_wordLetter 12 = .ok (.invokestatic 44, 3) := by decide +kernel
theorem dX8_wordLetter_15 : decode cX8_wordLetter 15 = .ok (.ifCond .eq 7, 3) := by decide +kernel
theorem dX8_wordLetter_18 : decode cX8_wordLetter 18 = .ok (.iconst 0, 1) := by decide +kernel
theorem dX8_wordLetter_19 : decode cX8_wordLetter 19 = .ok (.goto 4, 3) := by decide +kernel
theorem dX8_wordLetter_22 : decode cX8_wordLetter 22 = .ok (.iconst 1, 1) := by decide +kernel
theorem dX8_wordLetter_23 : decode cX8_wordLetter 23 = .ok (.invokevirtual 65, 3) := by decide +kernel
theorem dX8_wordLetter_26 : decode cX8_wordLetter 26 = .ok (.ifCond .eq 5, 3) := by decide +kernel
theorem dX8_wordLetter_29 : decode cX8_wordLetter 29 = .ok (.iconst 0, 1) := by decide +kernel
theorem dX8_wordLetter_30 : decode cX8_wordLetter 30 = .ok (.ireturn, 1) := by decide +kernel
theorem dX8_wordLetter_31 : decode cX8_wordLetter 31 = .ok (.iload_n 2, 1) := by decide +kernel
theorem dX8_wordLetter_32 : decode cX8_wordLetter 32 = .ok (.aload_n 0, 1) := by decide +kernel
theorem dX8_wordLetter_33 : decode cX8_wordLetter 33 = .ok (.getfield 7, 3) := by decide +kernel
theorem dX8_wordLetter_36 : decode cX8_wordLetter 36 = .ok (.sipush 806, 3) := by decide +kernel
theorem dX8_wordLetter_39 : decode cX8_wordLetter 39 = .ok (.iload_n 1, 1) := by decide +kernel
theorem dX8_wordLetter_40 : decode cX8_wordLetter 40 = .ok (.iadd, 1) := by decide +kernel
theorem dX8_wordLetter_41 : decode cX8_wordLetter 41 = .ok (.iaload, 1) := by decide +kernel
theorem dX8_wordLetter_42 : decode cX8_wordLetter 42 = .ok (.if_icmp .ge 26, 3) := by decide +kernel
theorem dX8_wordLetter_45 : decode cX8_wordLetter 45 = .ok (.bipush 97, 2) := by decide +kernel
theorem dX8_wordLetter_47 : decode cX8_wordLetter 47 = .ok (.aload_n 0, 1) := by decide +kernel
theorem dX8_wordLetter_48 : decode cX8_wordLetter 48 = .ok (.getfield 7, 3) := by decide +kernel
theorem dX8_wordLetter_51 : decode cX8_wordLetter 51 = .ok (.sipush 826, 3) := by decide +kernel
theorem dX8_wordLetter_54 : decode cX8_wordLetter 54 = .ok (.bipush 6, 2) := by decide +kernel
theorem dX8_wordLetter_56 : decode cX8_wordLetter 56 = .ok (.iload_n 1, 1) := by decide +kernel
theorem dX8_wordLetter_57 : decode cX8_wordLetter 57 = .ok (.imul, 1) := by decide +kernel
theorem dX8_wordLetter_58 : decode cX8_wordLetter 58 = .ok (.iadd, 1) := by decide +kernel
theorem dX8_wordLetter_59 : decode cX8_wordLetter 59 = .ok (.iload_n 2, 1) := by decide +kernel
theorem dX8_wordLetter_60 : decode cX8_wordLetter 60 = .ok (.iadd, 1) := by decide +kernel
theorem dX8_wordLetter_61 : decode cX8_wordLetter 61 = .ok (.iaload, 1) := by decide +kernel
theorem dX8_wordLetter_62 : decode cX8_wordLetter 62 = .ok (.iadd, 1) := by decide +kernel
theorem dX8_wordLetter_63 : decode cX8_wordLetter 63 = .ok (.iconst 1, 1) := by decide +kernel
theorem dX8_wordLetter_64 : decode cX8_wordLetter 64 = .ok (.isub, 1) := by decide +kernel
theorem dX8_wordLetter_65 : decode cX8_wordLetter 65 = .ok (.goto 4, 3) := by decide +kernel
theorem dX8_wordLetter_68 : decode cX8_wordLetter 68 = .ok (.iconst (-1), 1) := by decide +kernel
theorem dX8_wordLetter_69 : decode cX8_wordLetter 69 = .ok (.ireturn, 1) := by decide +kernel
set_option maxRecDepth 20000 in
theorem ggX8_usesOf_X8_isWord : GoodIn wsX8_usesOf wsX8_isWord := goodIn_r _ [9, 10, 11, 12, 13, 14, 15, 16, 17, 18, 19, 20, 21, 22, 23, 24, 25, 26, 27, 28] (by decide +kernel) (by decide +kernel)
set_option maxRecDepth 20000 in
theorem gX8_usesOf_X8_isWord : GoodIn wsX8_usesOf (wsV RX8 85 RX8 yX8_isWord wsX8_isWord) := goodIn_app (goodIn_of _ (by decide +kernel)) ggX8_usesOf_X8_isWord
theorem dX8_usesOf_0 : decode cX8_usesOf 0 = .ok (.iconst 0, 1) := by decide +kernel
theorem dX8_usesOf_1 : decode cX8_usesOf 1 = .ok (.istore_n 2, 1) := by decide +kernel
theorem dX8_usesOf_2 : decode cX8_usesOf 2 = .ok (.iconst 0, 1) := by decide +kernel
theorem dX8_usesOf_3 : decode cX8_usesOf 3 = .ok (.istore_n 3, 1) := by decide +kernel
theorem dX8_usesOf_4 : decode cX8_usesOf 4 = .ok (.iload_n 3, 1) := by decide +kernel
theorem dX8_usesOf_5 : decode cX8_usesOf 5 = .ok (.aload_n 0, 1) := by decide +kernel
theorem dX8_usesOf_6 : decode cX8_usesOf 6 = .ok (.getfield 97, 3) := by decide +kernel
theorem dX8_usesOf_9 : decode cX8_usesOf 9 = .ok (.if_icmp .ge 48, 3) := by decide +kernel
theorem dX8_usesOf_12 : decode cX8_usesOf 12 = .ok (.iload_n 2, 1) := by decide +kernel
theorem dX8_usesOf_13 : decode cX8_usesOf 13 = .ok (.aload_n 0, 1) := by decide +kernel
theorem dX8_usesOf_14 : decode cX8_usesOf 14 = .ok (.getfield 28, 3) := by decide +kernel
theorem dX8_usesOf_17 : decode cX8_usesOf 17 = .ok (.iload_n 3, 1) := by decide +kernel
theorem dX8_usesOf_18 : decode cX8_usesOf 18 = .ok (.iaload, 1) := by decide +kernel
theorem dX8_usesOf_19 : decode cX8_usesOf 19 = .ok (.iconst 5, 1) := by decide +kernel
theorem dX8_usesOf_20 : decode cX8_usesOf 20 = .ok (.iand, 1) := by decide +kernel
theorem dX8_usesOf_21 : decode cX8_usesOf 21 = .ok (.ifCond .ne 27, 3) := by decide +kernel
theorem dX8_usesOf_24 : decode cX8_usesOf 24 = .ok (.aload_n 0, 1) := by decide +kernel
theorem dX8_usesOf_25 : decode cX8_usesOf 25 = .ok (.iload_n 1, 1) := by decide +kernel
theorem dX8_usesOf_26 : decode cX8_usesOf 26 = .ok (.aload_n 0, 1) := by decide +kernel
theorem dX8_usesOf_27 : decode cX8_usesOf 27 = .ok (.getfield 22, 3) := by decide +kernel
theorem dX8_usesOf_30 : decode cX8_usesOf 30 = .ok (.iload_n 3, 1) := by decide +kernel
theorem dX8_usesOf_31 : decode cX8_usesOf 31 = .ok (.iaload, 1) := by decide +kernel
theorem dX8_usesOf_32 : decode cX8_usesOf 32 = .ok (.aload_n 0, 1) := by decide +kernel
theorem dX8_usesOf_33 : decode cX8_usesOf 33 = .ok (.getfield 25, 3) := by decide +kernel
theorem dX8_usesOf_36 : decode cX8_usesOf 36 = .ok (.iload_n 3, 1) := by decide +kernel
theorem dX8_usesOf_37 : decode cX8_usesOf 37 = .ok (.iaload, 1) := by decide +kernel
theorem dX8_usesOf_38 : decode cX8_usesOf 38 = .ok (.invokevirtual 85, 3) := by decide +kernel
theorem dX8_usesOf_41 : decode cX8_usesOf 41 = .ok (.ifCond .eq 7, 3) := by decide +kernel
theorem dX8_usesOf_44 : decode cX8_usesOf 44 = .ok (.iconst 1, 1) := by decide +kernel
theorem dX8_usesOf_45 : decode cX8_usesOf 45 = .ok (.goto 4, 3) := by decide +kernel
theorem dX8_usesOf_48 : decode cX8_usesOf 48 = .ok (.iconst 0, 1) := by decide +kernel
theorem dX8_usesOf_49 : decode cX8_usesOf 49 = .ok (.iadd, 1) := by decide +kernel
theorem dX8_usesOf_50 : decode cX8_usesOf 50 = .ok (.istore_n 2, 1) := by decide +kernel

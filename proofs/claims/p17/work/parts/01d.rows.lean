theorem dX5_no_0 : decode cX5_no 0 = .ok (.aload_n 0, 1) := by decide +kernel
theorem dX5_no_1 : decode cX5_no 1 = .ok (.getfield 1, 3) := by decide +kernel
theorem dX5_no_4 : decode cX5_no 4 = .ok (.iload_n 1, 1) := by decide +kernel
theorem dX5_no_5 : decode cX5_no 5 = .ok (.ineg, 1) := by decide +kernel
theorem dX5_no_6 : decode cX5_no 6 = .ok (.dup2, 1) := by decide +kernel
theorem dX5_no_7 : decode cX5_no 7 = .ok (.iaload, 1) := by decide +kernel
theorem dX5_no_8 : decode cX5_no 8 = .ok (.iconst 1, 1) := by decide +kernel
theorem dX5_no_9 : decode cX5_no 9 = .ok (.iadd, 1) := by decide +kernel
theorem dX5_no_10 : decode cX5_no 10 = .ok (.iastore, 1) := by decide +kernel
theorem dX5_no_11 : decode cX5_no 11 = .ok (.iload_n 1, 1) := by decide +kernel
theorem dX5_no_12 : decode cX5_no 12 = .ok (.ireturn, 1) := by decide +kernel
theorem xiX5_noLong_X5 : GoodIn wsX5_noLong wsX50 := goodIn_sub (fun _ h => List.mem_cons_of_mem _ (List.mem_append_right _ h)) xgwX5
set_option maxRecDepth 20000 in
theorem ggX5_noLong_X5_no : GoodIn wsX5_noLong wsX5_no := (goodIn_ca (goodIn_r _ [6, 7] rfl (by decide +kernel)) xiX5_noLong_X5)
set_option maxRecDepth 20000 in
theorem gX5_noLong_X5_no : GoodIn wsX5_noLong (wsV RX5 9 RX5 yX5_no wsX5_no) := goodIn_app (goodIn_r _ [2, 3, 4, 5] rfl (by decide +kernel)) ggX5_noLong_X5_no
theorem dX5_noLong_0 : decode cX5_noLong 0 = .ok (.ldc2_w 7, 3) := by decide +kernel
theorem dX5_noLong_3 : decode cX5_noLong 3 = .ok (.aload_n 0, 1) := by decide +kernel
theorem dX5_noLong_4 : decode cX5_noLong 4 = .ok (.iload_n 1, 1) := by decide +kernel
theorem dX5_noLong_5 : decode cX5_noLong 5 = .ok (.invokevirtual 9, 3) := by decide +kernel
theorem dX5_noLong_8 : decode cX5_noLong 8 = .ok (.i2l, 1) := by decide +kernel
theorem dX5_noLong_9 : decode cX5_noLong 9 = .ok (.lsub, 1) := by decide +kernel
theorem dX5_noLong_10 : decode cX5_noLong 10 = .ok (.lreturn, 1) := by decide +kernel
theorem dX5_init_0 : decode cX5_init 0 = .ok (.aload_n 0, 1) := by decide +kernel
theorem dX5_init_1 : decode cX5_init 1 = .ok (.invokespecial 13, 3) := by decide +kernel
theorem dX5_init_4 : decode cX5_init 4 = .ok (.aload_n 0, 1) := by decide +kernel
theorem dX5_init_5 : decode cX5_init 5 = .ok (.bipush 7, 2) := by decide +kernel
theorem dX5_init_7 : decode cX5_init 7 = .ok (.newarray .int, 2) := by decide +kernel
theorem dX5_init_9 : decode cX5_init 9 = .ok (.putfield 1, 3) := by decide +kernel
theorem dX5_init_12 : decode cX5_init 12 = .ok (.aload_n 0, 1) := by decide +kernel
theorem dX5_init_13 : decode cX5_init 13 = .ok (.bipush 70, 2) := by decide +kernel
theorem dX5_init_15 : decode cX5_init 15 = .ok (.newarray .int, 2) := by decide +kernel
theorem dX5_init_17 : decode cX5_init 17 = .ok (.putfield 19, 3) := by decide +kernel
theorem dX5_init_20 : decode cX5_init 20 = .ok (.aload_n 0, 1) := by decide +kernel
theorem dX5_init_21 : decode cX5_init 21 = .ok (.bipush 70, 2) := by decide +kernel
theorem dX5_init_23 : decode cX5_init 23 = .ok (.newarray .int, 2) := by decide +kernel
theorem dX5_init_25 : decode cX5_init 25 = .ok (.putfield 22, 3) := by decide +kernel
theorem dX5_init_28 : decode cX5_init 28 = .ok (.aload_n 0, 1) := by decide +kernel
theorem dX5_init_29 : decode cX5_init 29 = .ok (.bipush 12, 2) := by decide +kernel
theorem dX5_init_31 : decode cX5_init 31 = .ok (.newarray .int, 2) := by decide +kernel
theorem dX5_init_33 : decode cX5_init 33 = .ok (.putfield 25, 3) := by decide +kernel
theorem dX5_init_36 : decode cX5_init 36 = .ok (.aload_n 0, 1) := by decide +kernel
theorem dX5_init_37 : decode cX5_init 37 = .ok (.bipush 96, 2) := by decide +kernel
theorem dX5_init_39 : decode cX5_init 39 = .ok (.newarray .int, 2) := by decide +kernel
theorem dX5_init_41 : decode cX5_init 41 = .ok (.putfield 28, 3) := by decide +kernel
theorem dX5_init_44 : decode cX5_init 44 = .ok (.aload_n 0, 1) := by decide +kernel
theorem dX5_init_45 : decode cX5_init 45 = .ok (.bipush 6, 2) := by decide +kernel
theorem dX5_init_47 : decode cX5_init 47 = .ok (.newarray .char, 2) := by decide +kernel
theorem dX5_init_49 : decode cX5_init 49 = .ok (.dup, 1) := by decide +kernel
theorem dX5_init_50 : decode cX5_init 50 = .ok (.iconst 0, 1) := by decide +kernel
theorem dX5_init_51 : decode cX5_init 51 = .ok (.bipush 115, 2) := by decide +kernel
theorem dX5_init_53 : decode cX5_init 53 = .ok (.castore, 1) := by decide +kernel
theorem dX5_init_54 : decode cX5_init 54 = .ok (.dup, 1) := by decide +kernel
theorem dX5_init_55 : decode cX5_init 55 = .ok (.iconst 1, 1) := by decide +kernel
theorem dX5_init_56 : decode cX5_init 56 = .ok (.bipush 104, 2) := by decide +kernel
theorem dX5_init_58 : decode cX5_init 58 = .ok (.castore, 1) := by decide +kernel
theorem dX5_init_59 : decode cX5_init 59 = .ok (.dup, 1) := by decide +kernel
theorem dX5_init_60 : decode cX5_init 60 = .ok (.iconst 2, 1) := by decide +kernel
theorem dX5_init_61 : decode cX5_init 61 = .ok (.bipush 112, 2) := by decide +kernel
theorem dX5_init_63 : decode cX5_init 63 = .ok (.castore, 1) := by decide +kernel
theorem dX5_init_64 : decode cX5_init 64 = .ok (.dup, 1) := by decide +kernel
theorem dX5_init_65 : decode cX5_init 65 = .ok (.iconst 3, 1) := by decide +kernel
theorem dX5_init_66 : decode cX5_init 66 = .ok (.bipush 108, 2) := by decide +kernel
theorem dX5_init_68 : decode cX5_init 68 = .ok (.castore, 1) := by decide +kernel
theorem dX5_init_69 : decode cX5_init 69 = .ok (.dup, 1) := by decide +kernel
theorem dX5_init_70 : decode cX5_init 70 = .ok (.iconst 4, 1) := by decide +kernel
theorem dX5_init_71 : decode cX5_init 71 = .ok (.bipush 101, 2) := by decide +kernel
theorem dX5_init_73 : decode cX5_init 73 = .ok (.castore, 1) := by decide +kernel
theorem dX5_init_74 : decode cX5_init 74 = .ok (.dup, 1) := by decide +kernel
theorem dX5_init_75 : decode cX5_init 75 = .ok (.iconst 5, 1) := by decide +kernel
theorem dX5_init_76 : decode cX5_init 76 = .ok (.bipush 109, 2) := by decide +kernel
theorem dX5_init_78 : decode cX5_init 78 = .ok (.castore, 1) := by decide +kernel
theorem dX5_init_79 : decode cX5_init 79 = .ok (.putfield 31, 3) := by decide +kernel
theorem dX5_init_82 : decode cX5_init 82 = .ok (.aload_n 0, 1) := by decide +kernel
theorem dX5_init_83 : decode cX5_init 83 = .ok (.iconst 5, 1) := by decide +kernel
theorem dX5_init_84 : decode cX5_init 84 = .ok (.newarray .char, 2) := by decide +kernel
theorem dX5_init_86 : decode cX5_init 86 = .ok (.dup, 1) := by decide +kernel
theorem dX5_init_87 : decode cX5_init 87 = .ok (.iconst 0, 1) := by decide +kernel
theorem dX5_init_88 : decode cX5_init 88 = .ok (.bipush 98, 2) := by decide +kernel
theorem dX5_init_90 : decode cX5_init 90 = .ok (.castore, 1) := by decide +kernel
theorem dX5_init_91 : decode cX5_init 91 = .ok (.dup, 1) := by decide +kernel
theorem dX5_init_92 : decode cX5_init 92 = .ok (.iconst 1, 1) := by decide +kernel
theorem dX5_init_93 : decode cX5_init 93 = .ok (.bipush 110, 2) := by decide +kernel
theorem dX5_init_95 : decode cX5_init 95 = .ok (.castore, 1) := by decide +kernel
theorem dX5_init_96 : decode cX5_init 96 = .ok (.dup, 1) := by decide +kernel
theorem dX5_init_97 : decode cX5_init 97 = .ok (.iconst 2, 1) := by decide +kernel
theorem dX5_init_98 : decode cX5_init 98 = .ok (.bipush 101, 2) := by decide +kernel
theorem dX5_init_100 : decode cX5_init 100 = .ok (.castore, 1) := by decide +kernel
theorem dX5_init_101 : decode cX5_init 101 = .ok (.dup, 1) := by decide +kernel
theorem dX5_init_102 : decode cX5_init 102 = .ok (.iconst 3, 1) := by decide +kernel
theorem dX5_init_103 : decode cX5_init 103 = .ok (.bipush 114, 2) := by decide +kernel
theorem dX5_init_105 : decode cX5_init 105 = .ok (.castore, 1) := by decide +kernel
theorem dX5_init_106 : decode cX5_init 106 = .ok (.dup, 1) := by decide +kernel
theorem dX5_init_107 : decode cX5_init 107 = .ok (.iconst 4, 1) := by decide +kernel
theorem dX5_init_108 : decode cX5_init 108 = .ok (.bipush 116, 2) := by decide +kernel
theorem dX5_init_110 : decode cX5_init 110 = .ok (.castore, 1) := by decide +kernel
theorem dX5_init_111 : decode cX5_init 111 = .ok (.putfield 35, 3) := by decide +kernel
theorem dX5_init_114 : decode cX5_init 114 = .ok (.aload_n 0, 1) := by decide +kernel
theorem dX5_init_115 : decode cX5_init 115 = .ok (.bipush 15, 2) := by decide +kernel
theorem dX5_init_117 : decode cX5_init 117 = .ok (.newarray .int, 2) := by decide +kernel
theorem dX5_init_119 : decode cX5_init 119 = .ok (.putfield 38, 3) := by decide +kernel
theorem dX5_init_122 : decode cX5_init 122 = .ok (.aload_n 0, 1) := by decide +kernel
theorem dX5_init_123 : decode cX5_init 123 = .ok (.iconst 4, 1) := by decide +kernel
theorem dX5_init_124 : decode cX5_init 124 = .ok (.newarray .int, 2) := by decide +kernel
theorem dX5_init_126 : decode cX5_init 126 = .ok (.dup, 1) := by decide +kernel
theorem dX5_init_127 : decode cX5_init 127 = .ok (.iconst 0, 1) := by decide +kernel
theorem dX5_init_128 : decode cX5_init 128 = .ok (.iconst 1, 1) := by decide +kernel
theorem dX5_init_129 : decode cX5_init 129 = .ok (.iastore, 1) := by decide +kernel
theorem dX5_init_130 : decode cX5_init 130 = .ok (.dup, 1) := by decide +kernel
theorem dX5_init_131 : decode cX5_init 131 = .ok (.iconst 1, 1) := by decide +kernel
theorem dX5_init_132 : decode cX5_init 132 = .ok (.iconst 2, 1) := by decide +kernel
theorem dX5_init_133 : decode cX5_init 133 = .ok (.iastore, 1) := by decide +kernel
theorem dX5_init_134 : decode cX5_init 134 = .ok (.dup, 1) := by decide +kernel
theorem dX5_init_135 : decode cX5_init 135 = .ok (.iconst 2, 1) := by decide +kernel
theorem dX5_init_136 : decode cX5_init 136 = .ok (.iconst 4, 1) := by decide +kernel
theorem dX5_init_137 : decode cX5_init 137 = .ok (.iastore, 1) := by decide +kernel
theorem dX5_init_138 : decode cX5_init 138 = .ok (.dup, 1) := by decide +kernel
theorem dX5_init_139 : decode cX5_init 139 = .ok (.iconst 3, 1) := by decide +kernel
theorem dX5_init_140 : decode cX5_init 140 = .ok (.iconst 5, 1) := by decide +kernel
theorem dX5_init_141 : decode cX5_init 141 = .ok (.iastore, 1) := by decide +kernel
theorem dX5_init_142 : decode cX5_init 142 = .ok (.putfield 41, 3) := by decide +kernel
theorem dX5_init_145 : decode cX5_init 145 = .ok (.aload_n 0, 1) := by decide +kernel
theorem dX5_init_146 : decode cX5_init 146 = .ok (.iconst 4, 1) := by decide +kernel
theorem dX5_init_147 : decode cX5_init 147 = .ok (.newarray .int, 2) := by decide +kernel
theorem dX5_init_149 : decode cX5_init 149 = .ok (.dup, 1) := by decide +kernel
theorem dX5_init_150 : decode cX5_init 150 = .ok (.iconst 0, 1) := by decide +kernel
theorem dX5_init_151 : decode cX5_init 151 = .ok (.iconst 0, 1) := by decide +kernel
theorem dX5_init_152 : decode cX5_init 152 = .ok (.iastore, 1) := by decide +kernel
theorem dX5_init_153 : decode cX5_init 153 = .ok (.dup, 1) := by decide +kernel
theorem dX5_init_154 : decode cX5_init 154 = .ok (.iconst 1, 1) := by decide +kernel
theorem dX5_init_155 : decode cX5_init 155 = .ok (.bipush 20, 2) := by decide +kernel
theorem dX5_init_157 : decode cX5_init 157 = .ok (.iastore, 1) := by decide +kernel
theorem dX5_init_158 : decode cX5_init 158 = .ok (.dup, 1) := by decide +kernel
theorem dX5_init_159 : decode cX5_init 159 = .ok (.iconst 2, 1) := by decide +kernel
theorem dX5_init_160 : decode cX5_init 160 = .ok (.iconst 0, 1) := by decide +kernel
theorem dX5_init_161 : decode cX5_init 161 = .ok (.iastore, 1) := by decide +kernel
theorem dX5_init_162 : decode cX5_init 162 = .ok (.dup, 1) := by decide +kernel
theorem dX5_init_163 : decode cX5_init 163 = .ok (.iconst 3, 1) := by decide +kernel
theorem dX5_init_164 : decode cX5_init 164 = .ok (.iconst 1, 1) := by decide +kernel
theorem dX5_init_165 : decode cX5_init 165 = .ok (.iastore, 1) := by decide +kernel
theorem dX5_init_166 : decode cX5_init 166 = .ok (.putfield 44, 3) := by decide +kernel
theorem dX5_init_169 : decode cX5_init 169 = .ok (.aload_n 0, 1) := by decide +kernel
theorem dX5_init_170 : decode cX5_init 170 = .ok (.iconst 4, 1) := by decide +kernel
theorem dX5_init_171 : decode cX5_init 171 = .ok (.newarray .int, 2) := by decide +kernel
theorem dX5_init_173 : decode cX5_init 173 = .ok (.dup, 1) := by decide +kernel
theorem dX5_init_174 : decode cX5_init 174 = .ok (.iconst 0, 1) := by decide +kernel
theorem dX5_init_175 : decode cX5_init 175 = .ok (.sipush 999, 3) := by decide +kernel
theorem dX5_init_178 : decode cX5_init 178 = .ok (.iastore, 1) := by decide +kernel
theorem dX5_init_179 : decode cX5_init 179 = .ok (.dup, 1) := by decide +kernel
theorem dX5_init_180 : decode cX5_init 180 = .ok (.iconst 1, 1) := by decide +kernel
theorem dX5_init_181 : decode cX5_init 181 = .ok (.sipush 200, 3) := by decide +kernel
theorem dX5_init_184 : decode cX5_init 184 = .ok (.iastore, 1) := by decide +kernel
theorem dX5_init_185 : decode cX5_init 185 = .ok (.dup, 1) := by decide +kernel
theorem dX5_init_186 : decode cX5_init 186 = .ok (.iconst 2, 1) := by decide +kernel
theorem dX5_init_187 : decode cX5_init 187 = .ok (.bipush 9, 2) := by decide +kernel
theorem dX5_init_189 : decode cX5_init 189 = .ok (.iastore, 1) := by decide +kernel
theorem dX5_init_190 : decode cX5_init 190 = .ok (.dup, 1) := by decide +kernel
theorem dX5_init_191 : decode cX5_init 191 = .ok (.iconst 3, 1) := by decide +kernel
theorem dX5_init_192 : decode cX5_init 192 = .ok (.bipush 60, 2) := by decide +kernel
theorem dX5_init_194 : decode cX5_init 194 = .ok (.iastore, 1) := by decide +kernel
theorem dX5_init_195 : decode cX5_init 195 = .ok (.putfield 47, 3) := by decide +kernel
theorem dX5_init_198 : decode cX5_init 198 = .ok (.aload_n 0, 1) := by decide +kernel
theorem dX5_init_199 : decode cX5_init 199 = .ok (.sipush 5600, 3) := by decide +kernel
theorem dX5_init_202 : decode cX5_init 202 = .ok (.newarray .int, 2) := by decide +kernel
theorem dX5_init_204 : decode cX5_init 204 = .ok (.putfield 50, 3) := by decide +kernel
theorem dX5_init_207 : decode cX5_init 207 = .ok (.aload_n 0, 1) := by decide +kernel
theorem dX5_init_208 : decode cX5_init 208 = .ok (.getfield 19, 3) := by decide +kernel
theorem dX5_init_211 : decode cX5_init 211 = .ok (.iconst 0, 1) := by decide +kernel
theorem dX5_init_212 : decode cX5_init 212 = .ok (.iconst 1, 1) := by decide +kernel
theorem dX5_init_213 : decode cX5_init 213 = .ok (.iastore, 1) := by decide +kernel
theorem dX5_init_214 : decode cX5_init 214 = .ok (.aload_n 0, 1) := by decide +kernel
theorem dX5_init_215 : decode cX5_init 215 = .ok (.getfield 19, 3) := by decide +kernel
theorem dX5_init_218 : decode cX5_init 218 = .ok (.iconst 1, 1) := by decide +kernel
theorem dX5_init_219 : decode cX5_init 219 = .ok (.sipush 400, 3) := by decide +kernel
theorem dX5_init_222 : decode cX5_init 222 = .ok (.iastore, 1) := by decide +kernel
theorem dX5_init_223 : decode cX5_init 223 = .ok (.aload_n 0, 1) := by decide +kernel
theorem dX5_init_224 : decode cX5_init 224 = .ok (.getfield 19, 3) := by decide +kernel
theorem dX5_init_227 : decode cX5_init 227 = .ok (.iconst 2, 1) := by decide +kernel
theorem dX5_init_228 : decode cX5_init 228 = .ok (.bipush 80, 2) := by decide +kernel
theorem dX5_init_230 : decode cX5_init 230 = .ok (.iastore, 1) := by decide +kernel
theorem dX5_init_231 : decode cX5_init 231 = .ok (.aload_n 0, 1) := by decide +kernel
theorem dX5_init_232 : decode cX5_init 232 = .ok (.getfield 19, 3) := by decide +kernel
theorem dX5_init_235 : decode cX5_init 235 = .ok (.iconst 4, 1) := by decide +kernel
theorem dX5_init_236 : decode cX5_init 236 = .ok (.iconst 2, 1) := by decide +kernel
theorem dX5_init_237 : decode cX5_init 237 = .ok (.iastore, 1) := by decide +kernel
theorem dX5_init_238 : decode cX5_init 238 = .ok (.aload_n 0, 1) := by decide +kernel
theorem dX5_init_239 : decode cX5_init 239 = .ok (.getfield 19, 3) := by decide +kernel
theorem dX5_init_242 : decode cX5_init 242 = .ok (.iconst 5, 1) := by decide +kernel
theorem dX5_init_243 : decode cX5_init 243 = .ok (.bipush 30, 2) := by decide +kernel
theorem dX5_init_245 : decode cX5_init 245 = .ok (.iastore, 1) := by decide +kernel
theorem dX5_init_246 : decode cX5_init 246 = .ok (.return_, 1) := by decide +kernel
theorem dX5_image_0 : decode cX5_image 0 = .ok (.aload_n 0, 1) := by decide +kernel
theorem dX5_image_1 : decode cX5_image 1 = .ok (.iconst 1, 1) := by decide +kernel
theorem dX5_image_2 : decode cX5_image 2 = .ok (.putfield 53, 3) := by decide +kernel
theorem dX5_image_5 : decode cX5_image 5 = .ok (.iconst 0, 1) := by decide +kernel
theorem dX5_image_6 : decode cX5_image 6 = .ok (.istore_n 1, 1) := by decide +kernel
theorem dX5_image_7 : decode cX5_image 7 = .ok (.iload_n 1, 1) := by decide +kernel
theorem dX5_image_8 : decode cX5_image 8 = .ok (.bipush 70, 2) := by decide +kernel
theorem dX5_image_10 : decode cX5_image 10 = .ok (.if_icmp .ge 21, 3) := by decide +kernel
theorem dX5_image_13 : decode cX5_image 13 = .ok (.aload_n 0, 1) := by decide +kernel
theorem dX5_image_14 : decode cX5_image 14 = .ok (.getfield 22, 3) := by decide +kernel
theorem dX5_image_17 : decode cX5_image 17 = .ok (.iload_n 1, 1) := by decide +kernel
theorem dX5_image_18 : decode cX5_image 18 = .ok (.aload_n 0, 1) := by decide +kernel
theorem dX5_image_19 : decode cX5_image 19 = .ok (.getfield 19, 3) := by decide +kernel
theorem dX5_image_22 : decode cX5_image 22 = .ok (.iload_n 1, 1) := by decide +kernel
theorem dX5_image_23 : decode cX5_image 23 = .ok (.iaload, 1) := by decide +kernel
theorem dX5_image_24 : decode cX5_image 24 = .ok (.iastore, 1) := by decide +kernel
theorem dX5_image_25 : decode cX5_image 25 = .ok (.iinc 1 1, 3) := by decide +kernel
theorem dX5_image_28 : decode cX5_image 28 = .ok (.goto (-21), 3) := by decide +kernel
theorem dX5_image_31 : decode cX5_image 31 = .ok (.aload_n 0, 1) := by decide +kernel
theorem dX5_image_32 : decode cX5_image 32 = .ok (.getfield 19, 3) := by decide +kernel
theorem dX5_image_35 : decode cX5_image 35 = .ok (.iconst 0, 1) := by decide +kernel
theorem dX5_image_36 : decode cX5_image 36 = .ok (.iaload, 1) := by decide +kernel
theorem dX5_image_37 : decode cX5_image 37 = .ok (.ireturn, 1) := by decide +kernel
theorem xiX5_on_X5 : GoodIn wsX5_on wsX50 := goodIn_sub (fun _ h => List.mem_cons_of_mem _ (List.mem_append_right _ h)) xgwX5
set_option maxRecDepth 20000 in
theorem ggX5_on_X5_no : GoodIn wsX5_on wsX5_no := (goodIn_ca (goodIn_r _ [8, 9] rfl (by decide +kernel)) xiX5_on_X5)
set_option maxRecDepth 20000 in
theorem gX5_on_X5_no : GoodIn wsX5_on (wsV RX5 9 RX5 yX5_no wsX5_no) := goodIn_app (goodIn_r _ [4, 5, 6, 7] rfl (by decide +kernel)) ggX5_on_X5_no
theorem dX5_on_0 : decode cX5_on 0 = .ok (.aload_n 0, 1) := by decide +kernel
theorem dX5_on_1 : decode cX5_on 1 = .ok (.getfield 53, 3) := by decide +kernel
theorem dX5_on_4 : decode cX5_on 4 = .ok (.ifCond .ne 10, 3) := by decide +kernel
theorem dX5_on_7 : decode cX5_on 7 = .ok (.aload_n 0, 1) := by decide +kernel
theorem dX5_on_8 : decode cX5_on 8 = .ok (.bipush (-3), 2) := by decide +kernel
theorem dX5_on_10 : decode cX5_on 10 = .ok (.invokevirtual 9, 3) := by decide +kernel
theorem dX5_on_13 : decode cX5_on 13 = .ok (.ireturn, 1) := by decide +kernel
theorem dX5_on_14 : decode cX5_on 14 = .ok (.iconst 0, 1) := by decide +kernel
theorem dX5_on_15 : decode cX5_on 15 = .ok (.istore_n 1, 1) := by decide +kernel
theorem dX5_on_16 : decode cX5_on 16 = .ok (.iload_n 1, 1) := by decide +kernel
theorem dX5_on_17 : decode cX5_on 17 = .ok (.bipush 70, 2) := by decide +kernel
theorem dX5_on_19 : decode cX5_on 19 = .ok (.if_icmp .ge 21, 3) := by decide +kernel
theorem dX5_on_22 : decode cX5_on 22 = .ok (.aload_n 0, 1) := by decide +kernel
theorem dX5_on_23 : decode cX5_on 23 = .ok (.getfield 19, 3) := by decide +kernel
theorem dX5_on_26 : decode cX5_on 26 = .ok (.iload_n 1, 1) := by decide +kernel
theorem dX5_on_27 : decode cX5_on 27 = .ok (.aload_n 0, 1) := by decide +kernel
theorem dX5_on_28 : decode cX5_on 28 = .ok (.getfield 22, 3) := by decide +kernel
theorem dX5_on_31 : decode cX5_on 31 = .ok (.iload_n 1, 1) := by decide +kernel
theorem dX5_on_32 : decode cX5_on 32 = .ok (.iaload, 1) := by decide +kernel
theorem dX5_on_33 : decode cX5_on 33 = .ok (.iastore, 1) := by decide +kernel
theorem dX5_on_34 : decode cX5_on 34 = .ok (.iinc 1 1, 3) := by decide +kernel
theorem dX5_on_37 : decode cX5_on 37 = .ok (.goto (-21), 3) := by decide +kernel
theorem dX5_on_40 : decode cX5_on 40 = .ok (.aload_n 0, 1) := by decide +kernel
theorem dX5_on_41 : decode cX5_on 41 = .ok (.getfield 19, 3) := by decide +kernel
theorem dX5_on_44 : decode cX5_on 44 = .ok (.iconst 0, 1) := by decide +kernel
theorem dX5_on_45 : decode cX5_on 45 = .ok (.iaload, 1) := by decide +kernel
theorem dX5_on_46 : decode cX5_on 46 = .ok (.ireturn, 1) := by decide +kernel
theorem xiX5_letter_X5 : GoodIn wsX5_letter wsX50 := goodIn_sub (fun _ h => List.mem_cons_of_mem _ (List.mem_append_right _ h)) xgwX5
set_option maxRecDepth 20000 in
theorem ggX5_letter_X5_no : GoodIn wsX5_letter wsX5_no := (goodIn_ca (goodIn_r _ [7, 8] rfl (by decide +kernel)) xiX5_letter_X5)
set_option maxRecDepth 20000 in
theorem gX5_letter_X5_no : GoodIn wsX5_letter (wsV RX5 9 RX5 yX5_no wsX5_no) := goodIn_app (goodIn_r _ [3, 4, 5, 6] rfl (by decide +kernel)) ggX5_letter_X5_no
theorem dX5_letter_0 : decode cX5_letter 0 = .ok (.iload_n 1, 1) := by decide +kernel
theorem dX5_letter_1 : decode cX5_letter 1 = .ok (.ifCond .ge 10, 3) := by decide +kernel
theorem dX5_letter_4 : decode cX5_letter 4 = .ok (.aload_n 0, 1) := by decide +kernel
theorem dX5_letter_5 : decode cX5_letter 5 = .ok (.bipush (-4), 2) := by decide +kernel
theorem dX5_letter_7 : decode cX5_letter 7 = .ok (.invokevirtual 9, 3) := by decide +kernel
theorem dX5_letter_10 : decode cX5_letter 10 = .ok (.ireturn, 1) := by decide +kernel
theorem dX5_letter_11 : decode cX5_letter 11 = .ok (.iload_n 1, 1) := by decide +kernel
theorem dX5_letter_12 : decode cX5_letter 12 = .ok (.sipush 255, 3) := by decide +kernel
theorem dX5_letter_15 : decode cX5_letter 15 = .ok (.if_icmp .gt 12, 3) := by decide +kernel
theorem dX5_letter_18 : decode cX5_letter 18 = .ok (.aload_n 0, 1) := by decide +kernel
theorem dX5_letter_19 : decode cX5_letter 19 = .ok (.getfield 57, 3) := by decide +kernel
theorem dX5_letter_22 : decode cX5_letter 22 = .ok (.bipush 96, 2) := by decide +kernel
theorem dX5_letter_24 : decode cX5_letter 24 = .ok (.if_icmp .ne 10, 3) := by decide +kernel
theorem dX5_letter_27 : decode cX5_letter 27 = .ok (.aload_n 0, 1) := by decide +kernel
theorem dX5_letter_28 : decode cX5_letter 28 = .ok (.bipush (-6), 2) := by decide +kernel
theorem dX5_letter_30 : decode cX5_letter 30 = .ok (.invokevirtual 9, 3) := by decide +kernel
theorem dX5_letter_33 : decode cX5_letter 33 = .ok (.ireturn, 1) := by decide +kernel
theorem dX5_letter_34 : decode cX5_letter 34 = .ok (.aload_n 0, 1) := by decide +kernel
theorem dX5_letter_35 : decode cX5_letter 35 = .ok (.getfield 28, 3) := by decide +kernel
theorem dX5_letter_38 : decode cX5_letter 38 = .ok (.aload_n 0, 1) := by decide +kernel
theorem dX5_letter_39 : decode cX5_letter 39 = .ok (.getfield 57, 3) := by decide +kernel
theorem dX5_letter_42 : decode cX5_letter 42 = .ok (.iload_n 1, 1) := by decide +kernel
theorem dX5_letter_43 : decode cX5_letter 43 = .ok (.iastore, 1) := by decide +kernel
theorem dX5_letter_44 : decode cX5_letter 44 = .ok (.aload_n 0, 1) := by decide +kernel
theorem dX5_letter_45 : decode cX5_letter 45 = .ok (.dup, 1) := by decide +kernel
theorem dX5_letter_46 : decode cX5_letter 46 = .ok (.getfield 57, 3) := by decide +kernel
theorem dX5_letter_49 : decode cX5_letter 49 = .ok (.iconst 1, 1) := by decide +kernel
theorem dX5_letter_50 : decode cX5_letter 50 = .ok (.iadd, 1) := by decide +kernel
theorem dX5_letter_51 : decode cX5_letter 51 = .ok (.putfield 57, 3) := by decide +kernel
theorem dX5_letter_54 : decode cX5_letter 54 = .ok (.aload_n 0, 1) := by decide +kernel
theorem dX5_letter_55 : decode cX5_letter 55 = .ok (.getfield 57, 3) := by decide +kernel
theorem dX5_letter_58 : decode cX5_letter 58 = .ok (.ireturn, 1) := by decide +kernel
theorem dX5_isFigure_0 : decode cX5_isFigure 0 = .ok (.aload_n 0, 1) := by decide +kernel
theorem dX5_isFigure_1 : decode cX5_isFigure 1 = .ok (.getfield 61, 3) := by decide +kernel
theorem dX5_isFigure_4 : decode cX5_isFigure 4 = .ok (.ifCond .eq 46, 3) := by decide +kernel
theorem dX5_isFigure_7 : decode cX5_isFigure 7 = .ok (.aload_n 0, 1) := by decide +kernel
theorem dX5_isFigure_8 : decode cX5_isFigure 8 = .ok (.getfield 64, 3) := by decide +kernel
theorem dX5_isFigure_11 : decode cX5_isFigure 11 = .ok (.aload_n 0, 1) := by decide +kernel
theorem dX5_isFigure_12 : decode cX5_isFigure 12 = .ok (.getfield 57, 3) := by decide +kernel
theorem dX5_isFigure_15 : decode cX5_isFigure 15 = .ok (.if_icmp .ge 35, 3) := by decide +kernel
theorem dX5_isFigure_18 : decode cX5_isFigure 18 = .ok (.aload_n 0, 1) := by decide +kernel
theorem dX5_isFigure_19 : decode cX5_isFigure 19 = .ok (.getfield 28, 3) := by decide +kernel
theorem dX5_isFigure_22 : decode cX5_isFigure 22 = .ok (.aload_n 0, 1) := by decide +kernel
theorem dX5_isFigure_23 : decode cX5_isFigure 23 = .ok (.getfield 64, 3) := by decide +kernel
theorem dX5_isFigure_26 : decode cX5_isFigure 26 = .ok (.iaload, 1) := by decide +kernel
theorem dX5_isFigure_27 : decode cX5_isFigure 27 = .ok (.bipush 48, 2) := by decide +kernel
theorem dX5_isFigure_29 : decode cX5_isFigure 29 = .ok (.if_icmp .lt 21, 3) := by decide +kernel
theorem dX5_isFigure_32 : decode cX5_isFigure 32 = .ok (.aload_n 0, 1) := by decide +kernel
theorem dX5_isFigure_33 : decode cX5_isFigure 33 = .ok (.getfield 28, 3) := by decide +kernel
theorem dX5_isFigure_36 : decode cX5_isFigure 36 = .ok (.aload_n 0, 1) := by decide +kernel
theorem dX5_isFigure_37 : decode cX5_isFigure 37 = .ok (.getfield 64, 3) := by decide +kernel
theorem dX5_isFigure_40 : decode cX5_isFigure 40 = .ok (.iaload, 1) := by decide +kernel
theorem dX5_isFigure_41 : decode cX5_isFigure 41 = .ok (.bipush 57, 2) := by decide +kernel
theorem dX5_isFigure_43 : decode cX5_isFigure 43 = .ok (.if_icmp .gt 7, 3) := by decide +kernel
theorem dX5_isFigure_46 : decode cX5_isFigure 46 = .ok (.iconst 1, 1) := by decide +kernel
theorem dX5_isFigure_47 : decode cX5_isFigure 47 = .ok (.goto 4, 3) := by decide +kernel
theorem dX5_isFigure_50 : decode cX5_isFigure 50 = .ok (.iconst 0, 1) := by decide +kernel
theorem dX5_isFigure_51 : decode cX5_isFigure 51 = .ok (.ireturn, 1) := by decide +kernel
theorem dX5_oneOf_0 : decode cX5_oneOf 0 = .ok (.iconst 0, 1) := by decide +kernel
theorem dX5_oneOf_1 : decode cX5_oneOf 1 = .ok (.istore_n 2, 1) := by decide +kernel
theorem dX5_oneOf_2 : decode cX5_oneOf 2 = .ok (.iload_n 2, 1) := by decide +kernel
theorem dX5_oneOf_3 : decode cX5_oneOf 3 = .ok (.aload_n 1, 1) := by decide +kernel
theorem dX5_oneOf_4 : decode cX5_oneOf 4 = .ok (.arraylength, 1) := by decide +kernel
theorem dX5_oneOf_5 : decode cX5_oneOf 5 = .ok (.if_icmp .ge 54, 3) := by decide +kernel
theorem dX5_oneOf_8 : decode cX5_oneOf 8 = .ok (.aload_n 0, 1) := by decide +kernel
theorem dX5_oneOf_9 : decode cX5_oneOf 9 = .ok (.getfield 61, 3) := by decide +kernel
theorem dX5_oneOf_12 : decode cX5_oneOf 12 = .ok (.ifCond .eq 41, 3) := by decide +kernel
theorem dX5_oneOf_15 : decode cX5_oneOf 15 = .ok (.aload_n 0, 1) := by decide +kernel
theorem dX5_oneOf_16 : decode cX5_oneOf 16 = .ok (.getfield 64, 3) := by decide +kernel
theorem dX5_oneOf_19 : decode cX5_oneOf 19 = .ok (.aload_n 0, 1) := by decide +kernel
theorem dX5_oneOf_20 : decode cX5_oneOf 20 = .ok (.getfield 57, 3) := by decide +kernel
theorem dX5_oneOf_23 : decode cX5_oneOf 23 = .ok (.if_icmp .ge 30, 3) := by decide +kernel
theorem dX5_oneOf_26 : decode cX5_oneOf 26 = .ok (.aload_n 0, 1) := by decide +kernel
theorem dX5_oneOf_27 : decode cX5_oneOf 27 = .ok (.getfield 28, 3) := by decide +kernel
theorem dX5_oneOf_30 : decode cX5_oneOf 30 = .ok (.aload_n 0, 1) := by decide +kernel
theorem dX5_oneOf_31 : decode cX5_oneOf 31 = .ok (.getfield 64, 3) := by decide +kernel
theorem dX5_oneOf_34 : decode cX5_oneOf 34 = .ok (.iaload, 1) := by decide +kernel
theorem dX5_oneOf_35 : decode cX5_oneOf 35 = .ok (.aload_n 1, 1) := by decide +kernel
theorem dX5_oneOf_36 : decode cX5_oneOf 36 = .ok (.iload_n 2, 1) := by decide +kernel
theorem dX5_oneOf_37 : decode cX5_oneOf 37 = .ok (.caload, 1) := by decide +kernel
theorem dX5_oneOf_38 : decode cX5_oneOf 38 = .ok (.if_icmp .ne 15, 3) := by decide +kernel
theorem dX5_oneOf_41 : decode cX5_oneOf 41 = .ok (.aload_n 0, 1) := by decide +kernel
theorem dX5_oneOf_42 : decode cX5_oneOf 42 = .ok (.dup, 1) := by decide +kernel
theorem dX5_oneOf_43 : decode cX5_oneOf 43 = .ok (.getfield 64, 3) := by decide +kernel
theorem dX5_oneOf_46 : decode cX5_oneOf 46 = .ok (.iconst 1, 1) := by decide +kernel
theorem dX5_oneOf_47 : decode cX5_oneOf 47 = .ok (.iadd, 1) := by decide +kernel
theorem dX5_oneOf_48 : decode cX5_oneOf 48 = .ok (.putfield 64, 3) := by decide +kernel
theorem dX5_oneOf_51 : decode cX5_oneOf 51 = .ok (.iload_n 2, 1) := by decide +kernel
theorem dX5_oneOf_52 : decode cX5_oneOf 52 = .ok (.ireturn, 1) := by decide +kernel
theorem dX5_oneOf_53 : decode cX5_oneOf 53 = .ok (.iinc 2 1, 3) := by decide +kernel
theorem dX5_oneOf_56 : decode cX5_oneOf 56 = .ok (.goto (-54), 3) := by decide +kernel
theorem dX5_oneOf_59 : decode cX5_oneOf 59 = .ok (.aload_n 0, 1) := by decide +kernel
theorem dX5_oneOf_60 : decode cX5_oneOf 60 = .ok (.iconst 0, 1) := by decide +kernel
theorem dX5_oneOf_61 : decode cX5_oneOf 61 = .ok (.putfield 61, 3) := by decide +kernel
theorem dX5_oneOf_64 : decode cX5_oneOf 64 = .ok (.iconst 0, 1) := by decide +kernel
theorem dX5_oneOf_65 : decode cX5_oneOf 65 = .ok (.ireturn, 1) := by decide +kernel
theorem xiX5_figures_X5 : GoodIn wsX5_figures wsX50 := goodIn_sub (fun _ h => List.mem_cons_of_mem _ (List.mem_append_right _ h)) xgwX5
set_option maxRecDepth 20000 in
theorem ggX5_figures_X5_isFigure : GoodIn wsX5_figures wsX5_isFigure := (goodIn_ca (goodIn_r _ [8, 3, 2, 9, 1] rfl (by decide +kernel)) xiX5_figures_X5)
set_option maxRecDepth 20000 in
theorem gX5_figures_X5_isFigure : GoodIn wsX5_figures (wsV RX5 67 RX5 yX5_isFigure wsX5_isFigure) := goodIn_app (goodIn_r _ [4, 5, 6, 7] rfl (by decide +kernel)) ggX5_figures_X5_isFigure
theorem dX5_figures_0 : decode cX5_figures 0 = .ok (.iconst 0, 1) := by decide +kernel
theorem dX5_figures_1 : decode cX5_figures 1 = .ok (.istore_n 3, 1) := by decide +kernel
theorem dX5_figures_2 : decode cX5_figures 2 = .ok (.iconst 0, 1) := by decide +kernel
theorem dX5_figures_3 : decode cX5_figures 3 = .ok (.istore 4, 2) := by decide +kernel
theorem dX5_figures_5 : decode cX5_figures 5 = .ok (.iload 4, 2) := by decide +kernel
theorem dX5_figures_7 : decode cX5_figures 7 = .ok (.iload_n 2, 1) := by decide +kernel
theorem dX5_figures_8 : decode cX5_figures 8 = .ok (.if_icmp .ge 44, 3) := by decide +kernel
theorem dX5_figures_11 : decode cX5_figures 11 = .ok (.aload_n 0, 1) := by decide +kernel
theorem dX5_figures_12 : decode cX5_figures 12 = .ok (.invokevirtual 67, 3) := by decide +kernel
theorem dX5_figures_15 : decode cX5_figures 15 = .ok (.ifCond .eq 37, 3) := by decide +kernel
theorem dX5_figures_18 : decode cX5_figures 18 = .ok (.bipush 10, 2) := by decide +kernel
theorem dX5_figures_20 : decode cX5_figures 20 = .ok (.iload_n 3, 1) := by decide +kernel
theorem dX5_figures_21 : decode cX5_figures 21 = .ok (.imul, 1) := by decide +kernel
theorem dX5_figures_22 : decode cX5_figures 22 = .ok (.aload_n 0, 1) := by decide +kernel
theorem dX5_figures_23 : decode cX5_figures 23 = .ok (.getfield 28, 3) := by decide +kernel
theorem dX5_figures_26 : decode cX5_figures 26 = .ok (.aload_n 0, 1) := by decide +kernel
theorem dX5_figures_27 : decode cX5_figures 27 = .ok (.getfield 64, 3) := by decide +kernel
theorem dX5_figures_30 : decode cX5_figures 30 = .ok (.iaload, 1) := by decide +kernel
theorem dX5_figures_31 : decode cX5_figures 31 = .ok (.iadd, 1) := by decide +kernel
theorem dX5_figures_32 : decode cX5_figures 32 = .ok (.bipush 48, 2) := by decide +kernel
theorem dX5_figures_34 : decode cX5_figures 34 = .ok (.isub, 1) := by decide +kernel
theorem dX5_figures_35 : decode cX5_figures 35 = .ok (.istore_n 3, 1) := by decide +kernel
theorem dX5_figures_36 : decode cX5_figures 36 = .ok (.aload_n 0, 1) := by decide +kernel
theorem dX5_figures_37 : decode cX5_figures 37 = .ok (.dup, 1) := by decide +kernel
theorem dX5_figures_38 : decode cX5_figures 38 = .ok (.getfield 64, 3) := by decide +kernel
theorem dX5_figures_41 : decode cX5_figures 41 = .ok (.iconst 1, 1) := by decide +kernel
theorem dX5_figures_42 : decode cX5_figures 42 = .ok (.iadd, 1) := by decide +kernel
theorem dX5_figures_43 : decode cX5_figures 43 = .ok (.putfield 64, 3) := by decide +kernel
theorem dX5_figures_46 : decode cX5_figures 46 = .ok (.iinc 4 1, 3) := by decide +kernel
theorem dX5_figures_49 : decode cX5_figures 49 = .ok (.goto (-44), 3) := by decide +kernel
theorem dX5_figures_52 : decode cX5_figures 52 = .ok (.aload_n 0, 1) := by decide +kernel
theorem dX5_figures_53 : decode cX5_figures 53 = .ok (.aload_n 0, 1) := by decide +kernel
theorem dX5_figures_54 : decode cX5_figures 54 = .ok (.getfield 61, 3) := by decide +kernel
theorem dX5_figures_57 : decode cX5_figures 57 = .ok (.ifCond .eq 13, 3) := by decide +kernel
theorem dX5_figures_60 : decode cX5_figures 60 = .ok (.iload 4, 2) := by decide +kernel
theorem dX5_figures_62 : decode cX5_figures 62 = .ok (.iload_n 1, 1) := by decide +kernel
theorem dX5_figures_63 : decode cX5_figures 63 = .ok (.if_icmp .lt 7, 3) := by decide +kernel
theorem dX5_figures_66 : decode cX5_figures 66 = .ok (.iconst 1, 1) := by decide +kernel
theorem dX5_figures_67 : decode cX5_figures 67 = .ok (.goto 4, 3) := by decide +kernel
theorem dX5_figures_70 : decode cX5_figures 70 = .ok (.iconst 0, 1) := by decide +kernel
theorem dX5_figures_71 : decode cX5_figures 71 = .ok (.putfield 61, 3) := by decide +kernel
theorem dX5_figures_74 : decode cX5_figures 74 = .ok (.iload_n 3, 1) := by decide +kernel
theorem dX5_figures_75 : decode cX5_figures 75 = .ok (.ireturn, 1) := by decide +kernel
theorem xiX5_statement_X5 : GoodIn wsX5_statement wsX50 := goodIn_sub (fun _ h => List.mem_cons_of_mem _ (List.mem_append_right _ h)) xgwX5
set_option maxRecDepth 20000 in
theorem ggX5_statement_X5_oneOf : GoodIn wsX5_statement wsX5_oneOf := (goodIn_ca (goodIn_r _ [13, 5, 6, 7, 8] rfl (by decide +kernel)) xiX5_statement_X5)
set_option maxRecDepth 20000 in
theorem gX5_statement_X5_oneOf : GoodIn wsX5_statement (wsV RX5 71 RX5 yX5_oneOf wsX5_oneOf) := goodIn_app (goodIn_r _ [9, 10, 11, 12] rfl (by decide +kernel)) ggX5_statement_X5_oneOf
set_option maxRecDepth 20000 in
theorem ggX5_statement_X5_figures : GoodIn wsX5_statement wsX5_figures := (goodIn_ca (goodIn_r _ [17, 8, 6, 5, 18, 19, 20, 12, 21, 7] rfl (by decide +kernel)) xiX5_statement_X5)
set_option maxRecDepth 20000 in
theorem gX5_statement_X5_figures : GoodIn wsX5_statement (wsV RX5 78 RX5 yX5_figures wsX5_figures) := goodIn_app (goodIn_r _ [14, 15, 16, 12] rfl (by decide +kernel)) ggX5_statement_X5_figures
theorem dX5_statement_0 : decode cX5_statement 0 = .ok (.aload_n 0, 1) := by decide +kernel
theorem dX5_statement_1 : decode cX5_statement 1 = .ok (.aload_n 0, 1) := by decide +kernel
theorem dX5_statement_2 : decode cX5_statement 2 = .ok (.aload_n 0, 1) := by decide +kernel
theorem dX5_statement_3 : decode cX5_statement 3 = .ok (.getfield 31, 3) := by decide +kernel
theorem dX5_statement_6 : decode cX5_statement 6 = .ok (.invokevirtual 71, 3) := by decide +kernel
theorem dX5_statement_9 : decode cX5_statement 9 = .ok (.putfield 75, 3) := by decide +kernel
theorem dX5_statement_12 : decode cX5_statement 12 = .ok (.aload_n 0, 1) := by decide +kernel
theorem dX5_statement_13 : decode cX5_statement 13 = .ok (.getfield 75, 3) := by decide +kernel
theorem dX5_statement_16 : decode cX5_statement 16 = .ok (.iconst 3, 1) := by decide +kernel
theorem dX5_statement_17 : decode cX5_statement 17 = .ok (.if_icmp .ne 84, 3) := by decide +kernel
theorem dX5_statement_20 : decode cX5_statement 20 = .ok (.aload_n 0, 1) := by decide +kernel
theorem dX5_statement_21 : decode cX5_statement 21 = .ok (.getfield 38, 3) := by decide +kernel
theorem dX5_statement_24 : decode cX5_statement 24 = .ok (.iconst 0, 1) := by decide +kernel
theorem dX5_statement_25 : decode cX5_statement 25 = .ok (.aload_n 0, 1) := by decide +kernel
theorem dX5_statement_26 : decode cX5_statement 26 = .ok (.aload_n 0, 1) := by decide +kernel
theorem dX5_statement_27 : decode cX5_statement 27 = .ok (.getfield 35, 3) := by decide +kernel
theorem dX5_statement_30 : decode cX5_statement 30 = .ok (.invokevirtual 71, 3) := by decide +kernel
theorem dX5_statement_33 : decode cX5_statement 33 = .ok (.iastore, 1) := by decide +kernel
theorem dX5_statement_34 : decode cX5_statement 34 = .ok (.aload_n 0, 1) := by decide +kernel
theorem dX5_statement_35 : decode cX5_statement 35 = .ok (.getfield 38, 3) := by decide +kernel
theorem dX5_statement_38 : decode cX5_statement 38 = .ok (.iconst 1, 1) := by decide +kernel
theorem dX5_statement_39 : decode cX5_statement 39 = .ok (.aload_n 0, 1) := by decide +kernel
theorem dX5_statement_40 : decode cX5_statement 40 = .ok (.iconst 1, 1) := by decide +kernel
theorem dX5_statement_41 : decode cX5_statement 41 = .ok (.iconst 1, 1) := by decide +kernel
theorem dX5_statement_42 : decode cX5_statement 42 = .ok (.invokevirtual 78, 3) := by decide +kernel
theorem dX5_statement_45 : decode cX5_statement 45 = .ok (.iastore, 1) := by decide +kernel
theorem dX5_statement_46 : decode cX5_statement 46 = .ok (.aload_n 0, 1) := by decide +kernel
theorem dX5_statement_47 : decode cX5_statement 47 = .ok (.getfield 38, 3) := by decide +kernel
theorem dX5_statement_50 : decode cX5_statement 50 = .ok (.iconst 2, 1) := by decide +kernel
theorem dX5_statement_51 : decode cX5_statement 51 = .ok (.aload_n 0, 1) := by decide +kernel
theorem dX5_statement_52 : decode cX5_statement 52 = .ok (.iconst 1, 1) := by decide +kernel
theorem dX5_statement_53 : decode cX5_statement 53 = .ok (.iconst 1, 1) := by decide +kernel
theorem dX5_statement_54 : decode cX5_statement 54 = .ok (.invokevirtual 78, 3) := by decide +kernel
theorem dX5_statement_57 : decode cX5_statement 57 = .ok (.iastore, 1) := by decide +kernel
theorem dX5_statement_58 : decode cX5_statement 58 = .ok (.aload_n 0, 1) := by decide +kernel
theorem dX5_statement_59 : decode cX5_statement 59 = .ok (.getfield 38, 3) := by decide +kernel
theorem dX5_statement_62 : decode cX5_statement 62 = .ok (.iconst 3, 1) := by decide +kernel
theorem dX5_statement_63 : decode cX5_statement 63 = .ok (.aload_n 0, 1) := by decide +kernel
theorem dX5_statement_64 : decode cX5_statement 64 = .ok (.iconst 1, 1) := by decide +kernel
theorem dX5_statement_65 : decode cX5_statement 65 = .ok (.iconst 1, 1) := by decide +kernel
theorem dX5_statement_66 : decode cX5_statement 66 = .ok (.invokevirtual 78, 3) := by decide +kernel
theorem dX5_statement_69 : decode cX5_statement 69 = .ok (.iastore, 1) := by decide +kernel
theorem dX5_statement_70 : decode cX5_statement 70 = .ok (.iconst 1, 1) := by decide +kernel
theorem dX5_statement_71 : decode cX5_statement 71 = .ok (.istore_n 1, 1) := by decide +kernel
theorem dX5_statement_72 : decode cX5_statement 72 = .ok (.iload_n 1, 1) := by decide +kernel
theorem dX5_statement_73 : decode cX5_statement 73 = .ok (.bipush 12, 2) := by decide +kernel
theorem dX5_statement_75 : decode cX5_statement 75 = .ok (.if_icmp .ge 23, 3) := by decide +kernel
theorem dX5_statement_78 : decode cX5_statement 78 = .ok (.aload_n 0, 1) := by decide +kernel
theorem dX5_statement_79 : decode cX5_statement 79 = .ok (.getfield 38, 3) := by decide +kernel
theorem dX5_statement_82 : decode cX5_statement 82 = .ok (.iconst 3, 1) := by decide +kernel
theorem dX5_statement_83 : decode cX5_statement 83 = .ok (.iload_n 1, 1) := by decide +kernel
theorem dX5_statement_84 : decode cX5_statement 84 = .ok (.iadd, 1) := by decide +kernel
theorem dX5_statement_85 : decode cX5_statement 85 = .ok (.aload_n 0, 1) := by decide +kernel
theorem dX5_statement_86 : decode cX5_statement 86 = .ok (.iconst 0, 1) := by decide +kernel
theorem dX5_statement_87 : decode cX5_statement 87 = .ok (.iconst 1, 1) := by decide +kernel
theorem dX5_statement_88 : decode cX5_statement 88 = .ok (.invokevirtual 78, 3) := by decide +kernel
theorem dX5_statement_91 : decode cX5_statement 91 = .ok (.iastore, 1) := by decide +kernel
theorem dX5_statement_92 : decode cX5_statement 92 = .ok (.iinc 1 1, 3) := by decide +kernel
theorem dX5_statement_95 : decode cX5_statement 95 = .ok (.goto (-23), 3) := by decide +kernel
theorem dX5_statement_98 : decode cX5_statement 98 = .ok (.goto 51, 3) := by decide +kernel
theorem dX5_statement_101 : decode cX5_statement 101 = .ok (.aload_n 0, 1) := by decide +kernel
theorem dX5_statement_102 : decode cX5_statement 102 = .ok (.getfield 38, 3) := by decide +kernel
theorem dX5_statement_105 : decode cX5_statement 105 = .ok (.iconst 0, 1) := by decide +kernel
theorem dX5_statement_106 : decode cX5_statement 106 = .ok (.aload_n 0, 1) := by decide +kernel
theorem dX5_statement_107 : decode cX5_statement 107 = .ok (.aload_n 0, 1) := by decide +kernel
theorem dX5_statement_108 : decode cX5_statement 108 = .ok (.getfield 75, 3) := by decide +kernel
theorem dX5_statement_111 : decode cX5_statement 111 = .ok (.iconst 2, 1) := by decide +kernel
theorem dX5_statement_112 : decode cX5_statement 112 = .ok (.if_icmp .ne 7, 3) := by decide +kernel
theorem dX5_statement_115 : decode cX5_statement 115 = .ok (.iconst 2, 1) := by decide +kernel
theorem dX5_statement_116 : decode cX5_statement 116 = .ok (.goto 4, 3) := by decide +kernel
theorem dX5_statement_119 : decode cX5_statement 119 = .ok (.iconst 1, 1) := by decide +kernel
theorem dX5_statement_120 : decode cX5_statement 120 = .ok (.aload_n 0, 1) := by decide +kernel
theorem dX5_statement_121 : decode cX5_statement 121 = .ok (.getfield 75, 3) := by decide +kernel
theorem dX5_statement_124 : decode cX5_statement 124 = .ok (.iconst 4, 1) := by decide +kernel
theorem dX5_statement_125 : decode cX5_statement 125 = .ok (.if_icmp .ne 7, 3) := by decide +kernel
theorem dX5_statement_128 : decode cX5_statement 128 = .ok (.iconst 1, 1) := by decide +kernel
theorem dX5_statement_129 : decode cX5_statement 129 = .ok (.goto 16, 3) := by decide +kernel
theorem dX5_statement_132 : decode cX5_statement 132 = .ok (.aload_n 0, 1) := by decide +kernel
theorem dX5_statement_133 : decode cX5_statement 133 = .ok (.getfield 75, 3) := by decide +kernel
theorem dX5_statement_136 : decode cX5_statement 136 = .ok (.iconst 5, 1) := by decide +kernel
theorem dX5_statement_137 : decode cX5_statement 137 = .ok (.if_icmp .ne 7, 3) := by decide +kernel
theorem dX5_statement_140 : decode cX5_statement 140 = .ok (.iconst 2, 1) := by decide +kernel
theorem dX5_statement_141 : decode cX5_statement 141 = .ok (.goto 4, 3) := by decide +kernel
theorem dX5_statement_144 : decode cX5_statement 144 = .ok (.iconst 3, 1) := by decide +kernel
theorem dX5_statement_145 : decode cX5_statement 145 = .ok (.invokevirtual 78, 3) := by decide +kernel
theorem dX5_statement_148 : decode cX5_statement 148 = .ok (.iastore, 1) := by decide +kernel
theorem dX5_statement_149 : decode cX5_statement 149 = .ok (.aload_n 0, 1) := by decide +kernel
theorem dX5_statement_150 : decode cX5_statement 150 = .ok (.getfield 61, 3) := by decide +kernel
theorem dX5_statement_153 : decode cX5_statement 153 = .ok (.ifCond .eq 41, 3) := by decide +kernel
theorem dX5_statement_156 : decode cX5_statement 156 = .ok (.aload_n 0, 1) := by decide +kernel
theorem dX5_statement_157 : decode cX5_statement 157 = .ok (.getfield 64, 3) := by decide +kernel
theorem dX5_statement_160 : decode cX5_statement 160 = .ok (.aload_n 0, 1) := by decide +kernel
theorem dX5_statement_161 : decode cX5_statement 161 = .ok (.getfield 57, 3) := by decide +kernel
theorem dX5_statement_164 : decode cX5_statement 164 = .ok (.if_icmp .ge 30, 3) := by decide +kernel
theorem dX5_statement_167 : decode cX5_statement 167 = .ok (.aload_n 0, 1) := by decide +kernel
theorem dX5_statement_168 : decode cX5_statement 168 = .ok (.getfield 28, 3) := by decide +kernel
theorem dX5_statement_171 : decode cX5_statement 171 = .ok (.aload_n 0, 1) := by decide +kernel
theorem dX5_statement_172 : decode cX5_statement 172 = .ok (.getfield 64, 3) := by decide +kernel
theorem dX5_statement_175 : decode cX5_statement 175 = .ok (.iaload, 1) := by decide +kernel
theorem dX5_statement_176 : decode cX5_statement 176 = .ok (.bipush 59, 2) := by decide +kernel
theorem dX5_statement_178 : decode cX5_statement 178 = .ok (.if_icmp .ne 16, 3) := by decide +kernel
theorem dX5_statement_181 : decode cX5_statement 181 = .ok (.aload_n 0, 1) := by decide +kernel
theorem dX5_statement_182 : decode cX5_statement 182 = .ok (.dup, 1) := by decide +kernel
theorem dX5_statement_183 : decode cX5_statement 183 = .ok (.getfield 64, 3) := by decide +kernel
theorem dX5_statement_186 : decode cX5_statement 186 = .ok (.iconst 1, 1) := by decide +kernel
theorem dX5_statement_187 : decode cX5_statement 187 = .ok (.iadd, 1) := by decide +kernel
theorem dX5_statement_188 : decode cX5_statement 188 = .ok (.putfield 64, 3) := by decide +kernel
theorem dX5_statement_191 : decode cX5_statement 191 = .ok (.goto 8, 3) := by decide +kernel
theorem dX5_statement_194 : decode cX5_statement 194 = .ok (.aload_n 0, 1) := by decide +kernel
theorem dX5_statement_195 : decode cX5_statement 195 = .ok (.iconst 0, 1) := by decide +kernel
theorem dX5_statement_196 : decode cX5_statement 196 = .ok (.putfield 61, 3) := by decide +kernel
theorem dX5_statement_199 : decode cX5_statement 199 = .ok (.return_, 1) := by decide +kernel
theorem dX5_isAsItMustBe_0 : decode cX5_isAsItMustBe 0 = .ok (.aload_n 0, 1) := by decide +kernel
theorem dX5_isAsItMustBe_1 : decode cX5_isAsItMustBe 1 = .ok (.getfield 75, 3) := by decide +kernel
theorem dX5_isAsItMustBe_4 : decode cX5_isAsItMustBe 4 = .ok (.iconst 3, 1) := by decide +kernel
theorem dX5_isAsItMustBe_5 : decode cX5_isAsItMustBe 5 = .ok (.if_icmp .ne 55, 3) := by decide +kernel
theorem dX5_isAsItMustBe_8 : decode cX5_isAsItMustBe 8 = .ok (.iconst 0, 1) := by decide +kernel
theorem dX5_isAsItMustBe_9 : decode cX5_isAsItMustBe 9 = .ok (.istore_n 3, 1) := by decide +kernel
theorem dX5_isAsItMustBe_10 : decode cX5_isAsItMustBe 10 = .ok (.iconst 2, 1) := by decide +kernel
theorem dX5_isAsItMustBe_11 : decode cX5_isAsItMustBe 11 = .ok (.istore 4, 2) := by decide +kernel
theorem dX5_isAsItMustBe_13 : decode cX5_isAsItMustBe 13 = .ok (.iload 4, 2) := by decide +kernel
theorem dX5_isAsItMustBe_15 : decode cX5_isAsItMustBe 15 = .ok (.bipush 15, 2) := by decide +kernel
theorem dX5_isAsItMustBe_17 : decode cX5_isAsItMustBe 17 = .ok (.if_icmp .ge 19, 3) := by decide +kernel
theorem dX5_isAsItMustBe_20 : decode cX5_isAsItMustBe 20 = .ok (.iload_n 3, 1) := by decide +kernel
theorem dX5_isAsItMustBe_21 : decode cX5_isAsItMustBe 21 = .ok (.aload_n 0, 1) := by decide +kernel
theorem dX5_isAsItMustBe_22 : decode cX5_isAsItMustBe 22 = .ok (.getfield 38, 3) := by decide +kernel
theorem dX5_isAsItMustBe_25 : decode cX5_isAsItMustBe 25 = .ok (.iload 4, 2) := by decide +kernel
theorem dX5_isAsItMustBe_27 : decode cX5_isAsItMustBe 27 = .ok (.iaload, 1) := by decide +kernel
theorem dX5_isAsItMustBe_28 : decode cX5_isAsItMustBe 28 = .ok (.iadd, 1) := by decide +kernel
theorem dX5_isAsItMustBe_29 : decode cX5_isAsItMustBe 29 = .ok (.istore_n 3, 1) := by decide +kernel
theorem dX5_isAsItMustBe_30 : decode cX5_isAsItMustBe 30 = .ok (.iinc 4 1, 3) := by decide +kernel
theorem dX5_isAsItMustBe_33 : decode cX5_isAsItMustBe 33 = .ok (.goto (-20), 3) := by decide +kernel
theorem dX5_isAsItMustBe_36 : decode cX5_isAsItMustBe 36 = .ok (.aload_n 0, 1) := by decide +kernel
theorem dX5_isAsItMustBe_37 : decode cX5_isAsItMustBe 37 = .ok (.getfield 38, 3) := by decide +kernel
theorem dX5_isAsItMustBe_40 : decode cX5_isAsItMustBe 40 = .ok (.iconst 1, 1) := by decide +kernel
theorem dX5_isAsItMustBe_41 : decode cX5_isAsItMustBe 41 = .ok (.iaload, 1) := by decide +kernel
theorem dX5_isAsItMustBe_42 : decode cX5_isAsItMustBe 42 = .ok (.ifCond .le 16, 3) := by decide +kernel
theorem dX5_isAsItMustBe_45 : decode cX5_isAsItMustBe 45 = .ok (.iload_n 3, 1) := by decide +kernel
theorem dX5_isAsItMustBe_46 : decode cX5_isAsItMustBe 46 = .ok (.ifCond .le 12, 3) := by decide +kernel
theorem dX5_isAsItMustBe_49 : decode cX5_isAsItMustBe 49 = .ok (.iload_n 2, 1) := by decide +kernel
theorem dX5_isAsItMustBe_50 : decode cX5_isAsItMustBe 50 = .ok (.iconst 3, 1) := by decide +kernel
theorem dX5_isAsItMustBe_51 : decode cX5_isAsItMustBe 51 = .ok (.if_icmp .ge 7, 3) := by decide +kernel
theorem dX5_isAsItMustBe_54 : decode cX5_isAsItMustBe 54 = .ok (.iconst 1, 1) := by decide +kernel
theorem dX5_isAsItMustBe_55 : decode cX5_isAsItMustBe 55 = .ok (.goto 4, 3) := by decide +kernel
theorem dX5_isAsItMustBe_58 : decode cX5_isAsItMustBe 58 = .ok (.iconst 0, 1) := by decide +kernel
theorem dX5_isAsItMustBe_59 : decode cX5_isAsItMustBe 59 = .ok (.ireturn, 1) := by decide +kernel
theorem dX5_isAsItMustBe_60 : decode cX5_isAsItMustBe 60 = .ok (.aload_n 0, 1) := by decide +kernel
theorem dX5_isAsItMustBe_61 : decode cX5_isAsItMustBe 61 = .ok (.getfield 75, 3) := by decide +kernel
theorem dX5_isAsItMustBe_64 : decode cX5_isAsItMustBe 64 = .ok (.ifCond .ne 26, 3) := by decide +kernel
theorem dX5_isAsItMustBe_67 : decode cX5_isAsItMustBe 67 = .ok (.aload_n 0, 1) := by decide +kernel
theorem dX5_isAsItMustBe_68 : decode cX5_isAsItMustBe 68 = .ok (.getfield 38, 3) := by decide +kernel
theorem dX5_isAsItMustBe_71 : decode cX5_isAsItMustBe 71 = .ok (.iconst 0, 1) := by decide +kernel
theorem dX5_isAsItMustBe_72 : decode cX5_isAsItMustBe 72 = .ok (.iaload, 1) := by decide +kernel
theorem dX5_isAsItMustBe_73 : decode cX5_isAsItMustBe 73 = .ok (.ifCond .le 13, 3) := by decide +kernel
theorem dX5_isAsItMustBe_76 : decode cX5_isAsItMustBe 76 = .ok (.iload_n 1, 1) := by decide +kernel
theorem dX5_isAsItMustBe_77 : decode cX5_isAsItMustBe 77 = .ok (.bipush 7, 2) := by decide +kernel
theorem dX5_isAsItMustBe_79 : decode cX5_isAsItMustBe 79 = .ok (.if_icmp .ge 7, 3) := by decide +kernel
theorem dX5_isAsItMustBe_82 : decode cX5_isAsItMustBe 82 = .ok (.iconst 1, 1) := by decide +kernel
theorem dX5_isAsItMustBe_83 : decode cX5_isAsItMustBe 83 = .ok (.goto 80, 3) := by decide +kernel
theorem dX5_isAsItMustBe_86 : decode cX5_isAsItMustBe 86 = .ok (.iconst 0, 1) := by decide +kernel
theorem dX5_isAsItMustBe_87 : decode cX5_isAsItMustBe 87 = .ok (.goto 76, 3) := by decide +kernel
theorem dX5_isAsItMustBe_90 : decode cX5_isAsItMustBe 90 = .ok (.aload_n 0, 1) := by decide +kernel
theorem dX5_isAsItMustBe_91 : decode cX5_isAsItMustBe 91 = .ok (.getfield 75, 3) := by decide +kernel
theorem dX5_isAsItMustBe_94 : decode cX5_isAsItMustBe 94 = .ok (.iconst 2, 1) := by decide +kernel
theorem dX5_isAsItMustBe_95 : decode cX5_isAsItMustBe 95 = .ok (.if_icmp .ne 34, 3) := by decide +kernel
theorem dX5_isAsItMustBe_98 : decode cX5_isAsItMustBe 98 = .ok (.aload_n 0, 1) := by decide +kernel
theorem dX5_isAsItMustBe_99 : decode cX5_isAsItMustBe 99 = .ok (.getfield 38, 3) := by decide +kernel
theorem dX5_isAsItMustBe_102 : decode cX5_isAsItMustBe 102 = .ok (.iconst 0, 1) := by decide +kernel
theorem dX5_isAsItMustBe_103 : decode cX5_isAsItMustBe 103 = .ok (.iaload, 1) := by decide +kernel
theorem dX5_isAsItMustBe_104 : decode cX5_isAsItMustBe 104 = .ok (.bipush 20, 2) := by decide +kernel
theorem dX5_isAsItMustBe_106 : decode cX5_isAsItMustBe 106 = .ok (.if_icmp .lt 19, 3) := by decide +kernel
theorem dX5_isAsItMustBe_109 : decode cX5_isAsItMustBe 109 = .ok (.aload_n 0, 1) := by decide +kernel
theorem dX5_isAsItMustBe_110 : decode cX5_isAsItMustBe 110 = .ok (.getfield 38, 3) := by decide +kernel
theorem dX5_isAsItMustBe_113 : decode cX5_isAsItMustBe 113 = .ok (.iconst 0, 1) := by decide +kernel
theorem dX5_isAsItMustBe_114 : decode cX5_isAsItMustBe 114 = .ok (.iaload, 1) := by decide +kernel
theorem dX5_isAsItMustBe_115 : decode cX5_isAsItMustBe 115 = .ok (.sipush 200, 3) := by decide +kernel
theorem dX5_isAsItMustBe_118 : decode cX5_isAsItMustBe 118 = .ok (.if_icmp .gt 7, 3) := by decide +kernel
theorem dX5_isAsItMustBe_121 : decode cX5_isAsItMustBe 121 = .ok (.iconst 1, 1) := by decide +kernel
theorem dX5_isAsItMustBe_122 : decode cX5_isAsItMustBe 122 = .ok (.goto 41, 3) := by decide +kernel
theorem dX5_isAsItMustBe_125 : decode cX5_isAsItMustBe 125 = .ok (.iconst 0, 1) := by decide +kernel
theorem dX5_isAsItMustBe_126 : decode cX5_isAsItMustBe 126 = .ok (.goto 37, 3) := by decide +kernel
theorem dX5_isAsItMustBe_129 : decode cX5_isAsItMustBe 129 = .ok (.aload_n 0, 1) := by decide +kernel
theorem dX5_isAsItMustBe_130 : decode cX5_isAsItMustBe 130 = .ok (.getfield 75, 3) := by decide +kernel
theorem dX5_isAsItMustBe_133 : decode cX5_isAsItMustBe 133 = .ok (.iconst 5, 1) := by decide +kernel
theorem dX5_isAsItMustBe_134 : decode cX5_isAsItMustBe 134 = .ok (.if_icmp .ne 24, 3) := by decide +kernel
theorem dX5_isAsItMustBe_137 : decode cX5_isAsItMustBe 137 = .ok (.aload_n 0, 1) := by decide +kernel
theorem dX5_isAsItMustBe_138 : decode cX5_isAsItMustBe 138 = .ok (.getfield 38, 3) := by decide +kernel
theorem dX5_isAsItMustBe_141 : decode cX5_isAsItMustBe 141 = .ok (.iconst 0, 1) := by decide +kernel
theorem dX5_isAsItMustBe_142 : decode cX5_isAsItMustBe 142 = .ok (.iaload, 1) := by decide +kernel
theorem dX5_isAsItMustBe_143 : decode cX5_isAsItMustBe 143 = .ok (.iconst 1, 1) := by decide +kernel
theorem dX5_isAsItMustBe_144 : decode cX5_isAsItMustBe 144 = .ok (.if_icmp .lt 18, 3) := by decide +kernel
theorem dX5_isAsItMustBe_147 : decode cX5_isAsItMustBe 147 = .ok (.aload_n 0, 1) := by decide +kernel
theorem dX5_isAsItMustBe_148 : decode cX5_isAsItMustBe 148 = .ok (.getfield 38, 3) := by decide +kernel
theorem dX5_isAsItMustBe_151 : decode cX5_isAsItMustBe 151 = .ok (.iconst 0, 1) := by decide +kernel
theorem dX5_isAsItMustBe_152 : decode cX5_isAsItMustBe 152 = .ok (.iaload, 1) := by decide +kernel
theorem dX5_isAsItMustBe_153 : decode cX5_isAsItMustBe 153 = .ok (.bipush 60, 2) := by decide +kernel
theorem dX5_isAsItMustBe_155 : decode cX5_isAsItMustBe 155 = .ok (.if_icmp .gt 7, 3) := by decide +kernel
theorem dX5_isAsItMustBe_158 : decode cX5_isAsItMustBe 158 = .ok (.iconst 1, 1) := by decide +kernel
theorem dX5_isAsItMustBe_159 : decode cX5_isAsItMustBe 159 = .ok (.goto 4, 3) := by decide +kernel
theorem dX5_isAsItMustBe_162 : decode cX5_isAsItMustBe 162 = .ok (.iconst 0, 1) := by decide +kernel
theorem dX5_isAsItMustBe_163 : decode cX5_isAsItMustBe 163 = .ok (.ireturn, 1) := by decide +kernel
theorem dX5_come_0 : decode cX5_come 0 = .ok (.aload_n 0, 1) := by decide +kernel
theorem dX5_come_1 : decode cX5_come 1 = .ok (.getfield 75, 3) := by decide +kernel
theorem dX5_come_4 : decode cX5_come 4 = .ok (.tableswitch 166 0 4 #[36, 69, 84, 99, 151], 36) := by decide +kernel
theorem dX5_come_40 : decode cX5_come 40 = .ok (.aload_n 0, 1) := by decide +kernel
theorem dX5_come_41 : decode cX5_come 41 = .ok (.getfield 19, 3) := by decide +kernel
theorem dX5_come_44 : decode cX5_come 44 = .ok (.bipush 10, 2) := by decide +kernel
theorem dX5_come_46 : decode cX5_come 46 = .ok (.aload_n 0, 1) := by decide +kernel
theorem dX5_come_47 : decode cX5_come 47 = .ok (.getfield 19, 3) := by decide +kernel
theorem dX5_come_50 : decode cX5_come 50 = .ok (.iconst 0, 1) := by decide +kernel
theorem dX5_come_51 : decode cX5_come 51 = .ok (.iaload, 1) := by decide +kernel
theorem dX5_come_52 : decode cX5_come 52 = .ok (.iadd, 1) := by decide +kernel
theorem dX5_come_53 : decode cX5_come 53 = .ok (.aload_n 0, 1) := by decide +kernel
theorem dX5_come_54 : decode cX5_come 54 = .ok (.getfield 38, 3) := by decide +kernel
theorem dX5_come_57 : decode cX5_come 57 = .ok (.iconst 0, 1) := by decide +kernel
theorem dX5_come_58 : decode cX5_come 58 = .ok (.iaload, 1) := by decide +kernel
theorem dX5_come_59 : decode cX5_come 59 = .ok (.iastore, 1) := by decide +kernel
theorem dX5_come_60 : decode cX5_come 60 = .ok (.aload_n 0, 1) := by decide +kernel
theorem dX5_come_61 : decode cX5_come 61 = .ok (.getfield 19, 3) := by decide +kernel
theorem dX5_come_64 : decode cX5_come 64 = .ok (.iconst 0, 1) := by decide +kernel
theorem dX5_come_65 : decode cX5_come 65 = .ok (.dup2, 1) := by decide +kernel
theorem dX5_come_66 : decode cX5_come 66 = .ok (.iaload, 1) := by decide +kernel
theorem dX5_come_67 : decode cX5_come 67 = .ok (.iconst 1, 1) := by decide +kernel
theorem dX5_come_68 : decode cX5_come 68 = .ok (.iadd, 1) := by decide +kernel
theorem dX5_come_69 : decode cX5_come 69 = .ok (.iastore, 1) := by decide +kernel
theorem dX5_come_70 : decode cX5_come 70 = .ok (.goto 112, 3) := by decide +kernel
theorem dX5_come_73 : decode cX5_come 73 = .ok (.aload_n 0, 1) := by decide +kernel
theorem dX5_come_74 : decode cX5_come 74 = .ok (.getfield 19, 3) := by decide +kernel
theorem dX5_come_77 : decode cX5_come 77 = .ok (.iconst 1, 1) := by decide +kernel
theorem dX5_come_78 : decode cX5_come 78 = .ok (.aload_n 0, 1) := by decide +kernel
theorem dX5_come_79 : decode cX5_come 79 = .ok (.getfield 38, 3) := by decide +kernel
theorem dX5_come_82 : decode cX5_come 82 = .ok (.iconst 0, 1) := by decide +kernel
theorem dX5_come_83 : decode cX5_come 83 = .ok (.iaload, 1) := by decide +kernel
theorem dX5_come_84 : decode cX5_come 84 = .ok (.iastore, 1) := by decide +kernel
theorem dX5_come_85 : decode cX5_come 85 = .ok (.goto 97, 3) := by decide +kernel
theorem dX5_come_88 : decode cX5_come 88 = .ok (.aload_n 0, 1) := by decide +kernel
theorem dX5_come_89 : decode cX5_come 89 = .ok (.getfield 19, 3) := by decide +kernel
theorem dX5_come_92 : decode cX5_come 92 = .ok (.iconst 2, 1) := by decide +kernel
theorem dX5_come_93 : decode cX5_come 93 = .ok (.aload_n 0, 1) := by decide +kernel
theorem dX5_come_94 : decode cX5_come 94 = .ok (.getfield 38, 3) := by decide +kernel
theorem dX5_come_97 : decode cX5_come 97 = .ok (.iconst 0, 1) := by decide +kernel
theorem dX5_come_98 : decode cX5_come 98 = .ok (.iaload, 1) := by decide +kernel
theorem dX5_come_99 : decode cX5_come 99 = .ok (.iastore, 1) := by decide +kernel
theorem dX5_come_100 : decode cX5_come 100 = .ok (.goto 82, 3) := by decide +kernel
theorem dX5_come_103 : decode cX5_come 103 = .ok (.iconst 0, 1) := by decide +kernel
theorem dX5_come_104 : decode cX5_come 104 = .ok (.istore_n 1, 1) := by decide +kernel
theorem dX5_come_105 : decode cX5_come 105 = .ok (.iload_n 1, 1) := by decide +kernel
theorem dX5_come_106 : decode cX5_come 106 = .ok (.bipush 15, 2) := by decide +kernel
theorem dX5_come_108 : decode cX5_come 108 = .ok (.if_icmp .ge 34, 3) := by decide +kernel
theorem dX5_come_111 : decode cX5_come 111 = .ok (.aload_n 0, 1) := by decide +kernel
theorem dX5_come_112 : decode cX5_come 112 = .ok (.getfield 19, 3) := by decide +kernel
theorem dX5_come_115 : decode cX5_come 115 = .ok (.bipush 20, 2) := by decide +kernel
theorem dX5_come_117 : decode cX5_come 117 = .ok (.bipush 16, 2) := by decide +kernel
theorem dX5_come_119 : decode cX5_come 119 = .ok (.aload_n 0, 1) := by decide +kernel
theorem dX5_come_120 : decode cX5_come 120 = .ok (.getfield 19, 3) := by decide +kernel
theorem dX5_come_123 : decode cX5_come 123 = .ok (.iconst 3, 1) := by decide +kernel
theorem dX5_come_124 : decode cX5_come 124 = .ok (.iaload, 1) := by decide +kernel
theorem dX5_come_125 : decode cX5_come 125 = .ok (.imul, 1) := by decide +kernel
theorem dX5_come_126 : decode cX5_come 126 = .ok (.iadd, 1) := by decide +kernel
theorem dX5_come_127 : decode cX5_come 127 = .ok (.iload_n 1, 1) := by decide +kernel
theorem dX5_come_128 : decode cX5_come 128 = .ok (.iadd, 1) := by decide +kernel
theorem dX5_come_129 : decode cX5_come 129 = .ok (.aload_n 0, 1) := by decide +kernel
theorem dX5_come_130 : decode cX5_come 130 = .ok (.getfield 38, 3) := by decide +kernel
theorem dX5_come_133 : decode cX5_come 133 = .ok (.iload_n 1, 1) := by decide +kernel
theorem dX5_come_134 : decode cX5_come 134 = .ok (.iaload, 1) := by decide +kernel
theorem dX5_come_135 : decode cX5_come 135 = .ok (.iastore, 1) := by decide +kernel
theorem dX5_come_136 : decode cX5_come 136 = .ok (.iinc 1 1, 3) := by decide +kernel
theorem dX5_come_139 : decode cX5_come 139 = .ok (.goto (-34), 3) := by decide +kernel
theorem dX5_come_142 : decode cX5_come 142 = .ok (.aload_n 0, 1) := by decide +kernel
theorem dX5_come_143 : decode cX5_come 143 = .ok (.getfield 19, 3) := by decide +kernel
theorem dX5_come_146 : decode cX5_come 146 = .ok (.iconst 3, 1) := by decide +kernel
theorem dX5_come_147 : decode cX5_come 147 = .ok (.dup2, 1) := by decide +kernel
theorem dX5_come_148 : decode cX5_come 148 = .ok (.iaload, 1) := by decide +kernel
theorem dX5_come_149 : decode cX5_come 149 = .ok (.iconst 1, 1) := by decide +kernel
theorem dX5_come_150 : decode cX5_come 150 = .ok (.iadd, 1) := by decide +kernel
theorem dX5_come_151 : decode cX5_come 151 = .ok (.iastore, 1) := by decide +kernel
theorem dX5_come_152 : decode cX5_come 152 = .ok (.goto 30, 3) := by decide +kernel
theorem dX5_come_155 : decode cX5_come 155 = .ok (.aload_n 0, 1) := by decide +kernel
theorem dX5_come_156 : decode cX5_come 156 = .ok (.getfield 19, 3) := by decide +kernel
theorem dX5_come_159 : decode cX5_come 159 = .ok (.iconst 4, 1) := by decide +kernel
theorem dX5_come_160 : decode cX5_come 160 = .ok (.aload_n 0, 1) := by decide +kernel
theorem dX5_come_161 : decode cX5_come 161 = .ok (.getfield 38, 3) := by decide +kernel
theorem dX5_come_164 : decode cX5_come 164 = .ok (.iconst 0, 1) := by decide +kernel
theorem dX5_come_165 : decode cX5_come 165 = .ok (.iaload, 1) := by decide +kernel
theorem dX5_come_166 : decode cX5_come 166 = .ok (.iastore, 1) := by decide +kernel
theorem dX5_come_167 : decode cX5_come 167 = .ok (.goto 15, 3) := by decide +kernel
theorem dX5_come_170 : decode cX5_come 170 = .ok (.aload_n 0, 1) := by decide +kernel
theorem dX5_come_171 : decode cX5_come 171 = .ok (.getfield 19, 3) := by decide +kernel
theorem dX5_come_174 : decode cX5_come 174 = .ok (.iconst 5, 1) := by decide +kernel
theorem dX5_come_175 : decode cX5_come 175 = .ok (.aload_n 0, 1) := by decide +kernel
theorem dX5_come_176 : decode cX5_come 176 = .ok (.getfield 38, 3) := by decide +kernel
theorem dX5_come_179 : decode cX5_come 179 = .ok (.iconst 0, 1) := by decide +kernel
theorem dX5_come_180 : decode cX5_come 180 = .ok (.iaload, 1) := by decide +kernel
theorem dX5_come_181 : decode cX5_come 181 = .ok (.iastore, 1) := by decide +kernel
theorem dX5_come_182 : decode cX5_come 182 = .ok (.return_, 1) := by decide +kernel
theorem xiX5_read_X5 : GoodIn wsX5_read wsX50 := goodIn_sub (fun _ h => List.mem_cons_of_mem _ (List.mem_append_right _ h)) xgwX5
set_option maxRecDepth 20000 in
theorem ggX5_read_X5_statement : GoodIn wsX5_read wsX5_statement := (goodIn_ca (goodIn_r _ [10, 11, 5, 12, 13, 2, 1, 3, 14, 15, 16, 17, 9, 18, 19, 20, 21, 22, 23, 24, 25, 26] rfl (by decide +kernel)) xiX5_read_X5)
set_option maxRecDepth 20000 in
theorem gX5_read_X5_statement : GoodIn wsX5_read (wsV RX5 82 RX5 yX5_statement wsX5_statement) := goodIn_app (goodIn_r _ [6, 7, 8, 9] rfl (by decide +kernel)) ggX5_read_X5_statement
set_option maxRecDepth 20000 in
theorem ggX5_read_X5_isAsItMustBe : GoodIn wsX5_read wsX5_isAsItMustBe := (goodIn_ca (goodIn_r _ [30, 5, 12] rfl (by decide +kernel)) xiX5_read_X5)
set_option maxRecDepth 20000 in
theorem gX5_read_X5_isAsItMustBe : GoodIn wsX5_read (wsV RX5 85 RX5 yX5_isAsItMustBe wsX5_isAsItMustBe) := goodIn_app (goodIn_r _ [27, 28, 29, 9] rfl (by decide +kernel)) ggX5_read_X5_isAsItMustBe
set_option maxRecDepth 20000 in
theorem ggX5_read_X5_come : GoodIn wsX5_read wsX5_come := (goodIn_ca (goodIn_r _ [34, 5, 4, 12] rfl (by decide +kernel)) xiX5_read_X5)
set_option maxRecDepth 20000 in
theorem gX5_read_X5_come : GoodIn wsX5_read (wsV RX5 89 RX5 yX5_come wsX5_come) := goodIn_app (goodIn_r _ [31, 32, 33, 9] rfl (by decide +kernel)) ggX5_read_X5_come
theorem dX5_read_0 : decode cX5_read 0 = .ok (.iconst 0, 1) := by decide +kernel
theorem dX5_read_1 : decode cX5_read 1 = .ok (.istore_n 1, 1) := by decide +kernel
theorem dX5_read_2 : decode cX5_read 2 = .ok (.aload_n 0, 1) := by decide +kernel
theorem dX5_read_3 : decode cX5_read 3 = .ok (.iconst 0, 1) := by decide +kernel
theorem dX5_read_4 : decode cX5_read 4 = .ok (.putfield 64, 3) := by decide +kernel
theorem dX5_read_7 : decode cX5_read 7 = .ok (.aload_n 0, 1) := by decide +kernel
theorem dX5_read_8 : decode cX5_read 8 = .ok (.iconst 1, 1) := by decide +kernel
theorem dX5_read_9 : decode cX5_read 9 = .ok (.putfield 61, 3) := by decide +kernel
theorem dX5_read_12 : decode cX5_read 12 = .ok (.aload_n 0, 1) := by decide +kernel
theorem dX5_read_13 : decode cX5_read 13 = .ok (.invokevirtual 82, 3) := by decide +kernel
theorem dX5_read_16 : decode cX5_read 16 = .ok (.iinc 1 1, 3) := by decide +kernel
theorem dX5_read_19 : decode cX5_read 19 = .ok (.aload_n 0, 1) := by decide +kernel
theorem dX5_read_20 : decode cX5_read 20 = .ok (.getfield 61, 3) := by decide +kernel
theorem dX5_read_23 : decode cX5_read 23 = .ok (.ifCond .eq 14, 3) := by decide +kernel
theorem dX5_read_26 : decode cX5_read 26 = .ok (.aload_n 0, 1) := by decide +kernel
theorem dX5_read_27 : decode cX5_read 27 = .ok (.getfield 64, 3) := by decide +kernel
theorem dX5_read_30 : decode cX5_read 30 = .ok (.aload_n 0, 1) := by decide +kernel
theorem dX5_read_31 : decode cX5_read 31 = .ok (.getfield 57, 3) := by decide +kernel
theorem dX5_read_34 : decode cX5_read 34 = .ok (.if_icmp .lt (-22), 3) := by decide +kernel
theorem dX5_read_37 : decode cX5_read 37 = .ok (.aload_n 0, 1) := by decide +kernel
theorem dX5_read_38 : decode cX5_read 38 = .ok (.getfield 61, 3) := by decide +kernel
theorem dX5_read_41 : decode cX5_read 41 = .ok (.ifCond .ne 12, 3) := by decide +kernel
theorem dX5_read_44 : decode cX5_read 44 = .ok (.sipush (-1000), 3) := by decide +kernel
theorem dX5_read_47 : decode cX5_read 47 = .ok (.aload_n 0, 1) := by decide +kernel
theorem dX5_read_48 : decode cX5_read 48 = .ok (.getfield 64, 3) := by decide +kernel
theorem dX5_read_51 : decode cX5_read 51 = .ok (.isub, 1) := by decide +kernel
theorem dX5_read_52 : decode cX5_read 52 = .ok (.ireturn, 1) := by decide +kernel
theorem dX5_read_53 : decode cX5_read 53 = .ok (.aload_n 0, 1) := by decide +kernel
theorem dX5_read_54 : decode cX5_read 54 = .ok (.iconst 0, 1) := by decide +kernel
theorem dX5_read_55 : decode cX5_read 55 = .ok (.putfield 64, 3) := by decide +kernel
theorem dX5_read_58 : decode cX5_read 58 = .ok (.aload_n 0, 1) := by decide +kernel
theorem dX5_read_59 : decode cX5_read 59 = .ok (.getfield 19, 3) := by decide +kernel
theorem dX5_read_62 : decode cX5_read 62 = .ok (.iconst 0, 1) := by decide +kernel
theorem dX5_read_63 : decode cX5_read 63 = .ok (.iaload, 1) := by decide +kernel
theorem dX5_read_64 : decode cX5_read 64 = .ok (.istore_n 2, 1) := by decide +kernel
theorem dX5_read_65 : decode cX5_read 65 = .ok (.aload_n 0, 1) := by decide +kernel
theorem dX5_read_66 : decode cX5_read 66 = .ok (.getfield 19, 3) := by decide +kernel
theorem dX5_read_69 : decode cX5_read 69 = .ok (.iconst 3, 1) := by decide +kernel
theorem dX5_read_70 : decode cX5_read 70 = .ok (.iaload, 1) := by decide +kernel
theorem dX5_read_71 : decode cX5_read 71 = .ok (.istore_n 3, 1) := by decide +kernel
theorem dX5_read_72 : decode cX5_read 72 = .ok (.aload_n 0, 1) := by decide +kernel
theorem dX5_read_73 : decode cX5_read 73 = .ok (.getfield 64, 3) := by decide +kernel
theorem dX5_read_76 : decode cX5_read 76 = .ok (.aload_n 0, 1) := by decide +kernel
theorem dX5_read_77 : decode cX5_read 77 = .ok (.getfield 57, 3) := by decide +kernel
theorem dX5_read_80 : decode cX5_read 80 = .ok (.if_icmp .ge 63, 3) := by decide +kernel
theorem dX5_read_83 : decode cX5_read 83 = .ok (.aload_n 0, 1) := by decide +kernel
theorem dX5_read_84 : decode cX5_read 84 = .ok (.getfield 64, 3) := by decide +kernel
theorem dX5_read_87 : decode cX5_read 87 = .ok (.istore 4, 2) := by decide +kernel
theorem dX5_read_89 : decode cX5_read 89 = .ok (.aload_n 0, 1) := by decide +kernel
theorem dX5_read_90 : decode cX5_read 90 = .ok (.invokevirtual 82, 3) := by decide +kernel
theorem dX5_read_93 : decode cX5_read 93 = .ok (.aload_n 0, 1) := by decide +kernel
theorem dX5_read_94 : decode cX5_read 94 = .ok (.iload_n 2, 1) := by decide +kernel
theorem dX5_read_95 : decode cX5_read 95 = .ok (.iload_n 3, 1) := by decide +kernel
theorem dX5_read_96 : decode cX5_read 96 = .ok (.invokevirtual 85, 3) := by decide +kernel
theorem dX5_read_99 : decode cX5_read 99 = .ok (.ifCond .ne 10, 3) := by decide +kernel
theorem dX5_read_102 : decode cX5_read 102 = .ok (.sipush (-2000), 3) := by decide +kernel
theorem dX5_read_105 : decode cX5_read 105 = .ok (.iload 4, 2) := by decide +kernel
theorem dX5_read_107 : decode cX5_read 107 = .ok (.isub, 1) := by decide +kernel
theorem dX5_read_108 : decode cX5_read 108 = .ok (.ireturn, 1) := by decide +kernel
theorem dX5_read_109 : decode cX5_read 109 = .ok (.iload_n 2, 1) := by decide +kernel
theorem dX5_read_110 : decode cX5_read 110 = .ok (.aload_n 0, 1) := by decide +kernel
theorem dX5_read_111 : decode cX5_read 111 = .ok (.getfield 75, 3) := by decide +kernel
theorem dX5_read_114 : decode cX5_read 114 = .ok (.ifCond .ne 7, 3) := by decide +kernel
theorem dX5_read_117 : decode cX5_read 117 = .ok (.iconst 1, 1) := by decide +kernel
theorem dX5_read_118 : decode cX5_read 118 = .ok (.goto 4, 3) := by decide +kernel
theorem dX5_read_121 : decode cX5_read 121 = .ok (.iconst 0, 1) := by decide +kernel
theorem dX5_read_122 : decode cX5_read 122 = .ok (.iadd, 1) := by decide +kernel
theorem dX5_read_123 : decode cX5_read 123 = .ok (.istore_n 2, 1) := by decide +kernel
theorem dX5_read_124 : decode cX5_read 124 = .ok (.iload_n 3, 1) := by decide +kernel
theorem dX5_read_125 : decode cX5_read 125 = .ok (.aload_n 0, 1) := by decide +kernel
theorem dX5_read_126 : decode cX5_read 126 = .ok (.getfield 75, 3) := by decide +kernel
theorem dX5_read_129 : decode cX5_read 129 = .ok (.iconst 3, 1) := by decide +kernel
theorem dX5_read_130 : decode cX5_read 130 = .ok (.if_icmp .ne 7, 3) := by decide +kernel
theorem dX5_read_133 : decode cX5_read 133 = .ok (.iconst 1, 1) := by decide +kernel
theorem dX5_read_134 : decode cX5_read 134 = .ok (.goto 4, 3) := by decide +kernel
theorem dX5_read_137 : decode cX5_read 137 = .ok (.iconst 0, 1) := by decide +kernel
theorem dX5_read_138 : decode cX5_read 138 = .ok (.iadd, 1) := by decide +kernel
theorem dX5_read_139 : decode cX5_read 139 = .ok (.istore_n 3, 1) := by decide +kernel
theorem dX5_read_140 : decode cX5_read 140 = .ok (.goto (-68), 3) := by decide +kernel
theorem dX5_read_143 : decode cX5_read 143 = .ok (.aload_n 0, 1) := by decide +kernel
theorem dX5_read_144 : decode cX5_read 144 = .ok (.iconst 0, 1) := by decide +kernel
theorem dX5_read_145 : decode cX5_read 145 = .ok (.putfield 64, 3) := by decide +kernel
theorem dX5_read_148 : decode cX5_read 148 = .ok (.aload_n 0, 1) := by decide +kernel
theorem dX5_read_149 : decode cX5_read 149 = .ok (.getfield 64, 3) := by decide +kernel
theorem dX5_read_152 : decode cX5_read 152 = .ok (.aload_n 0, 1) := by decide +kernel
theorem dX5_read_153 : decode cX5_read 153 = .ok (.getfield 57, 3) := by decide +kernel
theorem dX5_read_156 : decode cX5_read 156 = .ok (.if_icmp .ge 14, 3) := by decide +kernel
theorem dX5_read_159 : decode cX5_read 159 = .ok (.aload_n 0, 1) := by decide +kernel
theorem dX5_read_160 : decode cX5_read 160 = .ok (.invokevirtual 82, 3) := by decide +kernel
theorem dX5_read_163 : decode cX5_read 163 = .ok (.aload_n 0, 1) := by decide +kernel
theorem dX5_read_164 : decode cX5_read 164 = .ok (.invokevirtual 89, 3) := by decide +kernel
theorem dX5_read_167 : decode cX5_read 167 = .ok (.goto (-19), 3) := by decide +kernel
theorem dX5_read_170 : decode cX5_read 170 = .ok (.iload_n 1, 1) := by decide +kernel
theorem dX5_read_171 : decode cX5_read 171 = .ok (.ireturn, 1) := by decide +kernel
theorem xiX5_road_X5 : GoodIn wsX5_road wsX50 := goodIn_sub (fun _ h => List.mem_cons_of_mem _ (List.mem_append_right _ h)) xgwX5
set_option maxRecDepth 20000 in
theorem ggX5_road_X5_read : GoodIn wsX5_road wsX5_read := (goodIn_ca (goodIn_r _ [6, 7, 8, 1, 9, 10, 11, 12, 13, 5, 14, 15, 16, 17, 18, 19, 20, 21, 22, 23, 24, 25, 26, 27, 28, 29, 30, 31, 32, 33, 34, 35, 36, 37, 38] rfl (by decide +kernel)) xiX5_road_X5)
set_option maxRecDepth 20000 in
theorem gX5_road_X5_read : GoodIn wsX5_road (wsV RX5 92 RX5 yX5_read wsX5_read) := goodIn_app (goodIn_r _ [2, 3, 4, 5] rfl (by decide +kernel)) ggX5_road_X5_read
theorem dX5_road_0 : decode cX5_road 0 = .ok (.aload_n 0, 1) := by decide +kernel
theorem dX5_road_1 : decode cX5_road 1 = .ok (.invokevirtual 92, 3) := by decide +kernel
theorem dX5_road_4 : decode cX5_road 4 = .ok (.istore_n 1, 1) := by decide +kernel
theorem dX5_road_5 : decode cX5_road 5 = .ok (.aload_n 0, 1) := by decide +kernel
theorem dX5_road_6 : decode cX5_road 6 = .ok (.iconst 0, 1) := by decide +kernel
theorem dX5_road_7 : decode cX5_road 7 = .ok (.putfield 57, 3) := by decide +kernel
theorem dX5_road_10 : decode cX5_road 10 = .ok (.iload_n 1, 1) := by decide +kernel
theorem dX5_road_11 : decode cX5_road 11 = .ok (.ireturn, 1) := by decide +kernel
theorem dX5_minutes_0 : decode cX5_minutes 0 = .ok (.iload_n 0, 1) := by decide +kernel
theorem dX5_minutes_1 : decode cX5_minutes 1 = .ok (.iload_n 1, 1) := by decide +kernel
theorem dX5_minutes_2 : decode cX5_minutes 2 = .ok (.iadd, 1) := by decide +kernel
theorem dX5_minutes_3 : decode cX5_minutes 3 = .ok (.iconst 1, 1) := by decide +kernel
theorem dX5_minutes_4 : decode cX5_minutes 4 = .ok (.isub, 1) := by decide +kernel
theorem dX5_minutes_5 : decode cX5_minutes 5 = .ok (.iload_n 1, 1) := by decide +kernel
theorem dX5_minutes_6 : decode cX5_minutes 6 = .ok (.idiv, 1) := by decide +kernel
theorem dX5_minutes_7 : decode cX5_minutes 7 = .ok (.ireturn, 1) := by decide +kernel
set_option maxRecDepth 20000 in
theorem ggX5_leg_X5_minutes : GoodIn wsX5_leg wsX5_minutes := goodIn_r _ [5] rfl (by decide +kernel)
set_option maxRecDepth 20000 in
theorem gX5_leg_X5_minutes : GoodIn wsX5_leg (va_wsS RX5 96 yX5_minutes wsX5_minutes) := goodIn_app (goodIn_r _ [2, 3, 4] rfl (by decide +kernel)) ggX5_leg_X5_minutes
theorem dX5_leg_0 : decode cX5_leg 0 = .ok (.iload_n 1, 1) := by decide +kernel
theorem dX5_leg_1 : decode cX5_leg 1 = .ok (.aload_n 0, 1) := by decide +kernel
theorem dX5_leg_2 : decode cX5_leg 2 = .ok (.getfield 19, 3) := by decide +kernel
theorem dX5_leg_5 : decode cX5_leg 5 = .ok (.iconst 0, 1) := by decide +kernel
theorem dX5_leg_6 : decode cX5_leg 6 = .ok (.iaload, 1) := by decide +kernel
theorem dX5_leg_7 : decode cX5_leg 7 = .ok (.if_icmp .ne 12, 3) := by decide +kernel
theorem dX5_leg_10 : decode cX5_leg 10 = .ok (.aload_n 0, 1) := by decide +kernel
theorem dX5_leg_11 : decode cX5_leg 11 = .ok (.getfield 19, 3) := by decide +kernel
theorem dX5_leg_14 : decode cX5_leg 14 = .ok (.iconst 1, 1) := by decide +kernel
theorem dX5_leg_15 : decode cX5_leg 15 = .ok (.iaload, 1) := by decide +kernel
theorem dX5_leg_16 : decode cX5_leg 16 = .ok (.goto 12, 3) := by decide +kernel
theorem dX5_leg_19 : decode cX5_leg 19 = .ok (.aload_n 0, 1) := by decide +kernel
theorem dX5_leg_20 : decode cX5_leg 20 = .ok (.getfield 19, 3) := by decide +kernel
theorem dX5_leg_23 : decode cX5_leg 23 = .ok (.bipush 10, 2) := by decide +kernel
theorem dX5_leg_25 : decode cX5_leg 25 = .ok (.iload_n 1, 1) := by decide +kernel
theorem dX5_leg_26 : decode cX5_leg 26 = .ok (.iadd, 1) := by decide +kernel
theorem dX5_leg_27 : decode cX5_leg 27 = .ok (.iaload, 1) := by decide +kernel
theorem dX5_leg_28 : decode cX5_leg 28 = .ok (.iload_n 2, 1) := by decide +kernel
theorem dX5_leg_29 : decode cX5_leg 29 = .ok (.invokestatic 96, 3) := by decide +kernel
theorem dX5_leg_32 : decode cX5_leg 32 = .ok (.ireturn, 1) := by decide +kernel
theorem xiX5_rest_X5 : GoodIn wsX5_rest wsX50 := goodIn_sub (fun _ h => List.mem_cons_of_mem _ (List.mem_append_right _ h)) xgwX5
set_option maxRecDepth 20000 in
theorem ggX5_rest_X5_leg : GoodIn wsX5_rest wsX5_leg := (goodIn_ca (goodIn_r _ [6, 1, 7, 8, 5, 9] rfl (by decide +kernel)) xiX5_rest_X5)
set_option maxRecDepth 20000 in
theorem gX5_rest_X5_leg : GoodIn wsX5_rest (wsV RX5 99 RX5 yX5_leg wsX5_leg) := goodIn_app (goodIn_r _ [2, 3, 4, 5] rfl (by decide +kernel)) ggX5_rest_X5_leg
theorem dX5_rest_0 : decode cX5_rest 0 = .ok (.iconst 0, 1) := by decide +kernel
theorem dX5_rest_1 : decode cX5_rest 1 = .ok (.istore_n 2, 1) := by decide +kernel
theorem dX5_rest_2 : decode cX5_rest 2 = .ok (.iload_n 1, 1) := by decide +kernel
theorem dX5_rest_3 : decode cX5_rest 3 = .ok (.iconst 1, 1) := by decide +kernel
theorem dX5_rest_4 : decode cX5_rest 4 = .ok (.iadd, 1) := by decide +kernel
theorem dX5_rest_5 : decode cX5_rest 5 = .ok (.istore_n 3, 1) := by decide +kernel
theorem dX5_rest_6 : decode cX5_rest 6 = .ok (.iload_n 3, 1) := by decide +kernel
theorem dX5_rest_7 : decode cX5_rest 7 = .ok (.aload_n 0, 1) := by decide +kernel
theorem dX5_rest_8 : decode cX5_rest 8 = .ok (.getfield 19, 3) := by decide +kernel
theorem dX5_rest_11 : decode cX5_rest 11 = .ok (.iconst 0, 1) := by decide +kernel
theorem dX5_rest_12 : decode cX5_rest 12 = .ok (.iaload, 1) := by decide +kernel
theorem dX5_rest_13 : decode cX5_rest 13 = .ok (.if_icmp .gt 23, 3) := by decide +kernel
theorem dX5_rest_16 : decode cX5_rest 16 = .ok (.iload_n 2, 1) := by decide +kernel
theorem dX5_rest_17 : decode cX5_rest 17 = .ok (.aload_n 0, 1) := by decide +kernel
theorem dX5_rest_18 : decode cX5_rest 18 = .ok (.iload_n 3, 1) := by decide +kernel
theorem dX5_rest_19 : decode cX5_rest 19 = .ok (.aload_n 0, 1) := by decide +kernel
theorem dX5_rest_20 : decode cX5_rest 20 = .ok (.getfield 19, 3) := by decide +kernel
theorem dX5_rest_23 : decode cX5_rest 23 = .ok (.iconst 2, 1) := by decide +kernel
theorem dX5_rest_24 : decode cX5_rest 24 = .ok (.iaload, 1) := by decide +kernel
theorem dX5_rest_25 : decode cX5_rest 25 = .ok (.invokevirtual 99, 3) := by decide +kernel
theorem dX5_rest_28 : decode cX5_rest 28 = .ok (.iadd, 1) := by decide +kernel
theorem dX5_rest_29 : decode cX5_rest 29 = .ok (.istore_n 2, 1) := by decide +kernel
theorem dX5_rest_30 : decode cX5_rest 30 = .ok (.iinc 3 1, 3) := by decide +kernel
theorem dX5_rest_33 : decode cX5_rest 33 = .ok (.goto (-27), 3) := by decide +kernel
theorem dX5_rest_36 : decode cX5_rest 36 = .ok (.iload_n 2, 1) := by decide +kernel
theorem dX5_rest_37 : decode cX5_rest 37 = .ok (.ireturn, 1) := by decide +kernel
theorem dX5_ride_0 : decode cX5_ride 0 = .ok (.aload_n 0, 1) := by decide +kernel
theorem dX5_ride_1 : decode cX5_ride 1 = .ok (.getfield 19, 3) := by decide +kernel
theorem dX5_ride_4 : decode cX5_ride 4 = .ok (.bipush 20, 2) := by decide +kernel
theorem dX5_ride_6 : decode cX5_ride 6 = .ok (.bipush 16, 2) := by decide +kernel
theorem dX5_ride_8 : decode cX5_ride 8 = .ok (.iload_n 1, 1) := by decide +kernel
theorem dX5_ride_9 : decode cX5_ride 9 = .ok (.imul, 1) := by decide +kernel
theorem dX5_ride_10 : decode cX5_ride 10 = .ok (.iadd, 1) := by decide +kernel
theorem dX5_ride_11 : decode cX5_ride 11 = .ok (.iaload, 1) := by decide +kernel
theorem dX5_ride_12 : decode cX5_ride 12 = .ok (.istore_n 3, 1) := by decide +kernel
theorem dX5_ride_13 : decode cX5_ride 13 = .ok (.aload_n 0, 1) := by decide +kernel
theorem dX5_ride_14 : decode cX5_ride 14 = .ok (.getfield 19, 3) := by decide +kernel
theorem dX5_ride_17 : decode cX5_ride 17 = .ok (.bipush 20, 2) := by decide +kernel
theorem dX5_ride_19 : decode cX5_ride 19 = .ok (.bipush 16, 2) := by decide +kernel
theorem dX5_ride_21 : decode cX5_ride 21 = .ok (.iload_n 1, 1) := by decide +kernel
theorem dX5_ride_22 : decode cX5_ride 22 = .ok (.imul, 1) := by decide +kernel
theorem dX5_ride_23 : decode cX5_ride 23 = .ok (.iadd, 1) := by decide +kernel
theorem dX5_ride_24 : decode cX5_ride 24 = .ok (.iconst 1, 1) := by decide +kernel
theorem dX5_ride_25 : decode cX5_ride 25 = .ok (.iadd, 1) := by decide +kernel
theorem dX5_ride_26 : decode cX5_ride 26 = .ok (.iaload, 1) := by decide +kernel
theorem dX5_ride_27 : decode cX5_ride 27 = .ok (.istore 4, 2) := by decide +kernel
theorem dX5_ride_29 : decode cX5_ride 29 = .ok (.iload_n 3, 1) := by decide +kernel
theorem dX5_ride_30 : decode cX5_ride 30 = .ok (.iconst 1, 1) := by decide +kernel
theorem dX5_ride_31 : decode cX5_ride 31 = .ok (.if_icmp .ne 10, 3) := by decide +kernel
theorem dX5_ride_34 : decode cX5_ride 34 = .ok (.iload 4, 2) := by decide +kernel
theorem dX5_ride_36 : decode cX5_ride 36 = .ok (.iconst 1, 1) := by decide +kernel
theorem dX5_ride_37 : decode cX5_ride 37 = .ok (.iadd, 1) := by decide +kernel
theorem dX5_ride_38 : decode cX5_ride 38 = .ok (.goto 40, 3) := by decide +kernel
theorem dX5_ride_41 : decode cX5_ride 41 = .ok (.iload_n 3, 1) := by decide +kernel
theorem dX5_ride_42 : decode cX5_ride 42 = .ok (.iconst 3, 1) := by decide +kernel
theorem dX5_ride_43 : decode cX5_ride 43 = .ok (.if_icmp .ne 19, 3) := by decide +kernel
theorem dX5_ride_46 : decode cX5_ride 46 = .ok (.iload 4, 2) := by decide +kernel
theorem dX5_ride_48 : decode cX5_ride 48 = .ok (.iload_n 2, 1) := by decide +kernel
theorem dX5_ride_49 : decode cX5_ride 49 = .ok (.ifCond .ne 8, 3) := by decide +kernel
theorem dX5_ride_52 : decode cX5_ride 52 = .ok (.bipush 6, 2) := by decide +kernel
theorem dX5_ride_54 : decode cX5_ride 54 = .ok (.goto 4, 3) := by decide +kernel
theorem dX5_ride_57 : decode cX5_ride 57 = .ok (.iconst 1, 1) := by decide +kernel
theorem dX5_ride_58 : decode cX5_ride 58 = .ok (.iadd, 1) := by decide +kernel
theorem dX5_ride_59 : decode cX5_ride 59 = .ok (.goto 19, 3) := by decide +kernel
theorem dX5_ride_62 : decode cX5_ride 62 = .ok (.iload_n 3, 1) := by decide +kernel
theorem dX5_ride_63 : decode cX5_ride 63 = .ok (.iconst 4, 1) := by decide +kernel
theorem dX5_ride_64 : decode cX5_ride 64 = .ok (.if_icmp .ne 12, 3) := by decide +kernel
theorem dX5_ride_67 : decode cX5_ride 67 = .ok (.iload 4, 2) := by decide +kernel
theorem dX5_ride_69 : decode cX5_ride 69 = .ok (.iconst 1, 1) := by decide +kernel
theorem dX5_ride_70 : decode cX5_ride 70 = .ok (.iadd, 1) := by decide +kernel
theorem dX5_ride_71 : decode cX5_ride 71 = .ok (.iconst 2, 1) := by decide +kernel
theorem dX5_ride_72 : decode cX5_ride 72 = .ok (.idiv, 1) := by decide +kernel
theorem dX5_ride_73 : decode cX5_ride 73 = .ok (.goto 5, 3) := by decide +kernel
theorem dX5_ride_76 : decode cX5_ride 76 = .ok (.iload 4, 2) := by decide +kernel
theorem dX5_ride_78 : decode cX5_ride 78 = .ok (.ireturn, 1) := by decide +kernel
theorem xiX5_to_X5 : GoodIn wsX5_to wsX50 := goodIn_sub (fun _ h => List.mem_cons_of_mem _ (List.mem_append_right _ h)) xgwX5
set_option maxRecDepth 20000 in
theorem ggX5_to_X5_ride : GoodIn wsX5_to wsX5_ride := (goodIn_ca (goodIn_r _ [5, 6] rfl (by decide +kernel)) xiX5_to_X5)
set_option maxRecDepth 20000 in
theorem gX5_to_X5_ride : GoodIn wsX5_to (wsV RX5 102 RX5 yX5_ride wsX5_ride) := goodIn_app (goodIn_r _ [1, 2, 3, 4] rfl (by decide +kernel)) ggX5_to_X5_ride
theorem dX5_to_0 : decode cX5_to 0 = .ok (.iconst 0, 1) := by decide +kernel
theorem dX5_to_1 : decode cX5_to 1 = .ok (.istore_n 3, 1) := by decide +kernel
theorem dX5_to_2 : decode cX5_to 2 = .ok (.iconst 0, 1) := by decide +kernel
theorem dX5_to_3 : decode cX5_to 3 = .ok (.istore 4, 2) := by decide +kernel
theorem dX5_to_5 : decode cX5_to 5 = .ok (.iload 4, 2) := by decide +kernel
theorem dX5_to_7 : decode cX5_to 7 = .ok (.iload_n 2, 1) := by decide +kernel
theorem dX5_to_8 : decode cX5_to 8 = .ok (.if_icmp .ge 19, 3) := by decide +kernel
theorem dX5_to_11 : decode cX5_to 11 = .ok (.iload_n 3, 1) := by decide +kernel
theorem dX5_to_12 : decode cX5_to 12 = .ok (.aload_n 0, 1) := by decide +kernel
theorem dX5_to_13 : decode cX5_to 13 = .ok (.iload_n 1, 1) := by decide +kernel
theorem dX5_to_14 : decode cX5_to 14 = .ok (.iload 4, 2) := by decide +kernel
theorem dX5_to_16 : decode cX5_to 16 = .ok (.invokevirtual 102, 3) := by decide +kernel
theorem dX5_to_19 : decode cX5_to 19 = .ok (.iadd, 1) := by decide +kernel
theorem dX5_to_20 : decode cX5_to 20 = .ok (.istore_n 3, 1) := by decide +kernel
theorem dX5_to_21 : decode cX5_to 21 = .ok (.iinc 4 1, 3) := by decide +kernel
theorem dX5_to_24 : decode cX5_to 24 = .ok (.goto (-19), 3) := by decide +kernel
theorem dX5_to_27 : decode cX5_to 27 = .ok (.iload_n 3, 1) := by decide +kernel
theorem dX5_to_28 : decode cX5_to 28 = .ok (.ireturn, 1) := by decide +kernel
theorem xiX5_toLast_X5 : GoodIn wsX5_toLast wsX50 := goodIn_sub (fun _ h => List.mem_cons_of_mem _ (List.mem_append_right _ h)) xgwX5
set_option maxRecDepth 20000 in
theorem ggX5_toLast_X5_to : GoodIn wsX5_toLast wsX5_to := (goodIn_ca (goodIn_r _ [6, 7, 8, 9, 5, 10, 1] rfl (by decide +kernel)) xiX5_toLast_X5)
set_option maxRecDepth 20000 in
theorem gX5_toLast_X5_to : GoodIn wsX5_toLast (wsV RX5 105 RX5 yX5_to wsX5_to) := goodIn_app (goodIn_r _ [2, 3, 4, 5] rfl (by decide +kernel)) ggX5_toLast_X5_to
theorem dX5_toLast_0 : decode cX5_toLast 0 = .ok (.aload_n 0, 1) := by decide +kernel
theorem dX5_toLast_1 : decode cX5_toLast 1 = .ok (.iload_n 1, 1) := by decide +kernel
theorem dX5_toLast_2 : decode cX5_toLast 2 = .ok (.aload_n 0, 1) := by decide +kernel
theorem dX5_toLast_3 : decode cX5_toLast 3 = .ok (.getfield 19, 3) := by decide +kernel
theorem dX5_toLast_6 : decode cX5_toLast 6 = .ok (.iconst 0, 1) := by decide +kernel
theorem dX5_toLast_7 : decode cX5_toLast 7 = .ok (.iaload, 1) := by decide +kernel
theorem dX5_toLast_8 : decode cX5_toLast 8 = .ok (.iconst 1, 1) := by decide +kernel
theorem dX5_toLast_9 : decode cX5_toLast 9 = .ok (.isub, 1) := by decide +kernel
theorem dX5_toLast_10 : decode cX5_toLast 10 = .ok (.invokevirtual 105, 3) := by decide +kernel
theorem dX5_toLast_13 : decode cX5_toLast 13 = .ok (.ireturn, 1) := by decide +kernel
theorem dX5_halts_0 : decode cX5_halts 0 = .ok (.aload_n 0, 1) := by decide +kernel
theorem dX5_halts_1 : decode cX5_halts 1 = .ok (.getfield 19, 3) := by decide +kernel
theorem dX5_halts_4 : decode cX5_halts 4 = .ok (.bipush 20, 2) := by decide +kernel
theorem dX5_halts_6 : decode cX5_halts 6 = .ok (.bipush 16, 2) := by decide +kernel
theorem dX5_halts_8 : decode cX5_halts 8 = .ok (.iload_n 1, 1) := by decide +kernel
theorem dX5_halts_9 : decode cX5_halts 9 = .ok (.imul, 1) := by decide +kernel
theorem dX5_halts_10 : decode cX5_halts 10 = .ok (.iadd, 1) := by decide +kernel
theorem dX5_halts_11 : decode cX5_halts 11 = .ok (.iaload, 1) := by decide +kernel
theorem dX5_halts_12 : decode cX5_halts 12 = .ok (.istore_n 3, 1) := by decide +kernel
theorem dX5_halts_13 : decode cX5_halts 13 = .ok (.iload_n 3, 1) := by decide +kernel
theorem dX5_halts_14 : decode cX5_halts 14 = .ok (.iconst 2, 1) := by decide +kernel
theorem dX5_halts_15 : decode cX5_halts 15 = .ok (.if_icmp .eq 8, 3) := by decide +kernel
theorem dX5_halts_18 : decode cX5_halts 18 = .ok (.iload_n 3, 1) := by decide +kernel
theorem dX5_halts_19 : decode cX5_halts 19 = .ok (.iconst 4, 1) := by decide +kernel
theorem dX5_halts_20 : decode cX5_halts 20 = .ok (.if_icmp .ne 21, 3) := by decide +kernel
theorem dX5_halts_23 : decode cX5_halts 23 = .ok (.iload_n 2, 1) := by decide +kernel
theorem dX5_halts_24 : decode cX5_halts 24 = .ok (.iconst 2, 1) := by decide +kernel
theorem dX5_halts_25 : decode cX5_halts 25 = .ok (.irem, 1) := by decide +kernel
theorem dX5_halts_26 : decode cX5_halts 26 = .ok (.ifCond .eq 15, 3) := by decide +kernel
theorem dX5_halts_29 : decode cX5_halts 29 = .ok (.iload_n 2, 1) := by decide +kernel
theorem dX5_halts_30 : decode cX5_halts 30 = .ok (.aload_n 0, 1) := by decide +kernel
theorem dX5_halts_31 : decode cX5_halts 31 = .ok (.getfield 19, 3) := by decide +kernel
theorem dX5_halts_34 : decode cX5_halts 34 = .ok (.iconst 0, 1) := by decide +kernel
theorem dX5_halts_35 : decode cX5_halts 35 = .ok (.iaload, 1) := by decide +kernel
theorem dX5_halts_36 : decode cX5_halts 36 = .ok (.iconst 1, 1) := by decide +kernel
theorem dX5_halts_37 : decode cX5_halts 37 = .ok (.isub, 1) := by decide +kernel
theorem dX5_halts_38 : decode cX5_halts 38 = .ok (.if_icmp .ne 7, 3) := by decide +kernel
theorem dX5_halts_41 : decode cX5_halts 41 = .ok (.iconst 1, 1) := by decide +kernel
theorem dX5_halts_42 : decode cX5_halts 42 = .ok (.goto 4, 3) := by decide +kernel
theorem dX5_halts_45 : decode cX5_halts 45 = .ok (.iconst 0, 1) := by decide +kernel
theorem dX5_halts_46 : decode cX5_halts 46 = .ok (.ireturn, 1) := by decide +kernel
theorem dX5_weight_0 : decode cX5_weight 0 = .ok (.aload_n 0, 1) := by decide +kernel
theorem dX5_weight_1 : decode cX5_weight 1 = .ok (.getfield 19, 3) := by decide +kernel
theorem dX5_weight_4 : decode cX5_weight 4 = .ok (.bipush 20, 2) := by decide +kernel
theorem dX5_weight_6 : decode cX5_weight 6 = .ok (.bipush 16, 2) := by decide +kernel
theorem dX5_weight_8 : decode cX5_weight 8 = .ok (.iload_n 1, 1) := by decide +kernel
theorem dX5_weight_9 : decode cX5_weight 9 = .ok (.imul, 1) := by decide +kernel
theorem dX5_weight_10 : decode cX5_weight 10 = .ok (.iadd, 1) := by decide +kernel
theorem dX5_weight_11 : decode cX5_weight 11 = .ok (.iload_n 2, 1) := by decide +kernel
theorem dX5_weight_12 : decode cX5_weight 12 = .ok (.bipush 12, 2) := by decide +kernel
theorem dX5_weight_14 : decode cX5_weight 14 = .ok (.if_icmp .ne 7, 3) := by decide +kernel
theorem dX5_weight_17 : decode cX5_weight 17 = .ok (.iconst 2, 1) := by decide +kernel
theorem dX5_weight_18 : decode cX5_weight 18 = .ok (.goto 6, 3) := by decide +kernel
theorem dX5_weight_21 : decode cX5_weight 21 = .ok (.iconst 3, 1) := by decide +kernel
theorem dX5_weight_22 : decode cX5_weight 22 = .ok (.iload_n 2, 1) := by decide +kernel
theorem dX5_weight_23 : decode cX5_weight 23 = .ok (.iadd, 1) := by decide +kernel
theorem dX5_weight_24 : decode cX5_weight 24 = .ok (.iadd, 1) := by decide +kernel
theorem dX5_weight_25 : decode cX5_weight 25 = .ok (.iaload, 1) := by decide +kernel
theorem dX5_weight_26 : decode cX5_weight 26 = .ok (.ireturn, 1) := by decide +kernel
theorem xiX5_weights_X5 : GoodIn wsX5_weights wsX50 := goodIn_sub (fun _ h => List.mem_cons_of_mem _ (List.mem_append_right _ h)) xgwX5
set_option maxRecDepth 20000 in
theorem ggX5_weights_X5_weight : GoodIn wsX5_weights wsX5_weight := (goodIn_ca (goodIn_r _ [5, 6] rfl (by decide +kernel)) xiX5_weights_X5)
set_option maxRecDepth 20000 in
theorem gX5_weights_X5_weight : GoodIn wsX5_weights (wsV RX5 108 RX5 yX5_weight wsX5_weight) := goodIn_app (goodIn_r _ [1, 2, 3, 4] rfl (by decide +kernel)) ggX5_weights_X5_weight
theorem dX5_weights_0 : decode cX5_weights 0 = .ok (.aload_n 0, 1) := by decide +kernel
theorem dX5_weights_1 : decode cX5_weights 1 = .ok (.iload_n 1, 1) := by decide +kernel
theorem dX5_weights_2 : decode cX5_weights 2 = .ok (.bipush 12, 2) := by decide +kernel
theorem dX5_weights_4 : decode cX5_weights 4 = .ok (.invokevirtual 108, 3) := by decide +kernel
theorem dX5_weights_7 : decode cX5_weights 7 = .ok (.istore_n 3, 1) := by decide +kernel
theorem dX5_weights_8 : decode cX5_weights 8 = .ok (.iload_n 2, 1) := by decide +kernel
theorem dX5_weights_9 : decode cX5_weights 9 = .ok (.istore 4, 2) := by decide +kernel
theorem dX5_weights_11 : decode cX5_weights 11 = .ok (.iload 4, 2) := by decide +kernel
theorem dX5_weights_13 : decode cX5_weights 13 = .ok (.bipush 12, 2) := by decide +kernel
theorem dX5_weights_15 : decode cX5_weights 15 = .ok (.if_icmp .ge 19, 3) := by decide +kernel
theorem dX5_weights_18 : decode cX5_weights 18 = .ok (.iload_n 3, 1) := by decide +kernel
theorem dX5_weights_19 : decode cX5_weights 19 = .ok (.aload_n 0, 1) := by decide +kernel
theorem dX5_weights_20 : decode cX5_weights 20 = .ok (.iload_n 1, 1) := by decide +kernel
theorem dX5_weights_21 : decode cX5_weights 21 = .ok (.iload 4, 2) := by decide +kernel
theorem dX5_weights_23 : decode cX5_weights 23 = .ok (.invokevirtual 108, 3) := by decide +kernel
theorem dX5_weights_26 : decode cX5_weights 26 = .ok (.iadd, 1) := by decide +kernel
theorem dX5_weights_27 : decode cX5_weights 27 = .ok (.istore_n 3, 1) := by decide +kernel
theorem dX5_weights_28 : decode cX5_weights 28 = .ok (.iinc 4 1, 3) := by decide +kernel
theorem dX5_weights_31 : decode cX5_weights 31 = .ok (.goto (-20), 3) := by decide +kernel
theorem dX5_weights_34 : decode cX5_weights 34 = .ok (.iload_n 3, 1) := by decide +kernel
theorem dX5_weights_35 : decode cX5_weights 35 = .ok (.ireturn, 1) := by decide +kernel
theorem dX5_isNoStop_0 : decode cX5_isNoStop 0 = .ok (.iload_n 1, 1) := by decide +kernel
theorem dX5_isNoStop_1 : decode cX5_isNoStop 1 = .ok (.ifCond .lt 13, 3) := by decide +kernel
theorem dX5_isNoStop_4 : decode cX5_isNoStop 4 = .ok (.iload_n 1, 1) := by decide +kernel
theorem dX5_isNoStop_5 : decode cX5_isNoStop 5 = .ok (.aload_n 0, 1) := by decide +kernel
theorem dX5_isNoStop_6 : decode cX5_isNoStop 6 = .ok (.getfield 19, 3) := by decide +kernel
theorem dX5_isNoStop_9 : decode cX5_isNoStop 9 = .ok (.iconst 0, 1) := by decide +kernel
theorem dX5_isNoStop_10 : decode cX5_isNoStop 10 = .ok (.iaload, 1) := by decide +kernel
theorem dX5_isNoStop_11 : decode cX5_isNoStop 11 = .ok (.if_icmp .lt 7, 3) := by decide +kernel
theorem dX5_isNoStop_14 : decode cX5_isNoStop 14 = .ok (.iconst 1, 1) := by decide +kernel
theorem dX5_isNoStop_15 : decode cX5_isNoStop 15 = .ok (.goto 4, 3) := by decide +kernel
theorem dX5_isNoStop_18 : decode cX5_isNoStop 18 = .ok (.iconst 0, 1) := by decide +kernel
theorem dX5_isNoStop_19 : decode cX5_isNoStop 19 = .ok (.ireturn, 1) := by decide +kernel
theorem dX5_isNoLine_0 : decode cX5_isNoLine 0 = .ok (.iload_n 1, 1) := by decide +kernel
theorem dX5_isNoLine_1 : decode cX5_isNoLine 1 = .ok (.ifCond .lt 13, 3) := by decide +kernel
theorem dX5_isNoLine_4 : decode cX5_isNoLine 4 = .ok (.iload_n 1, 1) := by decide +kernel
theorem dX5_isNoLine_5 : decode cX5_isNoLine 5 = .ok (.aload_n 0, 1) := by decide +kernel
theorem dX5_isNoLine_6 : decode cX5_isNoLine 6 = .ok (.getfield 19, 3) := by decide +kernel
theorem dX5_isNoLine_9 : decode cX5_isNoLine 9 = .ok (.iconst 3, 1) := by decide +kernel
theorem dX5_isNoLine_10 : decode cX5_isNoLine 10 = .ok (.iaload, 1) := by decide +kernel
theorem dX5_isNoLine_11 : decode cX5_isNoLine 11 = .ok (.if_icmp .lt 7, 3) := by decide +kernel
theorem dX5_isNoLine_14 : decode cX5_isNoLine 14 = .ok (.iconst 1, 1) := by decide +kernel
theorem dX5_isNoLine_15 : decode cX5_isNoLine 15 = .ok (.goto 4, 3) := by decide +kernel
theorem dX5_isNoLine_18 : decode cX5_isNoLine 18 = .ok (.iconst 0, 1) := by decide +kernel
theorem dX5_isNoLine_19 : decode cX5_isNoLine 19 = .ok (.ireturn, 1) := by decide +kernel
theorem dX5_part_0 : decode cX5_part 0 = .ok (.lload_n 0, 1) := by decide +kernel
theorem dX5_part_1 : decode cX5_part 1 = .ok (.lconst 0, 1) := by decide +kernel
theorem dX5_part_2 : decode cX5_part 2 = .ok (.lcmp, 1) := by decide +kernel
theorem dX5_part_3 : decode cX5_part 3 = .ok (.ifCond .eq 9, 3) := by decide +kernel
theorem dX5_part_6 : decode cX5_part 6 = .ok (.lload_n 2, 1) := by decide +kernel
theorem dX5_part_7 : decode cX5_part 7 = .ok (.lconst 0, 1) := by decide +kernel
theorem dX5_part_8 : decode cX5_part 8 = .ok (.lcmp, 1) := by decide +kernel
theorem dX5_part_9 : decode cX5_part 9 = .ok (.ifCond .ne 7, 3) := by decide +kernel
theorem dX5_part_12 : decode cX5_part 12 = .ok (.iload 4, 2) := by decide +kernel
theorem dX5_part_14 : decode cX5_part 14 = .ok (.i2l, 1) := by decide +kernel
theorem dX5_part_15 : decode cX5_part 15 = .ok (.lreturn, 1) := by decide +kernel
theorem dX5_part_16 : decode cX5_part 16 = .ok (.lload_n 0, 1) := by decide +kernel
theorem dX5_part_17 : decode cX5_part 17 = .ok (.lstore 5, 2) := by decide +kernel
theorem dX5_part_19 : decode cX5_part 19 = .ok (.lload_n 2, 1) := by decide +kernel
theorem dX5_part_20 : decode cX5_part 20 = .ok (.lstore 7, 2) := by decide +kernel
theorem dX5_part_22 : decode cX5_part 22 = .ok (.lload 7, 2) := by decide +kernel
theorem dX5_part_24 : decode cX5_part 24 = .ok (.lconst 0, 1) := by decide +kernel
theorem dX5_part_25 : decode cX5_part 25 = .ok (.lcmp, 1) := by decide +kernel
theorem dX5_part_26 : decode cX5_part 26 = .ok (.ifCond .eq 21, 3) := by decide +kernel
theorem dX5_part_29 : decode cX5_part 29 = .ok (.lload 5, 2) := by decide +kernel
theorem dX5_part_31 : decode cX5_part 31 = .ok (.lload 7, 2) := by decide +kernel
theorem dX5_part_33 : decode cX5_part 33 = .ok (.lrem, 1) := by decide +kernel
theorem dX5_part_34 : decode cX5_part 34 = .ok (.lstore 9, 2) := by decide +kernel
theorem dX5_part_36 : decode cX5_part 36 = .ok (.lload 7, 2) := by decide +kernel
theorem dX5_part_38 : decode cX5_part 38 = .ok (.lstore 5, 2) := by decide +kernel
theorem dX5_part_40 : decode cX5_part 40 = .ok (.lload 9, 2) := by decide +kernel
theorem dX5_part_42 : decode cX5_part 42 = .ok (.lstore 7, 2) := by decide +kernel
theorem dX5_part_44 : decode cX5_part 44 = .ok (.goto (-22), 3) := by decide +kernel
theorem dX5_part_47 : decode cX5_part 47 = .ok (.iload 4, 2) := by decide +kernel
theorem dX5_part_49 : decode cX5_part 49 = .ok (.ifCond .ne 7, 3) := by decide +kernel
theorem dX5_part_52 : decode cX5_part 52 = .ok (.lload_n 0, 1) := by decide +kernel
theorem dX5_part_53 : decode cX5_part 53 = .ok (.goto 4, 3) := by decide +kernel
theorem dX5_part_56 : decode cX5_part 56 = .ok (.lload_n 2, 1) := by decide +kernel
theorem dX5_part_57 : decode cX5_part 57 = .ok (.lload 5, 2) := by decide +kernel
theorem dX5_part_59 : decode cX5_part 59 = .ok (.ldiv, 1) := by decide +kernel
theorem dX5_part_60 : decode cX5_part 60 = .ok (.lreturn, 1) := by decide +kernel
theorem dX5_isNoPart_0 : decode cX5_isNoPart 0 = .ok (.iload_n 0, 1) := by decide +kernel
theorem dX5_isNoPart_1 : decode cX5_isNoPart 1 = .ok (.ifCond .eq 12, 3) := by decide +kernel
theorem dX5_isNoPart_4 : decode cX5_isNoPart 4 = .ok (.iload_n 0, 1) := by decide +kernel
theorem dX5_isNoPart_5 : decode cX5_isNoPart 5 = .ok (.iconst 1, 1) := by decide +kernel
theorem dX5_isNoPart_6 : decode cX5_isNoPart 6 = .ok (.if_icmp .eq 7, 3) := by decide +kernel
theorem dX5_isNoPart_9 : decode cX5_isNoPart 9 = .ok (.iconst 1, 1) := by decide +kernel
theorem dX5_isNoPart_10 : decode cX5_isNoPart 10 = .ok (.goto 4, 3) := by decide +kernel
theorem dX5_isNoPart_13 : decode cX5_isNoPart 13 = .ok (.iconst 0, 1) := by decide +kernel
theorem dX5_isNoPart_14 : decode cX5_isNoPart 14 = .ok (.ireturn, 1) := by decide +kernel
theorem xiX5_stop_X5 : GoodIn wsX5_stop wsX50 := goodIn_sub (fun _ h => List.mem_cons_of_mem _ (List.mem_append_right _ h)) xgwX5
set_option maxRecDepth 20000 in
theorem ggX5_stop_X5_isNoStop : GoodIn wsX5_stop wsX5_isNoStop := (goodIn_ca (goodIn_r _ [6, 1] rfl (by decide +kernel)) xiX5_stop_X5)
set_option maxRecDepth 20000 in
theorem gX5_stop_X5_isNoStop : GoodIn wsX5_stop (wsV RX5 111 RX5 yX5_isNoStop wsX5_isNoStop) := goodIn_app (goodIn_r _ [2, 3, 4, 5] rfl (by decide +kernel)) ggX5_stop_X5_isNoStop
set_option maxRecDepth 20000 in
theorem ggX5_stop_X5_no : GoodIn wsX5_stop wsX5_no := (goodIn_ca (goodIn_r _ [10, 11] rfl (by decide +kernel)) xiX5_stop_X5)
set_option maxRecDepth 20000 in
theorem gX5_stop_X5_no : GoodIn wsX5_stop (wsV RX5 9 RX5 yX5_no wsX5_no) := goodIn_app (goodIn_r _ [7, 8, 9, 5] rfl (by decide +kernel)) ggX5_stop_X5_no
set_option maxRecDepth 20000 in
theorem ggX5_stop_X5_rest : GoodIn wsX5_stop wsX5_rest := (goodIn_ca (goodIn_r _ [15, 1, 16, 17, 18, 5, 19, 20, 21, 22] rfl (by decide +kernel)) xiX5_stop_X5)
set_option maxRecDepth 20000 in
theorem gX5_stop_X5_rest : GoodIn wsX5_stop (wsV RX5 115 RX5 yX5_rest wsX5_rest) := goodIn_app (goodIn_r _ [12, 13, 14, 5] rfl (by decide +kernel)) ggX5_stop_X5_rest
theorem dX5_stop_0 : decode cX5_stop 0 = .ok (.aload_n 0, 1) := by decide +kernel
theorem dX5_stop_1 : decode cX5_stop 1 = .ok (.iload_n 1, 1) := by decide +kernel
theorem dX5_stop_2 : decode cX5_stop 2 = .ok (.invokevirtual 111, 3) := by decide +kernel
theorem dX5_stop_5 : decode cX5_stop 5 = .ok (.ifCond .eq 9, 3) := by decide +kernel
theorem dX5_stop_8 : decode cX5_stop 8 = .ok (.aload_n 0, 1) := by decide +kernel
theorem dX5_stop_9 : decode cX5_stop 9 = .ok (.iconst (-1), 1) := by decide +kernel
theorem dX5_stop_10 : decode cX5_stop 10 = .ok (.invokevirtual 9, 3) := by decide +kernel
theorem dX5_stop_13 : decode cX5_stop 13 = .ok (.ireturn, 1) := by decide +kernel
theorem dX5_stop_14 : decode cX5_stop 14 = .ok (.iload_n 2, 1) := by decide +kernel
theorem dX5_stop_15 : decode cX5_stop 15 = .ok (.ifCond .lt 8, 3) := by decide +kernel
theorem dX5_stop_18 : decode cX5_stop 18 = .ok (.iload_n 2, 1) := by decide +kernel
theorem dX5_stop_19 : decode cX5_stop 19 = .ok (.iconst 2, 1) := by decide +kernel
theorem dX5_stop_20 : decode cX5_stop 20 = .ok (.if_icmp .le 10, 3) := by decide +kernel
theorem dX5_stop_23 : decode cX5_stop 23 = .ok (.aload_n 0, 1) := by decide +kernel
theorem dX5_stop_24 : decode cX5_stop 24 = .ok (.bipush (-2), 2) := by decide +kernel
theorem dX5_stop_26 : decode cX5_stop 26 = .ok (.invokevirtual 9, 3) := by decide +kernel
theorem dX5_stop_29 : decode cX5_stop 29 = .ok (.ireturn, 1) := by decide +kernel
theorem dX5_stop_30 : decode cX5_stop 30 = .ok (.iload_n 2, 1) := by decide +kernel
theorem dX5_stop_31 : decode cX5_stop 31 = .ok (.ifCond .ne 15, 3) := by decide +kernel
theorem dX5_stop_34 : decode cX5_stop 34 = .ok (.aload_n 0, 1) := by decide +kernel
theorem dX5_stop_35 : decode cX5_stop 35 = .ok (.getfield 19, 3) := by decide +kernel
theorem dX5_stop_38 : decode cX5_stop 38 = .ok (.bipush 10, 2) := by decide +kernel
theorem dX5_stop_40 : decode cX5_stop 40 = .ok (.iload_n 1, 1) := by decide +kernel
theorem dX5_stop_41 : decode cX5_stop 41 = .ok (.iadd, 1) := by decide +kernel
theorem dX5_stop_42 : decode cX5_stop 42 = .ok (.iaload, 1) := by decide +kernel
theorem dX5_stop_43 : decode cX5_stop 43 = .ok (.goto 27, 3) := by decide +kernel
theorem dX5_stop_46 : decode cX5_stop 46 = .ok (.iload_n 2, 1) := by decide +kernel
theorem dX5_stop_47 : decode cX5_stop 47 = .ok (.iconst 1, 1) := by decide +kernel
theorem dX5_stop_48 : decode cX5_stop 48 = .ok (.if_icmp .ne 17, 3) := by decide +kernel
theorem dX5_stop_51 : decode cX5_stop 51 = .ok (.aload_n 0, 1) := by decide +kernel
theorem dX5_stop_52 : decode cX5_stop 52 = .ok (.iconst 0, 1) := by decide +kernel
theorem dX5_stop_53 : decode cX5_stop 53 = .ok (.invokevirtual 115, 3) := by decide +kernel
theorem dX5_stop_56 : decode cX5_stop 56 = .ok (.aload_n 0, 1) := by decide +kernel
theorem dX5_stop_57 : decode cX5_stop 57 = .ok (.iload_n 1, 1) := by decide +kernel
theorem dX5_stop_58 : decode cX5_stop 58 = .ok (.invokevirtual 115, 3) := by decide +kernel
theorem dX5_stop_61 : decode cX5_stop 61 = .ok (.isub, 1) := by decide +kernel
theorem dX5_stop_62 : decode cX5_stop 62 = .ok (.goto 8, 3) := by decide +kernel
theorem dX5_stop_65 : decode cX5_stop 65 = .ok (.aload_n 0, 1) := by decide +kernel
theorem dX5_stop_66 : decode cX5_stop 66 = .ok (.iload_n 1, 1) := by decide +kernel
theorem dX5_stop_67 : decode cX5_stop 67 = .ok (.invokevirtual 115, 3) := by decide +kernel
theorem dX5_stop_70 : decode cX5_stop 70 = .ok (.ireturn, 1) := by decide +kernel
theorem xiX5_line_X5 : GoodIn wsX5_line wsX50 := goodIn_sub (fun _ h => List.mem_cons_of_mem _ (List.mem_append_right _ h)) xgwX5
set_option maxRecDepth 20000 in
theorem ggX5_line_X5_isNoLine : GoodIn wsX5_line wsX5_isNoLine := (goodIn_ca (goodIn_r _ [6, 1] rfl (by decide +kernel)) xiX5_line_X5)
set_option maxRecDepth 20000 in
theorem gX5_line_X5_isNoLine : GoodIn wsX5_line (wsV RX5 118 RX5 yX5_isNoLine wsX5_isNoLine) := goodIn_app (goodIn_r _ [2, 3, 4, 5] rfl (by decide +kernel)) ggX5_line_X5_isNoLine
set_option maxRecDepth 20000 in
theorem ggX5_line_X5_no : GoodIn wsX5_line wsX5_no := (goodIn_ca (goodIn_r _ [10, 11] rfl (by decide +kernel)) xiX5_line_X5)
set_option maxRecDepth 20000 in
theorem gX5_line_X5_no : GoodIn wsX5_line (wsV RX5 9 RX5 yX5_no wsX5_no) := goodIn_app (goodIn_r _ [7, 8, 9, 5] rfl (by decide +kernel)) ggX5_line_X5_no
set_option maxRecDepth 20000 in
theorem ggX5_line_X5_weights : GoodIn wsX5_line wsX5_weights := (goodIn_ca (goodIn_r _ [15, 16, 17, 18, 5, 19, 1] rfl (by decide +kernel)) xiX5_line_X5)
set_option maxRecDepth 20000 in
theorem gX5_line_X5_weights : GoodIn wsX5_line (wsV RX5 121 RX5 yX5_weights wsX5_weights) := goodIn_app (goodIn_r _ [12, 13, 14, 5] rfl (by decide +kernel)) ggX5_line_X5_weights
set_option maxRecDepth 20000 in
theorem ggX5_line_X5_toLast : GoodIn wsX5_line wsX5_toLast := (goodIn_ca (goodIn_r _ [23, 1, 24, 25, 26, 5, 27, 28, 29, 30, 31] rfl (by decide +kernel)) xiX5_line_X5)
set_option maxRecDepth 20000 in
theorem gX5_line_X5_toLast : GoodIn wsX5_line (wsV RX5 124 RX5 yX5_toLast wsX5_toLast) := goodIn_app (goodIn_r _ [20, 21, 22, 5] rfl (by decide +kernel)) ggX5_line_X5_toLast
theorem dX5_line_0 : decode cX5_line 0 = .ok (.aload_n 0, 1) := by decide +kernel
theorem dX5_line_1 : decode cX5_line 1 = .ok (.iload_n 1, 1) := by decide +kernel
theorem dX5_line_2 : decode cX5_line 2 = .ok (.invokevirtual 118, 3) := by decide +kernel
theorem dX5_line_5 : decode cX5_line 5 = .ok (.ifCond .eq 9, 3) := by decide +kernel
theorem dX5_line_8 : decode cX5_line 8 = .ok (.aload_n 0, 1) := by decide +kernel
theorem dX5_line_9 : decode cX5_line 9 = .ok (.iconst (-1), 1) := by decide +kernel
theorem dX5_line_10 : decode cX5_line 10 = .ok (.invokevirtual 9, 3) := by decide +kernel
theorem dX5_line_13 : decode cX5_line 13 = .ok (.ireturn, 1) := by decide +kernel
theorem dX5_line_14 : decode cX5_line 14 = .ok (.iload_n 2, 1) := by decide +kernel
theorem dX5_line_15 : decode cX5_line 15 = .ok (.ifCond .lt 8, 3) := by decide +kernel
theorem dX5_line_18 : decode cX5_line 18 = .ok (.iload_n 2, 1) := by decide +kernel
theorem dX5_line_19 : decode cX5_line 19 = .ok (.iconst 4, 1) := by decide +kernel
theorem dX5_line_20 : decode cX5_line 20 = .ok (.if_icmp .le 10, 3) := by decide +kernel
theorem dX5_line_23 : decode cX5_line 23 = .ok (.aload_n 0, 1) := by decide +kernel
theorem dX5_line_24 : decode cX5_line 24 = .ok (.bipush (-2), 2) := by decide +kernel
theorem dX5_line_26 : decode cX5_line 26 = .ok (.invokevirtual 9, 3) := by decide +kernel
theorem dX5_line_29 : decode cX5_line 29 = .ok (.ireturn, 1) := by decide +kernel
theorem dX5_line_30 : decode cX5_line 30 = .ok (.iload_n 2, 1) := by decide +kernel
theorem dX5_line_31 : decode cX5_line 31 = .ok (.iconst 3, 1) := by decide +kernel
theorem dX5_line_32 : decode cX5_line 32 = .ok (.if_icmp .ne 12, 3) := by decide +kernel
theorem dX5_line_35 : decode cX5_line 35 = .ok (.aload_n 0, 1) := by decide +kernel
theorem dX5_line_36 : decode cX5_line 36 = .ok (.iload_n 1, 1) := by decide +kernel
theorem dX5_line_37 : decode cX5_line 37 = .ok (.iconst 0, 1) := by decide +kernel
theorem dX5_line_38 : decode cX5_line 38 = .ok (.invokevirtual 121, 3) := by decide +kernel
theorem dX5_line_41 : decode cX5_line 41 = .ok (.goto 30, 3) := by decide +kernel
theorem dX5_line_44 : decode cX5_line 44 = .ok (.iload_n 2, 1) := by decide +kernel
theorem dX5_line_45 : decode cX5_line 45 = .ok (.iconst 4, 1) := by decide +kernel
theorem dX5_line_46 : decode cX5_line 46 = .ok (.if_icmp .ne 11, 3) := by decide +kernel
theorem dX5_line_49 : decode cX5_line 49 = .ok (.aload_n 0, 1) := by decide +kernel
theorem dX5_line_50 : decode cX5_line 50 = .ok (.iload_n 1, 1) := by decide +kernel
theorem dX5_line_51 : decode cX5_line 51 = .ok (.invokevirtual 124, 3) := by decide +kernel
theorem dX5_line_54 : decode cX5_line 54 = .ok (.goto 17, 3) := by decide +kernel
theorem dX5_line_57 : decode cX5_line 57 = .ok (.aload_n 0, 1) := by decide +kernel
theorem dX5_line_58 : decode cX5_line 58 = .ok (.getfield 19, 3) := by decide +kernel
theorem dX5_line_61 : decode cX5_line 61 = .ok (.bipush 20, 2) := by decide +kernel
theorem dX5_line_63 : decode cX5_line 63 = .ok (.bipush 16, 2) := by decide +kernel
theorem dX5_line_65 : decode cX5_line 65 = .ok (.iload_n 1, 1) := by decide +kernel
theorem dX5_line_66 : decode cX5_line 66 = .ok (.imul, 1) := by decide +kernel
theorem dX5_line_67 : decode cX5_line 67 = .ok (.iadd, 1) := by decide +kernel
theorem dX5_line_68 : decode cX5_line 68 = .ok (.iload_n 2, 1) := by decide +kernel
theorem dX5_line_69 : decode cX5_line 69 = .ok (.iadd, 1) := by decide +kernel
theorem dX5_line_70 : decode cX5_line 70 = .ok (.iaload, 1) := by decide +kernel
theorem dX5_line_71 : decode cX5_line 71 = .ok (.ireturn, 1) := by decide +kernel
theorem xiX5_chance_X5 : GoodIn wsX5_chance wsX50 := goodIn_sub (fun _ h => List.mem_cons_of_mem _ (List.mem_append_right _ h)) xgwX5
set_option maxRecDepth 20000 in
theorem ggX5_chance_X5_isNoLine : GoodIn wsX5_chance wsX5_isNoLine := (goodIn_ca (goodIn_r _ [5, 6] rfl (by decide +kernel)) xiX5_chance_X5)
set_option maxRecDepth 20000 in
theorem gX5_chance_X5_isNoLine : GoodIn wsX5_chance (wsV RX5 118 RX5 yX5_isNoLine wsX5_isNoLine) := goodIn_app (goodIn_r _ [1, 2, 3, 4] rfl (by decide +kernel)) ggX5_chance_X5_isNoLine
set_option maxRecDepth 20000 in
theorem ggX5_chance_X5_no : GoodIn wsX5_chance wsX5_no := (goodIn_ca (goodIn_r _ [10, 11] rfl (by decide +kernel)) xiX5_chance_X5)
set_option maxRecDepth 20000 in
theorem gX5_chance_X5_no : GoodIn wsX5_chance (wsV RX5 9 RX5 yX5_no wsX5_no) := goodIn_app (goodIn_r _ [7, 8, 9, 4] rfl (by decide +kernel)) ggX5_chance_X5_no
set_option maxRecDepth 20000 in
theorem ggX5_chance_X5_weight : GoodIn wsX5_chance wsX5_weight := (goodIn_ca (goodIn_r _ [15, 6] rfl (by decide +kernel)) xiX5_chance_X5)
set_option maxRecDepth 20000 in
theorem gX5_chance_X5_weight : GoodIn wsX5_chance (wsV RX5 108 RX5 yX5_weight wsX5_weight) := goodIn_app (goodIn_r _ [12, 13, 14, 4] rfl (by decide +kernel)) ggX5_chance_X5_weight
theorem dX5_chance_0 : decode cX5_chance 0 = .ok (.aload_n 0, 1) := by decide +kernel
theorem dX5_chance_1 : decode cX5_chance 1 = .ok (.iload_n 1, 1) := by decide +kernel
theorem dX5_chance_2 : decode cX5_chance 2 = .ok (.invokevirtual 118, 3) := by decide +kernel
theorem dX5_chance_5 : decode cX5_chance 5 = .ok (.ifCond .eq 9, 3) := by decide +kernel
theorem dX5_chance_8 : decode cX5_chance 8 = .ok (.aload_n 0, 1) := by decide +kernel
theorem dX5_chance_9 : decode cX5_chance 9 = .ok (.iconst (-1), 1) := by decide +kernel
theorem dX5_chance_10 : decode cX5_chance 10 = .ok (.invokevirtual 9, 3) := by decide +kernel
theorem dX5_chance_13 : decode cX5_chance 13 = .ok (.ireturn, 1) := by decide +kernel
theorem dX5_chance_14 : decode cX5_chance 14 = .ok (.iload_n 2, 1) := by decide +kernel
theorem dX5_chance_15 : decode cX5_chance 15 = .ok (.ifCond .ge 10, 3) := by decide +kernel
theorem dX5_chance_18 : decode cX5_chance 18 = .ok (.aload_n 0, 1) := by decide +kernel
theorem dX5_chance_19 : decode cX5_chance 19 = .ok (.bipush (-4), 2) := by decide +kernel
theorem dX5_chance_21 : decode cX5_chance 21 = .ok (.invokevirtual 9, 3) := by decide +kernel
theorem dX5_chance_24 : decode cX5_chance 24 = .ok (.ireturn, 1) := by decide +kernel
theorem dX5_chance_25 : decode cX5_chance 25 = .ok (.iload_n 2, 1) := by decide +kernel
theorem dX5_chance_26 : decode cX5_chance 26 = .ok (.bipush 11, 2) := by decide +kernel
theorem dX5_chance_28 : decode cX5_chance 28 = .ok (.if_icmp .le 12, 3) := by decide +kernel
theorem dX5_chance_31 : decode cX5_chance 31 = .ok (.aload_n 0, 1) := by decide +kernel
theorem dX5_chance_32 : decode cX5_chance 32 = .ok (.bipush (-6), 2) := by decide +kernel
theorem dX5_chance_34 : decode cX5_chance 34 = .ok (.invokevirtual 9, 3) := by decide +kernel
theorem dX5_chance_37 : decode cX5_chance 37 = .ok (.goto 9, 3) := by decide +kernel
theorem dX5_chance_40 : decode cX5_chance 40 = .ok (.aload_n 0, 1) := by decide +kernel
theorem dX5_chance_41 : decode cX5_chance 41 = .ok (.iload_n 1, 1) := by decide +kernel
theorem dX5_chance_42 : decode cX5_chance 42 = .ok (.iload_n 2, 1) := by decide +kernel
theorem dX5_chance_43 : decode cX5_chance 43 = .ok (.invokevirtual 108, 3) := by decide +kernel
theorem dX5_chance_46 : decode cX5_chance 46 = .ok (.ireturn, 1) := by decide +kernel
theorem xiX5_there_X5 : GoodIn wsX5_there wsX50 := goodIn_sub (fun _ h => List.mem_cons_of_mem _ (List.mem_append_right _ h)) xgwX5
set_option maxRecDepth 20000 in
theorem ggX5_there_X5_isNoLine : GoodIn wsX5_there wsX5_isNoLine := (goodIn_ca (goodIn_r _ [5, 6] rfl (by decide +kernel)) xiX5_there_X5)
set_option maxRecDepth 20000 in
theorem gX5_there_X5_isNoLine : GoodIn wsX5_there (wsV RX5 118 RX5 yX5_isNoLine wsX5_isNoLine) := goodIn_app (goodIn_r _ [1, 2, 3, 4] rfl (by decide +kernel)) ggX5_there_X5_isNoLine
set_option maxRecDepth 20000 in
theorem ggX5_there_X5_isNoStop : GoodIn wsX5_there wsX5_isNoStop := (goodIn_ca (goodIn_r _ [10, 6] rfl (by decide +kernel)) xiX5_there_X5)
set_option maxRecDepth 20000 in
theorem gX5_there_X5_isNoStop : GoodIn wsX5_there (wsV RX5 111 RX5 yX5_isNoStop wsX5_isNoStop) := goodIn_app (goodIn_r _ [7, 8, 9, 4] rfl (by decide +kernel)) ggX5_there_X5_isNoStop
set_option maxRecDepth 20000 in
theorem ggX5_there_X5_no : GoodIn wsX5_there wsX5_no := (goodIn_ca (goodIn_r _ [14, 15] rfl (by decide +kernel)) xiX5_there_X5)
set_option maxRecDepth 20000 in
theorem gX5_there_X5_no : GoodIn wsX5_there (wsV RX5 9 RX5 yX5_no wsX5_no) := goodIn_app (goodIn_r _ [11, 12, 13, 4] rfl (by decide +kernel)) ggX5_there_X5_no
set_option maxRecDepth 20000 in
theorem ggX5_there_X5_halts : GoodIn wsX5_there wsX5_halts := (goodIn_ca (goodIn_r _ [19, 6] rfl (by decide +kernel)) xiX5_there_X5)
set_option maxRecDepth 20000 in
theorem gX5_there_X5_halts : GoodIn wsX5_there (wsV RX5 127 RX5 yX5_halts wsX5_halts) := goodIn_app (goodIn_r _ [16, 17, 18, 4] rfl (by decide +kernel)) ggX5_there_X5_halts
set_option maxRecDepth 20000 in
theorem ggX5_there_X5_to : GoodIn wsX5_there wsX5_to := (goodIn_ca (goodIn_r _ [23, 24, 25, 26, 4, 27, 6] rfl (by decide +kernel)) xiX5_there_X5)
set_option maxRecDepth 20000 in
theorem gX5_there_X5_to : GoodIn wsX5_there (wsV RX5 105 RX5 yX5_to wsX5_to) := goodIn_app (goodIn_r _ [20, 21, 22, 4] rfl (by decide +kernel)) ggX5_there_X5_to
theorem dX5_there_0 : decode cX5_there 0 = .ok (.aload_n 0, 1) := by decide +kernel
theorem dX5_there_1 : decode cX5_there 1 = .ok (.iload_n 1, 1) := by decide +kernel
theorem dX5_there_2 : decode cX5_there 2 = .ok (.invokevirtual 118, 3) := by decide +kernel
theorem dX5_there_5 : decode cX5_there 5 = .ok (.ifCond .ne 11, 3) := by decide +kernel
theorem dX5_there_8 : decode cX5_there 8 = .ok (.aload_n 0, 1) := by decide +kernel
theorem dX5_there_9 : decode cX5_there 9 = .ok (.iload_n 2, 1) := by decide +kernel
theorem dX5_there_10 : decode cX5_there 10 = .ok (.invokevirtual 111, 3) := by decide +kernel
theorem dX5_there_13 : decode cX5_there 13 = .ok (.ifCond .eq 9, 3) := by decide +kernel
theorem dX5_there_16 : decode cX5_there 16 = .ok (.aload_n 0, 1) := by decide +kernel
theorem dX5_there_17 : decode cX5_there 17 = .ok (.iconst (-1), 1) := by decide +kernel
theorem dX5_there_18 : decode cX5_there 18 = .ok (.invokevirtual 9, 3) := by decide +kernel
theorem dX5_there_21 : decode cX5_there 21 = .ok (.ireturn, 1) := by decide +kernel
theorem dX5_there_22 : decode cX5_there 22 = .ok (.aload_n 0, 1) := by decide +kernel
theorem dX5_there_23 : decode cX5_there 23 = .ok (.iload_n 1, 1) := by decide +kernel
theorem dX5_there_24 : decode cX5_there 24 = .ok (.iload_n 2, 1) := by decide +kernel
theorem dX5_there_25 : decode cX5_there 25 = .ok (.invokevirtual 127, 3) := by decide +kernel
theorem dX5_there_28 : decode cX5_there 28 = .ok (.ifCond .eq 12, 3) := by decide +kernel
theorem dX5_there_31 : decode cX5_there 31 = .ok (.aload_n 0, 1) := by decide +kernel
theorem dX5_there_32 : decode cX5_there 32 = .ok (.iload_n 1, 1) := by decide +kernel
theorem dX5_there_33 : decode cX5_there 33 = .ok (.iload_n 2, 1) := by decide +kernel
theorem dX5_there_34 : decode cX5_there 34 = .ok (.invokevirtual 105, 3) := by decide +kernel
theorem dX5_there_37 : decode cX5_there 37 = .ok (.goto 5, 3) := by decide +kernel
theorem dX5_there_40 : decode cX5_there 40 = .ok (.bipush (-9), 2) := by decide +kernel
theorem dX5_there_42 : decode cX5_there 42 = .ok (.ireturn, 1) := by decide +kernel
theorem xiX5_set_X5 : GoodIn wsX5_set wsX50 := goodIn_sub (fun _ h => List.mem_cons_of_mem _ (List.mem_append_right _ h)) xgwX5
set_option maxRecDepth 20000 in
theorem ggX5_set_X5_no : GoodIn wsX5_set wsX5_no := (goodIn_ca (goodIn_r _ [9, 10] rfl (by decide +kernel)) xiX5_set_X5)
set_option maxRecDepth 20000 in
theorem gX5_set_X5_no : GoodIn wsX5_set (wsV RX5 9 RX5 yX5_no wsX5_no) := goodIn_app (goodIn_r _ [5, 6, 7, 8] rfl (by decide +kernel)) ggX5_set_X5_no
theorem dX5_set_0 : decode cX5_set 0 = .ok (.iload_n 1, 1) := by decide +kernel
theorem dX5_set_1 : decode cX5_set 1 = .ok (.ifCond .lt 8, 3) := by decide +kernel
theorem dX5_set_4 : decode cX5_set 4 = .ok (.iload_n 1, 1) := by decide +kernel
theorem dX5_set_5 : decode cX5_set 5 = .ok (.iconst 3, 1) := by decide +kernel
theorem dX5_set_6 : decode cX5_set 6 = .ok (.if_icmp .le 10, 3) := by decide +kernel
theorem dX5_set_9 : decode cX5_set 9 = .ok (.aload_n 0, 1) := by decide +kernel
theorem dX5_set_10 : decode cX5_set 10 = .ok (.bipush (-2), 2) := by decide +kernel
theorem dX5_set_12 : decode cX5_set 12 = .ok (.invokevirtual 9, 3) := by decide +kernel
theorem dX5_set_15 : decode cX5_set 15 = .ok (.ireturn, 1) := by decide +kernel
theorem dX5_set_16 : decode cX5_set 16 = .ok (.iload_n 2, 1) := by decide +kernel
theorem dX5_set_17 : decode cX5_set 17 = .ok (.aload_n 0, 1) := by decide +kernel
theorem dX5_set_18 : decode cX5_set 18 = .ok (.getfield 44, 3) := by decide +kernel
theorem dX5_set_21 : decode cX5_set 21 = .ok (.iload_n 1, 1) := by decide +kernel
theorem dX5_set_22 : decode cX5_set 22 = .ok (.iaload, 1) := by decide +kernel
theorem dX5_set_23 : decode cX5_set 23 = .ok (.if_icmp .ge 10, 3) := by decide +kernel
theorem dX5_set_26 : decode cX5_set 26 = .ok (.aload_n 0, 1) := by decide +kernel
theorem dX5_set_27 : decode cX5_set 27 = .ok (.bipush (-4), 2) := by decide +kernel
theorem dX5_set_29 : decode cX5_set 29 = .ok (.invokevirtual 9, 3) := by decide +kernel
theorem dX5_set_32 : decode cX5_set 32 = .ok (.ireturn, 1) := by decide +kernel
theorem dX5_set_33 : decode cX5_set 33 = .ok (.iload_n 2, 1) := by decide +kernel
theorem dX5_set_34 : decode cX5_set 34 = .ok (.aload_n 0, 1) := by decide +kernel
theorem dX5_set_35 : decode cX5_set 35 = .ok (.getfield 47, 3) := by decide +kernel
theorem dX5_set_38 : decode cX5_set 38 = .ok (.iload_n 1, 1) := by decide +kernel
theorem dX5_set_39 : decode cX5_set 39 = .ok (.iaload, 1) := by decide +kernel
theorem dX5_set_40 : decode cX5_set 40 = .ok (.if_icmp .le 10, 3) := by decide +kernel
theorem dX5_set_43 : decode cX5_set 43 = .ok (.aload_n 0, 1) := by decide +kernel
theorem dX5_set_44 : decode cX5_set 44 = .ok (.bipush (-6), 2) := by decide +kernel
theorem dX5_set_46 : decode cX5_set 46 = .ok (.invokevirtual 9, 3) := by decide +kernel
theorem dX5_set_49 : decode cX5_set 49 = .ok (.ireturn, 1) := by decide +kernel
theorem dX5_set_50 : decode cX5_set 50 = .ok (.aload_n 0, 1) := by decide +kernel
theorem dX5_set_51 : decode cX5_set 51 = .ok (.getfield 19, 3) := by decide +kernel
theorem dX5_set_54 : decode cX5_set 54 = .ok (.aload_n 0, 1) := by decide +kernel
theorem dX5_set_55 : decode cX5_set 55 = .ok (.getfield 41, 3) := by decide +kernel
theorem dX5_set_58 : decode cX5_set 58 = .ok (.iload_n 1, 1) := by decide +kernel
theorem dX5_set_59 : decode cX5_set 59 = .ok (.iaload, 1) := by decide +kernel
theorem dX5_set_60 : decode cX5_set 60 = .ok (.iaload, 1) := by decide +kernel
theorem dX5_set_61 : decode cX5_set 61 = .ok (.istore_n 3, 1) := by decide +kernel
theorem dX5_set_62 : decode cX5_set 62 = .ok (.aload_n 0, 1) := by decide +kernel
theorem dX5_set_63 : decode cX5_set 63 = .ok (.getfield 19, 3) := by decide +kernel
theorem dX5_set_66 : decode cX5_set 66 = .ok (.aload_n 0, 1) := by decide +kernel
theorem dX5_set_67 : decode cX5_set 67 = .ok (.getfield 41, 3) := by decide +kernel
theorem dX5_set_70 : decode cX5_set 70 = .ok (.iload_n 1, 1) := by decide +kernel
theorem dX5_set_71 : decode cX5_set 71 = .ok (.iaload, 1) := by decide +kernel
theorem dX5_set_72 : decode cX5_set 72 = .ok (.iload_n 2, 1) := by decide +kernel
theorem dX5_set_73 : decode cX5_set 73 = .ok (.iastore, 1) := by decide +kernel
theorem dX5_set_74 : decode cX5_set 74 = .ok (.iload_n 3, 1) := by decide +kernel
theorem dX5_set_75 : decode cX5_set 75 = .ok (.ireturn, 1) := by decide +kernel
theorem xiX5_comes_X5 : GoodIn wsX5_comes wsX50 := goodIn_sub (fun _ h => List.mem_cons_of_mem _ (List.mem_append_right _ h)) xgwX5
set_option maxRecDepth 20000 in
theorem ggX5_comes_X5_isNoLine : GoodIn wsX5_comes wsX5_isNoLine := (goodIn_ca (goodIn_r _ [5, 6] rfl (by decide +kernel)) xiX5_comes_X5)
set_option maxRecDepth 20000 in
theorem gX5_comes_X5_isNoLine : GoodIn wsX5_comes (wsV RX5 118 RX5 yX5_isNoLine wsX5_isNoLine) := goodIn_app (goodIn_r _ [1, 2, 3, 4] rfl (by decide +kernel)) ggX5_comes_X5_isNoLine
set_option maxRecDepth 20000 in
theorem ggX5_comes_X5_noLong : GoodIn wsX5_comes wsX5_noLong := (goodIn_ca (goodIn_r _ [10, 11, 12, 13, 14, 4, 15, 16] rfl (by decide +kernel)) xiX5_comes_X5)
set_option maxRecDepth 20000 in
theorem gX5_comes_X5_noLong : GoodIn wsX5_comes (wsV RX5 130 RX5 yX5_noLong wsX5_noLong) := goodIn_app (goodIn_r _ [7, 8, 9, 4] rfl (by decide +kernel)) ggX5_comes_X5_noLong
set_option maxRecDepth 20000 in
theorem ggX5_comes_X5_isNoPart : GoodIn wsX5_comes wsX5_isNoPart := goodIn_r _ [19] rfl (by decide +kernel)
set_option maxRecDepth 20000 in
theorem gX5_comes_X5_isNoPart : GoodIn wsX5_comes (va_wsS RX5 134 yX5_isNoPart wsX5_isNoPart) := goodIn_app (goodIn_r _ [17, 18, 4] rfl (by decide +kernel)) ggX5_comes_X5_isNoPart
set_option maxRecDepth 20000 in
theorem ggX5_comes_X5_weight : GoodIn wsX5_comes wsX5_weight := (goodIn_ca (goodIn_r _ [23, 6] rfl (by decide +kernel)) xiX5_comes_X5)
set_option maxRecDepth 20000 in
theorem gX5_comes_X5_weight : GoodIn wsX5_comes (wsV RX5 108 RX5 yX5_weight wsX5_weight) := goodIn_app (goodIn_r _ [20, 21, 22, 4] rfl (by decide +kernel)) ggX5_comes_X5_weight
set_option maxRecDepth 20000 in
theorem ggX5_comes_X5_weights : GoodIn wsX5_comes wsX5_weights := (goodIn_ca (goodIn_r _ [27, 20, 21, 22, 4, 23, 6] rfl (by decide +kernel)) xiX5_comes_X5)
set_option maxRecDepth 20000 in
theorem gX5_comes_X5_weights : GoodIn wsX5_comes (wsV RX5 121 RX5 yX5_weights wsX5_weights) := goodIn_app (goodIn_r _ [24, 25, 26, 4] rfl (by decide +kernel)) ggX5_comes_X5_weights
set_option maxRecDepth 20000 in
theorem ggX5_comes_X5_part : GoodIn wsX5_comes wsX5_part := goodIn_r _ [30] rfl (by decide +kernel)
set_option maxRecDepth 20000 in
theorem gX5_comes_X5_part : GoodIn wsX5_comes (va_wsS RX5 137 yX5_part wsX5_part) := goodIn_app (goodIn_r _ [28, 29, 4] rfl (by decide +kernel)) ggX5_comes_X5_part
theorem dX5_comes_0 : decode cX5_comes 0 = .ok (.aload_n 0, 1) := by decide +kernel
theorem dX5_comes_1 : decode cX5_comes 1 = .ok (.iload_n 1, 1) := by decide +kernel
theorem dX5_comes_2 : decode cX5_comes 2 = .ok (.invokevirtual 118, 3) := by decide +kernel
theorem dX5_comes_5 : decode cX5_comes 5 = .ok (.ifCond .eq 9, 3) := by decide +kernel
theorem dX5_comes_8 : decode cX5_comes 8 = .ok (.aload_n 0, 1) := by decide +kernel
theorem dX5_comes_9 : decode cX5_comes 9 = .ok (.iconst (-1), 1) := by decide +kernel
theorem dX5_comes_10 : decode cX5_comes 10 = .ok (.invokevirtual 130, 3) := by decide +kernel
theorem dX5_comes_13 : decode cX5_comes 13 = .ok (.lreturn, 1) := by decide +kernel
theorem dX5_comes_14 : decode cX5_comes 14 = .ok (.iload_n 2, 1) := by decide +kernel
theorem dX5_comes_15 : decode cX5_comes 15 = .ok (.ifCond .lt 7, 3) := by decide +kernel
theorem dX5_comes_18 : decode cX5_comes 18 = .ok (.iload_n 3, 1) := by decide +kernel
theorem dX5_comes_19 : decode cX5_comes 19 = .ok (.ifCond .ge 10, 3) := by decide +kernel
theorem dX5_comes_22 : decode cX5_comes 22 = .ok (.aload_n 0, 1) := by decide +kernel
theorem dX5_comes_23 : decode cX5_comes 23 = .ok (.bipush (-4), 2) := by decide +kernel
theorem dX5_comes_25 : decode cX5_comes 25 = .ok (.invokevirtual 130, 3) := by decide +kernel
theorem dX5_comes_28 : decode cX5_comes 28 = .ok (.lreturn, 1) := by decide +kernel
theorem dX5_comes_29 : decode cX5_comes 29 = .ok (.iload_n 2, 1) := by decide +kernel
theorem dX5_comes_30 : decode cX5_comes 30 = .ok (.bipush 12, 2) := by decide +kernel
theorem dX5_comes_32 : decode cX5_comes 32 = .ok (.if_icmp .gt 9, 3) := by decide +kernel
theorem dX5_comes_35 : decode cX5_comes 35 = .ok (.iload_n 3, 1) := by decide +kernel
theorem dX5_comes_36 : decode cX5_comes 36 = .ok (.bipush 11, 2) := by decide +kernel
theorem dX5_comes_38 : decode cX5_comes 38 = .ok (.if_icmp .le 10, 3) := by decide +kernel
theorem dX5_comes_41 : decode cX5_comes 41 = .ok (.aload_n 0, 1) := by decide +kernel
theorem dX5_comes_42 : decode cX5_comes 42 = .ok (.bipush (-6), 2) := by decide +kernel
theorem dX5_comes_44 : decode cX5_comes 44 = .ok (.invokevirtual 130, 3) := by decide +kernel
theorem dX5_comes_47 : decode cX5_comes 47 = .ok (.lreturn, 1) := by decide +kernel
theorem dX5_comes_48 : decode cX5_comes 48 = .ok (.iload 4, 2) := by decide +kernel
theorem dX5_comes_50 : decode cX5_comes 50 = .ok (.invokestatic 134, 3) := by decide +kernel
theorem dX5_comes_53 : decode cX5_comes 53 = .ok (.ifCond .eq 10, 3) := by decide +kernel
theorem dX5_comes_56 : decode cX5_comes 56 = .ok (.aload_n 0, 1) := by decide +kernel
theorem dX5_comes_57 : decode cX5_comes 57 = .ok (.bipush (-2), 2) := by decide +kernel
theorem dX5_comes_59 : decode cX5_comes 59 = .ok (.invokevirtual 130, 3) := by decide +kernel
theorem dX5_comes_62 : decode cX5_comes 62 = .ok (.lreturn, 1) := by decide +kernel
theorem dX5_comes_63 : decode cX5_comes 63 = .ok (.iload_n 2, 1) := by decide +kernel
theorem dX5_comes_64 : decode cX5_comes 64 = .ok (.iload_n 3, 1) := by decide +kernel
theorem dX5_comes_65 : decode cX5_comes 65 = .ok (.if_icmp .ge 7, 3) := by decide +kernel
theorem dX5_comes_68 : decode cX5_comes 68 = .ok (.lconst 0, 1) := by decide +kernel
theorem dX5_comes_69 : decode cX5_comes 69 = .ok (.goto 10, 3) := by decide +kernel
theorem dX5_comes_72 : decode cX5_comes 72 = .ok (.aload_n 0, 1) := by decide +kernel
theorem dX5_comes_73 : decode cX5_comes 73 = .ok (.iload_n 1, 1) := by decide +kernel
theorem dX5_comes_74 : decode cX5_comes 74 = .ok (.iload_n 2, 1) := by decide +kernel
theorem dX5_comes_75 : decode cX5_comes 75 = .ok (.invokevirtual 108, 3) := by decide +kernel
theorem dX5_comes_78 : decode cX5_comes 78 = .ok (.i2l, 1) := by decide +kernel
theorem dX5_comes_79 : decode cX5_comes 79 = .ok (.aload_n 0, 1) := by decide +kernel
theorem dX5_comes_80 : decode cX5_comes 80 = .ok (.iload_n 1, 1) := by decide +kernel
theorem dX5_comes_81 : decode cX5_comes 81 = .ok (.iload_n 3, 1) := by decide +kernel
theorem dX5_comes_82 : decode cX5_comes 82 = .ok (.invokevirtual 121, 3) := by decide +kernel
theorem dX5_comes_85 : decode cX5_comes 85 = .ok (.i2l, 1) := by decide +kernel
theorem dX5_comes_86 : decode cX5_comes 86 = .ok (.iload 4, 2) := by decide +kernel
theorem dX5_comes_88 : decode cX5_comes 88 = .ok (.invokestatic 137, 3) := by decide +kernel
theorem dX5_comes_91 : decode cX5_comes 91 = .ok (.lreturn, 1) := by decide +kernel
theorem dX5_stay_0 : decode cX5_stay 0 = .ok (.iload_n 3, 1) := by decide +kernel
theorem dX5_stay_1 : decode cX5_stay 1 = .ok (.ifCond .le 14, 3) := by decide +kernel
theorem dX5_stay_4 : decode cX5_stay 4 = .ok (.iload_n 1, 1) := by decide +kernel
theorem dX5_stay_5 : decode cX5_stay 5 = .ok (.iconst 5, 1) := by decide +kernel
theorem dX5_stay_6 : decode cX5_stay 6 = .ok (.if_icmp .ne 7, 3) := by decide +kernel
theorem dX5_stay_9 : decode cX5_stay 9 = .ok (.iload_n 2, 1) := by decide +kernel
theorem dX5_stay_10 : decode cX5_stay 10 = .ok (.goto 4, 3) := by decide +kernel
theorem dX5_stay_13 : decode cX5_stay 13 = .ok (.iconst 0, 1) := by decide +kernel
theorem dX5_stay_14 : decode cX5_stay 14 = .ok (.ireturn, 1) := by decide +kernel
theorem dX5_stay_15 : decode cX5_stay 15 = .ok (.iload_n 1, 1) := by decide +kernel
theorem dX5_stay_16 : decode cX5_stay 16 = .ok (.ifCond .ne 12, 3) := by decide +kernel
theorem dX5_stay_19 : decode cX5_stay 19 = .ok (.aload_n 0, 1) := by decide +kernel
theorem dX5_stay_20 : decode cX5_stay 20 = .ok (.getfield 19, 3) := by decide +kernel
theorem dX5_stay_23 : decode cX5_stay 23 = .ok (.iconst 5, 1) := by decide +kernel
theorem dX5_stay_24 : decode cX5_stay 24 = .ok (.iaload, 1) := by decide +kernel
theorem dX5_stay_25 : decode cX5_stay 25 = .ok (.goto 24, 3) := by decide +kernel
theorem dX5_stay_28 : decode cX5_stay 28 = .ok (.iload_n 1, 1) := by decide +kernel
theorem dX5_stay_29 : decode cX5_stay 29 = .ok (.iconst 3, 1) := by decide +kernel
theorem dX5_stay_30 : decode cX5_stay 30 = .ok (.if_icmp .ne 7, 3) := by decide +kernel
theorem dX5_stay_33 : decode cX5_stay 33 = .ok (.iload_n 2, 1) := by decide +kernel
theorem dX5_stay_34 : decode cX5_stay 34 = .ok (.goto 15, 3) := by decide +kernel
theorem dX5_stay_37 : decode cX5_stay 37 = .ok (.iload_n 1, 1) := by decide +kernel
theorem dX5_stay_38 : decode cX5_stay 38 = .ok (.iconst 5, 1) := by decide +kernel
theorem dX5_stay_39 : decode cX5_stay 39 = .ok (.if_icmp .ne 9, 3) := by decide +kernel
theorem dX5_stay_42 : decode cX5_stay 42 = .ok (.iconst 2, 1) := by decide +kernel
theorem dX5_stay_43 : decode cX5_stay 43 = .ok (.iload_n 2, 1) := by decide +kernel
theorem dX5_stay_44 : decode cX5_stay 44 = .ok (.imul, 1) := by decide +kernel
theorem dX5_stay_45 : decode cX5_stay 45 = .ok (.goto 4, 3) := by decide +kernel
theorem dX5_stay_48 : decode cX5_stay 48 = .ok (.iconst 0, 1) := by decide +kernel
theorem dX5_stay_49 : decode cX5_stay 49 = .ok (.ireturn, 1) := by decide +kernel
theorem xiX5_home_X5 : GoodIn wsX5_home wsX50 := goodIn_sub (fun _ h => List.mem_cons_of_mem _ (List.mem_append_right _ h)) xgwX5
set_option maxRecDepth 20000 in
theorem ggX5_home_X5_to : GoodIn wsX5_home wsX5_to := (goodIn_ca (goodIn_r _ [6, 7, 8, 9, 5, 10, 1] rfl (by decide +kernel)) xiX5_home_X5)
set_option maxRecDepth 20000 in
theorem gX5_home_X5_to : GoodIn wsX5_home (wsV RX5 105 RX5 yX5_to wsX5_to) := goodIn_app (goodIn_r _ [2, 3, 4, 5] rfl (by decide +kernel)) ggX5_home_X5_to
set_option maxRecDepth 20000 in
theorem ggX5_home_X5_stay : GoodIn wsX5_home wsX5_stay := (goodIn_ca (goodIn_r _ [14, 1] rfl (by decide +kernel)) xiX5_home_X5)
set_option maxRecDepth 20000 in
theorem gX5_home_X5_stay : GoodIn wsX5_home (wsV RX5 141 RX5 yX5_stay wsX5_stay) := goodIn_app (goodIn_r _ [11, 12, 13, 5] rfl (by decide +kernel)) ggX5_home_X5_stay
set_option maxRecDepth 20000 in
theorem ggX5_home_X5_halts : GoodIn wsX5_home wsX5_halts := (goodIn_ca (goodIn_r _ [18, 1] rfl (by decide +kernel)) xiX5_home_X5)
set_option maxRecDepth 20000 in
theorem gX5_home_X5_halts : GoodIn wsX5_home (wsV RX5 127 RX5 yX5_halts wsX5_halts) := goodIn_app (goodIn_r _ [15, 16, 17, 5] rfl (by decide +kernel)) ggX5_home_X5_halts
set_option maxRecDepth 20000 in
theorem ggX5_home_X5_toLast : GoodIn wsX5_home wsX5_toLast := (goodIn_ca (goodIn_r _ [22, 1, 2, 3, 4, 5, 6, 7, 8, 9, 10] rfl (by decide +kernel)) xiX5_home_X5)
set_option maxRecDepth 20000 in
theorem gX5_home_X5_toLast : GoodIn wsX5_home (wsV RX5 124 RX5 yX5_toLast wsX5_toLast) := goodIn_app (goodIn_r _ [19, 20, 21, 5] rfl (by decide +kernel)) ggX5_home_X5_toLast
set_option maxRecDepth 20000 in
theorem ggX5_home_X5_leg : GoodIn wsX5_home wsX5_leg := (goodIn_ca (goodIn_r _ [26, 1, 27, 28, 5, 29] rfl (by decide +kernel)) xiX5_home_X5)
set_option maxRecDepth 20000 in
theorem gX5_home_X5_leg : GoodIn wsX5_home (wsV RX5 99 RX5 yX5_leg wsX5_leg) := goodIn_app (goodIn_r _ [23, 24, 25, 5] rfl (by decide +kernel)) ggX5_home_X5_leg
theorem dX5_home_0 : decode cX5_home 0 = .ok (.iload_n 2, 1) := by decide +kernel
theorem dX5_home_1 : decode cX5_home 1 = .ok (.iconst 4, 1) := by decide +kernel
theorem dX5_home_2 : decode cX5_home 2 = .ok (.if_icmp .ne 14, 3) := by decide +kernel
theorem dX5_home_5 : decode cX5_home 5 = .ok (.iconst 2, 1) := by decide +kernel
theorem dX5_home_6 : decode cX5_home 6 = .ok (.aload_n 0, 1) := by decide +kernel
theorem dX5_home_7 : decode cX5_home 7 = .ok (.getfield 19, 3) := by decide +kernel
theorem dX5_home_10 : decode cX5_home 10 = .ok (.iconst 2, 1) := by decide +kernel
theorem dX5_home_11 : decode cX5_home 11 = .ok (.iaload, 1) := by decide +kernel
theorem dX5_home_12 : decode cX5_home 12 = .ok (.imul, 1) := by decide +kernel
theorem dX5_home_13 : decode cX5_home 13 = .ok (.goto 9, 3) := by decide +kernel
theorem dX5_home_16 : decode cX5_home 16 = .ok (.aload_n 0, 1) := by decide +kernel
theorem dX5_home_17 : decode cX5_home 17 = .ok (.getfield 19, 3) := by decide +kernel
theorem dX5_home_20 : decode cX5_home 20 = .ok (.iconst 2, 1) := by decide +kernel
theorem dX5_home_21 : decode cX5_home 21 = .ok (.iaload, 1) := by decide +kernel
theorem dX5_home_22 : decode cX5_home 22 = .ok (.istore 5, 2) := by decide +kernel
theorem dX5_home_24 : decode cX5_home 24 = .ok (.iload_n 2, 1) := by decide +kernel
theorem dX5_home_25 : decode cX5_home 25 = .ok (.iconst 2, 1) := by decide +kernel
theorem dX5_home_26 : decode cX5_home 26 = .ok (.if_icmp .eq 13, 3) := by decide +kernel
theorem dX5_home_29 : decode cX5_home 29 = .ok (.iload_n 2, 1) := by decide +kernel
theorem dX5_home_30 : decode cX5_home 30 = .ok (.iconst 3, 1) := by decide +kernel
theorem dX5_home_31 : decode cX5_home 31 = .ok (.if_icmp .eq 8, 3) := by decide +kernel
theorem dX5_home_34 : decode cX5_home 34 = .ok (.iload_n 2, 1) := by decide +kernel
theorem dX5_home_35 : decode cX5_home 35 = .ok (.iconst 5, 1) := by decide +kernel
theorem dX5_home_36 : decode cX5_home 36 = .ok (.if_icmp .ne 7, 3) := by decide +kernel
theorem dX5_home_39 : decode cX5_home 39 = .ok (.iconst 1, 1) := by decide +kernel
theorem dX5_home_40 : decode cX5_home 40 = .ok (.goto 4, 3) := by decide +kernel
theorem dX5_home_43 : decode cX5_home 43 = .ok (.iconst 0, 1) := by decide +kernel
theorem dX5_home_44 : decode cX5_home 44 = .ok (.istore 6, 2) := by decide +kernel
theorem dX5_home_46 : decode cX5_home 46 = .ok (.iconst 0, 1) := by decide +kernel
theorem dX5_home_47 : decode cX5_home 47 = .ok (.istore 7, 2) := by decide +kernel
theorem dX5_home_49 : decode cX5_home 49 = .ok (.iconst 0, 1) := by decide +kernel
theorem dX5_home_50 : decode cX5_home 50 = .ok (.istore 8, 2) := by decide +kernel
theorem dX5_home_52 : decode cX5_home 52 = .ok (.iload 8, 2) := by decide +kernel
theorem dX5_home_54 : decode cX5_home 54 = .ok (.aload_n 0, 1) := by decide +kernel
theorem dX5_home_55 : decode cX5_home 55 = .ok (.getfield 19, 3) := by decide +kernel
theorem dX5_home_58 : decode cX5_home 58 = .ok (.iconst 0, 1) := by decide +kernel
theorem dX5_home_59 : decode cX5_home 59 = .ok (.iaload, 1) := by decide +kernel
theorem dX5_home_60 : decode cX5_home 60 = .ok (.iconst 1, 1) := by decide +kernel
theorem dX5_home_61 : decode cX5_home 61 = .ok (.isub, 1) := by decide +kernel
theorem dX5_home_62 : decode cX5_home 62 = .ok (.if_icmp .ge 118, 3) := by decide +kernel
theorem dX5_home_65 : decode cX5_home 65 = .ok (.iload 4, 2) := by decide +kernel
theorem dX5_home_67 : decode cX5_home 67 = .ok (.aload_n 0, 1) := by decide +kernel
theorem dX5_home_68 : decode cX5_home 68 = .ok (.iload_n 1, 1) := by decide +kernel
theorem dX5_home_69 : decode cX5_home 69 = .ok (.iload 8, 2) := by decide +kernel
theorem dX5_home_71 : decode cX5_home 71 = .ok (.invokevirtual 105, 3) := by decide +kernel
theorem dX5_home_74 : decode cX5_home 74 = .ok (.iadd, 1) := by decide +kernel
theorem dX5_home_75 : decode cX5_home 75 = .ok (.istore 9, 2) := by decide +kernel
theorem dX5_home_77 : decode cX5_home 77 = .ok (.iload 7, 2) := by decide +kernel
theorem dX5_home_79 : decode cX5_home 79 = .ok (.aload_n 0, 1) := by decide +kernel
theorem dX5_home_80 : decode cX5_home 80 = .ok (.iload_n 2, 1) := by decide +kernel
theorem dX5_home_81 : decode cX5_home 81 = .ok (.iload_n 3, 1) := by decide +kernel
theorem dX5_home_82 : decode cX5_home 82 = .ok (.iload 8, 2) := by decide +kernel
theorem dX5_home_84 : decode cX5_home 84 = .ok (.invokevirtual 141, 3) := by decide +kernel
theorem dX5_home_87 : decode cX5_home 87 = .ok (.iadd, 1) := by decide +kernel
theorem dX5_home_88 : decode cX5_home 88 = .ok (.istore 10, 2) := by decide +kernel
theorem dX5_home_90 : decode cX5_home 90 = .ok (.iload 4, 2) := by decide +kernel
theorem dX5_home_92 : decode cX5_home 92 = .ok (.bipush 12, 2) := by decide +kernel
theorem dX5_home_94 : decode cX5_home 94 = .ok (.if_icmp .ge 65, 3) := by decide +kernel
theorem dX5_home_97 : decode cX5_home 97 = .ok (.aload_n 0, 1) := by decide +kernel
theorem dX5_home_98 : decode cX5_home 98 = .ok (.iload_n 1, 1) := by decide +kernel
theorem dX5_home_99 : decode cX5_home 99 = .ok (.iload 8, 2) := by decide +kernel
theorem dX5_home_101 : decode cX5_home 101 = .ok (.invokevirtual 127, 3) := by decide +kernel
theorem dX5_home_104 : decode cX5_home 104 = .ok (.ifCond .eq 55, 3) := by decide +kernel
theorem dX5_home_107 : decode cX5_home 107 = .ok (.iload 9, 2) := by decide +kernel
theorem dX5_home_109 : decode cX5_home 109 = .ok (.iload 7, 2) := by decide +kernel
theorem dX5_home_111 : decode cX5_home 111 = .ok (.if_icmp .lt 48, 3) := by decide +kernel
theorem dX5_home_114 : decode cX5_home 114 = .ok (.iload 9, 2) := by decide +kernel
theorem dX5_home_116 : decode cX5_home 116 = .ok (.iload 10, 2) := by decide +kernel
theorem dX5_home_118 : decode cX5_home 118 = .ok (.iload 6, 2) := by decide +kernel
theorem dX5_home_120 : decode cX5_home 120 = .ok (.ifCond .eq 12, 3) := by decide +kernel
theorem dX5_home_123 : decode cX5_home 123 = .ok (.aload_n 0, 1) := by decide +kernel
theorem dX5_home_124 : decode cX5_home 124 = .ok (.getfield 19, 3) := by decide +kernel
theorem dX5_home_127 : decode cX5_home 127 = .ok (.iconst 4, 1) := by decide +kernel
theorem dX5_home_128 : decode cX5_home 128 = .ok (.iaload, 1) := by decide +kernel
theorem dX5_home_129 : decode cX5_home 129 = .ok (.goto 4, 3) := by decide +kernel
theorem dX5_home_132 : decode cX5_home 132 = .ok (.iconst 0, 1) := by decide +kernel
theorem dX5_home_133 : decode cX5_home 133 = .ok (.iadd, 1) := by decide +kernel
theorem dX5_home_134 : decode cX5_home 134 = .ok (.if_icmp .gt 25, 3) := by decide +kernel
theorem dX5_home_137 : decode cX5_home 137 = .ok (.iload 4, 2) := by decide +kernel
theorem dX5_home_139 : decode cX5_home 139 = .ok (.aload_n 0, 1) := by decide +kernel
theorem dX5_home_140 : decode cX5_home 140 = .ok (.iload_n 1, 1) := by decide +kernel
theorem dX5_home_141 : decode cX5_home 141 = .ok (.invokevirtual 124, 3) := by decide +kernel
theorem dX5_home_144 : decode cX5_home 144 = .ok (.iadd, 1) := by decide +kernel
theorem dX5_home_145 : decode cX5_home 145 = .ok (.aload_n 0, 1) := by decide +kernel
theorem dX5_home_146 : decode cX5_home 146 = .ok (.aload_n 0, 1) := by decide +kernel
theorem dX5_home_147 : decode cX5_home 147 = .ok (.getfield 19, 3) := by decide +kernel
theorem dX5_home_150 : decode cX5_home 150 = .ok (.iconst 0, 1) := by decide +kernel
theorem dX5_home_151 : decode cX5_home 151 = .ok (.iaload, 1) := by decide +kernel
theorem dX5_home_152 : decode cX5_home 152 = .ok (.iload 5, 2) := by decide +kernel
theorem dX5_home_154 : decode cX5_home 154 = .ok (.invokevirtual 99, 3) := by decide +kernel
theorem dX5_home_157 : decode cX5_home 157 = .ok (.iadd, 1) := by decide +kernel
theorem dX5_home_158 : decode cX5_home 158 = .ok (.ireturn, 1) := by decide +kernel
theorem dX5_home_159 : decode cX5_home 159 = .ok (.iload 10, 2) := by decide +kernel
theorem dX5_home_161 : decode cX5_home 161 = .ok (.aload_n 0, 1) := by decide +kernel
theorem dX5_home_162 : decode cX5_home 162 = .ok (.iload 8, 2) := by decide +kernel
theorem dX5_home_164 : decode cX5_home 164 = .ok (.iconst 1, 1) := by decide +kernel
theorem dX5_home_165 : decode cX5_home 165 = .ok (.iadd, 1) := by decide +kernel
theorem dX5_home_166 : decode cX5_home 166 = .ok (.iload 5, 2) := by decide +kernel
theorem dX5_home_168 : decode cX5_home 168 = .ok (.invokevirtual 99, 3) := by decide +kernel
theorem dX5_home_171 : decode cX5_home 171 = .ok (.iadd, 1) := by decide +kernel
theorem dX5_home_172 : decode cX5_home 172 = .ok (.istore 7, 2) := by decide +kernel
theorem dX5_home_174 : decode cX5_home 174 = .ok (.iinc 8 1, 3) := by decide +kernel
theorem dX5_home_177 : decode cX5_home 177 = .ok (.goto (-125), 3) := by decide +kernel
theorem dX5_home_180 : decode cX5_home 180 = .ok (.iload 7, 2) := by decide +kernel
theorem dX5_home_182 : decode cX5_home 182 = .ok (.aload_n 0, 1) := by decide +kernel
theorem dX5_home_183 : decode cX5_home 183 = .ok (.aload_n 0, 1) := by decide +kernel
theorem dX5_home_184 : decode cX5_home 184 = .ok (.getfield 19, 3) := by decide +kernel
theorem dX5_home_187 : decode cX5_home 187 = .ok (.iconst 0, 1) := by decide +kernel
theorem dX5_home_188 : decode cX5_home 188 = .ok (.iaload, 1) := by decide +kernel
theorem dX5_home_189 : decode cX5_home 189 = .ok (.iload 5, 2) := by decide +kernel
theorem dX5_home_191 : decode cX5_home 191 = .ok (.invokevirtual 99, 3) := by decide +kernel
theorem dX5_home_194 : decode cX5_home 194 = .ok (.iadd, 1) := by decide +kernel
theorem dX5_home_195 : decode cX5_home 195 = .ok (.ireturn, 1) := by decide +kernel
theorem xiX5_homeAt_X5 : GoodIn wsX5_homeAt wsX50 := goodIn_sub (fun _ h => List.mem_cons_of_mem _ (List.mem_append_right _ h)) xgwX5
set_option maxRecDepth 20000 in
theorem ggX5_homeAt_X5_isNoLine : GoodIn wsX5_homeAt wsX5_isNoLine := (goodIn_ca (goodIn_r _ [5, 6] rfl (by decide +kernel)) xiX5_homeAt_X5)
set_option maxRecDepth 20000 in
theorem gX5_homeAt_X5_isNoLine : GoodIn wsX5_homeAt (wsV RX5 118 RX5 yX5_isNoLine wsX5_isNoLine) := goodIn_app (goodIn_r _ [1, 2, 3, 4] rfl (by decide +kernel)) ggX5_homeAt_X5_isNoLine
set_option maxRecDepth 20000 in
theorem ggX5_homeAt_X5_no : GoodIn wsX5_homeAt wsX5_no := (goodIn_ca (goodIn_r _ [10, 11] rfl (by decide +kernel)) xiX5_homeAt_X5)
set_option maxRecDepth 20000 in
theorem gX5_homeAt_X5_no : GoodIn wsX5_homeAt (wsV RX5 9 RX5 yX5_no wsX5_no) := goodIn_app (goodIn_r _ [7, 8, 9, 4] rfl (by decide +kernel)) ggX5_homeAt_X5_no
set_option maxRecDepth 20000 in
theorem ggX5_homeAt_X5_home : GoodIn wsX5_homeAt wsX5_home := (goodIn_ca (goodIn_r _ [15, 6, 16, 17, 18, 4, 19, 20, 21, 22, 23, 24, 25, 26, 27, 28, 29, 30, 31, 32, 33, 34, 35, 36, 37, 38, 39, 40, 41, 42] rfl (by decide +kernel)) xiX5_homeAt_X5)
set_option maxRecDepth 20000 in
theorem gX5_homeAt_X5_home : GoodIn wsX5_homeAt (wsV RX5 145 RX5 yX5_home wsX5_home) := goodIn_app (goodIn_r _ [12, 13, 14, 4] rfl (by decide +kernel)) ggX5_homeAt_X5_home
theorem dX5_homeAt_0 : decode cX5_homeAt 0 = .ok (.aload_n 0, 1) := by decide +kernel
theorem dX5_homeAt_1 : decode cX5_homeAt 1 = .ok (.iload_n 1, 1) := by decide +kernel
theorem dX5_homeAt_2 : decode cX5_homeAt 2 = .ok (.invokevirtual 118, 3) := by decide +kernel
theorem dX5_homeAt_5 : decode cX5_homeAt 5 = .ok (.ifCond .eq 9, 3) := by decide +kernel
theorem dX5_homeAt_8 : decode cX5_homeAt 8 = .ok (.aload_n 0, 1) := by decide +kernel
theorem dX5_homeAt_9 : decode cX5_homeAt 9 = .ok (.iconst (-1), 1) := by decide +kernel
theorem dX5_homeAt_10 : decode cX5_homeAt 10 = .ok (.invokevirtual 9, 3) := by decide +kernel
theorem dX5_homeAt_13 : decode cX5_homeAt 13 = .ok (.ireturn, 1) := by decide +kernel
theorem dX5_homeAt_14 : decode cX5_homeAt 14 = .ok (.iload_n 2, 1) := by decide +kernel
theorem dX5_homeAt_15 : decode cX5_homeAt 15 = .ok (.ifCond .lt 8, 3) := by decide +kernel
theorem dX5_homeAt_18 : decode cX5_homeAt 18 = .ok (.iload_n 2, 1) := by decide +kernel
theorem dX5_homeAt_19 : decode cX5_homeAt 19 = .ok (.iconst 5, 1) := by decide +kernel
theorem dX5_homeAt_20 : decode cX5_homeAt 20 = .ok (.if_icmp .le 10, 3) := by decide +kernel
theorem dX5_homeAt_23 : decode cX5_homeAt 23 = .ok (.aload_n 0, 1) := by decide +kernel
theorem dX5_homeAt_24 : decode cX5_homeAt 24 = .ok (.bipush (-2), 2) := by decide +kernel
theorem dX5_homeAt_26 : decode cX5_homeAt 26 = .ok (.invokevirtual 9, 3) := by decide +kernel
theorem dX5_homeAt_29 : decode cX5_homeAt 29 = .ok (.ireturn, 1) := by decide +kernel
theorem dX5_homeAt_30 : decode cX5_homeAt 30 = .ok (.iload_n 3, 1) := by decide +kernel
theorem dX5_homeAt_31 : decode cX5_homeAt 31 = .ok (.ifCond .lt 8, 3) := by decide +kernel
theorem dX5_homeAt_34 : decode cX5_homeAt 34 = .ok (.iload 4, 2) := by decide +kernel
theorem dX5_homeAt_36 : decode cX5_homeAt 36 = .ok (.ifCond .ge 10, 3) := by decide +kernel
theorem dX5_homeAt_39 : decode cX5_homeAt 39 = .ok (.aload_n 0, 1) := by decide +kernel
theorem dX5_homeAt_40 : decode cX5_homeAt 40 = .ok (.bipush (-4), 2) := by decide +kernel
theorem dX5_homeAt_42 : decode cX5_homeAt 42 = .ok (.invokevirtual 9, 3) := by decide +kernel
theorem dX5_homeAt_45 : decode cX5_homeAt 45 = .ok (.ireturn, 1) := by decide +kernel
theorem dX5_homeAt_46 : decode cX5_homeAt 46 = .ok (.iload_n 3, 1) := by decide +kernel
theorem dX5_homeAt_47 : decode cX5_homeAt 47 = .ok (.bipush 12, 2) := by decide +kernel
theorem dX5_homeAt_49 : decode cX5_homeAt 49 = .ok (.if_icmp .gt 10, 3) := by decide +kernel
theorem dX5_homeAt_52 : decode cX5_homeAt 52 = .ok (.iload 4, 2) := by decide +kernel
theorem dX5_homeAt_54 : decode cX5_homeAt 54 = .ok (.bipush 12, 2) := by decide +kernel
theorem dX5_homeAt_56 : decode cX5_homeAt 56 = .ok (.if_icmp .le 12, 3) := by decide +kernel
theorem dX5_homeAt_59 : decode cX5_homeAt 59 = .ok (.aload_n 0, 1) := by decide +kernel
theorem dX5_homeAt_60 : decode cX5_homeAt 60 = .ok (.bipush (-6), 2) := by decide +kernel
theorem dX5_homeAt_62 : decode cX5_homeAt 62 = .ok (.invokevirtual 9, 3) := by decide +kernel
theorem dX5_homeAt_65 : decode cX5_homeAt 65 = .ok (.goto 12, 3) := by decide +kernel
theorem dX5_homeAt_68 : decode cX5_homeAt 68 = .ok (.aload_n 0, 1) := by decide +kernel
theorem dX5_homeAt_69 : decode cX5_homeAt 69 = .ok (.iload_n 1, 1) := by decide +kernel
theorem dX5_homeAt_70 : decode cX5_homeAt 70 = .ok (.iload_n 2, 1) := by decide +kernel
theorem dX5_homeAt_71 : decode cX5_homeAt 71 = .ok (.iload_n 3, 1) := by decide +kernel
theorem dX5_homeAt_72 : decode cX5_homeAt 72 = .ok (.iload 4, 2) := by decide +kernel
theorem dX5_homeAt_74 : decode cX5_homeAt 74 = .ok (.invokevirtual 145, 3) := by decide +kernel
theorem dX5_homeAt_77 : decode cX5_homeAt 77 = .ok (.ireturn, 1) := by decide +kernel
theorem xiX5_walked_X5 : GoodIn wsX5_walked wsX50 := goodIn_sub (fun _ h => List.mem_cons_of_mem _ (List.mem_append_right _ h)) xgwX5
set_option maxRecDepth 20000 in
theorem ggX5_walked_X5_rest : GoodIn wsX5_walked wsX5_rest := (goodIn_ca (goodIn_r _ [5, 6, 7, 8, 9, 4, 10, 11, 12, 13] rfl (by decide +kernel)) xiX5_walked_X5)
set_option maxRecDepth 20000 in
theorem gX5_walked_X5_rest : GoodIn wsX5_walked (wsV RX5 115 RX5 yX5_rest wsX5_rest) := goodIn_app (goodIn_r _ [1, 2, 3, 4] rfl (by decide +kernel)) ggX5_walked_X5_rest
theorem dX5_walked_0 : decode cX5_walked 0 = .ok (.aload_n 0, 1) := by decide +kernel
theorem dX5_walked_1 : decode cX5_walked 1 = .ok (.iconst 0, 1) := by decide +kernel
theorem dX5_walked_2 : decode cX5_walked 2 = .ok (.invokevirtual 115, 3) := by decide +kernel
theorem dX5_walked_5 : decode cX5_walked 5 = .ok (.ireturn, 1) := by decide +kernel
theorem xiX5_sum_X5 : GoodIn wsX5_sum wsX50 := goodIn_sub (fun _ h => List.mem_cons_of_mem _ (List.mem_append_right _ h)) xgwX5
set_option maxRecDepth 20000 in
theorem ggX5_sum_X5_weight : GoodIn wsX5_sum wsX5_weight := (goodIn_ca (goodIn_r _ [5, 6] rfl (by decide +kernel)) xiX5_sum_X5)
set_option maxRecDepth 20000 in
theorem gX5_sum_X5_weight : GoodIn wsX5_sum (wsV RX5 108 RX5 yX5_weight wsX5_weight) := goodIn_app (goodIn_r _ [1, 2, 3, 4] rfl (by decide +kernel)) ggX5_sum_X5_weight
set_option maxRecDepth 20000 in
theorem ggX5_sum_X5_home : GoodIn wsX5_sum wsX5_home := (goodIn_ca (goodIn_r _ [10, 6, 11, 12, 13, 4, 14, 15, 16, 17, 18, 19, 20, 21, 22, 23, 24, 25, 26, 27, 28, 29, 30, 31, 32, 33, 34, 35, 36, 37] rfl (by decide +kernel)) xiX5_sum_X5)
set_option maxRecDepth 20000 in
theorem gX5_sum_X5_home : GoodIn wsX5_sum (wsV RX5 145 RX5 yX5_home wsX5_home) := goodIn_app (goodIn_r _ [7, 8, 9, 4] rfl (by decide +kernel)) ggX5_sum_X5_home
theorem dX5_sum_0 : decode cX5_sum 0 = .ok (.iconst 0, 1) := by decide +kernel
theorem dX5_sum_1 : decode cX5_sum 1 = .ok (.istore 4, 2) := by decide +kernel
theorem dX5_sum_3 : decode cX5_sum 3 = .ok (.iconst 0, 1) := by decide +kernel
theorem dX5_sum_4 : decode cX5_sum 4 = .ok (.istore 5, 2) := by decide +kernel
theorem dX5_sum_6 : decode cX5_sum 6 = .ok (.iload 5, 2) := by decide +kernel
theorem dX5_sum_8 : decode cX5_sum 8 = .ok (.bipush 12, 2) := by decide +kernel
theorem dX5_sum_10 : decode cX5_sum 10 = .ok (.if_icmp .gt 31, 3) := by decide +kernel
theorem dX5_sum_13 : decode cX5_sum 13 = .ok (.iload 4, 2) := by decide +kernel
theorem dX5_sum_15 : decode cX5_sum 15 = .ok (.aload_n 0, 1) := by decide +kernel
theorem dX5_sum_16 : decode cX5_sum 16 = .ok (.iload_n 1, 1) := by decide +kernel
theorem dX5_sum_17 : decode cX5_sum 17 = .ok (.iload 5, 2) := by decide +kernel
theorem dX5_sum_19 : decode cX5_sum 19 = .ok (.invokevirtual 108, 3) := by decide +kernel
theorem dX5_sum_22 : decode cX5_sum 22 = .ok (.aload_n 0, 1) := by decide +kernel
theorem dX5_sum_23 : decode cX5_sum 23 = .ok (.iload_n 1, 1) := by decide +kernel
theorem dX5_sum_24 : decode cX5_sum 24 = .ok (.iload_n 2, 1) := by decide +kernel
theorem dX5_sum_25 : decode cX5_sum 25 = .ok (.iload_n 3, 1) := by decide +kernel
theorem dX5_sum_26 : decode cX5_sum 26 = .ok (.iload 5, 2) := by decide +kernel
theorem dX5_sum_28 : decode cX5_sum 28 = .ok (.invokevirtual 145, 3) := by decide +kernel
theorem dX5_sum_31 : decode cX5_sum 31 = .ok (.imul, 1) := by decide +kernel
theorem dX5_sum_32 : decode cX5_sum 32 = .ok (.iadd, 1) := by decide +kernel
theorem dX5_sum_33 : decode cX5_sum 33 = .ok (.istore 4, 2) := by decide +kernel
theorem dX5_sum_35 : decode cX5_sum 35 = .ok (.iinc 5 1, 3) := by decide +kernel
theorem dX5_sum_38 : decode cX5_sum 38 = .ok (.goto (-32), 3) := by decide +kernel
theorem dX5_sum_41 : decode cX5_sum 41 = .ok (.iload 4, 2) := by decide +kernel
theorem dX5_sum_43 : decode cX5_sum 43 = .ok (.ireturn, 1) := by decide +kernel
theorem xiX5_mean_X5 : GoodIn wsX5_mean wsX50 := goodIn_sub (fun _ h => List.mem_cons_of_mem _ (List.mem_append_right _ h)) xgwX5
set_option maxRecDepth 20000 in
theorem ggX5_mean_X5_isNoLine : GoodIn wsX5_mean wsX5_isNoLine := (goodIn_ca (goodIn_r _ [5, 6] rfl (by decide +kernel)) xiX5_mean_X5)
set_option maxRecDepth 20000 in
theorem gX5_mean_X5_isNoLine : GoodIn wsX5_mean (wsV RX5 118 RX5 yX5_isNoLine wsX5_isNoLine) := goodIn_app (goodIn_r _ [1, 2, 3, 4] rfl (by decide +kernel)) ggX5_mean_X5_isNoLine
set_option maxRecDepth 20000 in
theorem ggX5_mean_X5_noLong : GoodIn wsX5_mean wsX5_noLong := (goodIn_ca (goodIn_r _ [10, 11, 12, 13, 14, 4, 15, 16] rfl (by decide +kernel)) xiX5_mean_X5)
set_option maxRecDepth 20000 in
theorem gX5_mean_X5_noLong : GoodIn wsX5_mean (wsV RX5 130 RX5 yX5_noLong wsX5_noLong) := goodIn_app (goodIn_r _ [7, 8, 9, 4] rfl (by decide +kernel)) ggX5_mean_X5_noLong
set_option maxRecDepth 20000 in
theorem ggX5_mean_X5_isNoPart : GoodIn wsX5_mean wsX5_isNoPart := goodIn_r _ [19] rfl (by decide +kernel)
set_option maxRecDepth 20000 in
theorem gX5_mean_X5_isNoPart : GoodIn wsX5_mean (va_wsS RX5 134 yX5_isNoPart wsX5_isNoPart) := goodIn_app (goodIn_r _ [17, 18, 4] rfl (by decide +kernel)) ggX5_mean_X5_isNoPart
set_option maxRecDepth 20000 in
theorem ggX5_mean_X5_sum : GoodIn wsX5_mean wsX5_sum := (goodIn_ca (goodIn_r _ [23, 24, 25, 26, 4, 27, 6, 28, 29, 30, 31, 32, 33, 34, 35, 36, 37, 38, 39, 40, 41, 42, 43, 44, 45, 46, 47, 48, 49, 50, 51, 52, 53, 54, 55, 56, 57, 58] rfl (by decide +kernel)) xiX5_mean_X5)
set_option maxRecDepth 20000 in
theorem gX5_mean_X5_sum : GoodIn wsX5_mean (wsV RX5 149 RX5 yX5_sum wsX5_sum) := goodIn_app (goodIn_r _ [20, 21, 22, 4] rfl (by decide +kernel)) ggX5_mean_X5_sum
set_option maxRecDepth 20000 in
theorem ggX5_mean_X5_weights : GoodIn wsX5_mean wsX5_weights := (goodIn_ca (goodIn_r _ [62, 24, 25, 26, 4, 27, 6] rfl (by decide +kernel)) xiX5_mean_X5)
set_option maxRecDepth 20000 in
theorem gX5_mean_X5_weights : GoodIn wsX5_mean (wsV RX5 121 RX5 yX5_weights wsX5_weights) := goodIn_app (goodIn_r _ [59, 60, 61, 4] rfl (by decide +kernel)) ggX5_mean_X5_weights
set_option maxRecDepth 20000 in
theorem ggX5_mean_X5_part : GoodIn wsX5_mean wsX5_part := goodIn_r _ [65] rfl (by decide +kernel)
set_option maxRecDepth 20000 in
theorem gX5_mean_X5_part : GoodIn wsX5_mean (va_wsS RX5 137 yX5_part wsX5_part) := goodIn_app (goodIn_r _ [63, 64, 4] rfl (by decide +kernel)) ggX5_mean_X5_part
theorem dX5_mean_0 : decode cX5_mean 0 = .ok (.aload_n 0, 1) := by decide +kernel
theorem dX5_mean_1 : decode cX5_mean 1 = .ok (.iload_n 1, 1) := by decide +kernel
theorem dX5_mean_2 : decode cX5_mean 2 = .ok (.invokevirtual 118, 3) := by decide +kernel
theorem dX5_mean_5 : decode cX5_mean 5 = .ok (.ifCond .eq 9, 3) := by decide +kernel
theorem dX5_mean_8 : decode cX5_mean 8 = .ok (.aload_n 0, 1) := by decide +kernel
theorem dX5_mean_9 : decode cX5_mean 9 = .ok (.iconst (-1), 1) := by decide +kernel
theorem dX5_mean_10 : decode cX5_mean 10 = .ok (.invokevirtual 130, 3) := by decide +kernel
theorem dX5_mean_13 : decode cX5_mean 13 = .ok (.lreturn, 1) := by decide +kernel
theorem dX5_mean_14 : decode cX5_mean 14 = .ok (.iload_n 2, 1) := by decide +kernel
theorem dX5_mean_15 : decode cX5_mean 15 = .ok (.ifCond .lt 8, 3) := by decide +kernel
theorem dX5_mean_18 : decode cX5_mean 18 = .ok (.iload_n 2, 1) := by decide +kernel
theorem dX5_mean_19 : decode cX5_mean 19 = .ok (.iconst 5, 1) := by decide +kernel
theorem dX5_mean_20 : decode cX5_mean 20 = .ok (.if_icmp .le 10, 3) := by decide +kernel
theorem dX5_mean_23 : decode cX5_mean 23 = .ok (.aload_n 0, 1) := by decide +kernel
theorem dX5_mean_24 : decode cX5_mean 24 = .ok (.bipush (-2), 2) := by decide +kernel
theorem dX5_mean_26 : decode cX5_mean 26 = .ok (.invokevirtual 130, 3) := by decide +kernel
theorem dX5_mean_29 : decode cX5_mean 29 = .ok (.lreturn, 1) := by decide +kernel
theorem dX5_mean_30 : decode cX5_mean 30 = .ok (.iload_n 3, 1) := by decide +kernel
theorem dX5_mean_31 : decode cX5_mean 31 = .ok (.ifCond .ge 10, 3) := by decide +kernel
theorem dX5_mean_34 : decode cX5_mean 34 = .ok (.aload_n 0, 1) := by decide +kernel
theorem dX5_mean_35 : decode cX5_mean 35 = .ok (.bipush (-4), 2) := by decide +kernel
theorem dX5_mean_37 : decode cX5_mean 37 = .ok (.invokevirtual 130, 3) := by decide +kernel
theorem dX5_mean_40 : decode cX5_mean 40 = .ok (.lreturn, 1) := by decide +kernel
theorem dX5_mean_41 : decode cX5_mean 41 = .ok (.iload_n 3, 1) := by decide +kernel
theorem dX5_mean_42 : decode cX5_mean 42 = .ok (.bipush 12, 2) := by decide +kernel
theorem dX5_mean_44 : decode cX5_mean 44 = .ok (.if_icmp .le 10, 3) := by decide +kernel
theorem dX5_mean_47 : decode cX5_mean 47 = .ok (.aload_n 0, 1) := by decide +kernel
theorem dX5_mean_48 : decode cX5_mean 48 = .ok (.bipush (-6), 2) := by decide +kernel
theorem dX5_mean_50 : decode cX5_mean 50 = .ok (.invokevirtual 130, 3) := by decide +kernel
theorem dX5_mean_53 : decode cX5_mean 53 = .ok (.lreturn, 1) := by decide +kernel
theorem dX5_mean_54 : decode cX5_mean 54 = .ok (.iload 4, 2) := by decide +kernel
theorem dX5_mean_56 : decode cX5_mean 56 = .ok (.invokestatic 134, 3) := by decide +kernel
theorem dX5_mean_59 : decode cX5_mean 59 = .ok (.ifCond .eq 12, 3) := by decide +kernel
theorem dX5_mean_62 : decode cX5_mean 62 = .ok (.aload_n 0, 1) := by decide +kernel
theorem dX5_mean_63 : decode cX5_mean 63 = .ok (.bipush (-2), 2) := by decide +kernel
theorem dX5_mean_65 : decode cX5_mean 65 = .ok (.invokevirtual 130, 3) := by decide +kernel
theorem dX5_mean_68 : decode cX5_mean 68 = .ok (.goto 23, 3) := by decide +kernel
theorem dX5_mean_71 : decode cX5_mean 71 = .ok (.aload_n 0, 1) := by decide +kernel
theorem dX5_mean_72 : decode cX5_mean 72 = .ok (.iload_n 1, 1) := by decide +kernel
theorem dX5_mean_73 : decode cX5_mean 73 = .ok (.iload_n 2, 1) := by decide +kernel
theorem dX5_mean_74 : decode cX5_mean 74 = .ok (.iload_n 3, 1) := by decide +kernel
theorem dX5_mean_75 : decode cX5_mean 75 = .ok (.invokevirtual 149, 3) := by decide +kernel
theorem dX5_mean_78 : decode cX5_mean 78 = .ok (.i2l, 1) := by decide +kernel
theorem dX5_mean_79 : decode cX5_mean 79 = .ok (.aload_n 0, 1) := by decide +kernel
theorem dX5_mean_80 : decode cX5_mean 80 = .ok (.iload_n 1, 1) := by decide +kernel
theorem dX5_mean_81 : decode cX5_mean 81 = .ok (.iconst 0, 1) := by decide +kernel
theorem dX5_mean_82 : decode cX5_mean 82 = .ok (.invokevirtual 121, 3) := by decide +kernel
theorem dX5_mean_85 : decode cX5_mean 85 = .ok (.i2l, 1) := by decide +kernel
theorem dX5_mean_86 : decode cX5_mean 86 = .ok (.iload 4, 2) := by decide +kernel
theorem dX5_mean_88 : decode cX5_mean 88 = .ok (.invokestatic 137, 3) := by decide +kernel
theorem dX5_mean_91 : decode cX5_mean 91 = .ok (.lreturn, 1) := by decide +kernel
theorem xiX5_sooner_X5 : GoodIn wsX5_sooner wsX50 := goodIn_sub (fun _ h => List.mem_cons_of_mem _ (List.mem_append_right _ h)) xgwX5
set_option maxRecDepth 20000 in
theorem ggX5_sooner_X5_isNoLine : GoodIn wsX5_sooner wsX5_isNoLine := (goodIn_ca (goodIn_r _ [5, 6] rfl (by decide +kernel)) xiX5_sooner_X5)
set_option maxRecDepth 20000 in
theorem gX5_sooner_X5_isNoLine : GoodIn wsX5_sooner (wsV RX5 118 RX5 yX5_isNoLine wsX5_isNoLine) := goodIn_app (goodIn_r _ [1, 2, 3, 4] rfl (by decide +kernel)) ggX5_sooner_X5_isNoLine
set_option maxRecDepth 20000 in
theorem ggX5_sooner_X5_noLong : GoodIn wsX5_sooner wsX5_noLong := (goodIn_ca (goodIn_r _ [10, 11, 12, 13, 14, 4, 15, 16] rfl (by decide +kernel)) xiX5_sooner_X5)
set_option maxRecDepth 20000 in
theorem gX5_sooner_X5_noLong : GoodIn wsX5_sooner (wsV RX5 130 RX5 yX5_noLong wsX5_noLong) := goodIn_app (goodIn_r _ [7, 8, 9, 4] rfl (by decide +kernel)) ggX5_sooner_X5_noLong
set_option maxRecDepth 20000 in
theorem ggX5_sooner_X5_isNoPart : GoodIn wsX5_sooner wsX5_isNoPart := goodIn_r _ [19] rfl (by decide +kernel)
set_option maxRecDepth 20000 in
theorem gX5_sooner_X5_isNoPart : GoodIn wsX5_sooner (va_wsS RX5 134 yX5_isNoPart wsX5_isNoPart) := goodIn_app (goodIn_r _ [17, 18, 4] rfl (by decide +kernel)) ggX5_sooner_X5_isNoPart
set_option maxRecDepth 20000 in
theorem ggX5_sooner_X5_home : GoodIn wsX5_sooner wsX5_home := (goodIn_ca (goodIn_r _ [23, 6, 24, 25, 26, 4, 27, 28, 29, 30, 31, 32, 33, 34, 35, 36, 37, 38, 39, 40, 41, 42, 43, 44, 45, 46, 47, 48, 49, 50] rfl (by decide +kernel)) xiX5_sooner_X5)
set_option maxRecDepth 20000 in
theorem gX5_sooner_X5_home : GoodIn wsX5_sooner (wsV RX5 145 RX5 yX5_home wsX5_home) := goodIn_app (goodIn_r _ [20, 21, 22, 4] rfl (by decide +kernel)) ggX5_sooner_X5_home
set_option maxRecDepth 20000 in
theorem ggX5_sooner_X5_weight : GoodIn wsX5_sooner wsX5_weight := (goodIn_ca (goodIn_r _ [54, 6] rfl (by decide +kernel)) xiX5_sooner_X5)
set_option maxRecDepth 20000 in
theorem gX5_sooner_X5_weight : GoodIn wsX5_sooner (wsV RX5 108 RX5 yX5_weight wsX5_weight) := goodIn_app (goodIn_r _ [51, 52, 53, 4] rfl (by decide +kernel)) ggX5_sooner_X5_weight
set_option maxRecDepth 20000 in
theorem ggX5_sooner_X5_weights : GoodIn wsX5_sooner wsX5_weights := (goodIn_ca (goodIn_r _ [58, 51, 52, 53, 4, 54, 6] rfl (by decide +kernel)) xiX5_sooner_X5)
set_option maxRecDepth 20000 in
theorem gX5_sooner_X5_weights : GoodIn wsX5_sooner (wsV RX5 121 RX5 yX5_weights wsX5_weights) := goodIn_app (goodIn_r _ [55, 56, 57, 4] rfl (by decide +kernel)) ggX5_sooner_X5_weights
set_option maxRecDepth 20000 in
theorem ggX5_sooner_X5_part : GoodIn wsX5_sooner wsX5_part := goodIn_r _ [61] rfl (by decide +kernel)
set_option maxRecDepth 20000 in
theorem gX5_sooner_X5_part : GoodIn wsX5_sooner (va_wsS RX5 137 yX5_part wsX5_part) := goodIn_app (goodIn_r _ [59, 60, 4] rfl (by decide +kernel)) ggX5_sooner_X5_part
theorem dX5_sooner_0 : decode cX5_sooner 0 = .ok (.aload_n 0, 1) := by decide +kernel
theorem dX5_sooner_1 : decode cX5_sooner 1 = .ok (.iload_n 1, 1) := by decide +kernel
theorem dX5_sooner_2 : decode cX5_sooner 2 = .ok (.invokevirtual 118, 3) := by decide +kernel
theorem dX5_sooner_5 : decode cX5_sooner 5 = .ok (.ifCond .eq 9, 3) := by decide +kernel
theorem dX5_sooner_8 : decode cX5_sooner 8 = .ok (.aload_n 0, 1) := by decide +kernel
theorem dX5_sooner_9 : decode cX5_sooner 9 = .ok (.iconst (-1), 1) := by decide +kernel
theorem dX5_sooner_10 : decode cX5_sooner 10 = .ok (.invokevirtual 130, 3) := by decide +kernel
theorem dX5_sooner_13 : decode cX5_sooner 13 = .ok (.lreturn, 1) := by decide +kernel
theorem dX5_sooner_14 : decode cX5_sooner 14 = .ok (.iload_n 2, 1) := by decide +kernel
theorem dX5_sooner_15 : decode cX5_sooner 15 = .ok (.ifCond .lt 8, 3) := by decide +kernel
theorem dX5_sooner_18 : decode cX5_sooner 18 = .ok (.iload_n 2, 1) := by decide +kernel
theorem dX5_sooner_19 : decode cX5_sooner 19 = .ok (.iconst 5, 1) := by decide +kernel
theorem dX5_sooner_20 : decode cX5_sooner 20 = .ok (.if_icmp .le 10, 3) := by decide +kernel
theorem dX5_sooner_23 : decode cX5_sooner 23 = .ok (.aload_n 0, 1) := by decide +kernel
theorem dX5_sooner_24 : decode cX5_sooner 24 = .ok (.bipush (-2), 2) := by decide +kernel
theorem dX5_sooner_26 : decode cX5_sooner 26 = .ok (.invokevirtual 130, 3) := by decide +kernel
theorem dX5_sooner_29 : decode cX5_sooner 29 = .ok (.lreturn, 1) := by decide +kernel
theorem dX5_sooner_30 : decode cX5_sooner 30 = .ok (.iload_n 3, 1) := by decide +kernel
theorem dX5_sooner_31 : decode cX5_sooner 31 = .ok (.ifCond .lt 8, 3) := by decide +kernel
theorem dX5_sooner_34 : decode cX5_sooner 34 = .ok (.iload 4, 2) := by decide +kernel
theorem dX5_sooner_36 : decode cX5_sooner 36 = .ok (.ifCond .ge 10, 3) := by decide +kernel
theorem dX5_sooner_39 : decode cX5_sooner 39 = .ok (.aload_n 0, 1) := by decide +kernel
theorem dX5_sooner_40 : decode cX5_sooner 40 = .ok (.bipush (-4), 2) := by decide +kernel
theorem dX5_sooner_42 : decode cX5_sooner 42 = .ok (.invokevirtual 130, 3) := by decide +kernel
theorem dX5_sooner_45 : decode cX5_sooner 45 = .ok (.lreturn, 1) := by decide +kernel
theorem dX5_sooner_46 : decode cX5_sooner 46 = .ok (.iload_n 3, 1) := by decide +kernel
theorem dX5_sooner_47 : decode cX5_sooner 47 = .ok (.bipush 12, 2) := by decide +kernel
theorem dX5_sooner_49 : decode cX5_sooner 49 = .ok (.if_icmp .gt 11, 3) := by decide +kernel
theorem dX5_sooner_52 : decode cX5_sooner 52 = .ok (.iload 4, 2) := by decide +kernel
theorem dX5_sooner_54 : decode cX5_sooner 54 = .ok (.sipush 999, 3) := by decide +kernel
theorem dX5_sooner_57 : decode cX5_sooner 57 = .ok (.if_icmp .le 10, 3) := by decide +kernel
theorem dX5_sooner_60 : decode cX5_sooner 60 = .ok (.aload_n 0, 1) := by decide +kernel
theorem dX5_sooner_61 : decode cX5_sooner 61 = .ok (.bipush (-6), 2) := by decide +kernel
theorem dX5_sooner_63 : decode cX5_sooner 63 = .ok (.invokevirtual 130, 3) := by decide +kernel
theorem dX5_sooner_66 : decode cX5_sooner 66 = .ok (.lreturn, 1) := by decide +kernel
theorem dX5_sooner_67 : decode cX5_sooner 67 = .ok (.iload 5, 2) := by decide +kernel
theorem dX5_sooner_69 : decode cX5_sooner 69 = .ok (.invokestatic 134, 3) := by decide +kernel
theorem dX5_sooner_72 : decode cX5_sooner 72 = .ok (.ifCond .eq 10, 3) := by decide +kernel
theorem dX5_sooner_75 : decode cX5_sooner 75 = .ok (.aload_n 0, 1) := by decide +kernel
theorem dX5_sooner_76 : decode cX5_sooner 76 = .ok (.bipush (-2), 2) := by decide +kernel
theorem dX5_sooner_78 : decode cX5_sooner 78 = .ok (.invokevirtual 130, 3) := by decide +kernel
theorem dX5_sooner_81 : decode cX5_sooner 81 = .ok (.lreturn, 1) := by decide +kernel
theorem dX5_sooner_82 : decode cX5_sooner 82 = .ok (.iconst 0, 1) := by decide +kernel
theorem dX5_sooner_83 : decode cX5_sooner 83 = .ok (.istore 6, 2) := by decide +kernel
theorem dX5_sooner_85 : decode cX5_sooner 85 = .ok (.iconst 0, 1) := by decide +kernel
theorem dX5_sooner_86 : decode cX5_sooner 86 = .ok (.istore 7, 2) := by decide +kernel
theorem dX5_sooner_88 : decode cX5_sooner 88 = .ok (.iload 7, 2) := by decide +kernel
theorem dX5_sooner_90 : decode cX5_sooner 90 = .ok (.bipush 12, 2) := by decide +kernel
theorem dX5_sooner_92 : decode cX5_sooner 92 = .ok (.if_icmp .gt 39, 3) := by decide +kernel
theorem dX5_sooner_95 : decode cX5_sooner 95 = .ok (.iload 6, 2) := by decide +kernel
theorem dX5_sooner_97 : decode cX5_sooner 97 = .ok (.aload_n 0, 1) := by decide +kernel
theorem dX5_sooner_98 : decode cX5_sooner 98 = .ok (.iload_n 1, 1) := by decide +kernel
theorem dX5_sooner_99 : decode cX5_sooner 99 = .ok (.iload_n 2, 1) := by decide +kernel
theorem dX5_sooner_100 : decode cX5_sooner 100 = .ok (.iload_n 3, 1) := by decide +kernel
theorem dX5_sooner_101 : decode cX5_sooner 101 = .ok (.iload 7, 2) := by decide +kernel
theorem dX5_sooner_103 : decode cX5_sooner 103 = .ok (.invokevirtual 145, 3) := by decide +kernel
theorem dX5_sooner_106 : decode cX5_sooner 106 = .ok (.iload 4, 2) := by decide +kernel
theorem dX5_sooner_108 : decode cX5_sooner 108 = .ok (.if_icmp .gt 13, 3) := by decide +kernel
theorem dX5_sooner_111 : decode cX5_sooner 111 = .ok (.aload_n 0, 1) := by decide +kernel
theorem dX5_sooner_112 : decode cX5_sooner 112 = .ok (.iload_n 1, 1) := by decide +kernel
theorem dX5_sooner_113 : decode cX5_sooner 113 = .ok (.iload 7, 2) := by decide +kernel
theorem dX5_sooner_115 : decode cX5_sooner 115 = .ok (.invokevirtual 108, 3) := by decide +kernel
theorem dX5_sooner_118 : decode cX5_sooner 118 = .ok (.goto 4, 3) := by decide +kernel
theorem dX5_sooner_121 : decode cX5_sooner 121 = .ok (.iconst 0, 1) := by decide +kernel
theorem dX5_sooner_122 : decode cX5_sooner 122 = .ok (.iadd, 1) := by decide +kernel
theorem dX5_sooner_123 : decode cX5_sooner 123 = .ok (.istore 6, 2) := by decide +kernel
theorem dX5_sooner_125 : decode cX5_sooner 125 = .ok (.iinc 7 1, 3) := by decide +kernel
theorem dX5_sooner_128 : decode cX5_sooner 128 = .ok (.goto (-40), 3) := by decide +kernel
theorem dX5_sooner_131 : decode cX5_sooner 131 = .ok (.iload 6, 2) := by decide +kernel
theorem dX5_sooner_133 : decode cX5_sooner 133 = .ok (.i2l, 1) := by decide +kernel
theorem dX5_sooner_134 : decode cX5_sooner 134 = .ok (.aload_n 0, 1) := by decide +kernel
theorem dX5_sooner_135 : decode cX5_sooner 135 = .ok (.iload_n 1, 1) := by decide +kernel
theorem dX5_sooner_136 : decode cX5_sooner 136 = .ok (.iconst 0, 1) := by decide +kernel
theorem dX5_sooner_137 : decode cX5_sooner 137 = .ok (.invokevirtual 121, 3) := by decide +kernel
theorem dX5_sooner_140 : decode cX5_sooner 140 = .ok (.i2l, 1) := by decide +kernel
theorem dX5_sooner_141 : decode cX5_sooner 141 = .ok (.iload 5, 2) := by decide +kernel
theorem dX5_sooner_143 : decode cX5_sooner 143 = .ok (.invokestatic 137, 3) := by decide +kernel
theorem dX5_sooner_146 : decode cX5_sooner 146 = .ok (.lreturn, 1) := by decide +kernel
theorem dX5_cell_0 : decode cX5_cell 0 = .ok (.iload_n 1, 1) := by decide +kernel
theorem dX5_cell_1 : decode cX5_cell 1 = .ok (.bipush 61, 2) := by decide +kernel
theorem dX5_cell_3 : decode cX5_cell 3 = .ok (.imul, 1) := by decide +kernel
theorem dX5_cell_4 : decode cX5_cell 4 = .ok (.iload_n 2, 1) := by decide +kernel
theorem dX5_cell_5 : decode cX5_cell 5 = .ok (.iadd, 1) := by decide +kernel
theorem dX5_cell_6 : decode cX5_cell 6 = .ok (.bipush 13, 2) := by decide +kernel
theorem dX5_cell_8 : decode cX5_cell 8 = .ok (.imul, 1) := by decide +kernel
theorem dX5_cell_9 : decode cX5_cell 9 = .ok (.iload_n 3, 1) := by decide +kernel
theorem dX5_cell_10 : decode cX5_cell 10 = .ok (.iadd, 1) := by decide +kernel
theorem dX5_cell_11 : decode cX5_cell 11 = .ok (.ireturn, 1) := by decide +kernel
theorem xiX5_later_X5 : GoodIn wsX5_later wsX50 := goodIn_sub (fun _ h => List.mem_cons_of_mem _ (List.mem_append_right _ h)) xgwX5
set_option maxRecDepth 20000 in
theorem ggX5_later_X5_to : GoodIn wsX5_later wsX5_to := (goodIn_ca (goodIn_r _ [13, 14, 15, 16, 12, 17, 18] rfl (by decide +kernel)) xiX5_later_X5)
set_option maxRecDepth 20000 in
theorem gX5_later_X5_to : GoodIn wsX5_later (wsV RX5 105 RX5 yX5_to wsX5_to) := goodIn_app (goodIn_r _ [9, 10, 11, 12] rfl (by decide +kernel)) ggX5_later_X5_to
set_option maxRecDepth 20000 in
theorem ggX5_later_X5_weights : GoodIn wsX5_later wsX5_weights := (goodIn_ca (goodIn_r _ [22, 23, 24, 25, 12, 26, 18] rfl (by decide +kernel)) xiX5_later_X5)
set_option maxRecDepth 20000 in
theorem gX5_later_X5_weights : GoodIn wsX5_later (wsV RX5 121 RX5 yX5_weights wsX5_weights) := goodIn_app (goodIn_r _ [19, 20, 21, 12] rfl (by decide +kernel)) ggX5_later_X5_weights
set_option maxRecDepth 20000 in
theorem ggX5_later_X5_rest : GoodIn wsX5_later wsX5_rest := (goodIn_ca (goodIn_r _ [30, 18, 31, 32, 33, 12, 34, 35, 36, 37] rfl (by decide +kernel)) xiX5_later_X5)
set_option maxRecDepth 20000 in
theorem gX5_later_X5_rest : GoodIn wsX5_later (wsV RX5 115 RX5 yX5_rest wsX5_rest) := goodIn_app (goodIn_r _ [27, 28, 29, 12] rfl (by decide +kernel)) ggX5_later_X5_rest
set_option maxRecDepth 20000 in
theorem ggX5_later_X5_cell : GoodIn wsX5_later wsX5_cell := goodIn_r _ [41] rfl (by decide +kernel)
set_option maxRecDepth 20000 in
theorem gX5_later_X5_cell : GoodIn wsX5_later (wsV RX5 160 RX5 yX5_cell wsX5_cell) := goodIn_app (goodIn_r _ [38, 39, 40, 12] rfl (by decide +kernel)) ggX5_later_X5_cell
theorem dX5_later_0 : decode cX5_later 0 = .ok (.bipush 12, 2) := by decide +kernel
theorem dX5_later_2 : decode cX5_later 2 = .ok (.iload 4, 2) := by decide +kernel
theorem dX5_later_4 : decode cX5_later 4 = .ok (.iload_n 3, 1) := by decide +kernel
theorem dX5_later_5 : decode cX5_later 5 = .ok (.aload_n 0, 1) := by decide +kernel
theorem dX5_later_6 : decode cX5_later 6 = .ok (.iload_n 1, 1) := by decide +kernel
theorem dX5_later_7 : decode cX5_later 7 = .ok (.iload_n 2, 1) := by decide +kernel
theorem dX5_later_8 : decode cX5_later 8 = .ok (.invokevirtual 105, 3) := by decide +kernel
theorem dX5_later_11 : decode cX5_later 11 = .ok (.isub, 1) := by decide +kernel
theorem dX5_later_12 : decode cX5_later 12 = .ok (.invokestatic 152, 3) := by decide +kernel
theorem dX5_later_15 : decode cX5_later 15 = .ok (.invokestatic 157, 3) := by decide +kernel
theorem dX5_later_18 : decode cX5_later 18 = .ok (.istore 5, 2) := by decide +kernel
theorem dX5_later_20 : decode cX5_later 20 = .ok (.iload_n 3, 1) := by decide +kernel
theorem dX5_later_21 : decode cX5_later 21 = .ok (.bipush 60, 2) := by decide +kernel
theorem dX5_later_23 : decode cX5_later 23 = .ok (.if_icmp .le 21, 3) := by decide +kernel
theorem dX5_later_26 : decode cX5_later 26 = .ok (.aload_n 0, 1) := by decide +kernel
theorem dX5_later_27 : decode cX5_later 27 = .ok (.iload_n 1, 1) := by decide +kernel
theorem dX5_later_28 : decode cX5_later 28 = .ok (.iload 5, 2) := by decide +kernel
theorem dX5_later_30 : decode cX5_later 30 = .ok (.invokevirtual 121, 3) := by decide +kernel
theorem dX5_later_33 : decode cX5_later 33 = .ok (.iload_n 3, 1) := by decide +kernel
theorem dX5_later_34 : decode cX5_later 34 = .ok (.aload_n 0, 1) := by decide +kernel
theorem dX5_later_35 : decode cX5_later 35 = .ok (.iload_n 2, 1) := by decide +kernel
theorem dX5_later_36 : decode cX5_later 36 = .ok (.invokevirtual 115, 3) := by decide +kernel
theorem dX5_later_39 : decode cX5_later 39 = .ok (.iadd, 1) := by decide +kernel
theorem dX5_later_40 : decode cX5_later 40 = .ok (.imul, 1) := by decide +kernel
theorem dX5_later_41 : decode cX5_later 41 = .ok (.goto 16, 3) := by decide +kernel
theorem dX5_later_44 : decode cX5_later 44 = .ok (.aload_n 0, 1) := by decide +kernel
theorem dX5_later_45 : decode cX5_later 45 = .ok (.getfield 50, 3) := by decide +kernel
theorem dX5_later_48 : decode cX5_later 48 = .ok (.aload_n 0, 1) := by decide +kernel
theorem dX5_later_49 : decode cX5_later 49 = .ok (.iload_n 2, 1) := by decide +kernel
theorem dX5_later_50 : decode cX5_later 50 = .ok (.iload_n 3, 1) := by decide +kernel
theorem dX5_later_51 : decode cX5_later 51 = .ok (.iload 5, 2) := by decide +kernel
theorem dX5_later_53 : decode cX5_later 53 = .ok (.invokevirtual 160, 3) := by decide +kernel
theorem dX5_later_56 : decode cX5_later 56 = .ok (.iaload, 1) := by decide +kernel
theorem dX5_later_57 : decode cX5_later 57 = .ok (.ireturn, 1) := by decide +kernel
theorem xiX5_onFoot_X5 : GoodIn wsX5_onFoot wsX50 := goodIn_sub (fun _ h => List.mem_cons_of_mem _ (List.mem_append_right _ h)) xgwX5
set_option maxRecDepth 20000 in
theorem ggX5_onFoot_X5_rest : GoodIn wsX5_onFoot wsX5_rest := (goodIn_ca (goodIn_r _ [13, 1, 14, 15, 16, 12, 17, 18, 19, 20] rfl (by decide +kernel)) xiX5_onFoot_X5)
set_option maxRecDepth 20000 in
theorem gX5_onFoot_X5_rest : GoodIn wsX5_onFoot (wsV RX5 115 RX5 yX5_rest wsX5_rest) := goodIn_app (goodIn_r _ [9, 10, 11, 12] rfl (by decide +kernel)) ggX5_onFoot_X5_rest
set_option maxRecDepth 20000 in
theorem ggX5_onFoot_X5_weights : GoodIn wsX5_onFoot wsX5_weights := (goodIn_ca (goodIn_r _ [24, 25, 26, 27, 12, 28, 1] rfl (by decide +kernel)) xiX5_onFoot_X5)
set_option maxRecDepth 20000 in
theorem gX5_onFoot_X5_weights : GoodIn wsX5_onFoot (wsV RX5 121 RX5 yX5_weights wsX5_weights) := goodIn_app (goodIn_r _ [21, 22, 23, 12] rfl (by decide +kernel)) ggX5_onFoot_X5_weights
set_option maxRecDepth 20000 in
theorem ggX5_onFoot_X5_leg : GoodIn wsX5_onFoot wsX5_leg := (goodIn_ca (goodIn_r _ [17, 1, 18, 19, 12, 20] rfl (by decide +kernel)) xiX5_onFoot_X5)
set_option maxRecDepth 20000 in
theorem gX5_onFoot_X5_leg : GoodIn wsX5_onFoot (wsV RX5 99 RX5 yX5_leg wsX5_leg) := goodIn_app (goodIn_r _ [14, 15, 16, 12] rfl (by decide +kernel)) ggX5_onFoot_X5_leg
set_option maxRecDepth 20000 in
theorem ggX5_onFoot_X5_to : GoodIn wsX5_onFoot wsX5_to := (goodIn_ca (goodIn_r _ [32, 33, 34, 35, 12, 36, 1] rfl (by decide +kernel)) xiX5_onFoot_X5)
set_option maxRecDepth 20000 in
theorem gX5_onFoot_X5_to : GoodIn wsX5_onFoot (wsV RX5 105 RX5 yX5_to wsX5_to) := goodIn_app (goodIn_r _ [29, 30, 31, 12] rfl (by decide +kernel)) ggX5_onFoot_X5_to
set_option maxRecDepth 20000 in
theorem ggX5_onFoot_X5_later : GoodIn wsX5_onFoot wsX5_later := (goodIn_ca (goodIn_r _ [40, 2, 3, 4, 5, 6, 7, 8, 41, 29, 30, 31, 12, 32, 33, 34, 35, 36, 1, 21, 22, 23, 24, 25, 26, 27, 28, 9, 10, 11, 13, 14, 15, 16, 17, 18, 19, 20, 42, 43, 44, 45] rfl (by decide +kernel)) xiX5_onFoot_X5)
set_option maxRecDepth 20000 in
theorem gX5_onFoot_X5_later : GoodIn wsX5_onFoot (wsV RX5 163 RX5 yX5_later wsX5_later) := goodIn_app (goodIn_r _ [37, 38, 39, 12] rfl (by decide +kernel)) ggX5_onFoot_X5_later
theorem dX5_onFoot_0 : decode cX5_onFoot 0 = .ok (.iload_n 3, 1) := by decide +kernel
theorem dX5_onFoot_1 : decode cX5_onFoot 1 = .ok (.aload_n 0, 1) := by decide +kernel
theorem dX5_onFoot_2 : decode cX5_onFoot 2 = .ok (.iload_n 2, 1) := by decide +kernel
theorem dX5_onFoot_3 : decode cX5_onFoot 3 = .ok (.invokevirtual 115, 3) := by decide +kernel
theorem dX5_onFoot_6 : decode cX5_onFoot 6 = .ok (.iadd, 1) := by decide +kernel
theorem dX5_onFoot_7 : decode cX5_onFoot 7 = .ok (.istore 5, 2) := by decide +kernel
theorem dX5_onFoot_9 : decode cX5_onFoot 9 = .ok (.iload_n 2, 1) := by decide +kernel
theorem dX5_onFoot_10 : decode cX5_onFoot 10 = .ok (.aload_n 0, 1) := by decide +kernel
theorem dX5_onFoot_11 : decode cX5_onFoot 11 = .ok (.getfield 19, 3) := by decide +kernel
theorem dX5_onFoot_14 : decode cX5_onFoot 14 = .ok (.iconst 0, 1) := by decide +kernel
theorem dX5_onFoot_15 : decode cX5_onFoot 15 = .ok (.iaload, 1) := by decide +kernel
theorem dX5_onFoot_16 : decode cX5_onFoot 16 = .ok (.iconst 1, 1) := by decide +kernel
theorem dX5_onFoot_17 : decode cX5_onFoot 17 = .ok (.isub, 1) := by decide +kernel
theorem dX5_onFoot_18 : decode cX5_onFoot 18 = .ok (.if_icmp .eq 9, 3) := by decide +kernel
theorem dX5_onFoot_21 : decode cX5_onFoot 21 = .ok (.iload_n 3, 1) := by decide +kernel
theorem dX5_onFoot_22 : decode cX5_onFoot 22 = .ok (.bipush 60, 2) := by decide +kernel
theorem dX5_onFoot_24 : decode cX5_onFoot 24 = .ok (.if_icmp .ne 14, 3) := by decide +kernel
theorem dX5_onFoot_27 : decode cX5_onFoot 27 = .ok (.aload_n 0, 1) := by decide +kernel
theorem dX5_onFoot_28 : decode cX5_onFoot 28 = .ok (.iload_n 1, 1) := by decide +kernel
theorem dX5_onFoot_29 : decode cX5_onFoot 29 = .ok (.iload 4, 2) := by decide +kernel
theorem dX5_onFoot_31 : decode cX5_onFoot 31 = .ok (.invokevirtual 121, 3) := by decide +kernel
theorem dX5_onFoot_34 : decode cX5_onFoot 34 = .ok (.iload 5, 2) := by decide +kernel
theorem dX5_onFoot_36 : decode cX5_onFoot 36 = .ok (.imul, 1) := by decide +kernel
theorem dX5_onFoot_37 : decode cX5_onFoot 37 = .ok (.ireturn, 1) := by decide +kernel
theorem dX5_onFoot_38 : decode cX5_onFoot 38 = .ok (.iload_n 3, 1) := by decide +kernel
theorem dX5_onFoot_39 : decode cX5_onFoot 39 = .ok (.aload_n 0, 1) := by decide +kernel
theorem dX5_onFoot_40 : decode cX5_onFoot 40 = .ok (.iload_n 2, 1) := by decide +kernel
theorem dX5_onFoot_41 : decode cX5_onFoot 41 = .ok (.iconst 1, 1) := by decide +kernel
theorem dX5_onFoot_42 : decode cX5_onFoot 42 = .ok (.iadd, 1) := by decide +kernel
theorem dX5_onFoot_43 : decode cX5_onFoot 43 = .ok (.aload_n 0, 1) := by decide +kernel
theorem dX5_onFoot_44 : decode cX5_onFoot 44 = .ok (.getfield 19, 3) := by decide +kernel
theorem dX5_onFoot_47 : decode cX5_onFoot 47 = .ok (.iconst 2, 1) := by decide +kernel
theorem dX5_onFoot_48 : decode cX5_onFoot 48 = .ok (.iaload, 1) := by decide +kernel
theorem dX5_onFoot_49 : decode cX5_onFoot 49 = .ok (.invokevirtual 99, 3) := by decide +kernel
theorem dX5_onFoot_52 : decode cX5_onFoot 52 = .ok (.iadd, 1) := by decide +kernel
theorem dX5_onFoot_53 : decode cX5_onFoot 53 = .ok (.istore 6, 2) := by decide +kernel
theorem dX5_onFoot_55 : decode cX5_onFoot 55 = .ok (.bipush 12, 2) := by decide +kernel
theorem dX5_onFoot_57 : decode cX5_onFoot 57 = .ok (.iload 4, 2) := by decide +kernel
theorem dX5_onFoot_59 : decode cX5_onFoot 59 = .ok (.iload 6, 2) := by decide +kernel
theorem dX5_onFoot_61 : decode cX5_onFoot 61 = .ok (.aload_n 0, 1) := by decide +kernel
theorem dX5_onFoot_62 : decode cX5_onFoot 62 = .ok (.iload_n 1, 1) := by decide +kernel
theorem dX5_onFoot_63 : decode cX5_onFoot 63 = .ok (.iload_n 2, 1) := by decide +kernel
theorem dX5_onFoot_64 : decode cX5_onFoot 64 = .ok (.iconst 1, 1) := by decide +kernel
theorem dX5_onFoot_65 : decode cX5_onFoot 65 = .ok (.iadd, 1) := by decide +kernel
theorem dX5_onFoot_66 : decode cX5_onFoot 66 = .ok (.invokevirtual 105, 3) := by decide +kernel
theorem dX5_onFoot_69 : decode cX5_onFoot 69 = .ok (.isub, 1) := by decide +kernel
theorem dX5_onFoot_70 : decode cX5_onFoot 70 = .ok (.invokestatic 152, 3) := by decide +kernel
theorem dX5_onFoot_73 : decode cX5_onFoot 73 = .ok (.invokestatic 157, 3) := by decide +kernel
theorem dX5_onFoot_76 : decode cX5_onFoot 76 = .ok (.istore 7, 2) := by decide +kernel
theorem dX5_onFoot_78 : decode cX5_onFoot 78 = .ok (.aload_n 0, 1) := by decide +kernel
theorem dX5_onFoot_79 : decode cX5_onFoot 79 = .ok (.iload_n 1, 1) := by decide +kernel
theorem dX5_onFoot_80 : decode cX5_onFoot 80 = .ok (.iload 4, 2) := by decide +kernel
theorem dX5_onFoot_82 : decode cX5_onFoot 82 = .ok (.invokevirtual 121, 3) := by decide +kernel
theorem dX5_onFoot_85 : decode cX5_onFoot 85 = .ok (.aload_n 0, 1) := by decide +kernel
theorem dX5_onFoot_86 : decode cX5_onFoot 86 = .ok (.iload_n 1, 1) := by decide +kernel
theorem dX5_onFoot_87 : decode cX5_onFoot 87 = .ok (.iload 7, 2) := by decide +kernel
theorem dX5_onFoot_89 : decode cX5_onFoot 89 = .ok (.invokevirtual 121, 3) := by decide +kernel
theorem dX5_onFoot_92 : decode cX5_onFoot 92 = .ok (.isub, 1) := by decide +kernel
theorem dX5_onFoot_93 : decode cX5_onFoot 93 = .ok (.iload 5, 2) := by decide +kernel
theorem dX5_onFoot_95 : decode cX5_onFoot 95 = .ok (.imul, 1) := by decide +kernel
theorem dX5_onFoot_96 : decode cX5_onFoot 96 = .ok (.aload_n 0, 1) := by decide +kernel
theorem dX5_onFoot_97 : decode cX5_onFoot 97 = .ok (.iload_n 1, 1) := by decide +kernel
theorem dX5_onFoot_98 : decode cX5_onFoot 98 = .ok (.iload_n 2, 1) := by decide +kernel
theorem dX5_onFoot_99 : decode cX5_onFoot 99 = .ok (.iconst 1, 1) := by decide +kernel
theorem dX5_onFoot_100 : decode cX5_onFoot 100 = .ok (.iadd, 1) := by decide +kernel
theorem dX5_onFoot_101 : decode cX5_onFoot 101 = .ok (.iload 6, 2) := by decide +kernel
theorem dX5_onFoot_103 : decode cX5_onFoot 103 = .ok (.iload 7, 2) := by decide +kernel
theorem dX5_onFoot_105 : decode cX5_onFoot 105 = .ok (.invokevirtual 163, 3) := by decide +kernel
theorem dX5_onFoot_108 : decode cX5_onFoot 108 = .ok (.iadd, 1) := by decide +kernel
theorem dX5_onFoot_109 : decode cX5_onFoot 109 = .ok (.ireturn, 1) := by decide +kernel
theorem xiX5_worked_X5 : GoodIn wsX5_worked wsX50 := goodIn_sub (fun _ h => List.mem_cons_of_mem _ (List.mem_append_right _ h)) xgwX5
set_option maxRecDepth 20000 in
theorem ggX5_worked_X5_to : GoodIn wsX5_worked wsX5_to := (goodIn_ca (goodIn_r _ [11, 12, 13, 14, 10, 15, 1] rfl (by decide +kernel)) xiX5_worked_X5)
set_option maxRecDepth 20000 in
theorem gX5_worked_X5_to : GoodIn wsX5_worked (wsV RX5 105 RX5 yX5_to wsX5_to) := goodIn_app (goodIn_r _ [7, 8, 9, 10] rfl (by decide +kernel)) ggX5_worked_X5_to
set_option maxRecDepth 20000 in
theorem ggX5_worked_X5_weight : GoodIn wsX5_worked wsX5_weight := (goodIn_ca (goodIn_r _ [19, 1] rfl (by decide +kernel)) xiX5_worked_X5)
set_option maxRecDepth 20000 in
theorem gX5_worked_X5_weight : GoodIn wsX5_worked (wsV RX5 108 RX5 yX5_weight wsX5_weight) := goodIn_app (goodIn_r _ [16, 17, 18, 10] rfl (by decide +kernel)) ggX5_worked_X5_weight
set_option maxRecDepth 20000 in
theorem ggX5_worked_X5_halts : GoodIn wsX5_worked wsX5_halts := (goodIn_ca (goodIn_r _ [23, 1] rfl (by decide +kernel)) xiX5_worked_X5)
set_option maxRecDepth 20000 in
theorem gX5_worked_X5_halts : GoodIn wsX5_worked (wsV RX5 127 RX5 yX5_halts wsX5_halts) := goodIn_app (goodIn_r _ [20, 21, 22, 10] rfl (by decide +kernel)) ggX5_worked_X5_halts
set_option maxRecDepth 20000 in
theorem ggX5_worked_X5_toLast : GoodIn wsX5_worked wsX5_toLast := (goodIn_ca (goodIn_r _ [27, 1, 7, 8, 9, 10, 11, 12, 13, 14, 15] rfl (by decide +kernel)) xiX5_worked_X5)
set_option maxRecDepth 20000 in
theorem gX5_worked_X5_toLast : GoodIn wsX5_worked (wsV RX5 124 RX5 yX5_toLast wsX5_toLast) := goodIn_app (goodIn_r _ [24, 25, 26, 10] rfl (by decide +kernel)) ggX5_worked_X5_toLast
set_option maxRecDepth 20000 in
theorem ggX5_worked_X5_leg : GoodIn wsX5_worked wsX5_leg := (goodIn_ca (goodIn_r _ [31, 1, 32, 33, 10, 34] rfl (by decide +kernel)) xiX5_worked_X5)
set_option maxRecDepth 20000 in
theorem gX5_worked_X5_leg : GoodIn wsX5_worked (wsV RX5 99 RX5 yX5_leg wsX5_leg) := goodIn_app (goodIn_r _ [28, 29, 30, 10] rfl (by decide +kernel)) ggX5_worked_X5_leg
set_option maxRecDepth 20000 in
theorem ggX5_worked_X5_rest : GoodIn wsX5_worked wsX5_rest := (goodIn_ca (goodIn_r _ [38, 1, 28, 29, 30, 10, 31, 32, 33, 34] rfl (by decide +kernel)) xiX5_worked_X5)
set_option maxRecDepth 20000 in
theorem gX5_worked_X5_rest : GoodIn wsX5_worked (wsV RX5 115 RX5 yX5_rest wsX5_rest) := goodIn_app (goodIn_r _ [35, 36, 37, 10] rfl (by decide +kernel)) ggX5_worked_X5_rest
set_option maxRecDepth 20000 in
theorem ggX5_worked_X5_onFoot : GoodIn wsX5_worked wsX5_onFoot := (goodIn_ca (goodIn_r _ [42, 1, 43, 44, 5, 45, 3, 4, 6, 35, 36, 37, 10, 38, 28, 29, 30, 31, 32, 33, 34, 46, 47, 48, 49, 16, 17, 18, 19, 7, 8, 9, 11, 12, 13, 14, 15, 50, 51, 52, 53, 54, 55, 56, 57, 58] rfl (by decide +kernel)) xiX5_worked_X5)
set_option maxRecDepth 20000 in
theorem gX5_worked_X5_onFoot : GoodIn wsX5_worked (wsV RX5 166 RX5 yX5_onFoot wsX5_onFoot) := goodIn_app (goodIn_r _ [39, 40, 41, 10] rfl (by decide +kernel)) ggX5_worked_X5_onFoot
set_option maxRecDepth 20000 in
theorem ggX5_worked_X5_later : GoodIn wsX5_worked wsX5_later := (goodIn_ca (goodIn_r _ [53, 43, 44, 5, 45, 3, 4, 6, 54, 7, 8, 9, 10, 11, 12, 13, 14, 15, 1, 46, 47, 48, 49, 16, 17, 18, 19, 35, 36, 37, 38, 28, 29, 30, 31, 32, 33, 34, 55, 56, 57, 58] rfl (by decide +kernel)) xiX5_worked_X5)
set_option maxRecDepth 20000 in
theorem gX5_worked_X5_later : GoodIn wsX5_worked (wsV RX5 163 RX5 yX5_later wsX5_later) := goodIn_app (goodIn_r _ [50, 51, 52, 10] rfl (by decide +kernel)) ggX5_worked_X5_later
theorem dX5_worked_0 : decode cX5_worked 0 = .ok (.iload_n 3, 1) := by decide +kernel
theorem dX5_worked_1 : decode cX5_worked 1 = .ok (.aload_n 0, 1) := by decide +kernel
theorem dX5_worked_2 : decode cX5_worked 2 = .ok (.iload_n 1, 1) := by decide +kernel
theorem dX5_worked_3 : decode cX5_worked 3 = .ok (.iload_n 2, 1) := by decide +kernel
theorem dX5_worked_4 : decode cX5_worked 4 = .ok (.invokevirtual 105, 3) := by decide +kernel
theorem dX5_worked_7 : decode cX5_worked 7 = .ok (.isub, 1) := by decide +kernel
theorem dX5_worked_8 : decode cX5_worked 8 = .ok (.istore 5, 2) := by decide +kernel
theorem dX5_worked_10 : decode cX5_worked 10 = .ok (.iload 5, 2) := by decide +kernel
theorem dX5_worked_12 : decode cX5_worked 12 = .ok (.iload 4, 2) := by decide +kernel
theorem dX5_worked_14 : decode cX5_worked 14 = .ok (.if_icmp .ne 14, 3) := by decide +kernel
theorem dX5_worked_17 : decode cX5_worked 17 = .ok (.iload 4, 2) := by decide +kernel
theorem dX5_worked_19 : decode cX5_worked 19 = .ok (.bipush 12, 2) := by decide +kernel
theorem dX5_worked_21 : decode cX5_worked 21 = .ok (.if_icmp .ge 7, 3) := by decide +kernel
theorem dX5_worked_24 : decode cX5_worked 24 = .ok (.iconst 1, 1) := by decide +kernel
theorem dX5_worked_25 : decode cX5_worked 25 = .ok (.goto 4, 3) := by decide +kernel
theorem dX5_worked_28 : decode cX5_worked 28 = .ok (.iconst 0, 1) := by decide +kernel
theorem dX5_worked_29 : decode cX5_worked 29 = .ok (.istore 6, 2) := by decide +kernel
theorem dX5_worked_31 : decode cX5_worked 31 = .ok (.iload 6, 2) := by decide +kernel
theorem dX5_worked_33 : decode cX5_worked 33 = .ok (.ifCond .eq 10, 3) := by decide +kernel
theorem dX5_worked_36 : decode cX5_worked 36 = .ok (.iload 4, 2) := by decide +kernel
theorem dX5_worked_38 : decode cX5_worked 38 = .ok (.iconst 1, 1) := by decide +kernel
theorem dX5_worked_39 : decode cX5_worked 39 = .ok (.iadd, 1) := by decide +kernel
theorem dX5_worked_40 : decode cX5_worked 40 = .ok (.goto 5, 3) := by decide +kernel
theorem dX5_worked_43 : decode cX5_worked 43 = .ok (.iload 4, 2) := by decide +kernel
theorem dX5_worked_45 : decode cX5_worked 45 = .ok (.istore 7, 2) := by decide +kernel
theorem dX5_worked_47 : decode cX5_worked 47 = .ok (.iload 6, 2) := by decide +kernel
theorem dX5_worked_49 : decode cX5_worked 49 = .ok (.ifCond .eq 58, 3) := by decide +kernel
theorem dX5_worked_52 : decode cX5_worked 52 = .ok (.aload_n 0, 1) := by decide +kernel
theorem dX5_worked_53 : decode cX5_worked 53 = .ok (.iload_n 1, 1) := by decide +kernel
theorem dX5_worked_54 : decode cX5_worked 54 = .ok (.iload 4, 2) := by decide +kernel
theorem dX5_worked_56 : decode cX5_worked 56 = .ok (.invokevirtual 108, 3) := by decide +kernel
theorem dX5_worked_59 : decode cX5_worked 59 = .ok (.aload_n 0, 1) := by decide +kernel
theorem dX5_worked_60 : decode cX5_worked 60 = .ok (.iload_n 1, 1) := by decide +kernel
theorem dX5_worked_61 : decode cX5_worked 61 = .ok (.iload_n 2, 1) := by decide +kernel
theorem dX5_worked_62 : decode cX5_worked 62 = .ok (.invokevirtual 127, 3) := by decide +kernel
theorem dX5_worked_65 : decode cX5_worked 65 = .ok (.ifCond .eq 31, 3) := by decide +kernel
theorem dX5_worked_68 : decode cX5_worked 68 = .ok (.iload 4, 2) := by decide +kernel
theorem dX5_worked_70 : decode cX5_worked 70 = .ok (.aload_n 0, 1) := by decide +kernel
theorem dX5_worked_71 : decode cX5_worked 71 = .ok (.iload_n 1, 1) := by decide +kernel
theorem dX5_worked_72 : decode cX5_worked 72 = .ok (.invokevirtual 124, 3) := by decide +kernel
theorem dX5_worked_75 : decode cX5_worked 75 = .ok (.iadd, 1) := by decide +kernel
theorem dX5_worked_76 : decode cX5_worked 76 = .ok (.aload_n 0, 1) := by decide +kernel
theorem dX5_worked_77 : decode cX5_worked 77 = .ok (.aload_n 0, 1) := by decide +kernel
theorem dX5_worked_78 : decode cX5_worked 78 = .ok (.getfield 19, 3) := by decide +kernel
theorem dX5_worked_81 : decode cX5_worked 81 = .ok (.iconst 0, 1) := by decide +kernel
theorem dX5_worked_82 : decode cX5_worked 82 = .ok (.iaload, 1) := by decide +kernel
theorem dX5_worked_83 : decode cX5_worked 83 = .ok (.aload_n 0, 1) := by decide +kernel
theorem dX5_worked_84 : decode cX5_worked 84 = .ok (.getfield 19, 3) := by decide +kernel
theorem dX5_worked_87 : decode cX5_worked 87 = .ok (.iconst 2, 1) := by decide +kernel
theorem dX5_worked_88 : decode cX5_worked 88 = .ok (.iaload, 1) := by decide +kernel
theorem dX5_worked_89 : decode cX5_worked 89 = .ok (.invokevirtual 99, 3) := by decide +kernel
theorem dX5_worked_92 : decode cX5_worked 92 = .ok (.iadd, 1) := by decide +kernel
theorem dX5_worked_93 : decode cX5_worked 93 = .ok (.goto 10, 3) := by decide +kernel
theorem dX5_worked_96 : decode cX5_worked 96 = .ok (.iload_n 3, 1) := by decide +kernel
theorem dX5_worked_97 : decode cX5_worked 97 = .ok (.aload_n 0, 1) := by decide +kernel
theorem dX5_worked_98 : decode cX5_worked 98 = .ok (.iload_n 2, 1) := by decide +kernel
theorem dX5_worked_99 : decode cX5_worked 99 = .ok (.invokevirtual 115, 3) := by decide +kernel
theorem dX5_worked_102 : decode cX5_worked 102 = .ok (.iadd, 1) := by decide +kernel
theorem dX5_worked_103 : decode cX5_worked 103 = .ok (.imul, 1) := by decide +kernel
theorem dX5_worked_104 : decode cX5_worked 104 = .ok (.goto 4, 3) := by decide +kernel
theorem dX5_worked_107 : decode cX5_worked 107 = .ok (.iconst 0, 1) := by decide +kernel
theorem dX5_worked_108 : decode cX5_worked 108 = .ok (.istore 8, 2) := by decide +kernel
theorem dX5_worked_110 : decode cX5_worked 110 = .ok (.aload_n 0, 1) := by decide +kernel
theorem dX5_worked_111 : decode cX5_worked 111 = .ok (.iload_n 1, 1) := by decide +kernel
theorem dX5_worked_112 : decode cX5_worked 112 = .ok (.iload_n 2, 1) := by decide +kernel
theorem dX5_worked_113 : decode cX5_worked 113 = .ok (.iload_n 3, 1) := by decide +kernel
theorem dX5_worked_114 : decode cX5_worked 114 = .ok (.iload 7, 2) := by decide +kernel
theorem dX5_worked_116 : decode cX5_worked 116 = .ok (.invokevirtual 166, 3) := by decide +kernel
theorem dX5_worked_119 : decode cX5_worked 119 = .ok (.istore 9, 2) := by decide +kernel
theorem dX5_worked_121 : decode cX5_worked 121 = .ok (.iload_n 2, 1) := by decide +kernel
theorem dX5_worked_122 : decode cX5_worked 122 = .ok (.aload_n 0, 1) := by decide +kernel
theorem dX5_worked_123 : decode cX5_worked 123 = .ok (.getfield 19, 3) := by decide +kernel
theorem dX5_worked_126 : decode cX5_worked 126 = .ok (.iconst 0, 1) := by decide +kernel
theorem dX5_worked_127 : decode cX5_worked 127 = .ok (.iaload, 1) := by decide +kernel
theorem dX5_worked_128 : decode cX5_worked 128 = .ok (.iconst 1, 1) := by decide +kernel
theorem dX5_worked_129 : decode cX5_worked 129 = .ok (.isub, 1) := by decide +kernel
theorem dX5_worked_130 : decode cX5_worked 130 = .ok (.if_icmp .eq 9, 3) := by decide +kernel
theorem dX5_worked_133 : decode cX5_worked 133 = .ok (.iload_n 3, 1) := by decide +kernel
theorem dX5_worked_134 : decode cX5_worked 134 = .ok (.bipush 60, 2) := by decide +kernel
theorem dX5_worked_136 : decode cX5_worked 136 = .ok (.if_icmp .ne 14, 3) := by decide +kernel
theorem dX5_worked_139 : decode cX5_worked 139 = .ok (.aload_n 0, 1) := by decide +kernel
theorem dX5_worked_140 : decode cX5_worked 140 = .ok (.iconst 1, 1) := by decide +kernel
theorem dX5_worked_141 : decode cX5_worked 141 = .ok (.putfield 169, 3) := by decide +kernel
theorem dX5_worked_144 : decode cX5_worked 144 = .ok (.iload 8, 2) := by decide +kernel
theorem dX5_worked_146 : decode cX5_worked 146 = .ok (.iload 9, 2) := by decide +kernel
theorem dX5_worked_148 : decode cX5_worked 148 = .ok (.iadd, 1) := by decide +kernel
theorem dX5_worked_149 : decode cX5_worked 149 = .ok (.ireturn, 1) := by decide +kernel
theorem dX5_worked_150 : decode cX5_worked 150 = .ok (.aload_n 0, 1) := by decide +kernel
theorem dX5_worked_151 : decode cX5_worked 151 = .ok (.iload_n 1, 1) := by decide +kernel
theorem dX5_worked_152 : decode cX5_worked 152 = .ok (.iload_n 2, 1) := by decide +kernel
theorem dX5_worked_153 : decode cX5_worked 153 = .ok (.iload_n 3, 1) := by decide +kernel
theorem dX5_worked_154 : decode cX5_worked 154 = .ok (.iconst 1, 1) := by decide +kernel
theorem dX5_worked_155 : decode cX5_worked 155 = .ok (.iadd, 1) := by decide +kernel
theorem dX5_worked_156 : decode cX5_worked 156 = .ok (.iload 7, 2) := by decide +kernel
theorem dX5_worked_158 : decode cX5_worked 158 = .ok (.invokevirtual 163, 3) := by decide +kernel
theorem dX5_worked_161 : decode cX5_worked 161 = .ok (.istore 10, 2) := by decide +kernel
theorem dX5_worked_163 : decode cX5_worked 163 = .ok (.aload_n 0, 1) := by decide +kernel
theorem dX5_worked_164 : decode cX5_worked 164 = .ok (.iload 9, 2) := by decide +kernel
theorem dX5_worked_166 : decode cX5_worked 166 = .ok (.iload 10, 2) := by decide +kernel
theorem dX5_worked_168 : decode cX5_worked 168 = .ok (.if_icmp .ge 7, 3) := by decide +kernel
theorem dX5_worked_171 : decode cX5_worked 171 = .ok (.iconst 1, 1) := by decide +kernel
theorem dX5_worked_172 : decode cX5_worked 172 = .ok (.goto 4, 3) := by decide +kernel
theorem dX5_worked_175 : decode cX5_worked 175 = .ok (.iconst 0, 1) := by decide +kernel
theorem dX5_worked_176 : decode cX5_worked 176 = .ok (.putfield 169, 3) := by decide +kernel
theorem dX5_worked_179 : decode cX5_worked 179 = .ok (.iload 8, 2) := by decide +kernel
theorem dX5_worked_181 : decode cX5_worked 181 = .ok (.iload 9, 2) := by decide +kernel
theorem dX5_worked_183 : decode cX5_worked 183 = .ok (.iload 10, 2) := by decide +kernel
theorem dX5_worked_185 : decode cX5_worked 185 = .ok (.invokestatic 157, 3) := by decide +kernel
theorem dX5_worked_188 : decode cX5_worked 188 = .ok (.iadd, 1) := by decide +kernel
theorem dX5_worked_189 : decode cX5_worked 189 = .ok (.ireturn, 1) := by decide +kernel
theorem xiX5_workOut_X5 : GoodIn wsX5_workOut wsX50 := goodIn_sub (fun _ h => List.mem_cons_of_mem _ (List.mem_append_right _ h)) xgwX5
set_option maxRecDepth 20000 in
theorem ggX5_workOut_X5_to : GoodIn wsX5_workOut wsX5_to := (goodIn_ca (goodIn_r _ [14, 15, 16, 17, 13, 18, 1] rfl (by decide +kernel)) xiX5_workOut_X5)
set_option maxRecDepth 20000 in
theorem gX5_workOut_X5_to : GoodIn wsX5_workOut (wsV RX5 105 RX5 yX5_to wsX5_to) := goodIn_app (goodIn_r _ [10, 11, 12, 13] rfl (by decide +kernel)) ggX5_workOut_X5_to
set_option maxRecDepth 20000 in
theorem ggX5_workOut_X5_cell : GoodIn wsX5_workOut wsX5_cell := goodIn_r _ [22] rfl (by decide +kernel)
set_option maxRecDepth 20000 in
theorem gX5_workOut_X5_cell : GoodIn wsX5_workOut (wsV RX5 160 RX5 yX5_cell wsX5_cell) := goodIn_app (goodIn_r _ [19, 20, 21, 13] rfl (by decide +kernel)) ggX5_workOut_X5_cell
set_option maxRecDepth 20000 in
theorem ggX5_workOut_X5_worked : GoodIn wsX5_workOut wsX5_worked := (goodIn_ca (goodIn_r _ [26, 1, 27, 6, 7, 4, 8, 10, 11, 12, 13, 14, 15, 16, 17, 18, 28, 29, 30, 31, 32, 33, 34, 35, 36, 37, 38, 39, 40, 41, 42, 43, 44, 45, 46, 47, 48, 49, 50, 51, 52, 53, 54, 2, 3, 5, 55, 56, 57, 58, 59, 60, 61, 62, 9, 19, 20, 21, 22] rfl (by decide +kernel)) xiX5_workOut_X5)
set_option maxRecDepth 20000 in
theorem gX5_workOut_X5_worked : GoodIn wsX5_workOut (wsV RX5 172 RX5 yX5_worked wsX5_worked) := goodIn_app (goodIn_r _ [23, 24, 25, 13] rfl (by decide +kernel)) ggX5_workOut_X5_worked
theorem dX5_workOut_0 : decode cX5_workOut 0 = .ok (.aload_n 0, 1) := by decide +kernel
theorem dX5_workOut_1 : decode cX5_workOut 1 = .ok (.getfield 19, 3) := by decide +kernel
theorem dX5_workOut_4 : decode cX5_workOut 4 = .ok (.iconst 0, 1) := by decide +kernel
theorem dX5_workOut_5 : decode cX5_workOut 5 = .ok (.iaload, 1) := by decide +kernel
theorem dX5_workOut_6 : decode cX5_workOut 6 = .ok (.iconst 1, 1) := by decide +kernel
theorem dX5_workOut_7 : decode cX5_workOut 7 = .ok (.isub, 1) := by decide +kernel
theorem dX5_workOut_8 : decode cX5_workOut 8 = .ok (.istore_n 2, 1) := by decide +kernel
theorem dX5_workOut_9 : decode cX5_workOut 9 = .ok (.iload_n 2, 1) := by decide +kernel
theorem dX5_workOut_10 : decode cX5_workOut 10 = .ok (.ifCond .lt 76, 3) := by decide +kernel
theorem dX5_workOut_13 : decode cX5_workOut 13 = .ok (.bipush 60, 2) := by decide +kernel
theorem dX5_workOut_15 : decode cX5_workOut 15 = .ok (.istore_n 3, 1) := by decide +kernel
theorem dX5_workOut_16 : decode cX5_workOut 16 = .ok (.iload_n 3, 1) := by decide +kernel
theorem dX5_workOut_17 : decode cX5_workOut 17 = .ok (.ifCond .lt 63, 3) := by decide +kernel
theorem dX5_workOut_20 : decode cX5_workOut 20 = .ok (.bipush 12, 2) := by decide +kernel
theorem dX5_workOut_22 : decode cX5_workOut 22 = .ok (.iconst 0, 1) := by decide +kernel
theorem dX5_workOut_23 : decode cX5_workOut 23 = .ok (.iload_n 3, 1) := by decide +kernel
theorem dX5_workOut_24 : decode cX5_workOut 24 = .ok (.aload_n 0, 1) := by decide +kernel
theorem dX5_workOut_25 : decode cX5_workOut 25 = .ok (.iload_n 1, 1) := by decide +kernel
theorem dX5_workOut_26 : decode cX5_workOut 26 = .ok (.iload_n 2, 1) := by decide +kernel
theorem dX5_workOut_27 : decode cX5_workOut 27 = .ok (.invokevirtual 105, 3) := by decide +kernel
theorem dX5_workOut_30 : decode cX5_workOut 30 = .ok (.isub, 1) := by decide +kernel
theorem dX5_workOut_31 : decode cX5_workOut 31 = .ok (.invokestatic 152, 3) := by decide +kernel
theorem dX5_workOut_34 : decode cX5_workOut 34 = .ok (.invokestatic 157, 3) := by decide +kernel
theorem dX5_workOut_37 : decode cX5_workOut 37 = .ok (.istore 4, 2) := by decide +kernel
theorem dX5_workOut_39 : decode cX5_workOut 39 = .ok (.iload 4, 2) := by decide +kernel
theorem dX5_workOut_41 : decode cX5_workOut 41 = .ok (.bipush 12, 2) := by decide +kernel
theorem dX5_workOut_43 : decode cX5_workOut 43 = .ok (.if_icmp .gt 31, 3) := by decide +kernel
theorem dX5_workOut_46 : decode cX5_workOut 46 = .ok (.aload_n 0, 1) := by decide +kernel
theorem dX5_workOut_47 : decode cX5_workOut 47 = .ok (.getfield 50, 3) := by decide +kernel
theorem dX5_workOut_50 : decode cX5_workOut 50 = .ok (.aload_n 0, 1) := by decide +kernel
theorem dX5_workOut_51 : decode cX5_workOut 51 = .ok (.iload_n 2, 1) := by decide +kernel
theorem dX5_workOut_52 : decode cX5_workOut 52 = .ok (.iload_n 3, 1) := by decide +kernel
theorem dX5_workOut_53 : decode cX5_workOut 53 = .ok (.iload 4, 2) := by decide +kernel
theorem dX5_workOut_55 : decode cX5_workOut 55 = .ok (.invokevirtual 160, 3) := by decide +kernel
theorem dX5_workOut_58 : decode cX5_workOut 58 = .ok (.aload_n 0, 1) := by decide +kernel
theorem dX5_workOut_59 : decode cX5_workOut 59 = .ok (.iload_n 1, 1) := by decide +kernel
theorem dX5_workOut_60 : decode cX5_workOut 60 = .ok (.iload_n 2, 1) := by decide +kernel
theorem dX5_workOut_61 : decode cX5_workOut 61 = .ok (.iload_n 3, 1) := by decide +kernel
theorem dX5_workOut_62 : decode cX5_workOut 62 = .ok (.iload 4, 2) := by decide +kernel
theorem dX5_workOut_64 : decode cX5_workOut 64 = .ok (.invokevirtual 172, 3) := by decide +kernel
theorem dX5_workOut_67 : decode cX5_workOut 67 = .ok (.iastore, 1) := by decide +kernel
theorem dX5_workOut_68 : decode cX5_workOut 68 = .ok (.iinc 4 1, 3) := by decide +kernel
theorem dX5_workOut_71 : decode cX5_workOut 71 = .ok (.goto (-32), 3) := by decide +kernel
theorem dX5_workOut_74 : decode cX5_workOut 74 = .ok (.iinc 3 (-1), 3) := by decide +kernel
theorem dX5_workOut_77 : decode cX5_workOut 77 = .ok (.goto (-61), 3) := by decide +kernel
theorem dX5_workOut_80 : decode cX5_workOut 80 = .ok (.iinc 2 (-1), 3) := by decide +kernel
theorem dX5_workOut_83 : decode cX5_workOut 83 = .ok (.goto (-74), 3) := by decide +kernel
theorem dX5_workOut_86 : decode cX5_workOut 86 = .ok (.return_, 1) := by decide +kernel
theorem xiX5_firstStill_X5 : GoodIn wsX5_firstStill wsX50 := goodIn_sub (fun _ h => List.mem_cons_of_mem _ (List.mem_append_right _ h)) xgwX5
set_option maxRecDepth 20000 in
theorem ggX5_firstStill_X5_to : GoodIn wsX5_firstStill wsX5_to := (goodIn_ca (goodIn_r _ [12, 13, 14, 15, 11, 16, 17] rfl (by decide +kernel)) xiX5_firstStill_X5)
set_option maxRecDepth 20000 in
theorem gX5_firstStill_X5_to : GoodIn wsX5_firstStill (wsV RX5 105 RX5 yX5_to wsX5_to) := goodIn_app (goodIn_r _ [8, 9, 10, 11] rfl (by decide +kernel)) ggX5_firstStill_X5_to
theorem dX5_firstStill_0 : decode cX5_firstStill 0 = .ok (.bipush 12, 2) := by decide +kernel
theorem dX5_firstStill_2 : decode cX5_firstStill 2 = .ok (.iconst 0, 1) := by decide +kernel
theorem dX5_firstStill_3 : decode cX5_firstStill 3 = .ok (.iload_n 3, 1) := by decide +kernel
theorem dX5_firstStill_4 : decode cX5_firstStill 4 = .ok (.aload_n 0, 1) := by decide +kernel
theorem dX5_firstStill_5 : decode cX5_firstStill 5 = .ok (.iload_n 1, 1) := by decide +kernel
theorem dX5_firstStill_6 : decode cX5_firstStill 6 = .ok (.iload_n 2, 1) := by decide +kernel
theorem dX5_firstStill_7 : decode cX5_firstStill 7 = .ok (.invokevirtual 105, 3) := by decide +kernel
theorem dX5_firstStill_10 : decode cX5_firstStill 10 = .ok (.isub, 1) := by decide +kernel
theorem dX5_firstStill_11 : decode cX5_firstStill 11 = .ok (.invokestatic 152, 3) := by decide +kernel
theorem dX5_firstStill_14 : decode cX5_firstStill 14 = .ok (.invokestatic 157, 3) := by decide +kernel
theorem dX5_firstStill_17 : decode cX5_firstStill 17 = .ok (.ireturn, 1) := by decide +kernel
theorem xiX5_best_X5 : GoodIn wsX5_best wsX50 := goodIn_sub (fun _ h => List.mem_cons_of_mem _ (List.mem_append_right _ h)) xgwX5
set_option maxRecDepth 20000 in
theorem ggX5_best_X5_isNoLine : GoodIn wsX5_best wsX5_isNoLine := (goodIn_ca (goodIn_r _ [6, 7] rfl (by decide +kernel)) xiX5_best_X5)
set_option maxRecDepth 20000 in
theorem gX5_best_X5_isNoLine : GoodIn wsX5_best (wsV RX5 118 RX5 yX5_isNoLine wsX5_isNoLine) := goodIn_app (goodIn_r _ [2, 3, 4, 5] rfl (by decide +kernel)) ggX5_best_X5_isNoLine
set_option maxRecDepth 20000 in
theorem ggX5_best_X5_isNoStop : GoodIn wsX5_best wsX5_isNoStop := (goodIn_ca (goodIn_r _ [11, 7] rfl (by decide +kernel)) xiX5_best_X5)
set_option maxRecDepth 20000 in
theorem gX5_best_X5_isNoStop : GoodIn wsX5_best (wsV RX5 111 RX5 yX5_isNoStop wsX5_isNoStop) := goodIn_app (goodIn_r _ [8, 9, 10, 5] rfl (by decide +kernel)) ggX5_best_X5_isNoStop
set_option maxRecDepth 20000 in
theorem ggX5_best_X5_no : GoodIn wsX5_best wsX5_no := (goodIn_ca (goodIn_r _ [15, 16] rfl (by decide +kernel)) xiX5_best_X5)
set_option maxRecDepth 20000 in
theorem gX5_best_X5_no : GoodIn wsX5_best (wsV RX5 9 RX5 yX5_no wsX5_no) := goodIn_app (goodIn_r _ [12, 13, 14, 5] rfl (by decide +kernel)) ggX5_best_X5_no
set_option maxRecDepth 20000 in
theorem ggX5_best_X5_firstStill : GoodIn wsX5_best wsX5_firstStill := (goodIn_ca (goodIn_r _ [20, 21, 22, 23, 24, 25, 26, 27, 28, 29, 30, 5, 31, 32, 33, 34, 35, 7] rfl (by decide +kernel)) xiX5_best_X5)
set_option maxRecDepth 20000 in
theorem gX5_best_X5_firstStill : GoodIn wsX5_best (wsV RX5 175 RX5 yX5_firstStill wsX5_firstStill) := goodIn_app (goodIn_r _ [17, 18, 19, 5] rfl (by decide +kernel)) ggX5_best_X5_firstStill
set_option maxRecDepth 20000 in
theorem ggX5_best_X5_weights : GoodIn wsX5_best wsX5_weights := (goodIn_ca (goodIn_r _ [39, 40, 41, 42, 5, 43, 7] rfl (by decide +kernel)) xiX5_best_X5)
set_option maxRecDepth 20000 in
theorem gX5_best_X5_weights : GoodIn wsX5_best (wsV RX5 121 RX5 yX5_weights wsX5_weights) := goodIn_app (goodIn_r _ [36, 37, 38, 5] rfl (by decide +kernel)) ggX5_best_X5_weights
set_option maxRecDepth 20000 in
theorem ggX5_best_X5_workOut : GoodIn wsX5_best wsX5_workOut := (goodIn_ca (goodIn_r _ [47, 7, 21, 22, 23, 24, 25, 26, 27, 48, 28, 29, 30, 5, 31, 32, 33, 34, 35, 49, 50, 51, 52, 53, 54, 55, 56, 1, 40, 41, 42, 43, 57, 58, 59, 60, 61, 62, 63, 64, 65, 66, 67, 68, 69, 70, 71, 72, 73, 74, 75, 76, 77, 78, 79, 36, 37, 38, 39, 80, 81, 82, 83] rfl (by decide +kernel)) xiX5_best_X5)
set_option maxRecDepth 20000 in
theorem gX5_best_X5_workOut : GoodIn wsX5_best (wsV RX5 178 RX5 yX5_workOut wsX5_workOut) := goodIn_app (goodIn_r _ [44, 45, 46, 5] rfl (by decide +kernel)) ggX5_best_X5_workOut
set_option maxRecDepth 20000 in
theorem ggX5_best_X5_worked : GoodIn wsX5_best wsX5_worked := (goodIn_ca (goodIn_r _ [56, 7, 1, 25, 26, 23, 27, 28, 29, 30, 5, 31, 32, 33, 34, 35, 40, 41, 42, 43, 57, 58, 59, 60, 61, 62, 63, 64, 65, 66, 67, 68, 69, 70, 71, 72, 73, 74, 75, 76, 77, 78, 79, 21, 22, 24, 36, 37, 38, 39, 80, 81, 82, 83, 48, 49, 50, 51, 52] rfl (by decide +kernel)) xiX5_best_X5)
set_option maxRecDepth 20000 in
theorem gX5_best_X5_worked : GoodIn wsX5_best (wsV RX5 172 RX5 yX5_worked wsX5_worked) := goodIn_app (goodIn_r _ [53, 54, 55, 5] rfl (by decide +kernel)) ggX5_best_X5_worked
theorem dX5_best_0 : decode cX5_best 0 = .ok (.aload_n 0, 1) := by decide +kernel
theorem dX5_best_1 : decode cX5_best 1 = .ok (.iload_n 1, 1) := by decide +kernel
theorem dX5_best_2 : decode cX5_best 2 = .ok (.invokevirtual 118, 3) := by decide +kernel
theorem dX5_best_5 : decode cX5_best 5 = .ok (.ifCond .ne 11, 3) := by decide +kernel
theorem dX5_best_8 : decode cX5_best 8 = .ok (.aload_n 0, 1) := by decide +kernel
theorem dX5_best_9 : decode cX5_best 9 = .ok (.iload_n 2, 1) := by decide +kernel
theorem dX5_best_10 : decode cX5_best 10 = .ok (.invokevirtual 111, 3) := by decide +kernel
theorem dX5_best_13 : decode cX5_best 13 = .ok (.ifCond .eq 9, 3) := by decide +kernel
theorem dX5_best_16 : decode cX5_best 16 = .ok (.aload_n 0, 1) := by decide +kernel
theorem dX5_best_17 : decode cX5_best 17 = .ok (.iconst (-1), 1) := by decide +kernel
theorem dX5_best_18 : decode cX5_best 18 = .ok (.invokevirtual 9, 3) := by decide +kernel
theorem dX5_best_21 : decode cX5_best 21 = .ok (.ireturn, 1) := by decide +kernel
theorem dX5_best_22 : decode cX5_best 22 = .ok (.iload_n 3, 1) := by decide +kernel
theorem dX5_best_23 : decode cX5_best 23 = .ok (.ifCond .ge 10, 3) := by decide +kernel
theorem dX5_best_26 : decode cX5_best 26 = .ok (.aload_n 0, 1) := by decide +kernel
theorem dX5_best_27 : decode cX5_best 27 = .ok (.bipush (-4), 2) := by decide +kernel
theorem dX5_best_29 : decode cX5_best 29 = .ok (.invokevirtual 9, 3) := by decide +kernel
theorem dX5_best_32 : decode cX5_best 32 = .ok (.ireturn, 1) := by decide +kernel
theorem dX5_best_33 : decode cX5_best 33 = .ok (.iload_n 3, 1) := by decide +kernel
theorem dX5_best_34 : decode cX5_best 34 = .ok (.bipush 60, 2) := by decide +kernel
theorem dX5_best_36 : decode cX5_best 36 = .ok (.if_icmp .le 10, 3) := by decide +kernel
theorem dX5_best_39 : decode cX5_best 39 = .ok (.aload_n 0, 1) := by decide +kernel
theorem dX5_best_40 : decode cX5_best 40 = .ok (.bipush (-6), 2) := by decide +kernel
theorem dX5_best_42 : decode cX5_best 42 = .ok (.invokevirtual 9, 3) := by decide +kernel
theorem dX5_best_45 : decode cX5_best 45 = .ok (.ireturn, 1) := by decide +kernel
theorem dX5_best_46 : decode cX5_best 46 = .ok (.aload_n 0, 1) := by decide +kernel
theorem dX5_best_47 : decode cX5_best 47 = .ok (.iload_n 1, 1) := by decide +kernel
theorem dX5_best_48 : decode cX5_best 48 = .ok (.iload_n 2, 1) := by decide +kernel
theorem dX5_best_49 : decode cX5_best 49 = .ok (.iload_n 3, 1) := by decide +kernel
theorem dX5_best_50 : decode cX5_best 50 = .ok (.invokevirtual 175, 3) := by decide +kernel
theorem dX5_best_53 : decode cX5_best 53 = .ok (.istore 4, 2) := by decide +kernel
theorem dX5_best_55 : decode cX5_best 55 = .ok (.aload_n 0, 1) := by decide +kernel
theorem dX5_best_56 : decode cX5_best 56 = .ok (.iload_n 1, 1) := by decide +kernel
theorem dX5_best_57 : decode cX5_best 57 = .ok (.iload 4, 2) := by decide +kernel
theorem dX5_best_59 : decode cX5_best 59 = .ok (.invokevirtual 121, 3) := by decide +kernel
theorem dX5_best_62 : decode cX5_best 62 = .ok (.ifCond .ne 6, 3) := by decide +kernel
theorem dX5_best_65 : decode cX5_best 65 = .ok (.bipush (-9), 2) := by decide +kernel
theorem dX5_best_67 : decode cX5_best 67 = .ok (.ireturn, 1) := by decide +kernel
theorem dX5_best_68 : decode cX5_best 68 = .ok (.aload_n 0, 1) := by decide +kernel
theorem dX5_best_69 : decode cX5_best 69 = .ok (.iload_n 1, 1) := by decide +kernel
theorem dX5_best_70 : decode cX5_best 70 = .ok (.invokevirtual 178, 3) := by decide +kernel
theorem dX5_best_73 : decode cX5_best 73 = .ok (.aload_n 0, 1) := by decide +kernel
theorem dX5_best_74 : decode cX5_best 74 = .ok (.iload_n 1, 1) := by decide +kernel
theorem dX5_best_75 : decode cX5_best 75 = .ok (.iload_n 2, 1) := by decide +kernel
theorem dX5_best_76 : decode cX5_best 76 = .ok (.iload_n 3, 1) := by decide +kernel
theorem dX5_best_77 : decode cX5_best 77 = .ok (.iload 4, 2) := by decide +kernel
theorem dX5_best_79 : decode cX5_best 79 = .ok (.invokevirtual 172, 3) := by decide +kernel
theorem dX5_best_82 : decode cX5_best 82 = .ok (.pop, 1) := by decide +kernel
theorem dX5_best_83 : decode cX5_best 83 = .ok (.aload_n 0, 1) := by decide +kernel
theorem dX5_best_84 : decode cX5_best 84 = .ok (.getfield 169, 3) := by decide +kernel
theorem dX5_best_87 : decode cX5_best 87 = .ok (.ifCond .eq 7, 3) := by decide +kernel
theorem dX5_best_90 : decode cX5_best 90 = .ok (.iconst 1, 1) := by decide +kernel
theorem dX5_best_91 : decode cX5_best 91 = .ok (.goto 4, 3) := by decide +kernel
theorem dX5_best_94 : decode cX5_best 94 = .ok (.iconst 0, 1) := by decide +kernel
theorem dX5_best_95 : decode cX5_best 95 = .ok (.ireturn, 1) := by decide +kernel
theorem xiX5_bestMean_X5 : GoodIn wsX5_bestMean wsX50 := goodIn_sub (fun _ h => List.mem_cons_of_mem _ (List.mem_append_right _ h)) xgwX5
set_option maxRecDepth 20000 in
theorem ggX5_bestMean_X5_isNoLine : GoodIn wsX5_bestMean wsX5_isNoLine := (goodIn_ca (goodIn_r _ [6, 7] rfl (by decide +kernel)) xiX5_bestMean_X5)
set_option maxRecDepth 20000 in
theorem gX5_bestMean_X5_isNoLine : GoodIn wsX5_bestMean (wsV RX5 118 RX5 yX5_isNoLine wsX5_isNoLine) := goodIn_app (goodIn_r _ [2, 3, 4, 5] rfl (by decide +kernel)) ggX5_bestMean_X5_isNoLine
set_option maxRecDepth 20000 in
theorem ggX5_bestMean_X5_isNoStop : GoodIn wsX5_bestMean wsX5_isNoStop := (goodIn_ca (goodIn_r _ [11, 7] rfl (by decide +kernel)) xiX5_bestMean_X5)
set_option maxRecDepth 20000 in
theorem gX5_bestMean_X5_isNoStop : GoodIn wsX5_bestMean (wsV RX5 111 RX5 yX5_isNoStop wsX5_isNoStop) := goodIn_app (goodIn_r _ [8, 9, 10, 5] rfl (by decide +kernel)) ggX5_bestMean_X5_isNoStop
set_option maxRecDepth 20000 in
theorem ggX5_bestMean_X5_noLong : GoodIn wsX5_bestMean wsX5_noLong := (goodIn_ca (goodIn_r _ [15, 16, 17, 18, 19, 5, 20, 21] rfl (by decide +kernel)) xiX5_bestMean_X5)
set_option maxRecDepth 20000 in
theorem gX5_bestMean_X5_noLong : GoodIn wsX5_bestMean (wsV RX5 130 RX5 yX5_noLong wsX5_noLong) := goodIn_app (goodIn_r _ [12, 13, 14, 5] rfl (by decide +kernel)) ggX5_bestMean_X5_noLong
set_option maxRecDepth 20000 in
theorem ggX5_bestMean_X5_isNoPart : GoodIn wsX5_bestMean wsX5_isNoPart := goodIn_r _ [24] rfl (by decide +kernel)
set_option maxRecDepth 20000 in
theorem gX5_bestMean_X5_isNoPart : GoodIn wsX5_bestMean (va_wsS RX5 134 yX5_isNoPart wsX5_isNoPart) := goodIn_app (goodIn_r _ [22, 23, 5] rfl (by decide +kernel)) ggX5_bestMean_X5_isNoPart
set_option maxRecDepth 20000 in
theorem ggX5_bestMean_X5_workOut : GoodIn wsX5_bestMean wsX5_workOut := (goodIn_ca (goodIn_r _ [28, 7, 29, 30, 31, 32, 33, 34, 35, 1, 36, 37, 38, 5, 39, 40, 41, 42, 43, 44, 45, 46, 47, 48, 49, 50, 51, 52, 53, 54, 55, 56, 57, 58, 59, 60, 61, 62, 63, 64, 65, 66, 67, 68, 69, 70, 71, 72, 73, 74, 75, 76, 77, 78, 79, 80, 81, 82, 83, 84, 85, 86, 87] rfl (by decide +kernel)) xiX5_bestMean_X5)
set_option maxRecDepth 20000 in
theorem gX5_bestMean_X5_workOut : GoodIn wsX5_bestMean (wsV RX5 178 RX5 yX5_workOut wsX5_workOut) := goodIn_app (goodIn_r _ [25, 26, 27, 5] rfl (by decide +kernel)) ggX5_bestMean_X5_workOut
set_option maxRecDepth 20000 in
theorem ggX5_bestMean_X5_firstStill : GoodIn wsX5_bestMean wsX5_firstStill := (goodIn_ca (goodIn_r _ [91, 29, 30, 31, 32, 33, 34, 35, 36, 37, 38, 5, 39, 40, 41, 42, 43, 7] rfl (by decide +kernel)) xiX5_bestMean_X5)
set_option maxRecDepth 20000 in
theorem gX5_bestMean_X5_firstStill : GoodIn wsX5_bestMean (wsV RX5 175 RX5 yX5_firstStill wsX5_firstStill) := goodIn_app (goodIn_r _ [88, 89, 90, 5] rfl (by decide +kernel)) ggX5_bestMean_X5_firstStill
set_option maxRecDepth 20000 in
theorem ggX5_bestMean_X5_cell : GoodIn wsX5_bestMean wsX5_cell := goodIn_r _ [47] rfl (by decide +kernel)
set_option maxRecDepth 20000 in
theorem gX5_bestMean_X5_cell : GoodIn wsX5_bestMean (wsV RX5 160 RX5 yX5_cell wsX5_cell) := goodIn_app (goodIn_r _ [44, 45, 46, 5] rfl (by decide +kernel)) ggX5_bestMean_X5_cell
set_option maxRecDepth 20000 in
theorem ggX5_bestMean_X5_weights : GoodIn wsX5_bestMean wsX5_weights := (goodIn_ca (goodIn_r _ [83, 53, 54, 55, 5, 56, 7] rfl (by decide +kernel)) xiX5_bestMean_X5)
set_option maxRecDepth 20000 in
theorem gX5_bestMean_X5_weights : GoodIn wsX5_bestMean (wsV RX5 121 RX5 yX5_weights wsX5_weights) := goodIn_app (goodIn_r _ [80, 81, 82, 5] rfl (by decide +kernel)) ggX5_bestMean_X5_weights
set_option maxRecDepth 20000 in
theorem ggX5_bestMean_X5_part : GoodIn wsX5_bestMean wsX5_part := goodIn_r _ [94] rfl (by decide +kernel)
set_option maxRecDepth 20000 in
theorem gX5_bestMean_X5_part : GoodIn wsX5_bestMean (va_wsS RX5 137 yX5_part wsX5_part) := goodIn_app (goodIn_r _ [92, 93, 5] rfl (by decide +kernel)) ggX5_bestMean_X5_part
theorem dX5_bestMean_0 : decode cX5_bestMean 0 = .ok (.aload_n 0, 1) := by decide +kernel
theorem dX5_bestMean_1 : decode cX5_bestMean 1 = .ok (.iload_n 1, 1) := by decide +kernel
theorem dX5_bestMean_2 : decode cX5_bestMean 2 = .ok (.invokevirtual 118, 3) := by decide +kernel
theorem dX5_bestMean_5 : decode cX5_bestMean 5 = .ok (.ifCond .ne 11, 3) := by decide +kernel
theorem dX5_bestMean_8 : decode cX5_bestMean 8 = .ok (.aload_n 0, 1) := by decide +kernel
theorem dX5_bestMean_9 : decode cX5_bestMean 9 = .ok (.iload_n 2, 1) := by decide +kernel
theorem dX5_bestMean_10 : decode cX5_bestMean 10 = .ok (.invokevirtual 111, 3) := by decide +kernel
theorem dX5_bestMean_13 : decode cX5_bestMean 13 = .ok (.ifCond .eq 9, 3) := by decide +kernel
theorem dX5_bestMean_16 : decode cX5_bestMean 16 = .ok (.aload_n 0, 1) := by decide +kernel
theorem dX5_bestMean_17 : decode cX5_bestMean 17 = .ok (.iconst (-1), 1) := by decide +kernel
theorem dX5_bestMean_18 : decode cX5_bestMean 18 = .ok (.invokevirtual 130, 3) := by decide +kernel
theorem dX5_bestMean_21 : decode cX5_bestMean 21 = .ok (.lreturn, 1) := by decide +kernel
theorem dX5_bestMean_22 : decode cX5_bestMean 22 = .ok (.iload_n 3, 1) := by decide +kernel
theorem dX5_bestMean_23 : decode cX5_bestMean 23 = .ok (.ifCond .ge 10, 3) := by decide +kernel
theorem dX5_bestMean_26 : decode cX5_bestMean 26 = .ok (.aload_n 0, 1) := by decide +kernel
theorem dX5_bestMean_27 : decode cX5_bestMean 27 = .ok (.bipush (-4), 2) := by decide +kernel
theorem dX5_bestMean_29 : decode cX5_bestMean 29 = .ok (.invokevirtual 130, 3) := by decide +kernel
theorem dX5_bestMean_32 : decode cX5_bestMean 32 = .ok (.lreturn, 1) := by decide +kernel
theorem dX5_bestMean_33 : decode cX5_bestMean 33 = .ok (.iload_n 3, 1) := by decide +kernel
theorem dX5_bestMean_34 : decode cX5_bestMean 34 = .ok (.bipush 60, 2) := by decide +kernel
theorem dX5_bestMean_36 : decode cX5_bestMean 36 = .ok (.if_icmp .le 10, 3) := by decide +kernel
theorem dX5_bestMean_39 : decode cX5_bestMean 39 = .ok (.aload_n 0, 1) := by decide +kernel
theorem dX5_bestMean_40 : decode cX5_bestMean 40 = .ok (.bipush (-6), 2) := by decide +kernel
theorem dX5_bestMean_42 : decode cX5_bestMean 42 = .ok (.invokevirtual 130, 3) := by decide +kernel
theorem dX5_bestMean_45 : decode cX5_bestMean 45 = .ok (.lreturn, 1) := by decide +kernel
theorem dX5_bestMean_46 : decode cX5_bestMean 46 = .ok (.iload 4, 2) := by decide +kernel
theorem dX5_bestMean_48 : decode cX5_bestMean 48 = .ok (.invokestatic 134, 3) := by decide +kernel
theorem dX5_bestMean_51 : decode cX5_bestMean 51 = .ok (.ifCond .eq 10, 3) := by decide +kernel
theorem dX5_bestMean_54 : decode cX5_bestMean 54 = .ok (.aload_n 0, 1) := by decide +kernel
theorem dX5_bestMean_55 : decode cX5_bestMean 55 = .ok (.bipush (-2), 2) := by decide +kernel
theorem dX5_bestMean_57 : decode cX5_bestMean 57 = .ok (.invokevirtual 130, 3) := by decide +kernel
theorem dX5_bestMean_60 : decode cX5_bestMean 60 = .ok (.lreturn, 1) := by decide +kernel
theorem dX5_bestMean_61 : decode cX5_bestMean 61 = .ok (.aload_n 0, 1) := by decide +kernel
theorem dX5_bestMean_62 : decode cX5_bestMean 62 = .ok (.iload_n 1, 1) := by decide +kernel
theorem dX5_bestMean_63 : decode cX5_bestMean 63 = .ok (.invokevirtual 178, 3) := by decide +kernel
theorem dX5_bestMean_66 : decode cX5_bestMean 66 = .ok (.aload_n 0, 1) := by decide +kernel
theorem dX5_bestMean_67 : decode cX5_bestMean 67 = .ok (.iload_n 1, 1) := by decide +kernel
theorem dX5_bestMean_68 : decode cX5_bestMean 68 = .ok (.iload_n 2, 1) := by decide +kernel
theorem dX5_bestMean_69 : decode cX5_bestMean 69 = .ok (.iload_n 3, 1) := by decide +kernel
theorem dX5_bestMean_70 : decode cX5_bestMean 70 = .ok (.invokevirtual 175, 3) := by decide +kernel
theorem dX5_bestMean_73 : decode cX5_bestMean 73 = .ok (.istore 5, 2) := by decide +kernel
theorem dX5_bestMean_75 : decode cX5_bestMean 75 = .ok (.aload_n 0, 1) := by decide +kernel
theorem dX5_bestMean_76 : decode cX5_bestMean 76 = .ok (.getfield 50, 3) := by decide +kernel
theorem dX5_bestMean_79 : decode cX5_bestMean 79 = .ok (.aload_n 0, 1) := by decide +kernel
theorem dX5_bestMean_80 : decode cX5_bestMean 80 = .ok (.iload_n 2, 1) := by decide +kernel
theorem dX5_bestMean_81 : decode cX5_bestMean 81 = .ok (.iload_n 3, 1) := by decide +kernel
theorem dX5_bestMean_82 : decode cX5_bestMean 82 = .ok (.iload 5, 2) := by decide +kernel
theorem dX5_bestMean_84 : decode cX5_bestMean 84 = .ok (.invokevirtual 160, 3) := by decide +kernel
theorem dX5_bestMean_87 : decode cX5_bestMean 87 = .ok (.iaload, 1) := by decide +kernel
theorem dX5_bestMean_88 : decode cX5_bestMean 88 = .ok (.i2l, 1) := by decide +kernel
theorem dX5_bestMean_89 : decode cX5_bestMean 89 = .ok (.aload_n 0, 1) := by decide +kernel
theorem dX5_bestMean_90 : decode cX5_bestMean 90 = .ok (.iload_n 1, 1) := by decide +kernel
theorem dX5_bestMean_91 : decode cX5_bestMean 91 = .ok (.iload 5, 2) := by decide +kernel
theorem dX5_bestMean_93 : decode cX5_bestMean 93 = .ok (.invokevirtual 121, 3) := by decide +kernel
theorem dX5_bestMean_96 : decode cX5_bestMean 96 = .ok (.i2l, 1) := by decide +kernel
theorem dX5_bestMean_97 : decode cX5_bestMean 97 = .ok (.iload 4, 2) := by decide +kernel
theorem dX5_bestMean_99 : decode cX5_bestMean 99 = .ok (.invokestatic 137, 3) := by decide +kernel
theorem dX5_bestMean_102 : decode cX5_bestMean 102 = .ok (.lreturn, 1) := by decide +kernel
theorem xiX5_patience_X5 : GoodIn wsX5_patience wsX50 := goodIn_sub (fun _ h => List.mem_cons_of_mem _ (List.mem_append_right _ h)) xgwX5
set_option maxRecDepth 20000 in
theorem ggX5_patience_X5_isNoLine : GoodIn wsX5_patience wsX5_isNoLine := (goodIn_ca (goodIn_r _ [6, 7] rfl (by decide +kernel)) xiX5_patience_X5)
set_option maxRecDepth 20000 in
theorem gX5_patience_X5_isNoLine : GoodIn wsX5_patience (wsV RX5 118 RX5 yX5_isNoLine wsX5_isNoLine) := goodIn_app (goodIn_r _ [2, 3, 4, 5] rfl (by decide +kernel)) ggX5_patience_X5_isNoLine
set_option maxRecDepth 20000 in
theorem ggX5_patience_X5_no : GoodIn wsX5_patience wsX5_no := (goodIn_ca (goodIn_r _ [11, 12] rfl (by decide +kernel)) xiX5_patience_X5)
set_option maxRecDepth 20000 in
theorem gX5_patience_X5_no : GoodIn wsX5_patience (wsV RX5 9 RX5 yX5_no wsX5_no) := goodIn_app (goodIn_r _ [8, 9, 10, 5] rfl (by decide +kernel)) ggX5_patience_X5_no
set_option maxRecDepth 20000 in
theorem ggX5_patience_X5_workOut : GoodIn wsX5_patience wsX5_workOut := (goodIn_ca (goodIn_r _ [16, 7, 17, 18, 19, 20, 21, 22, 23, 24, 25, 26, 27, 5, 28, 29, 30, 31, 32, 33, 34, 35, 36, 37, 38, 39, 40, 1, 41, 42, 43, 44, 45, 46, 47, 48, 49, 50, 51, 52, 53, 54, 55, 56, 57, 58, 59, 60, 61, 62, 63, 64, 65, 66, 67, 68, 69, 70, 71, 72, 73, 74, 75] rfl (by decide +kernel)) xiX5_patience_X5)
set_option maxRecDepth 20000 in
theorem gX5_patience_X5_workOut : GoodIn wsX5_patience (wsV RX5 178 RX5 yX5_workOut wsX5_workOut) := goodIn_app (goodIn_r _ [13, 14, 15, 5] rfl (by decide +kernel)) ggX5_patience_X5_workOut
set_option maxRecDepth 20000 in
theorem ggX5_patience_X5_firstStill : GoodIn wsX5_patience wsX5_firstStill := (goodIn_ca (goodIn_r _ [79, 17, 18, 19, 20, 21, 22, 23, 25, 26, 27, 5, 28, 29, 30, 31, 32, 7] rfl (by decide +kernel)) xiX5_patience_X5)
set_option maxRecDepth 20000 in
theorem gX5_patience_X5_firstStill : GoodIn wsX5_patience (wsV RX5 175 RX5 yX5_firstStill wsX5_firstStill) := goodIn_app (goodIn_r _ [76, 77, 78, 5] rfl (by decide +kernel)) ggX5_patience_X5_firstStill
set_option maxRecDepth 20000 in
theorem ggX5_patience_X5_weights : GoodIn wsX5_patience wsX5_weights := (goodIn_ca (goodIn_r _ [71, 41, 42, 43, 5, 44, 7] rfl (by decide +kernel)) xiX5_patience_X5)
set_option maxRecDepth 20000 in
theorem gX5_patience_X5_weights : GoodIn wsX5_patience (wsV RX5 121 RX5 yX5_weights wsX5_weights) := goodIn_app (goodIn_r _ [68, 69, 70, 5] rfl (by decide +kernel)) ggX5_patience_X5_weights
set_option maxRecDepth 20000 in
theorem ggX5_patience_X5_worked : GoodIn wsX5_patience wsX5_worked := (goodIn_ca (goodIn_r _ [40, 7, 1, 21, 22, 19, 23, 25, 26, 27, 5, 28, 29, 30, 31, 32, 41, 42, 43, 44, 45, 46, 47, 48, 49, 50, 51, 52, 53, 54, 55, 56, 57, 58, 59, 60, 61, 62, 63, 64, 65, 66, 67, 17, 18, 20, 68, 69, 70, 71, 72, 73, 74, 75, 24, 33, 34, 35, 36] rfl (by decide +kernel)) xiX5_patience_X5)
set_option maxRecDepth 20000 in
theorem gX5_patience_X5_worked : GoodIn wsX5_patience (wsV RX5 172 RX5 yX5_worked wsX5_worked) := goodIn_app (goodIn_r _ [37, 38, 39, 5] rfl (by decide +kernel)) ggX5_patience_X5_worked
theorem dX5_patience_0 : decode cX5_patience 0 = .ok (.aload_n 0, 1) := by decide +kernel
theorem dX5_patience_1 : decode cX5_patience 1 = .ok (.iload_n 1, 1) := by decide +kernel
theorem dX5_patience_2 : decode cX5_patience 2 = .ok (.invokevirtual 118, 3) := by decide +kernel
theorem dX5_patience_5 : decode cX5_patience 5 = .ok (.ifCond .eq 9, 3) := by decide +kernel
theorem dX5_patience_8 : decode cX5_patience 8 = .ok (.aload_n 0, 1) := by decide +kernel
theorem dX5_patience_9 : decode cX5_patience 9 = .ok (.iconst (-1), 1) := by decide +kernel
theorem dX5_patience_10 : decode cX5_patience 10 = .ok (.invokevirtual 9, 3) := by decide +kernel
theorem dX5_patience_13 : decode cX5_patience 13 = .ok (.ireturn, 1) := by decide +kernel
theorem dX5_patience_14 : decode cX5_patience 14 = .ok (.aload_n 0, 1) := by decide +kernel
theorem dX5_patience_15 : decode cX5_patience 15 = .ok (.iload_n 1, 1) := by decide +kernel
theorem dX5_patience_16 : decode cX5_patience 16 = .ok (.invokevirtual 178, 3) := by decide +kernel
theorem dX5_patience_19 : decode cX5_patience 19 = .ok (.iconst 0, 1) := by decide +kernel
theorem dX5_patience_20 : decode cX5_patience 20 = .ok (.istore_n 2, 1) := by decide +kernel
theorem dX5_patience_21 : decode cX5_patience 21 = .ok (.iload_n 2, 1) := by decide +kernel
theorem dX5_patience_22 : decode cX5_patience 22 = .ok (.bipush 60, 2) := by decide +kernel
theorem dX5_patience_24 : decode cX5_patience 24 = .ok (.if_icmp .ge 47, 3) := by decide +kernel
theorem dX5_patience_27 : decode cX5_patience 27 = .ok (.aload_n 0, 1) := by decide +kernel
theorem dX5_patience_28 : decode cX5_patience 28 = .ok (.iload_n 1, 1) := by decide +kernel
theorem dX5_patience_29 : decode cX5_patience 29 = .ok (.iconst 0, 1) := by decide +kernel
theorem dX5_patience_30 : decode cX5_patience 30 = .ok (.iload_n 2, 1) := by decide +kernel
theorem dX5_patience_31 : decode cX5_patience 31 = .ok (.invokevirtual 175, 3) := by decide +kernel
theorem dX5_patience_34 : decode cX5_patience 34 = .ok (.istore_n 3, 1) := by decide +kernel
theorem dX5_patience_35 : decode cX5_patience 35 = .ok (.aload_n 0, 1) := by decide +kernel
theorem dX5_patience_36 : decode cX5_patience 36 = .ok (.iload_n 1, 1) := by decide +kernel
theorem dX5_patience_37 : decode cX5_patience 37 = .ok (.iload_n 3, 1) := by decide +kernel
theorem dX5_patience_38 : decode cX5_patience 38 = .ok (.invokevirtual 121, 3) := by decide +kernel
theorem dX5_patience_41 : decode cX5_patience 41 = .ok (.ifCond .ne 6, 3) := by decide +kernel
theorem dX5_patience_44 : decode cX5_patience 44 = .ok (.bipush (-9), 2) := by decide +kernel
theorem dX5_patience_46 : decode cX5_patience 46 = .ok (.ireturn, 1) := by decide +kernel
theorem dX5_patience_47 : decode cX5_patience 47 = .ok (.aload_n 0, 1) := by decide +kernel
theorem dX5_patience_48 : decode cX5_patience 48 = .ok (.iload_n 1, 1) := by decide +kernel
theorem dX5_patience_49 : decode cX5_patience 49 = .ok (.iconst 0, 1) := by decide +kernel
theorem dX5_patience_50 : decode cX5_patience 50 = .ok (.iload_n 2, 1) := by decide +kernel
theorem dX5_patience_51 : decode cX5_patience 51 = .ok (.iload_n 3, 1) := by decide +kernel
theorem dX5_patience_52 : decode cX5_patience 52 = .ok (.invokevirtual 172, 3) := by decide +kernel
theorem dX5_patience_55 : decode cX5_patience 55 = .ok (.pop, 1) := by decide +kernel
theorem dX5_patience_56 : decode cX5_patience 56 = .ok (.aload_n 0, 1) := by decide +kernel
theorem dX5_patience_57 : decode cX5_patience 57 = .ok (.getfield 169, 3) := by decide +kernel
theorem dX5_patience_60 : decode cX5_patience 60 = .ok (.ifCond .eq 5, 3) := by decide +kernel
theorem dX5_patience_63 : decode cX5_patience 63 = .ok (.iload_n 2, 1) := by decide +kernel
theorem dX5_patience_64 : decode cX5_patience 64 = .ok (.ireturn, 1) := by decide +kernel
theorem dX5_patience_65 : decode cX5_patience 65 = .ok (.iinc 2 1, 3) := by decide +kernel
theorem dX5_patience_68 : decode cX5_patience 68 = .ok (.goto (-47), 3) := by decide +kernel
theorem dX5_patience_71 : decode cX5_patience 71 = .ok (.bipush (-9), 2) := by decide +kernel
theorem dX5_patience_73 : decode cX5_patience 73 = .ok (.ireturn, 1) := by decide +kernel
theorem xiX5_news_X5 : GoodIn wsX5_news wsX50 := goodIn_sub (fun _ h => List.mem_cons_of_mem _ (List.mem_append_right _ h)) xgwX5
set_option maxRecDepth 20000 in
theorem ggX5_news_X5_isNoLine : GoodIn wsX5_news wsX5_isNoLine := (goodIn_ca (goodIn_r _ [11, 2] rfl (by decide +kernel)) xiX5_news_X5)
set_option maxRecDepth 20000 in
theorem gX5_news_X5_isNoLine : GoodIn wsX5_news (wsV RX5 118 RX5 yX5_isNoLine wsX5_isNoLine) := goodIn_app (goodIn_r _ [7, 8, 9, 10] rfl (by decide +kernel)) ggX5_news_X5_isNoLine
set_option maxRecDepth 20000 in
theorem ggX5_news_X5_noLong : GoodIn wsX5_news wsX5_noLong := (goodIn_ca (goodIn_r _ [15, 16, 17, 18, 19, 10, 20, 21] rfl (by decide +kernel)) xiX5_news_X5)
set_option maxRecDepth 20000 in
theorem gX5_news_X5_noLong : GoodIn wsX5_news (wsV RX5 130 RX5 yX5_noLong wsX5_noLong) := goodIn_app (goodIn_r _ [12, 13, 14, 10] rfl (by decide +kernel)) ggX5_news_X5_noLong
set_option maxRecDepth 20000 in
theorem ggX5_news_X5_isNoPart : GoodIn wsX5_news wsX5_isNoPart := goodIn_r _ [24] rfl (by decide +kernel)
set_option maxRecDepth 20000 in
theorem gX5_news_X5_isNoPart : GoodIn wsX5_news (va_wsS RX5 134 yX5_isNoPart wsX5_isNoPart) := goodIn_app (goodIn_r _ [22, 23, 10] rfl (by decide +kernel)) ggX5_news_X5_isNoPart
set_option maxRecDepth 20000 in
theorem ggX5_news_X5_workOut : GoodIn wsX5_news wsX5_workOut := (goodIn_ca (goodIn_r _ [28, 2, 29, 30, 5, 31, 3, 4, 6, 1, 32, 33, 34, 10, 35, 36, 37, 38, 39, 40, 41, 42, 43, 44, 45, 46, 47, 48, 49, 50, 51, 52, 53, 54, 55, 56, 57, 58, 59, 60, 61, 62, 63, 64, 65, 66, 67, 68, 69, 70, 71, 72, 73, 74, 75, 76, 77, 78, 79, 80, 81, 82, 83] rfl (by decide +kernel)) xiX5_news_X5)
set_option maxRecDepth 20000 in
theorem gX5_news_X5_workOut : GoodIn wsX5_news (wsV RX5 178 RX5 yX5_workOut wsX5_workOut) := goodIn_app (goodIn_r _ [25, 26, 27, 10] rfl (by decide +kernel)) ggX5_news_X5_workOut
set_option maxRecDepth 20000 in
theorem ggX5_news_X5_cell : GoodIn wsX5_news wsX5_cell := goodIn_r _ [43] rfl (by decide +kernel)
set_option maxRecDepth 20000 in
theorem gX5_news_X5_cell : GoodIn wsX5_news (wsV RX5 160 RX5 yX5_cell wsX5_cell) := goodIn_app (goodIn_r _ [40, 41, 42, 10] rfl (by decide +kernel)) ggX5_news_X5_cell
set_option maxRecDepth 20000 in
theorem ggX5_news_X5_weight : GoodIn wsX5_news wsX5_weight := (goodIn_ca (goodIn_r _ [52, 2] rfl (by decide +kernel)) xiX5_news_X5)
set_option maxRecDepth 20000 in
theorem gX5_news_X5_weight : GoodIn wsX5_news (wsV RX5 108 RX5 yX5_weight wsX5_weight) := goodIn_app (goodIn_r _ [49, 50, 51, 10] rfl (by decide +kernel)) ggX5_news_X5_weight
set_option maxRecDepth 20000 in
theorem ggX5_news_X5_rest : GoodIn wsX5_news wsX5_rest := (goodIn_ca (goodIn_r _ [71, 2, 61, 62, 63, 10, 64, 65, 66, 67] rfl (by decide +kernel)) xiX5_news_X5)
set_option maxRecDepth 20000 in
theorem gX5_news_X5_rest : GoodIn wsX5_news (wsV RX5 115 RX5 yX5_rest wsX5_rest) := goodIn_app (goodIn_r _ [68, 69, 70, 10] rfl (by decide +kernel)) ggX5_news_X5_rest
set_option maxRecDepth 20000 in
theorem ggX5_news_X5_toLast : GoodIn wsX5_news wsX5_toLast := (goodIn_ca (goodIn_r _ [60, 2, 32, 33, 34, 10, 35, 36, 37, 38, 39] rfl (by decide +kernel)) xiX5_news_X5)
set_option maxRecDepth 20000 in
theorem gX5_news_X5_toLast : GoodIn wsX5_news (wsV RX5 124 RX5 yX5_toLast wsX5_toLast) := goodIn_app (goodIn_r _ [57, 58, 59, 10] rfl (by decide +kernel)) ggX5_news_X5_toLast
set_option maxRecDepth 20000 in
theorem ggX5_news_X5_leg : GoodIn wsX5_news wsX5_leg := (goodIn_ca (goodIn_r _ [64, 2, 65, 66, 10, 67] rfl (by decide +kernel)) xiX5_news_X5)
set_option maxRecDepth 20000 in
theorem gX5_news_X5_leg : GoodIn wsX5_news (wsV RX5 99 RX5 yX5_leg wsX5_leg) := goodIn_app (goodIn_r _ [61, 62, 63, 10] rfl (by decide +kernel)) ggX5_news_X5_leg
set_option maxRecDepth 20000 in
theorem ggX5_news_X5_weights : GoodIn wsX5_news wsX5_weights := (goodIn_ca (goodIn_r _ [79, 49, 50, 51, 10, 52, 2] rfl (by decide +kernel)) xiX5_news_X5)
set_option maxRecDepth 20000 in
theorem gX5_news_X5_weights : GoodIn wsX5_news (wsV RX5 121 RX5 yX5_weights wsX5_weights) := goodIn_app (goodIn_r _ [76, 77, 78, 10] rfl (by decide +kernel)) ggX5_news_X5_weights
set_option maxRecDepth 20000 in
theorem ggX5_news_X5_part : GoodIn wsX5_news wsX5_part := goodIn_r _ [86] rfl (by decide +kernel)
set_option maxRecDepth 20000 in
theorem gX5_news_X5_part : GoodIn wsX5_news (va_wsS RX5 137 yX5_part wsX5_part) := goodIn_app (goodIn_r _ [84, 85, 10] rfl (by decide +kernel)) ggX5_news_X5_part
theorem dX5_news_0 : decode cX5_news 0 = .ok (.aload_n 0, 1) := by decide +kernel
theorem dX5_news_1 : decode cX5_news 1 = .ok (.iload_n 1, 1) := by decide +kernel
theorem dX5_news_2 : decode cX5_news 2 = .ok (.invokevirtual 118, 3) := by decide +kernel
theorem dX5_news_5 : decode cX5_news 5 = .ok (.ifCond .eq 9, 3) := by decide +kernel
theorem dX5_news_8 : decode cX5_news 8 = .ok (.aload_n 0, 1) := by decide +kernel
theorem dX5_news_9 : decode cX5_news 9 = .ok (.iconst (-1), 1) := by decide +kernel
theorem dX5_news_10 : decode cX5_news 10 = .ok (.invokevirtual 130, 3) := by decide +kernel
theorem dX5_news_13 : decode cX5_news 13 = .ok (.lreturn, 1) := by decide +kernel
theorem dX5_news_14 : decode cX5_news 14 = .ok (.iload_n 2, 1) := by decide +kernel
theorem dX5_news_15 : decode cX5_news 15 = .ok (.invokestatic 134, 3) := by decide +kernel
theorem dX5_news_18 : decode cX5_news 18 = .ok (.ifCond .eq 10, 3) := by decide +kernel
theorem dX5_news_21 : decode cX5_news 21 = .ok (.aload_n 0, 1) := by decide +kernel
theorem dX5_news_22 : decode cX5_news 22 = .ok (.bipush (-2), 2) := by decide +kernel
theorem dX5_news_24 : decode cX5_news 24 = .ok (.invokevirtual 130, 3) := by decide +kernel
theorem dX5_news_27 : decode cX5_news 27 = .ok (.lreturn, 1) := by decide +kernel
theorem dX5_news_28 : decode cX5_news 28 = .ok (.aload_n 0, 1) := by decide +kernel
theorem dX5_news_29 : decode cX5_news 29 = .ok (.iload_n 1, 1) := by decide +kernel
theorem dX5_news_30 : decode cX5_news 30 = .ok (.invokevirtual 178, 3) := by decide +kernel
theorem dX5_news_33 : decode cX5_news 33 = .ok (.aload_n 0, 1) := by decide +kernel
theorem dX5_news_34 : decode cX5_news 34 = .ok (.getfield 50, 3) := by decide +kernel
theorem dX5_news_37 : decode cX5_news 37 = .ok (.aload_n 0, 1) := by decide +kernel
theorem dX5_news_38 : decode cX5_news 38 = .ok (.iconst 0, 1) := by decide +kernel
theorem dX5_news_39 : decode cX5_news 39 = .ok (.iconst 0, 1) := by decide +kernel
theorem dX5_news_40 : decode cX5_news 40 = .ok (.iconst 0, 1) := by decide +kernel
theorem dX5_news_41 : decode cX5_news 41 = .ok (.invokevirtual 160, 3) := by decide +kernel
theorem dX5_news_44 : decode cX5_news 44 = .ok (.iaload, 1) := by decide +kernel
theorem dX5_news_45 : decode cX5_news 45 = .ok (.aload_n 0, 1) := by decide +kernel
theorem dX5_news_46 : decode cX5_news 46 = .ok (.iload_n 1, 1) := by decide +kernel
theorem dX5_news_47 : decode cX5_news 47 = .ok (.bipush 12, 2) := by decide +kernel
theorem dX5_news_49 : decode cX5_news 49 = .ok (.invokevirtual 108, 3) := by decide +kernel
theorem dX5_news_52 : decode cX5_news 52 = .ok (.aload_n 0, 1) := by decide +kernel
theorem dX5_news_53 : decode cX5_news 53 = .ok (.iconst 0, 1) := by decide +kernel
theorem dX5_news_54 : decode cX5_news 54 = .ok (.invokevirtual 115, 3) := by decide +kernel
theorem dX5_news_57 : decode cX5_news 57 = .ok (.imul, 1) := by decide +kernel
theorem dX5_news_58 : decode cX5_news 58 = .ok (.isub, 1) := by decide +kernel
theorem dX5_news_59 : decode cX5_news 59 = .ok (.istore_n 3, 1) := by decide +kernel
theorem dX5_news_60 : decode cX5_news 60 = .ok (.iconst 0, 1) := by decide +kernel
theorem dX5_news_61 : decode cX5_news 61 = .ok (.istore 4, 2) := by decide +kernel
theorem dX5_news_63 : decode cX5_news 63 = .ok (.iload 4, 2) := by decide +kernel
theorem dX5_news_65 : decode cX5_news 65 = .ok (.bipush 12, 2) := by decide +kernel
theorem dX5_news_67 : decode cX5_news 67 = .ok (.if_icmp .ge 53, 3) := by decide +kernel
theorem dX5_news_70 : decode cX5_news 70 = .ok (.iload_n 3, 1) := by decide +kernel
theorem dX5_news_71 : decode cX5_news 71 = .ok (.aload_n 0, 1) := by decide +kernel
theorem dX5_news_72 : decode cX5_news 72 = .ok (.iload_n 1, 1) := by decide +kernel
theorem dX5_news_73 : decode cX5_news 73 = .ok (.iload 4, 2) := by decide +kernel
theorem dX5_news_75 : decode cX5_news 75 = .ok (.invokevirtual 108, 3) := by decide +kernel
theorem dX5_news_78 : decode cX5_news 78 = .ok (.aload_n 0, 1) := by decide +kernel
theorem dX5_news_79 : decode cX5_news 79 = .ok (.iconst 0, 1) := by decide +kernel
theorem dX5_news_80 : decode cX5_news 80 = .ok (.invokevirtual 115, 3) := by decide +kernel
theorem dX5_news_83 : decode cX5_news 83 = .ok (.iload 4, 2) := by decide +kernel
theorem dX5_news_85 : decode cX5_news 85 = .ok (.aload_n 0, 1) := by decide +kernel
theorem dX5_news_86 : decode cX5_news 86 = .ok (.iload_n 1, 1) := by decide +kernel
theorem dX5_news_87 : decode cX5_news 87 = .ok (.invokevirtual 124, 3) := by decide +kernel
theorem dX5_news_90 : decode cX5_news 90 = .ok (.iadd, 1) := by decide +kernel
theorem dX5_news_91 : decode cX5_news 91 = .ok (.aload_n 0, 1) := by decide +kernel
theorem dX5_news_92 : decode cX5_news 92 = .ok (.aload_n 0, 1) := by decide +kernel
theorem dX5_news_93 : decode cX5_news 93 = .ok (.getfield 19, 3) := by decide +kernel
theorem dX5_news_96 : decode cX5_news 96 = .ok (.iconst 0, 1) := by decide +kernel
theorem dX5_news_97 : decode cX5_news 97 = .ok (.iaload, 1) := by decide +kernel
theorem dX5_news_98 : decode cX5_news 98 = .ok (.aload_n 0, 1) := by decide +kernel
theorem dX5_news_99 : decode cX5_news 99 = .ok (.getfield 19, 3) := by decide +kernel
theorem dX5_news_102 : decode cX5_news 102 = .ok (.iconst 2, 1) := by decide +kernel
theorem dX5_news_103 : decode cX5_news 103 = .ok (.iaload, 1) := by decide +kernel
theorem dX5_news_104 : decode cX5_news 104 = .ok (.invokevirtual 99, 3) := by decide +kernel
theorem dX5_news_107 : decode cX5_news 107 = .ok (.iadd, 1) := by decide +kernel
theorem dX5_news_108 : decode cX5_news 108 = .ok (.invokestatic 157, 3) := by decide +kernel
theorem dX5_news_111 : decode cX5_news 111 = .ok (.imul, 1) := by decide +kernel
theorem dX5_news_112 : decode cX5_news 112 = .ok (.isub, 1) := by decide +kernel
theorem dX5_news_113 : decode cX5_news 113 = .ok (.istore_n 3, 1) := by decide +kernel
theorem dX5_news_114 : decode cX5_news 114 = .ok (.iinc 4 1, 3) := by decide +kernel
theorem dX5_news_117 : decode cX5_news 117 = .ok (.goto (-54), 3) := by decide +kernel
theorem dX5_news_120 : decode cX5_news 120 = .ok (.iload_n 3, 1) := by decide +kernel
theorem dX5_news_121 : decode cX5_news 121 = .ok (.i2l, 1) := by decide +kernel
theorem dX5_news_122 : decode cX5_news 122 = .ok (.aload_n 0, 1) := by decide +kernel
theorem dX5_news_123 : decode cX5_news 123 = .ok (.iload_n 1, 1) := by decide +kernel
theorem dX5_news_124 : decode cX5_news 124 = .ok (.iconst 0, 1) := by decide +kernel
theorem dX5_news_125 : decode cX5_news 125 = .ok (.invokevirtual 121, 3) := by decide +kernel
theorem dX5_news_128 : decode cX5_news 128 = .ok (.i2l, 1) := by decide +kernel
theorem dX5_news_129 : decode cX5_news 129 = .ok (.iload_n 2, 1) := by decide +kernel
theorem dX5_news_130 : decode cX5_news 130 = .ok (.invokestatic 137, 3) := by decide +kernel
theorem dX5_news_133 : decode cX5_news 133 = .ok (.lreturn, 1) := by decide +kernel
theorem xiX5_sumOfTwo_X5 : GoodIn wsX5_sumOfTwo wsX50 := goodIn_sub (fun _ h => List.mem_cons_of_mem _ (List.mem_append_right _ h)) xgwX5
set_option maxRecDepth 20000 in
theorem ggX5_sumOfTwo_X5_toLast : GoodIn wsX5_sumOfTwo wsX5_toLast := (goodIn_ca (goodIn_r _ [6, 1, 7, 8, 9, 5, 10, 11, 12, 13, 14] rfl (by decide +kernel)) xiX5_sumOfTwo_X5)
set_option maxRecDepth 20000 in
theorem gX5_sumOfTwo_X5_toLast : GoodIn wsX5_sumOfTwo (wsV RX5 124 RX5 yX5_toLast wsX5_toLast) := goodIn_app (goodIn_r _ [2, 3, 4, 5] rfl (by decide +kernel)) ggX5_sumOfTwo_X5_toLast
set_option maxRecDepth 20000 in
theorem ggX5_sumOfTwo_X5_leg : GoodIn wsX5_sumOfTwo wsX5_leg := (goodIn_ca (goodIn_r _ [18, 1, 19, 20, 5, 21] rfl (by decide +kernel)) xiX5_sumOfTwo_X5)
set_option maxRecDepth 20000 in
theorem gX5_sumOfTwo_X5_leg : GoodIn wsX5_sumOfTwo (wsV RX5 99 RX5 yX5_leg wsX5_leg) := goodIn_app (goodIn_r _ [15, 16, 17, 5] rfl (by decide +kernel)) ggX5_sumOfTwo_X5_leg
set_option maxRecDepth 20000 in
theorem ggX5_sumOfTwo_X5_rest : GoodIn wsX5_sumOfTwo wsX5_rest := (goodIn_ca (goodIn_r _ [25, 1, 15, 16, 17, 5, 18, 19, 20, 21] rfl (by decide +kernel)) xiX5_sumOfTwo_X5)
set_option maxRecDepth 20000 in
theorem gX5_sumOfTwo_X5_rest : GoodIn wsX5_sumOfTwo (wsV RX5 115 RX5 yX5_rest wsX5_rest) := goodIn_app (goodIn_r _ [22, 23, 24, 5] rfl (by decide +kernel)) ggX5_sumOfTwo_X5_rest
set_option maxRecDepth 20000 in
theorem ggX5_sumOfTwo_X5_weight : GoodIn wsX5_sumOfTwo wsX5_weight := (goodIn_ca (goodIn_r _ [29, 1] rfl (by decide +kernel)) xiX5_sumOfTwo_X5)
set_option maxRecDepth 20000 in
theorem gX5_sumOfTwo_X5_weight : GoodIn wsX5_sumOfTwo (wsV RX5 108 RX5 yX5_weight wsX5_weight) := goodIn_app (goodIn_r _ [26, 27, 28, 5] rfl (by decide +kernel)) ggX5_sumOfTwo_X5_weight
theorem dX5_sumOfTwo_0 : decode cX5_sumOfTwo 0 = .ok (.iconst 0, 1) := by decide +kernel
theorem dX5_sumOfTwo_1 : decode cX5_sumOfTwo 1 = .ok (.istore 4, 2) := by decide +kernel
theorem dX5_sumOfTwo_3 : decode cX5_sumOfTwo 3 = .ok (.aload_n 0, 1) := by decide +kernel
theorem dX5_sumOfTwo_4 : decode cX5_sumOfTwo 4 = .ok (.iload_n 1, 1) := by decide +kernel
theorem dX5_sumOfTwo_5 : decode cX5_sumOfTwo 5 = .ok (.invokevirtual 124, 3) := by decide +kernel
theorem dX5_sumOfTwo_8 : decode cX5_sumOfTwo 8 = .ok (.aload_n 0, 1) := by decide +kernel
theorem dX5_sumOfTwo_9 : decode cX5_sumOfTwo 9 = .ok (.aload_n 0, 1) := by decide +kernel
theorem dX5_sumOfTwo_10 : decode cX5_sumOfTwo 10 = .ok (.getfield 19, 3) := by decide +kernel
theorem dX5_sumOfTwo_13 : decode cX5_sumOfTwo 13 = .ok (.iconst 0, 1) := by decide +kernel
theorem dX5_sumOfTwo_14 : decode cX5_sumOfTwo 14 = .ok (.iaload, 1) := by decide +kernel
theorem dX5_sumOfTwo_15 : decode cX5_sumOfTwo 15 = .ok (.aload_n 0, 1) := by decide +kernel
theorem dX5_sumOfTwo_16 : decode cX5_sumOfTwo 16 = .ok (.getfield 19, 3) := by decide +kernel
theorem dX5_sumOfTwo_19 : decode cX5_sumOfTwo 19 = .ok (.iconst 2, 1) := by decide +kernel
theorem dX5_sumOfTwo_20 : decode cX5_sumOfTwo 20 = .ok (.iaload, 1) := by decide +kernel
theorem dX5_sumOfTwo_21 : decode cX5_sumOfTwo 21 = .ok (.invokevirtual 99, 3) := by decide +kernel
theorem dX5_sumOfTwo_24 : decode cX5_sumOfTwo 24 = .ok (.iadd, 1) := by decide +kernel
theorem dX5_sumOfTwo_25 : decode cX5_sumOfTwo 25 = .ok (.istore 5, 2) := by decide +kernel
theorem dX5_sumOfTwo_27 : decode cX5_sumOfTwo 27 = .ok (.aload_n 0, 1) := by decide +kernel
theorem dX5_sumOfTwo_28 : decode cX5_sumOfTwo 28 = .ok (.iload_n 2, 1) := by decide +kernel
theorem dX5_sumOfTwo_29 : decode cX5_sumOfTwo 29 = .ok (.invokevirtual 124, 3) := by decide +kernel
theorem dX5_sumOfTwo_32 : decode cX5_sumOfTwo 32 = .ok (.aload_n 0, 1) := by decide +kernel
theorem dX5_sumOfTwo_33 : decode cX5_sumOfTwo 33 = .ok (.aload_n 0, 1) := by decide +kernel
theorem dX5_sumOfTwo_34 : decode cX5_sumOfTwo 34 = .ok (.getfield 19, 3) := by decide +kernel
theorem dX5_sumOfTwo_37 : decode cX5_sumOfTwo 37 = .ok (.iconst 0, 1) := by decide +kernel
theorem dX5_sumOfTwo_38 : decode cX5_sumOfTwo 38 = .ok (.iaload, 1) := by decide +kernel
theorem dX5_sumOfTwo_39 : decode cX5_sumOfTwo 39 = .ok (.aload_n 0, 1) := by decide +kernel
theorem dX5_sumOfTwo_40 : decode cX5_sumOfTwo 40 = .ok (.getfield 19, 3) := by decide +kernel
theorem dX5_sumOfTwo_43 : decode cX5_sumOfTwo 43 = .ok (.iconst 2, 1) := by decide +kernel
theorem dX5_sumOfTwo_44 : decode cX5_sumOfTwo 44 = .ok (.iaload, 1) := by decide +kernel
theorem dX5_sumOfTwo_45 : decode cX5_sumOfTwo 45 = .ok (.invokevirtual 99, 3) := by decide +kernel
theorem dX5_sumOfTwo_48 : decode cX5_sumOfTwo 48 = .ok (.iadd, 1) := by decide +kernel
theorem dX5_sumOfTwo_49 : decode cX5_sumOfTwo 49 = .ok (.istore 6, 2) := by decide +kernel
theorem dX5_sumOfTwo_51 : decode cX5_sumOfTwo 51 = .ok (.iconst 0, 1) := by decide +kernel
theorem dX5_sumOfTwo_52 : decode cX5_sumOfTwo 52 = .ok (.istore 7, 2) := by decide +kernel
theorem dX5_sumOfTwo_54 : decode cX5_sumOfTwo 54 = .ok (.iload 7, 2) := by decide +kernel
theorem dX5_sumOfTwo_56 : decode cX5_sumOfTwo 56 = .ok (.bipush 12, 2) := by decide +kernel
theorem dX5_sumOfTwo_58 : decode cX5_sumOfTwo 58 = .ok (.if_icmp .gt 140, 3) := by decide +kernel
theorem dX5_sumOfTwo_61 : decode cX5_sumOfTwo 61 = .ok (.iconst 0, 1) := by decide +kernel
theorem dX5_sumOfTwo_62 : decode cX5_sumOfTwo 62 = .ok (.istore 8, 2) := by decide +kernel
theorem dX5_sumOfTwo_64 : decode cX5_sumOfTwo 64 = .ok (.iload 8, 2) := by decide +kernel
theorem dX5_sumOfTwo_66 : decode cX5_sumOfTwo 66 = .ok (.bipush 12, 2) := by decide +kernel
theorem dX5_sumOfTwo_68 : decode cX5_sumOfTwo 68 = .ok (.if_icmp .gt 124, 3) := by decide +kernel
theorem dX5_sumOfTwo_71 : decode cX5_sumOfTwo 71 = .ok (.iload 8, 2) := by decide +kernel
theorem dX5_sumOfTwo_73 : decode cX5_sumOfTwo 73 = .ok (.iload_n 3, 1) := by decide +kernel
theorem dX5_sumOfTwo_74 : decode cX5_sumOfTwo 74 = .ok (.if_icmp .ge 8, 3) := by decide +kernel
theorem dX5_sumOfTwo_77 : decode cX5_sumOfTwo 77 = .ok (.bipush 12, 2) := by decide +kernel
theorem dX5_sumOfTwo_79 : decode cX5_sumOfTwo 79 = .ok (.goto 5, 3) := by decide +kernel
theorem dX5_sumOfTwo_82 : decode cX5_sumOfTwo 82 = .ok (.iload 8, 2) := by decide +kernel
theorem dX5_sumOfTwo_84 : decode cX5_sumOfTwo 84 = .ok (.istore 9, 2) := by decide +kernel
theorem dX5_sumOfTwo_86 : decode cX5_sumOfTwo 86 = .ok (.iload 7, 2) := by decide +kernel
theorem dX5_sumOfTwo_88 : decode cX5_sumOfTwo 88 = .ok (.iload 9, 2) := by decide +kernel
theorem dX5_sumOfTwo_90 : decode cX5_sumOfTwo 90 = .ok (.if_icmp .lt 17, 3) := by decide +kernel
theorem dX5_sumOfTwo_93 : decode cX5_sumOfTwo 93 = .ok (.iload 7, 2) := by decide +kernel
theorem dX5_sumOfTwo_95 : decode cX5_sumOfTwo 95 = .ok (.iload 9, 2) := by decide +kernel
theorem dX5_sumOfTwo_97 : decode cX5_sumOfTwo 97 = .ok (.if_icmp .ne 14, 3) := by decide +kernel
theorem dX5_sumOfTwo_100 : decode cX5_sumOfTwo 100 = .ok (.iload 5, 2) := by decide +kernel
theorem dX5_sumOfTwo_102 : decode cX5_sumOfTwo 102 = .ok (.iload 6, 2) := by decide +kernel
theorem dX5_sumOfTwo_104 : decode cX5_sumOfTwo 104 = .ok (.if_icmp .gt 7, 3) := by decide +kernel
theorem dX5_sumOfTwo_107 : decode cX5_sumOfTwo 107 = .ok (.iconst 1, 1) := by decide +kernel
theorem dX5_sumOfTwo_108 : decode cX5_sumOfTwo 108 = .ok (.goto 4, 3) := by decide +kernel
theorem dX5_sumOfTwo_111 : decode cX5_sumOfTwo 111 = .ok (.iconst 0, 1) := by decide +kernel
theorem dX5_sumOfTwo_112 : decode cX5_sumOfTwo 112 = .ok (.istore 10, 2) := by decide +kernel
theorem dX5_sumOfTwo_114 : decode cX5_sumOfTwo 114 = .ok (.iload 7, 2) := by decide +kernel
theorem dX5_sumOfTwo_116 : decode cX5_sumOfTwo 116 = .ok (.bipush 12, 2) := by decide +kernel
theorem dX5_sumOfTwo_118 : decode cX5_sumOfTwo 118 = .ok (.if_icmp .ne 25, 3) := by decide +kernel
theorem dX5_sumOfTwo_121 : decode cX5_sumOfTwo 121 = .ok (.iload 9, 2) := by decide +kernel
theorem dX5_sumOfTwo_123 : decode cX5_sumOfTwo 123 = .ok (.bipush 12, 2) := by decide +kernel
theorem dX5_sumOfTwo_125 : decode cX5_sumOfTwo 125 = .ok (.if_icmp .ne 18, 3) := by decide +kernel
theorem dX5_sumOfTwo_128 : decode cX5_sumOfTwo 128 = .ok (.aload_n 0, 1) := by decide +kernel
theorem dX5_sumOfTwo_129 : decode cX5_sumOfTwo 129 = .ok (.getfield 19, 3) := by decide +kernel
theorem dX5_sumOfTwo_132 : decode cX5_sumOfTwo 132 = .ok (.iconst 5, 1) := by decide +kernel
theorem dX5_sumOfTwo_133 : decode cX5_sumOfTwo 133 = .ok (.iaload, 1) := by decide +kernel
theorem dX5_sumOfTwo_134 : decode cX5_sumOfTwo 134 = .ok (.aload_n 0, 1) := by decide +kernel
theorem dX5_sumOfTwo_135 : decode cX5_sumOfTwo 135 = .ok (.iconst 0, 1) := by decide +kernel
theorem dX5_sumOfTwo_136 : decode cX5_sumOfTwo 136 = .ok (.invokevirtual 115, 3) := by decide +kernel
theorem dX5_sumOfTwo_139 : decode cX5_sumOfTwo 139 = .ok (.iadd, 1) := by decide +kernel
theorem dX5_sumOfTwo_140 : decode cX5_sumOfTwo 140 = .ok (.goto 21, 3) := by decide +kernel
theorem dX5_sumOfTwo_143 : decode cX5_sumOfTwo 143 = .ok (.iload 10, 2) := by decide +kernel
theorem dX5_sumOfTwo_145 : decode cX5_sumOfTwo 145 = .ok (.ifCond .eq 11, 3) := by decide +kernel
theorem dX5_sumOfTwo_148 : decode cX5_sumOfTwo 148 = .ok (.iload 7, 2) := by decide +kernel
theorem dX5_sumOfTwo_150 : decode cX5_sumOfTwo 150 = .ok (.iload 5, 2) := by decide +kernel
theorem dX5_sumOfTwo_152 : decode cX5_sumOfTwo 152 = .ok (.iadd, 1) := by decide +kernel
theorem dX5_sumOfTwo_153 : decode cX5_sumOfTwo 153 = .ok (.goto 8, 3) := by decide +kernel
theorem dX5_sumOfTwo_156 : decode cX5_sumOfTwo 156 = .ok (.iload 9, 2) := by decide +kernel
theorem dX5_sumOfTwo_158 : decode cX5_sumOfTwo 158 = .ok (.iload 6, 2) := by decide +kernel
theorem dX5_sumOfTwo_160 : decode cX5_sumOfTwo 160 = .ok (.iadd, 1) := by decide +kernel
theorem dX5_sumOfTwo_161 : decode cX5_sumOfTwo 161 = .ok (.istore 11, 2) := by decide +kernel
theorem dX5_sumOfTwo_163 : decode cX5_sumOfTwo 163 = .ok (.iload 4, 2) := by decide +kernel
theorem dX5_sumOfTwo_165 : decode cX5_sumOfTwo 165 = .ok (.aload_n 0, 1) := by decide +kernel
theorem dX5_sumOfTwo_166 : decode cX5_sumOfTwo 166 = .ok (.iload_n 1, 1) := by decide +kernel
theorem dX5_sumOfTwo_167 : decode cX5_sumOfTwo 167 = .ok (.iload 7, 2) := by decide +kernel
theorem dX5_sumOfTwo_169 : decode cX5_sumOfTwo 169 = .ok (.invokevirtual 108, 3) := by decide +kernel
theorem dX5_sumOfTwo_172 : decode cX5_sumOfTwo 172 = .ok (.aload_n 0, 1) := by decide +kernel
theorem dX5_sumOfTwo_173 : decode cX5_sumOfTwo 173 = .ok (.iload_n 2, 1) := by decide +kernel
theorem dX5_sumOfTwo_174 : decode cX5_sumOfTwo 174 = .ok (.iload 8, 2) := by decide +kernel
theorem dX5_sumOfTwo_176 : decode cX5_sumOfTwo 176 = .ok (.invokevirtual 108, 3) := by decide +kernel
theorem dX5_sumOfTwo_179 : decode cX5_sumOfTwo 179 = .ok (.imul, 1) := by decide +kernel
theorem dX5_sumOfTwo_180 : decode cX5_sumOfTwo 180 = .ok (.iload 11, 2) := by decide +kernel
theorem dX5_sumOfTwo_182 : decode cX5_sumOfTwo 182 = .ok (.imul, 1) := by decide +kernel
theorem dX5_sumOfTwo_183 : decode cX5_sumOfTwo 183 = .ok (.iadd, 1) := by decide +kernel
theorem dX5_sumOfTwo_184 : decode cX5_sumOfTwo 184 = .ok (.istore 4, 2) := by decide +kernel
theorem dX5_sumOfTwo_186 : decode cX5_sumOfTwo 186 = .ok (.iinc 8 1, 3) := by decide +kernel
theorem dX5_sumOfTwo_189 : decode cX5_sumOfTwo 189 = .ok (.goto (-125), 3) := by decide +kernel
theorem dX5_sumOfTwo_192 : decode cX5_sumOfTwo 192 = .ok (.iinc 7 1, 3) := by decide +kernel
theorem dX5_sumOfTwo_195 : decode cX5_sumOfTwo 195 = .ok (.goto (-141), 3) := by decide +kernel
theorem dX5_sumOfTwo_198 : decode cX5_sumOfTwo 198 = .ok (.iload 4, 2) := by decide +kernel
theorem dX5_sumOfTwo_200 : decode cX5_sumOfTwo 200 = .ok (.ireturn, 1) := by decide +kernel
theorem xiX5_both_X5 : GoodIn wsX5_both wsX50 := goodIn_sub (fun _ h => List.mem_cons_of_mem _ (List.mem_append_right _ h)) xgwX5
set_option maxRecDepth 20000 in
theorem ggX5_both_X5_isNoLine : GoodIn wsX5_both wsX5_isNoLine := (goodIn_ca (goodIn_r _ [5, 6] rfl (by decide +kernel)) xiX5_both_X5)
set_option maxRecDepth 20000 in
theorem gX5_both_X5_isNoLine : GoodIn wsX5_both (wsV RX5 118 RX5 yX5_isNoLine wsX5_isNoLine) := goodIn_app (goodIn_r _ [1, 2, 3, 4] rfl (by decide +kernel)) ggX5_both_X5_isNoLine
set_option maxRecDepth 20000 in
theorem ggX5_both_X5_noLong : GoodIn wsX5_both wsX5_noLong := (goodIn_ca (goodIn_r _ [10, 11, 12, 13, 14, 4, 15, 16] rfl (by decide +kernel)) xiX5_both_X5)
set_option maxRecDepth 20000 in
theorem gX5_both_X5_noLong : GoodIn wsX5_both (wsV RX5 130 RX5 yX5_noLong wsX5_noLong) := goodIn_app (goodIn_r _ [7, 8, 9, 4] rfl (by decide +kernel)) ggX5_both_X5_noLong
set_option maxRecDepth 20000 in
theorem ggX5_both_X5_isNoPart : GoodIn wsX5_both wsX5_isNoPart := goodIn_r _ [19] rfl (by decide +kernel)
set_option maxRecDepth 20000 in
theorem gX5_both_X5_isNoPart : GoodIn wsX5_both (va_wsS RX5 134 yX5_isNoPart wsX5_isNoPart) := goodIn_app (goodIn_r _ [17, 18, 4] rfl (by decide +kernel)) ggX5_both_X5_isNoPart
set_option maxRecDepth 20000 in
theorem ggX5_both_X5_sumOfTwo : GoodIn wsX5_both wsX5_sumOfTwo := (goodIn_ca (goodIn_r _ [23, 6, 24, 25, 26, 4, 27, 28, 29, 30, 31, 32, 33, 34, 35, 36, 37, 38, 39, 40, 41, 42, 43, 44, 45, 46, 47, 48, 49, 50] rfl (by decide +kernel)) xiX5_both_X5)
set_option maxRecDepth 20000 in
theorem gX5_both_X5_sumOfTwo : GoodIn wsX5_both (wsV RX5 182 RX5 yX5_sumOfTwo wsX5_sumOfTwo) := goodIn_app (goodIn_r _ [20, 21, 22, 4] rfl (by decide +kernel)) ggX5_both_X5_sumOfTwo
set_option maxRecDepth 20000 in
theorem ggX5_both_X5_weights : GoodIn wsX5_both wsX5_weights := (goodIn_ca (goodIn_r _ [54, 47, 48, 49, 4, 50, 6] rfl (by decide +kernel)) xiX5_both_X5)
set_option maxRecDepth 20000 in
theorem gX5_both_X5_weights : GoodIn wsX5_both (wsV RX5 121 RX5 yX5_weights wsX5_weights) := goodIn_app (goodIn_r _ [51, 52, 53, 4] rfl (by decide +kernel)) ggX5_both_X5_weights
set_option maxRecDepth 20000 in
theorem ggX5_both_X5_part : GoodIn wsX5_both wsX5_part := goodIn_r _ [57] rfl (by decide +kernel)
set_option maxRecDepth 20000 in
theorem gX5_both_X5_part : GoodIn wsX5_both (va_wsS RX5 137 yX5_part wsX5_part) := goodIn_app (goodIn_r _ [55, 56, 4] rfl (by decide +kernel)) ggX5_both_X5_part
theorem dX5_both_0 : decode cX5_both 0 = .ok (.aload_n 0, 1) := by decide +kernel
theorem dX5_both_1 : decode cX5_both 1 = .ok (.iload_n 1, 1) := by decide +kernel
theorem dX5_both_2 : decode cX5_both 2 = .ok (.invokevirtual 118, 3) := by decide +kernel
theorem dX5_both_5 : decode cX5_both 5 = .ok (.ifCond .ne 16, 3) := by decide +kernel
theorem dX5_both_8 : decode cX5_both 8 = .ok (.aload_n 0, 1) := by decide +kernel
theorem dX5_both_9 : decode cX5_both 9 = .ok (.iload_n 2, 1) := by decide +kernel
theorem dX5_both_10 : decode cX5_both 10 = .ok (.invokevirtual 118, 3) := by decide +kernel
theorem dX5_both_13 : decode cX5_both 13 = .ok (.ifCond .ne 8, 3) := by decide +kernel
theorem dX5_both_16 : decode cX5_both 16 = .ok (.iload_n 1, 1) := by decide +kernel
theorem dX5_both_17 : decode cX5_both 17 = .ok (.iload_n 2, 1) := by decide +kernel
theorem dX5_both_18 : decode cX5_both 18 = .ok (.if_icmp .ne 9, 3) := by decide +kernel
theorem dX5_both_21 : decode cX5_both 21 = .ok (.aload_n 0, 1) := by decide +kernel
theorem dX5_both_22 : decode cX5_both 22 = .ok (.iconst (-1), 1) := by decide +kernel
theorem dX5_both_23 : decode cX5_both 23 = .ok (.invokevirtual 130, 3) := by decide +kernel
theorem dX5_both_26 : decode cX5_both 26 = .ok (.lreturn, 1) := by decide +kernel
theorem dX5_both_27 : decode cX5_both 27 = .ok (.iload_n 3, 1) := by decide +kernel
theorem dX5_both_28 : decode cX5_both 28 = .ok (.invokestatic 134, 3) := by decide +kernel
theorem dX5_both_31 : decode cX5_both 31 = .ok (.ifCond .eq 12, 3) := by decide +kernel
theorem dX5_both_34 : decode cX5_both 34 = .ok (.aload_n 0, 1) := by decide +kernel
theorem dX5_both_35 : decode cX5_both 35 = .ok (.bipush (-2), 2) := by decide +kernel
theorem dX5_both_37 : decode cX5_both 37 = .ok (.invokevirtual 130, 3) := by decide +kernel
theorem dX5_both_40 : decode cX5_both 40 = .ok (.goto 30, 3) := by decide +kernel
theorem dX5_both_43 : decode cX5_both 43 = .ok (.aload_n 0, 1) := by decide +kernel
theorem dX5_both_44 : decode cX5_both 44 = .ok (.iload_n 1, 1) := by decide +kernel
theorem dX5_both_45 : decode cX5_both 45 = .ok (.iload_n 2, 1) := by decide +kernel
theorem dX5_both_46 : decode cX5_both 46 = .ok (.iconst 0, 1) := by decide +kernel
theorem dX5_both_47 : decode cX5_both 47 = .ok (.invokevirtual 182, 3) := by decide +kernel
theorem dX5_both_50 : decode cX5_both 50 = .ok (.i2l, 1) := by decide +kernel
theorem dX5_both_51 : decode cX5_both 51 = .ok (.aload_n 0, 1) := by decide +kernel
theorem dX5_both_52 : decode cX5_both 52 = .ok (.iload_n 1, 1) := by decide +kernel
theorem dX5_both_53 : decode cX5_both 53 = .ok (.iconst 0, 1) := by decide +kernel
theorem dX5_both_54 : decode cX5_both 54 = .ok (.invokevirtual 121, 3) := by decide +kernel
theorem dX5_both_57 : decode cX5_both 57 = .ok (.i2l, 1) := by decide +kernel
theorem dX5_both_58 : decode cX5_both 58 = .ok (.aload_n 0, 1) := by decide +kernel
theorem dX5_both_59 : decode cX5_both 59 = .ok (.iload_n 2, 1) := by decide +kernel
theorem dX5_both_60 : decode cX5_both 60 = .ok (.iconst 0, 1) := by decide +kernel
theorem dX5_both_61 : decode cX5_both 61 = .ok (.invokevirtual 121, 3) := by decide +kernel
theorem dX5_both_64 : decode cX5_both 64 = .ok (.i2l, 1) := by decide +kernel
theorem dX5_both_65 : decode cX5_both 65 = .ok (.lmul, 1) := by decide +kernel
theorem dX5_both_66 : decode cX5_both 66 = .ok (.iload_n 3, 1) := by decide +kernel
theorem dX5_both_67 : decode cX5_both 67 = .ok (.invokestatic 137, 3) := by decide +kernel
theorem dX5_both_70 : decode cX5_both 70 = .ok (.lreturn, 1) := by decide +kernel
theorem xiX5_letGo_X5 : GoodIn wsX5_letGo wsX50 := goodIn_sub (fun _ h => List.mem_cons_of_mem _ (List.mem_append_right _ h)) xgwX5
set_option maxRecDepth 20000 in
theorem ggX5_letGo_X5_isNoLine : GoodIn wsX5_letGo wsX5_isNoLine := (goodIn_ca (goodIn_r _ [5, 6] rfl (by decide +kernel)) xiX5_letGo_X5)
set_option maxRecDepth 20000 in
theorem gX5_letGo_X5_isNoLine : GoodIn wsX5_letGo (wsV RX5 118 RX5 yX5_isNoLine wsX5_isNoLine) := goodIn_app (goodIn_r _ [1, 2, 3, 4] rfl (by decide +kernel)) ggX5_letGo_X5_isNoLine
set_option maxRecDepth 20000 in
theorem ggX5_letGo_X5_no : GoodIn wsX5_letGo wsX5_no := (goodIn_ca (goodIn_r _ [10, 11] rfl (by decide +kernel)) xiX5_letGo_X5)
set_option maxRecDepth 20000 in
theorem gX5_letGo_X5_no : GoodIn wsX5_letGo (wsV RX5 9 RX5 yX5_no wsX5_no) := goodIn_app (goodIn_r _ [7, 8, 9, 4] rfl (by decide +kernel)) ggX5_letGo_X5_no
set_option maxRecDepth 20000 in
theorem ggX5_letGo_X5_sumOfTwo : GoodIn wsX5_letGo wsX5_sumOfTwo := (goodIn_ca (goodIn_r _ [15, 6, 16, 17, 18, 4, 19, 20, 21, 22, 23, 24, 25, 26, 27, 28, 29, 30, 31, 32, 33, 34, 35, 36, 37, 38, 39, 40, 41, 42] rfl (by decide +kernel)) xiX5_letGo_X5)
set_option maxRecDepth 20000 in
theorem gX5_letGo_X5_sumOfTwo : GoodIn wsX5_letGo (wsV RX5 182 RX5 yX5_sumOfTwo wsX5_sumOfTwo) := goodIn_app (goodIn_r _ [12, 13, 14, 4] rfl (by decide +kernel)) ggX5_letGo_X5_sumOfTwo
theorem dX5_letGo_0 : decode cX5_letGo 0 = .ok (.aload_n 0, 1) := by decide +kernel
theorem dX5_letGo_1 : decode cX5_letGo 1 = .ok (.iload_n 1, 1) := by decide +kernel
theorem dX5_letGo_2 : decode cX5_letGo 2 = .ok (.invokevirtual 118, 3) := by decide +kernel
theorem dX5_letGo_5 : decode cX5_letGo 5 = .ok (.ifCond .ne 16, 3) := by decide +kernel
theorem dX5_letGo_8 : decode cX5_letGo 8 = .ok (.aload_n 0, 1) := by decide +kernel
theorem dX5_letGo_9 : decode cX5_letGo 9 = .ok (.iload_n 2, 1) := by decide +kernel
theorem dX5_letGo_10 : decode cX5_letGo 10 = .ok (.invokevirtual 118, 3) := by decide +kernel
theorem dX5_letGo_13 : decode cX5_letGo 13 = .ok (.ifCond .ne 8, 3) := by decide +kernel
theorem dX5_letGo_16 : decode cX5_letGo 16 = .ok (.iload_n 1, 1) := by decide +kernel
theorem dX5_letGo_17 : decode cX5_letGo 17 = .ok (.iload_n 2, 1) := by decide +kernel
theorem dX5_letGo_18 : decode cX5_letGo 18 = .ok (.if_icmp .ne 9, 3) := by decide +kernel
theorem dX5_letGo_21 : decode cX5_letGo 21 = .ok (.aload_n 0, 1) := by decide +kernel
theorem dX5_letGo_22 : decode cX5_letGo 22 = .ok (.iconst (-1), 1) := by decide +kernel
theorem dX5_letGo_23 : decode cX5_letGo 23 = .ok (.invokevirtual 9, 3) := by decide +kernel
theorem dX5_letGo_26 : decode cX5_letGo 26 = .ok (.ireturn, 1) := by decide +kernel
theorem dX5_letGo_27 : decode cX5_letGo 27 = .ok (.iconst 0, 1) := by decide +kernel
theorem dX5_letGo_28 : decode cX5_letGo 28 = .ok (.istore_n 3, 1) := by decide +kernel
theorem dX5_letGo_29 : decode cX5_letGo 29 = .ok (.iconst 1, 1) := by decide +kernel
theorem dX5_letGo_30 : decode cX5_letGo 30 = .ok (.istore 4, 2) := by decide +kernel
theorem dX5_letGo_32 : decode cX5_letGo 32 = .ok (.iload 4, 2) := by decide +kernel
theorem dX5_letGo_34 : decode cX5_letGo 34 = .ok (.bipush 12, 2) := by decide +kernel
theorem dX5_letGo_36 : decode cX5_letGo 36 = .ok (.if_icmp .gt 34, 3) := by decide +kernel
theorem dX5_letGo_39 : decode cX5_letGo 39 = .ok (.aload_n 0, 1) := by decide +kernel
theorem dX5_letGo_40 : decode cX5_letGo 40 = .ok (.iload_n 1, 1) := by decide +kernel
theorem dX5_letGo_41 : decode cX5_letGo 41 = .ok (.iload_n 2, 1) := by decide +kernel
theorem dX5_letGo_42 : decode cX5_letGo 42 = .ok (.iload 4, 2) := by decide +kernel
theorem dX5_letGo_44 : decode cX5_letGo 44 = .ok (.invokevirtual 182, 3) := by decide +kernel
theorem dX5_letGo_47 : decode cX5_letGo 47 = .ok (.aload_n 0, 1) := by decide +kernel
theorem dX5_letGo_48 : decode cX5_letGo 48 = .ok (.iload_n 1, 1) := by decide +kernel
theorem dX5_letGo_49 : decode cX5_letGo 49 = .ok (.iload_n 2, 1) := by decide +kernel
theorem dX5_letGo_50 : decode cX5_letGo 50 = .ok (.iload_n 3, 1) := by decide +kernel
theorem dX5_letGo_51 : decode cX5_letGo 51 = .ok (.invokevirtual 182, 3) := by decide +kernel
theorem dX5_letGo_54 : decode cX5_letGo 54 = .ok (.if_icmp .ge 8, 3) := by decide +kernel
theorem dX5_letGo_57 : decode cX5_letGo 57 = .ok (.iload 4, 2) := by decide +kernel
theorem dX5_letGo_59 : decode cX5_letGo 59 = .ok (.goto 4, 3) := by decide +kernel
theorem dX5_letGo_62 : decode cX5_letGo 62 = .ok (.iload_n 3, 1) := by decide +kernel
theorem dX5_letGo_63 : decode cX5_letGo 63 = .ok (.istore_n 3, 1) := by decide +kernel
theorem dX5_letGo_64 : decode cX5_letGo 64 = .ok (.iinc 4 1, 3) := by decide +kernel
theorem dX5_letGo_67 : decode cX5_letGo 67 = .ok (.goto (-35), 3) := by decide +kernel
theorem dX5_letGo_70 : decode cX5_letGo 70 = .ok (.iload_n 3, 1) := by decide +kernel
theorem dX5_letGo_71 : decode cX5_letGo 71 = .ok (.ireturn, 1) := by decide +kernel
theorem xiX5_letMean_X5 : GoodIn wsX5_letMean wsX50 := goodIn_sub (fun _ h => List.mem_cons_of_mem _ (List.mem_append_right _ h)) xgwX5
set_option maxRecDepth 20000 in
theorem ggX5_letMean_X5_isNoLine : GoodIn wsX5_letMean wsX5_isNoLine := (goodIn_ca (goodIn_r _ [5, 6] rfl (by decide +kernel)) xiX5_letMean_X5)
set_option maxRecDepth 20000 in
theorem gX5_letMean_X5_isNoLine : GoodIn wsX5_letMean (wsV RX5 118 RX5 yX5_isNoLine wsX5_isNoLine) := goodIn_app (goodIn_r _ [1, 2, 3, 4] rfl (by decide +kernel)) ggX5_letMean_X5_isNoLine
set_option maxRecDepth 20000 in
theorem ggX5_letMean_X5_noLong : GoodIn wsX5_letMean wsX5_noLong := (goodIn_ca (goodIn_r _ [10, 11, 12, 13, 14, 4, 15, 16] rfl (by decide +kernel)) xiX5_letMean_X5)
set_option maxRecDepth 20000 in
theorem gX5_letMean_X5_noLong : GoodIn wsX5_letMean (wsV RX5 130 RX5 yX5_noLong wsX5_noLong) := goodIn_app (goodIn_r _ [7, 8, 9, 4] rfl (by decide +kernel)) ggX5_letMean_X5_noLong
set_option maxRecDepth 20000 in
theorem ggX5_letMean_X5_isNoPart : GoodIn wsX5_letMean wsX5_isNoPart := goodIn_r _ [19] rfl (by decide +kernel)
set_option maxRecDepth 20000 in
theorem gX5_letMean_X5_isNoPart : GoodIn wsX5_letMean (va_wsS RX5 134 yX5_isNoPart wsX5_isNoPart) := goodIn_app (goodIn_r _ [17, 18, 4] rfl (by decide +kernel)) ggX5_letMean_X5_isNoPart
set_option maxRecDepth 20000 in
theorem ggX5_letMean_X5_sumOfTwo : GoodIn wsX5_letMean wsX5_sumOfTwo := (goodIn_ca (goodIn_r _ [23, 6, 24, 25, 26, 4, 27, 28, 29, 30, 31, 32, 33, 34, 35, 36, 37, 38, 39, 40, 41, 42, 43, 44, 45, 46, 47, 48, 49, 50] rfl (by decide +kernel)) xiX5_letMean_X5)
set_option maxRecDepth 20000 in
theorem gX5_letMean_X5_sumOfTwo : GoodIn wsX5_letMean (wsV RX5 182 RX5 yX5_sumOfTwo wsX5_sumOfTwo) := goodIn_app (goodIn_r _ [20, 21, 22, 4] rfl (by decide +kernel)) ggX5_letMean_X5_sumOfTwo
set_option maxRecDepth 20000 in
theorem ggX5_letMean_X5_weights : GoodIn wsX5_letMean wsX5_weights := (goodIn_ca (goodIn_r _ [54, 47, 48, 49, 4, 50, 6] rfl (by decide +kernel)) xiX5_letMean_X5)
set_option maxRecDepth 20000 in
theorem gX5_letMean_X5_weights : GoodIn wsX5_letMean (wsV RX5 121 RX5 yX5_weights wsX5_weights) := goodIn_app (goodIn_r _ [51, 52, 53, 4] rfl (by decide +kernel)) ggX5_letMean_X5_weights
set_option maxRecDepth 20000 in
theorem ggX5_letMean_X5_part : GoodIn wsX5_letMean wsX5_part := goodIn_r _ [57] rfl (by decide +kernel)
set_option maxRecDepth 20000 in
theorem gX5_letMean_X5_part : GoodIn wsX5_letMean (va_wsS RX5 137 yX5_part wsX5_part) := goodIn_app (goodIn_r _ [55, 56, 4] rfl (by decide +kernel)) ggX5_letMean_X5_part
theorem dX5_letMean_0 : decode cX5_letMean 0 = .ok (.aload_n 0, 1) := by decide +kernel
theorem dX5_letMean_1 : decode cX5_letMean 1 = .ok (.iload_n 1, 1) := by decide +kernel
theorem dX5_letMean_2 : decode cX5_letMean 2 = .ok (.invokevirtual 118, 3) := by decide +kernel
theorem dX5_letMean_5 : decode cX5_letMean 5 = .ok (.ifCond .ne 16, 3) := by decide +kernel
theorem dX5_letMean_8 : decode cX5_letMean 8 = .ok (.aload_n 0, 1) := by decide +kernel
theorem dX5_letMean_9 : decode cX5_letMean 9 = .ok (.iload_n 2, 1) := by decide +kernel
theorem dX5_letMean_10 : decode cX5_letMean 10 = .ok (.invokevirtual 118, 3) := by decide +kernel
theorem dX5_letMean_13 : decode cX5_letMean 13 = .ok (.ifCond .ne 8, 3) := by decide +kernel
theorem dX5_letMean_16 : decode cX5_letMean 16 = .ok (.iload_n 1, 1) := by decide +kernel
theorem dX5_letMean_17 : decode cX5_letMean 17 = .ok (.iload_n 2, 1) := by decide +kernel
theorem dX5_letMean_18 : decode cX5_letMean 18 = .ok (.if_icmp .ne 9, 3) := by decide +kernel
theorem dX5_letMean_21 : decode cX5_letMean 21 = .ok (.aload_n 0, 1) := by decide +kernel
theorem dX5_letMean_22 : decode cX5_letMean 22 = .ok (.iconst (-1), 1) := by decide +kernel
theorem dX5_letMean_23 : decode cX5_letMean 23 = .ok (.invokevirtual 130, 3) := by decide +kernel
theorem dX5_letMean_26 : decode cX5_letMean 26 = .ok (.lreturn, 1) := by decide +kernel
theorem dX5_letMean_27 : decode cX5_letMean 27 = .ok (.iload_n 3, 1) := by decide +kernel
theorem dX5_letMean_28 : decode cX5_letMean 28 = .ok (.ifCond .ge 10, 3) := by decide +kernel
theorem dX5_letMean_31 : decode cX5_letMean 31 = .ok (.aload_n 0, 1) := by decide +kernel
theorem dX5_letMean_32 : decode cX5_letMean 32 = .ok (.bipush (-4), 2) := by decide +kernel
theorem dX5_letMean_34 : decode cX5_letMean 34 = .ok (.invokevirtual 130, 3) := by decide +kernel
theorem dX5_letMean_37 : decode cX5_letMean 37 = .ok (.lreturn, 1) := by decide +kernel
theorem dX5_letMean_38 : decode cX5_letMean 38 = .ok (.iload_n 3, 1) := by decide +kernel
theorem dX5_letMean_39 : decode cX5_letMean 39 = .ok (.bipush 12, 2) := by decide +kernel
theorem dX5_letMean_41 : decode cX5_letMean 41 = .ok (.if_icmp .le 10, 3) := by decide +kernel
theorem dX5_letMean_44 : decode cX5_letMean 44 = .ok (.aload_n 0, 1) := by decide +kernel
theorem dX5_letMean_45 : decode cX5_letMean 45 = .ok (.bipush (-6), 2) := by decide +kernel
theorem dX5_letMean_47 : decode cX5_letMean 47 = .ok (.invokevirtual 130, 3) := by decide +kernel
theorem dX5_letMean_50 : decode cX5_letMean 50 = .ok (.lreturn, 1) := by decide +kernel
theorem dX5_letMean_51 : decode cX5_letMean 51 = .ok (.iload 4, 2) := by decide +kernel
theorem dX5_letMean_53 : decode cX5_letMean 53 = .ok (.invokestatic 134, 3) := by decide +kernel
theorem dX5_letMean_56 : decode cX5_letMean 56 = .ok (.ifCond .eq 12, 3) := by decide +kernel
theorem dX5_letMean_59 : decode cX5_letMean 59 = .ok (.aload_n 0, 1) := by decide +kernel
theorem dX5_letMean_60 : decode cX5_letMean 60 = .ok (.bipush (-2), 2) := by decide +kernel
theorem dX5_letMean_62 : decode cX5_letMean 62 = .ok (.invokevirtual 130, 3) := by decide +kernel
theorem dX5_letMean_65 : decode cX5_letMean 65 = .ok (.goto 31, 3) := by decide +kernel
theorem dX5_letMean_68 : decode cX5_letMean 68 = .ok (.aload_n 0, 1) := by decide +kernel
theorem dX5_letMean_69 : decode cX5_letMean 69 = .ok (.iload_n 1, 1) := by decide +kernel
theorem dX5_letMean_70 : decode cX5_letMean 70 = .ok (.iload_n 2, 1) := by decide +kernel
theorem dX5_letMean_71 : decode cX5_letMean 71 = .ok (.iload_n 3, 1) := by decide +kernel
theorem dX5_letMean_72 : decode cX5_letMean 72 = .ok (.invokevirtual 182, 3) := by decide +kernel
theorem dX5_letMean_75 : decode cX5_letMean 75 = .ok (.i2l, 1) := by decide +kernel
theorem dX5_letMean_76 : decode cX5_letMean 76 = .ok (.aload_n 0, 1) := by decide +kernel
theorem dX5_letMean_77 : decode cX5_letMean 77 = .ok (.iload_n 1, 1) := by decide +kernel
theorem dX5_letMean_78 : decode cX5_letMean 78 = .ok (.iconst 0, 1) := by decide +kernel
theorem dX5_letMean_79 : decode cX5_letMean 79 = .ok (.invokevirtual 121, 3) := by decide +kernel
theorem dX5_letMean_82 : decode cX5_letMean 82 = .ok (.i2l, 1) := by decide +kernel
theorem dX5_letMean_83 : decode cX5_letMean 83 = .ok (.aload_n 0, 1) := by decide +kernel
theorem dX5_letMean_84 : decode cX5_letMean 84 = .ok (.iload_n 2, 1) := by decide +kernel
theorem dX5_letMean_85 : decode cX5_letMean 85 = .ok (.iconst 0, 1) := by decide +kernel
theorem dX5_letMean_86 : decode cX5_letMean 86 = .ok (.invokevirtual 121, 3) := by decide +kernel
theorem dX5_letMean_89 : decode cX5_letMean 89 = .ok (.i2l, 1) := by decide +kernel
theorem dX5_letMean_90 : decode cX5_letMean 90 = .ok (.lmul, 1) := by decide +kernel
theorem dX5_letMean_91 : decode cX5_letMean 91 = .ok (.iload 4, 2) := by decide +kernel
theorem dX5_letMean_93 : decode cX5_letMean 93 = .ok (.invokestatic 137, 3) := by decide +kernel
theorem dX5_letMean_96 : decode cX5_letMean 96 = .ok (.lreturn, 1) := by decide +kernel
theorem xiX5_back_X5 : GoodIn wsX5_back wsX50 := goodIn_sub (fun _ h => List.mem_cons_of_mem _ (List.mem_append_right _ h)) xgwX5
set_option maxRecDepth 20000 in
theorem ggX5_back_X5_isNoStop : GoodIn wsX5_back wsX5_isNoStop := (goodIn_ca (goodIn_r _ [10, 1] rfl (by decide +kernel)) xiX5_back_X5)
set_option maxRecDepth 20000 in
theorem gX5_back_X5_isNoStop : GoodIn wsX5_back (wsV RX5 111 RX5 yX5_isNoStop wsX5_isNoStop) := goodIn_app (goodIn_r _ [6, 7, 8, 9] rfl (by decide +kernel)) ggX5_back_X5_isNoStop
set_option maxRecDepth 20000 in
theorem ggX5_back_X5_no : GoodIn wsX5_back wsX5_no := (goodIn_ca (goodIn_r _ [14, 15] rfl (by decide +kernel)) xiX5_back_X5)
set_option maxRecDepth 20000 in
theorem gX5_back_X5_no : GoodIn wsX5_back (wsV RX5 9 RX5 yX5_no wsX5_no) := goodIn_app (goodIn_r _ [11, 12, 13, 9] rfl (by decide +kernel)) ggX5_back_X5_no
theorem dX5_back_0 : decode cX5_back 0 = .ok (.aload_n 0, 1) := by decide +kernel
theorem dX5_back_1 : decode cX5_back 1 = .ok (.iload_n 1, 1) := by decide +kernel
theorem dX5_back_2 : decode cX5_back 2 = .ok (.invokevirtual 111, 3) := by decide +kernel
theorem dX5_back_5 : decode cX5_back 5 = .ok (.ifCond .eq 9, 3) := by decide +kernel
theorem dX5_back_8 : decode cX5_back 8 = .ok (.aload_n 0, 1) := by decide +kernel
theorem dX5_back_9 : decode cX5_back 9 = .ok (.iconst (-1), 1) := by decide +kernel
theorem dX5_back_10 : decode cX5_back 10 = .ok (.invokevirtual 9, 3) := by decide +kernel
theorem dX5_back_13 : decode cX5_back 13 = .ok (.ireturn, 1) := by decide +kernel
theorem dX5_back_14 : decode cX5_back 14 = .ok (.iload_n 2, 1) := by decide +kernel
theorem dX5_back_15 : decode cX5_back 15 = .ok (.ifCond .ge 10, 3) := by decide +kernel
theorem dX5_back_18 : decode cX5_back 18 = .ok (.aload_n 0, 1) := by decide +kernel
theorem dX5_back_19 : decode cX5_back 19 = .ok (.bipush (-4), 2) := by decide +kernel
theorem dX5_back_21 : decode cX5_back 21 = .ok (.invokevirtual 9, 3) := by decide +kernel
theorem dX5_back_24 : decode cX5_back 24 = .ok (.ireturn, 1) := by decide +kernel
theorem dX5_back_25 : decode cX5_back 25 = .ok (.iload_n 2, 1) := by decide +kernel
theorem dX5_back_26 : decode cX5_back 26 = .ok (.bipush 30, 2) := by decide +kernel
theorem dX5_back_28 : decode cX5_back 28 = .ok (.if_icmp .le 10, 3) := by decide +kernel
theorem dX5_back_31 : decode cX5_back 31 = .ok (.aload_n 0, 1) := by decide +kernel
theorem dX5_back_32 : decode cX5_back 32 = .ok (.bipush (-6), 2) := by decide +kernel
theorem dX5_back_34 : decode cX5_back 34 = .ok (.invokevirtual 9, 3) := by decide +kernel
theorem dX5_back_37 : decode cX5_back 37 = .ok (.ireturn, 1) := by decide +kernel
theorem dX5_back_38 : decode cX5_back 38 = .ok (.iload_n 2, 1) := by decide +kernel
theorem dX5_back_39 : decode cX5_back 39 = .ok (.aload_n 0, 1) := by decide +kernel
theorem dX5_back_40 : decode cX5_back 40 = .ok (.getfield 19, 3) := by decide +kernel
theorem dX5_back_43 : decode cX5_back 43 = .ok (.iconst 2, 1) := by decide +kernel
theorem dX5_back_44 : decode cX5_back 44 = .ok (.iaload, 1) := by decide +kernel
theorem dX5_back_45 : decode cX5_back 45 = .ok (.imul, 1) := by decide +kernel
theorem dX5_back_46 : decode cX5_back 46 = .ok (.iload_n 1, 1) := by decide +kernel
theorem dX5_back_47 : decode cX5_back 47 = .ok (.aload_n 0, 1) := by decide +kernel
theorem dX5_back_48 : decode cX5_back 48 = .ok (.getfield 19, 3) := by decide +kernel
theorem dX5_back_51 : decode cX5_back 51 = .ok (.iconst 0, 1) := by decide +kernel
theorem dX5_back_52 : decode cX5_back 52 = .ok (.iaload, 1) := by decide +kernel
theorem dX5_back_53 : decode cX5_back 53 = .ok (.iconst 1, 1) := by decide +kernel
theorem dX5_back_54 : decode cX5_back 54 = .ok (.isub, 1) := by decide +kernel
theorem dX5_back_55 : decode cX5_back 55 = .ok (.if_icmp .ne 12, 3) := by decide +kernel
theorem dX5_back_58 : decode cX5_back 58 = .ok (.aload_n 0, 1) := by decide +kernel
theorem dX5_back_59 : decode cX5_back 59 = .ok (.getfield 19, 3) := by decide +kernel
theorem dX5_back_62 : decode cX5_back 62 = .ok (.iconst 1, 1) := by decide +kernel
theorem dX5_back_63 : decode cX5_back 63 = .ok (.iaload, 1) := by decide +kernel
theorem dX5_back_64 : decode cX5_back 64 = .ok (.goto 14, 3) := by decide +kernel
theorem dX5_back_67 : decode cX5_back 67 = .ok (.aload_n 0, 1) := by decide +kernel
theorem dX5_back_68 : decode cX5_back 68 = .ok (.getfield 19, 3) := by decide +kernel
theorem dX5_back_71 : decode cX5_back 71 = .ok (.bipush 10, 2) := by decide +kernel
theorem dX5_back_73 : decode cX5_back 73 = .ok (.iload_n 1, 1) := by decide +kernel
theorem dX5_back_74 : decode cX5_back 74 = .ok (.iadd, 1) := by decide +kernel
theorem dX5_back_75 : decode cX5_back 75 = .ok (.iconst 1, 1) := by decide +kernel
theorem dX5_back_76 : decode cX5_back 76 = .ok (.iadd, 1) := by decide +kernel
theorem dX5_back_77 : decode cX5_back 77 = .ok (.iaload, 1) := by decide +kernel
theorem dX5_back_78 : decode cX5_back 78 = .ok (.invokestatic 157, 3) := by decide +kernel
theorem dX5_back_81 : decode cX5_back 81 = .ok (.ireturn, 1) := by decide +kernel
theorem xiX5_ahead_X5 : GoodIn wsX5_ahead wsX50 := goodIn_sub (fun _ h => List.mem_cons_of_mem _ (List.mem_append_right _ h)) xgwX5
set_option maxRecDepth 20000 in
theorem ggX5_ahead_X5_weights : GoodIn wsX5_ahead wsX5_weights := (goodIn_ca (goodIn_r _ [5, 6, 7, 8, 4, 9, 10] rfl (by decide +kernel)) xiX5_ahead_X5)
set_option maxRecDepth 20000 in
theorem gX5_ahead_X5_weights : GoodIn wsX5_ahead (wsV RX5 121 RX5 yX5_weights wsX5_weights) := goodIn_app (goodIn_r _ [1, 2, 3, 4] rfl (by decide +kernel)) ggX5_ahead_X5_weights
set_option maxRecDepth 20000 in
theorem ggX5_ahead_X5_firstStill : GoodIn wsX5_ahead wsX5_firstStill := (goodIn_ca (goodIn_r _ [14, 15, 16, 17, 18, 19, 20, 21, 22, 23, 24, 4, 25, 26, 27, 28, 29, 10] rfl (by decide +kernel)) xiX5_ahead_X5)
set_option maxRecDepth 20000 in
theorem gX5_ahead_X5_firstStill : GoodIn wsX5_ahead (wsV RX5 175 RX5 yX5_firstStill wsX5_firstStill) := goodIn_app (goodIn_r _ [11, 12, 13, 4] rfl (by decide +kernel)) ggX5_ahead_X5_firstStill
theorem dX5_ahead_0 : decode cX5_ahead 0 = .ok (.aload_n 0, 1) := by decide +kernel
theorem dX5_ahead_1 : decode cX5_ahead 1 = .ok (.iload_n 1, 1) := by decide +kernel
theorem dX5_ahead_2 : decode cX5_ahead 2 = .ok (.iconst 0, 1) := by decide +kernel
theorem dX5_ahead_3 : decode cX5_ahead 3 = .ok (.invokevirtual 121, 3) := by decide +kernel
theorem dX5_ahead_6 : decode cX5_ahead 6 = .ok (.aload_n 0, 1) := by decide +kernel
theorem dX5_ahead_7 : decode cX5_ahead 7 = .ok (.iload_n 1, 1) := by decide +kernel
theorem dX5_ahead_8 : decode cX5_ahead 8 = .ok (.aload_n 0, 1) := by decide +kernel
theorem dX5_ahead_9 : decode cX5_ahead 9 = .ok (.iload_n 1, 1) := by decide +kernel
theorem dX5_ahead_10 : decode cX5_ahead 10 = .ok (.iload_n 2, 1) := by decide +kernel
theorem dX5_ahead_11 : decode cX5_ahead 11 = .ok (.iload_n 3, 1) := by decide +kernel
theorem dX5_ahead_12 : decode cX5_ahead 12 = .ok (.invokevirtual 175, 3) := by decide +kernel
theorem dX5_ahead_15 : decode cX5_ahead 15 = .ok (.invokevirtual 121, 3) := by decide +kernel
theorem dX5_ahead_18 : decode cX5_ahead 18 = .ok (.isub, 1) := by decide +kernel
theorem dX5_ahead_19 : decode cX5_ahead 19 = .ok (.ireturn, 1) := by decide +kernel
theorem xiX5_gone_X5 : GoodIn wsX5_gone wsX50 := goodIn_sub (fun _ h => List.mem_cons_of_mem _ (List.mem_append_right _ h)) xgwX5
set_option maxRecDepth 20000 in
theorem ggX5_gone_X5_isNoLine : GoodIn wsX5_gone wsX5_isNoLine := (goodIn_ca (goodIn_r _ [5, 6] rfl (by decide +kernel)) xiX5_gone_X5)
set_option maxRecDepth 20000 in
theorem gX5_gone_X5_isNoLine : GoodIn wsX5_gone (wsV RX5 118 RX5 yX5_isNoLine wsX5_isNoLine) := goodIn_app (goodIn_r _ [1, 2, 3, 4] rfl (by decide +kernel)) ggX5_gone_X5_isNoLine
set_option maxRecDepth 20000 in
theorem ggX5_gone_X5_isNoStop : GoodIn wsX5_gone wsX5_isNoStop := (goodIn_ca (goodIn_r _ [10, 6] rfl (by decide +kernel)) xiX5_gone_X5)
set_option maxRecDepth 20000 in
theorem gX5_gone_X5_isNoStop : GoodIn wsX5_gone (wsV RX5 111 RX5 yX5_isNoStop wsX5_isNoStop) := goodIn_app (goodIn_r _ [7, 8, 9, 4] rfl (by decide +kernel)) ggX5_gone_X5_isNoStop
set_option maxRecDepth 20000 in
theorem ggX5_gone_X5_noLong : GoodIn wsX5_gone wsX5_noLong := (goodIn_ca (goodIn_r _ [14, 15, 16, 17, 18, 4, 19, 20] rfl (by decide +kernel)) xiX5_gone_X5)
set_option maxRecDepth 20000 in
theorem gX5_gone_X5_noLong : GoodIn wsX5_gone (wsV RX5 130 RX5 yX5_noLong wsX5_noLong) := goodIn_app (goodIn_r _ [11, 12, 13, 4] rfl (by decide +kernel)) ggX5_gone_X5_noLong
set_option maxRecDepth 20000 in
theorem ggX5_gone_X5_isNoPart : GoodIn wsX5_gone wsX5_isNoPart := goodIn_r _ [23] rfl (by decide +kernel)
set_option maxRecDepth 20000 in
theorem gX5_gone_X5_isNoPart : GoodIn wsX5_gone (va_wsS RX5 134 yX5_isNoPart wsX5_isNoPart) := goodIn_app (goodIn_r _ [21, 22, 4] rfl (by decide +kernel)) ggX5_gone_X5_isNoPart
set_option maxRecDepth 20000 in
theorem ggX5_gone_X5_halts : GoodIn wsX5_gone wsX5_halts := (goodIn_ca (goodIn_r _ [27, 6] rfl (by decide +kernel)) xiX5_gone_X5)
set_option maxRecDepth 20000 in
theorem gX5_gone_X5_halts : GoodIn wsX5_gone (wsV RX5 127 RX5 yX5_halts wsX5_halts) := goodIn_app (goodIn_r _ [24, 25, 26, 4] rfl (by decide +kernel)) ggX5_gone_X5_halts
set_option maxRecDepth 20000 in
theorem ggX5_gone_X5_ahead : GoodIn wsX5_gone wsX5_ahead := (goodIn_ca (goodIn_r _ [31, 32, 33, 34, 4, 35, 36, 37, 38, 39, 6, 40, 41, 42, 43, 44, 45, 46, 47, 48, 49, 50, 51, 52, 53, 54, 55, 56, 57, 58] rfl (by decide +kernel)) xiX5_gone_X5)
set_option maxRecDepth 20000 in
theorem gX5_gone_X5_ahead : GoodIn wsX5_gone (wsV RX5 185 RX5 yX5_ahead wsX5_ahead) := goodIn_app (goodIn_r _ [28, 29, 30, 4] rfl (by decide +kernel)) ggX5_gone_X5_ahead
set_option maxRecDepth 20000 in
theorem ggX5_gone_X5_weights : GoodIn wsX5_gone wsX5_weights := (goodIn_ca (goodIn_r _ [35, 36, 37, 38, 4, 39, 6] rfl (by decide +kernel)) xiX5_gone_X5)
set_option maxRecDepth 20000 in
theorem gX5_gone_X5_weights : GoodIn wsX5_gone (wsV RX5 121 RX5 yX5_weights wsX5_weights) := goodIn_app (goodIn_r _ [32, 33, 34, 4] rfl (by decide +kernel)) ggX5_gone_X5_weights
set_option maxRecDepth 20000 in
theorem ggX5_gone_X5_part : GoodIn wsX5_gone wsX5_part := goodIn_r _ [61] rfl (by decide +kernel)
set_option maxRecDepth 20000 in
theorem gX5_gone_X5_part : GoodIn wsX5_gone (va_wsS RX5 137 yX5_part wsX5_part) := goodIn_app (goodIn_r _ [59, 60, 4] rfl (by decide +kernel)) ggX5_gone_X5_part
theorem dX5_gone_0 : decode cX5_gone 0 = .ok (.aload_n 0, 1) := by decide +kernel
theorem dX5_gone_1 : decode cX5_gone 1 = .ok (.iload_n 1, 1) := by decide +kernel
theorem dX5_gone_2 : decode cX5_gone 2 = .ok (.invokevirtual 118, 3) := by decide +kernel
theorem dX5_gone_5 : decode cX5_gone 5 = .ok (.ifCond .ne 11, 3) := by decide +kernel
theorem dX5_gone_8 : decode cX5_gone 8 = .ok (.aload_n 0, 1) := by decide +kernel
theorem dX5_gone_9 : decode cX5_gone 9 = .ok (.iload_n 2, 1) := by decide +kernel
theorem dX5_gone_10 : decode cX5_gone 10 = .ok (.invokevirtual 111, 3) := by decide +kernel
theorem dX5_gone_13 : decode cX5_gone 13 = .ok (.ifCond .eq 9, 3) := by decide +kernel
theorem dX5_gone_16 : decode cX5_gone 16 = .ok (.aload_n 0, 1) := by decide +kernel
theorem dX5_gone_17 : decode cX5_gone 17 = .ok (.iconst (-1), 1) := by decide +kernel
theorem dX5_gone_18 : decode cX5_gone 18 = .ok (.invokevirtual 130, 3) := by decide +kernel
theorem dX5_gone_21 : decode cX5_gone 21 = .ok (.lreturn, 1) := by decide +kernel
theorem dX5_gone_22 : decode cX5_gone 22 = .ok (.iload_n 3, 1) := by decide +kernel
theorem dX5_gone_23 : decode cX5_gone 23 = .ok (.ifCond .ge 10, 3) := by decide +kernel
theorem dX5_gone_26 : decode cX5_gone 26 = .ok (.aload_n 0, 1) := by decide +kernel
theorem dX5_gone_27 : decode cX5_gone 27 = .ok (.bipush (-4), 2) := by decide +kernel
theorem dX5_gone_29 : decode cX5_gone 29 = .ok (.invokevirtual 130, 3) := by decide +kernel
theorem dX5_gone_32 : decode cX5_gone 32 = .ok (.lreturn, 1) := by decide +kernel
theorem dX5_gone_33 : decode cX5_gone 33 = .ok (.iload_n 3, 1) := by decide +kernel
theorem dX5_gone_34 : decode cX5_gone 34 = .ok (.bipush 99, 2) := by decide +kernel
theorem dX5_gone_36 : decode cX5_gone 36 = .ok (.if_icmp .le 10, 3) := by decide +kernel
theorem dX5_gone_39 : decode cX5_gone 39 = .ok (.aload_n 0, 1) := by decide +kernel
theorem dX5_gone_40 : decode cX5_gone 40 = .ok (.bipush (-6), 2) := by decide +kernel
theorem dX5_gone_42 : decode cX5_gone 42 = .ok (.invokevirtual 130, 3) := by decide +kernel
theorem dX5_gone_45 : decode cX5_gone 45 = .ok (.lreturn, 1) := by decide +kernel
theorem dX5_gone_46 : decode cX5_gone 46 = .ok (.iload 4, 2) := by decide +kernel
theorem dX5_gone_48 : decode cX5_gone 48 = .ok (.invokestatic 134, 3) := by decide +kernel
theorem dX5_gone_51 : decode cX5_gone 51 = .ok (.ifCond .eq 10, 3) := by decide +kernel
theorem dX5_gone_54 : decode cX5_gone 54 = .ok (.aload_n 0, 1) := by decide +kernel
theorem dX5_gone_55 : decode cX5_gone 55 = .ok (.bipush (-2), 2) := by decide +kernel
theorem dX5_gone_57 : decode cX5_gone 57 = .ok (.invokevirtual 130, 3) := by decide +kernel
theorem dX5_gone_60 : decode cX5_gone 60 = .ok (.lreturn, 1) := by decide +kernel
theorem dX5_gone_61 : decode cX5_gone 61 = .ok (.aload_n 0, 1) := by decide +kernel
theorem dX5_gone_62 : decode cX5_gone 62 = .ok (.iload_n 1, 1) := by decide +kernel
theorem dX5_gone_63 : decode cX5_gone 63 = .ok (.iload_n 2, 1) := by decide +kernel
theorem dX5_gone_64 : decode cX5_gone 64 = .ok (.invokevirtual 127, 3) := by decide +kernel
theorem dX5_gone_67 : decode cX5_gone 67 = .ok (.ifCond .eq 14, 3) := by decide +kernel
theorem dX5_gone_70 : decode cX5_gone 70 = .ok (.aload_n 0, 1) := by decide +kernel
theorem dX5_gone_71 : decode cX5_gone 71 = .ok (.iload_n 1, 1) := by decide +kernel
theorem dX5_gone_72 : decode cX5_gone 72 = .ok (.iload_n 2, 1) := by decide +kernel
theorem dX5_gone_73 : decode cX5_gone 73 = .ok (.iload_n 3, 1) := by decide +kernel
theorem dX5_gone_74 : decode cX5_gone 74 = .ok (.invokevirtual 185, 3) := by decide +kernel
theorem dX5_gone_77 : decode cX5_gone 77 = .ok (.i2l, 1) := by decide +kernel
theorem dX5_gone_78 : decode cX5_gone 78 = .ok (.goto 4, 3) := by decide +kernel
theorem dX5_gone_81 : decode cX5_gone 81 = .ok (.lconst 0, 1) := by decide +kernel
theorem dX5_gone_82 : decode cX5_gone 82 = .ok (.aload_n 0, 1) := by decide +kernel
theorem dX5_gone_83 : decode cX5_gone 83 = .ok (.iload_n 1, 1) := by decide +kernel
theorem dX5_gone_84 : decode cX5_gone 84 = .ok (.iconst 0, 1) := by decide +kernel
theorem dX5_gone_85 : decode cX5_gone 85 = .ok (.invokevirtual 121, 3) := by decide +kernel
theorem dX5_gone_88 : decode cX5_gone 88 = .ok (.i2l, 1) := by decide +kernel
theorem dX5_gone_89 : decode cX5_gone 89 = .ok (.iload 4, 2) := by decide +kernel
theorem dX5_gone_91 : decode cX5_gone 91 = .ok (.invokestatic 137, 3) := by decide +kernel
theorem dX5_gone_94 : decode cX5_gone 94 = .ok (.lreturn, 1) := by decide +kernel
theorem xiX5_stood_X5 : GoodIn wsX5_stood wsX50 := goodIn_sub (fun _ h => List.mem_cons_of_mem _ (List.mem_append_right _ h)) xgwX5
set_option maxRecDepth 20000 in
theorem ggX5_stood_X5_isNoLine : GoodIn wsX5_stood wsX5_isNoLine := (goodIn_ca (goodIn_r _ [5, 6] rfl (by decide +kernel)) xiX5_stood_X5)
set_option maxRecDepth 20000 in
theorem gX5_stood_X5_isNoLine : GoodIn wsX5_stood (wsV RX5 118 RX5 yX5_isNoLine wsX5_isNoLine) := goodIn_app (goodIn_r _ [1, 2, 3, 4] rfl (by decide +kernel)) ggX5_stood_X5_isNoLine
set_option maxRecDepth 20000 in
theorem ggX5_stood_X5_isNoStop : GoodIn wsX5_stood wsX5_isNoStop := (goodIn_ca (goodIn_r _ [10, 6] rfl (by decide +kernel)) xiX5_stood_X5)
set_option maxRecDepth 20000 in
theorem gX5_stood_X5_isNoStop : GoodIn wsX5_stood (wsV RX5 111 RX5 yX5_isNoStop wsX5_isNoStop) := goodIn_app (goodIn_r _ [7, 8, 9, 4] rfl (by decide +kernel)) ggX5_stood_X5_isNoStop
set_option maxRecDepth 20000 in
theorem ggX5_stood_X5_noLong : GoodIn wsX5_stood wsX5_noLong := (goodIn_ca (goodIn_r _ [14, 15, 16, 17, 18, 4, 19, 20] rfl (by decide +kernel)) xiX5_stood_X5)
set_option maxRecDepth 20000 in
theorem gX5_stood_X5_noLong : GoodIn wsX5_stood (wsV RX5 130 RX5 yX5_noLong wsX5_noLong) := goodIn_app (goodIn_r _ [11, 12, 13, 4] rfl (by decide +kernel)) ggX5_stood_X5_noLong
set_option maxRecDepth 20000 in
theorem ggX5_stood_X5_isNoPart : GoodIn wsX5_stood wsX5_isNoPart := goodIn_r _ [23] rfl (by decide +kernel)
set_option maxRecDepth 20000 in
theorem gX5_stood_X5_isNoPart : GoodIn wsX5_stood (va_wsS RX5 134 yX5_isNoPart wsX5_isNoPart) := goodIn_app (goodIn_r _ [21, 22, 4] rfl (by decide +kernel)) ggX5_stood_X5_isNoPart
set_option maxRecDepth 20000 in
theorem ggX5_stood_X5_halts : GoodIn wsX5_stood wsX5_halts := (goodIn_ca (goodIn_r _ [27, 6] rfl (by decide +kernel)) xiX5_stood_X5)
set_option maxRecDepth 20000 in
theorem gX5_stood_X5_halts : GoodIn wsX5_stood (wsV RX5 127 RX5 yX5_halts wsX5_halts) := goodIn_app (goodIn_r _ [24, 25, 26, 4] rfl (by decide +kernel)) ggX5_stood_X5_halts
set_option maxRecDepth 20000 in
theorem ggX5_stood_X5_ahead : GoodIn wsX5_stood wsX5_ahead := (goodIn_ca (goodIn_r _ [31, 32, 33, 34, 4, 35, 36, 37, 38, 39, 6, 40, 41, 42, 43, 44, 45, 46, 47, 48, 49, 50, 51, 52, 53, 54, 55, 56, 57, 58] rfl (by decide +kernel)) xiX5_stood_X5)
set_option maxRecDepth 20000 in
theorem gX5_stood_X5_ahead : GoodIn wsX5_stood (wsV RX5 185 RX5 yX5_ahead wsX5_ahead) := goodIn_app (goodIn_r _ [28, 29, 30, 4] rfl (by decide +kernel)) ggX5_stood_X5_ahead
set_option maxRecDepth 20000 in
theorem ggX5_stood_X5_firstStill : GoodIn wsX5_stood wsX5_firstStill := (goodIn_ca (goodIn_r _ [43, 44, 45, 46, 47, 48, 49, 50, 51, 52, 53, 4, 54, 55, 56, 57, 58, 6] rfl (by decide +kernel)) xiX5_stood_X5)
set_option maxRecDepth 20000 in
theorem gX5_stood_X5_firstStill : GoodIn wsX5_stood (wsV RX5 175 RX5 yX5_firstStill wsX5_firstStill) := goodIn_app (goodIn_r _ [40, 41, 42, 4] rfl (by decide +kernel)) ggX5_stood_X5_firstStill
set_option maxRecDepth 20000 in
theorem ggX5_stood_X5_weights : GoodIn wsX5_stood wsX5_weights := (goodIn_ca (goodIn_r _ [35, 36, 37, 38, 4, 39, 6] rfl (by decide +kernel)) xiX5_stood_X5)
set_option maxRecDepth 20000 in
theorem gX5_stood_X5_weights : GoodIn wsX5_stood (wsV RX5 121 RX5 yX5_weights wsX5_weights) := goodIn_app (goodIn_r _ [32, 33, 34, 4] rfl (by decide +kernel)) ggX5_stood_X5_weights
set_option maxRecDepth 20000 in
theorem ggX5_stood_X5_part : GoodIn wsX5_stood wsX5_part := goodIn_r _ [61] rfl (by decide +kernel)
set_option maxRecDepth 20000 in
theorem gX5_stood_X5_part : GoodIn wsX5_stood (va_wsS RX5 137 yX5_part wsX5_part) := goodIn_app (goodIn_r _ [59, 60, 4] rfl (by decide +kernel)) ggX5_stood_X5_part
theorem dX5_stood_0 : decode cX5_stood 0 = .ok (.aload_n 0, 1) := by decide +kernel
theorem dX5_stood_1 : decode cX5_stood 1 = .ok (.iload_n 1, 1) := by decide +kernel
theorem dX5_stood_2 : decode cX5_stood 2 = .ok (.invokevirtual 118, 3) := by decide +kernel
theorem dX5_stood_5 : decode cX5_stood 5 = .ok (.ifCond .ne 11, 3) := by decide +kernel
theorem dX5_stood_8 : decode cX5_stood 8 = .ok (.aload_n 0, 1) := by decide +kernel
theorem dX5_stood_9 : decode cX5_stood 9 = .ok (.iload_n 2, 1) := by decide +kernel
theorem dX5_stood_10 : decode cX5_stood 10 = .ok (.invokevirtual 111, 3) := by decide +kernel
theorem dX5_stood_13 : decode cX5_stood 13 = .ok (.ifCond .eq 9, 3) := by decide +kernel
theorem dX5_stood_16 : decode cX5_stood 16 = .ok (.aload_n 0, 1) := by decide +kernel
theorem dX5_stood_17 : decode cX5_stood 17 = .ok (.iconst (-1), 1) := by decide +kernel
theorem dX5_stood_18 : decode cX5_stood 18 = .ok (.invokevirtual 130, 3) := by decide +kernel
theorem dX5_stood_21 : decode cX5_stood 21 = .ok (.lreturn, 1) := by decide +kernel
theorem dX5_stood_22 : decode cX5_stood 22 = .ok (.iload_n 3, 1) := by decide +kernel
theorem dX5_stood_23 : decode cX5_stood 23 = .ok (.ifCond .lt 8, 3) := by decide +kernel
theorem dX5_stood_26 : decode cX5_stood 26 = .ok (.iload 4, 2) := by decide +kernel
theorem dX5_stood_28 : decode cX5_stood 28 = .ok (.ifCond .ge 10, 3) := by decide +kernel
theorem dX5_stood_31 : decode cX5_stood 31 = .ok (.aload_n 0, 1) := by decide +kernel
theorem dX5_stood_32 : decode cX5_stood 32 = .ok (.bipush (-4), 2) := by decide +kernel
theorem dX5_stood_34 : decode cX5_stood 34 = .ok (.invokevirtual 130, 3) := by decide +kernel
theorem dX5_stood_37 : decode cX5_stood 37 = .ok (.lreturn, 1) := by decide +kernel
theorem dX5_stood_38 : decode cX5_stood 38 = .ok (.iload 4, 2) := by decide +kernel
theorem dX5_stood_40 : decode cX5_stood 40 = .ok (.bipush 99, 2) := by decide +kernel
theorem dX5_stood_42 : decode cX5_stood 42 = .ok (.if_icmp .gt 9, 3) := by decide +kernel
theorem dX5_stood_45 : decode cX5_stood 45 = .ok (.iload_n 3, 1) := by decide +kernel
theorem dX5_stood_46 : decode cX5_stood 46 = .ok (.iload 4, 2) := by decide +kernel
theorem dX5_stood_48 : decode cX5_stood 48 = .ok (.if_icmp .le 10, 3) := by decide +kernel
theorem dX5_stood_51 : decode cX5_stood 51 = .ok (.aload_n 0, 1) := by decide +kernel
theorem dX5_stood_52 : decode cX5_stood 52 = .ok (.bipush (-6), 2) := by decide +kernel
theorem dX5_stood_54 : decode cX5_stood 54 = .ok (.invokevirtual 130, 3) := by decide +kernel
theorem dX5_stood_57 : decode cX5_stood 57 = .ok (.lreturn, 1) := by decide +kernel
theorem dX5_stood_58 : decode cX5_stood 58 = .ok (.iload 5, 2) := by decide +kernel
theorem dX5_stood_60 : decode cX5_stood 60 = .ok (.invokestatic 134, 3) := by decide +kernel
theorem dX5_stood_63 : decode cX5_stood 63 = .ok (.ifCond .eq 10, 3) := by decide +kernel
theorem dX5_stood_66 : decode cX5_stood 66 = .ok (.aload_n 0, 1) := by decide +kernel
theorem dX5_stood_67 : decode cX5_stood 67 = .ok (.bipush (-2), 2) := by decide +kernel
theorem dX5_stood_69 : decode cX5_stood 69 = .ok (.invokevirtual 130, 3) := by decide +kernel
theorem dX5_stood_72 : decode cX5_stood 72 = .ok (.lreturn, 1) := by decide +kernel
theorem dX5_stood_73 : decode cX5_stood 73 = .ok (.aload_n 0, 1) := by decide +kernel
theorem dX5_stood_74 : decode cX5_stood 74 = .ok (.iload_n 1, 1) := by decide +kernel
theorem dX5_stood_75 : decode cX5_stood 75 = .ok (.iload_n 2, 1) := by decide +kernel
theorem dX5_stood_76 : decode cX5_stood 76 = .ok (.invokevirtual 127, 3) := by decide +kernel
theorem dX5_stood_79 : decode cX5_stood 79 = .ok (.ifCond .eq 13, 3) := by decide +kernel
theorem dX5_stood_82 : decode cX5_stood 82 = .ok (.aload_n 0, 1) := by decide +kernel
theorem dX5_stood_83 : decode cX5_stood 83 = .ok (.iload_n 1, 1) := by decide +kernel
theorem dX5_stood_84 : decode cX5_stood 84 = .ok (.iload_n 2, 1) := by decide +kernel
theorem dX5_stood_85 : decode cX5_stood 85 = .ok (.iload_n 3, 1) := by decide +kernel
theorem dX5_stood_86 : decode cX5_stood 86 = .ok (.invokevirtual 185, 3) := by decide +kernel
theorem dX5_stood_89 : decode cX5_stood 89 = .ok (.goto 4, 3) := by decide +kernel
theorem dX5_stood_92 : decode cX5_stood 92 = .ok (.iconst 0, 1) := by decide +kernel
theorem dX5_stood_93 : decode cX5_stood 93 = .ok (.istore 6, 2) := by decide +kernel
theorem dX5_stood_95 : decode cX5_stood 95 = .ok (.iload 6, 2) := by decide +kernel
theorem dX5_stood_97 : decode cX5_stood 97 = .ok (.i2l, 1) := by decide +kernel
theorem dX5_stood_98 : decode cX5_stood 98 = .ok (.iload 6, 2) := by decide +kernel
theorem dX5_stood_100 : decode cX5_stood 100 = .ok (.aload_n 0, 1) := by decide +kernel
theorem dX5_stood_101 : decode cX5_stood 101 = .ok (.iload_n 1, 1) := by decide +kernel
theorem dX5_stood_102 : decode cX5_stood 102 = .ok (.aload_n 0, 1) := by decide +kernel
theorem dX5_stood_103 : decode cX5_stood 103 = .ok (.iload_n 1, 1) := by decide +kernel
theorem dX5_stood_104 : decode cX5_stood 104 = .ok (.iload_n 2, 1) := by decide +kernel
theorem dX5_stood_105 : decode cX5_stood 105 = .ok (.iload 4, 2) := by decide +kernel
theorem dX5_stood_107 : decode cX5_stood 107 = .ok (.invokevirtual 175, 3) := by decide +kernel
theorem dX5_stood_110 : decode cX5_stood 110 = .ok (.invokevirtual 121, 3) := by decide +kernel
theorem dX5_stood_113 : decode cX5_stood 113 = .ok (.iadd, 1) := by decide +kernel
theorem dX5_stood_114 : decode cX5_stood 114 = .ok (.i2l, 1) := by decide +kernel
theorem dX5_stood_115 : decode cX5_stood 115 = .ok (.iload 5, 2) := by decide +kernel
theorem dX5_stood_117 : decode cX5_stood 117 = .ok (.invokestatic 137, 3) := by decide +kernel
theorem dX5_stood_120 : decode cX5_stood 120 = .ok (.lreturn, 1) := by decide +kernel
theorem xiX5_others_X5 : GoodIn wsX5_others wsX50 := goodIn_sub (fun _ h => List.mem_cons_of_mem _ (List.mem_append_right _ h)) xgwX5
set_option maxRecDepth 20000 in
theorem ggX5_others_X5_no : GoodIn wsX5_others wsX5_no := (goodIn_ca (goodIn_r _ [6, 7] rfl (by decide +kernel)) xiX5_others_X5)
set_option maxRecDepth 20000 in
theorem gX5_others_X5_no : GoodIn wsX5_others (wsV RX5 9 RX5 yX5_no wsX5_no) := goodIn_app (goodIn_r _ [2, 3, 4, 5] rfl (by decide +kernel)) ggX5_others_X5_no
theorem dX5_others_0 : decode cX5_others 0 = .ok (.iload_n 1, 1) := by decide +kernel
theorem dX5_others_1 : decode cX5_others 1 = .ok (.iconst 1, 1) := by decide +kernel
theorem dX5_others_2 : decode cX5_others 2 = .ok (.if_icmp .lt 16, 3) := by decide +kernel
theorem dX5_others_5 : decode cX5_others 5 = .ok (.iload_n 2, 1) := by decide +kernel
theorem dX5_others_6 : decode cX5_others 6 = .ok (.ifCond .lt 12, 3) := by decide +kernel
theorem dX5_others_9 : decode cX5_others 9 = .ok (.iload_n 3, 1) := by decide +kernel
theorem dX5_others_10 : decode cX5_others 10 = .ok (.ifCond .lt 8, 3) := by decide +kernel
theorem dX5_others_13 : decode cX5_others 13 = .ok (.iload 4, 2) := by decide +kernel
theorem dX5_others_15 : decode cX5_others 15 = .ok (.ifCond .ge 10, 3) := by decide +kernel
theorem dX5_others_18 : decode cX5_others 18 = .ok (.aload_n 0, 1) := by decide +kernel
theorem dX5_others_19 : decode cX5_others 19 = .ok (.bipush (-4), 2) := by decide +kernel
theorem dX5_others_21 : decode cX5_others 21 = .ok (.invokevirtual 9, 3) := by decide +kernel
theorem dX5_others_24 : decode cX5_others 24 = .ok (.ireturn, 1) := by decide +kernel
theorem dX5_others_25 : decode cX5_others 25 = .ok (.iload_n 1, 1) := by decide +kernel
theorem dX5_others_26 : decode cX5_others 26 = .ok (.bipush 9, 2) := by decide +kernel
theorem dX5_others_28 : decode cX5_others 28 = .ok (.if_icmp .gt 22, 3) := by decide +kernel
theorem dX5_others_31 : decode cX5_others 31 = .ok (.iload_n 2, 1) := by decide +kernel
theorem dX5_others_32 : decode cX5_others 32 = .ok (.bipush 30, 2) := by decide +kernel
theorem dX5_others_34 : decode cX5_others 34 = .ok (.if_icmp .gt 16, 3) := by decide +kernel
theorem dX5_others_37 : decode cX5_others 37 = .ok (.iload_n 3, 1) := by decide +kernel
theorem dX5_others_38 : decode cX5_others 38 = .ok (.bipush 30, 2) := by decide +kernel
theorem dX5_others_40 : decode cX5_others 40 = .ok (.if_icmp .gt 10, 3) := by decide +kernel
theorem dX5_others_43 : decode cX5_others 43 = .ok (.iload 4, 2) := by decide +kernel
theorem dX5_others_45 : decode cX5_others 45 = .ok (.bipush 60, 2) := by decide +kernel
theorem dX5_others_47 : decode cX5_others 47 = .ok (.if_icmp .le 10, 3) := by decide +kernel
theorem dX5_others_50 : decode cX5_others 50 = .ok (.aload_n 0, 1) := by decide +kernel
theorem dX5_others_51 : decode cX5_others 51 = .ok (.bipush (-6), 2) := by decide +kernel
theorem dX5_others_53 : decode cX5_others 53 = .ok (.invokevirtual 9, 3) := by decide +kernel
theorem dX5_others_56 : decode cX5_others 56 = .ok (.ireturn, 1) := by decide +kernel
theorem dX5_others_57 : decode cX5_others 57 = .ok (.iload_n 1, 1) := by decide +kernel
theorem dX5_others_58 : decode cX5_others 58 = .ok (.istore 5, 2) := by decide +kernel
theorem dX5_others_60 : decode cX5_others 60 = .ok (.iconst 0, 1) := by decide +kernel
theorem dX5_others_61 : decode cX5_others 61 = .ok (.istore 6, 2) := by decide +kernel
theorem dX5_others_63 : decode cX5_others 63 = .ok (.iconst 0, 1) := by decide +kernel
theorem dX5_others_64 : decode cX5_others 64 = .ok (.istore 7, 2) := by decide +kernel
theorem dX5_others_66 : decode cX5_others 66 = .ok (.bipush 9, 2) := by decide +kernel
theorem dX5_others_68 : decode cX5_others 68 = .ok (.newarray .boolean, 2) := by decide +kernel
theorem dX5_others_70 : decode cX5_others 70 = .ok (.astore 8, 2) := by decide +kernel
theorem dX5_others_72 : decode cX5_others 72 = .ok (.iconst 1, 1) := by decide +kernel
theorem dX5_others_73 : decode cX5_others 73 = .ok (.istore 9, 2) := by decide +kernel
theorem dX5_others_75 : decode cX5_others 75 = .ok (.iload 9, 2) := by decide +kernel
theorem dX5_others_77 : decode cX5_others 77 = .ok (.iload 4, 2) := by decide +kernel
theorem dX5_others_79 : decode cX5_others 79 = .ok (.if_icmp .gt 72, 3) := by decide +kernel
theorem dX5_others_82 : decode cX5_others 82 = .ok (.iload 6, 2) := by decide +kernel
theorem dX5_others_84 : decode cX5_others 84 = .ok (.iconst 1, 1) := by decide +kernel
theorem dX5_others_85 : decode cX5_others 85 = .ok (.iload 7, 2) := by decide +kernel
theorem dX5_others_87 : decode cX5_others 87 = .ok (.iadd, 1) := by decide +kernel
theorem dX5_others_88 : decode cX5_others 88 = .ok (.iadd, 1) := by decide +kernel
theorem dX5_others_89 : decode cX5_others 89 = .ok (.istore 6, 2) := by decide +kernel
theorem dX5_others_91 : decode cX5_others 91 = .ok (.iconst 0, 1) := by decide +kernel
theorem dX5_others_92 : decode cX5_others 92 = .ok (.istore 7, 2) := by decide +kernel
theorem dX5_others_94 : decode cX5_others 94 = .ok (.iconst 0, 1) := by decide +kernel
theorem dX5_others_95 : decode cX5_others 95 = .ok (.istore 10, 2) := by decide +kernel
theorem dX5_others_97 : decode cX5_others 97 = .ok (.iload 10, 2) := by decide +kernel
theorem dX5_others_99 : decode cX5_others 99 = .ok (.iload_n 1, 1) := by decide +kernel
theorem dX5_others_100 : decode cX5_others 100 = .ok (.if_icmp .ge 38, 3) := by decide +kernel
theorem dX5_others_103 : decode cX5_others 103 = .ok (.aload 8, 2) := by decide +kernel
theorem dX5_others_105 : decode cX5_others 105 = .ok (.iload 10, 2) := by decide +kernel
theorem dX5_others_107 : decode cX5_others 107 = .ok (.baload, 1) := by decide +kernel
theorem dX5_others_108 : decode cX5_others 108 = .ok (.ifCond .ne 24, 3) := by decide +kernel
theorem dX5_others_111 : decode cX5_others 111 = .ok (.iload 10, 2) := by decide +kernel
theorem dX5_others_113 : decode cX5_others 113 = .ok (.iload_n 2, 1) := by decide +kernel
theorem dX5_others_114 : decode cX5_others 114 = .ok (.imul, 1) := by decide +kernel
theorem dX5_others_115 : decode cX5_others 115 = .ok (.iload_n 3, 1) := by decide +kernel
theorem dX5_others_116 : decode cX5_others 116 = .ok (.iadd, 1) := by decide +kernel
theorem dX5_others_117 : decode cX5_others 117 = .ok (.iload 6, 2) := by decide +kernel
theorem dX5_others_119 : decode cX5_others 119 = .ok (.isub, 1) := by decide +kernel
theorem dX5_others_120 : decode cX5_others 120 = .ok (.ifCond .gt 12, 3) := by decide +kernel
theorem dX5_others_123 : decode cX5_others 123 = .ok (.aload 8, 2) := by decide +kernel
theorem dX5_others_125 : decode cX5_others 125 = .ok (.iload 10, 2) := by decide +kernel
theorem dX5_others_127 : decode cX5_others 127 = .ok (.iconst 1, 1) := by decide +kernel
theorem dX5_others_128 : decode cX5_others 128 = .ok (.bastore, 1) := by decide +kernel
theorem dX5_others_129 : decode cX5_others 129 = .ok (.iinc 7 1, 3) := by decide +kernel
theorem dX5_others_132 : decode cX5_others 132 = .ok (.iinc 10 1, 3) := by decide +kernel
theorem dX5_others_135 : decode cX5_others 135 = .ok (.goto (-38), 3) := by decide +kernel
theorem dX5_others_138 : decode cX5_others 138 = .ok (.iload 5, 2) := by decide +kernel
theorem dX5_others_140 : decode cX5_others 140 = .ok (.iload 7, 2) := by decide +kernel
theorem dX5_others_142 : decode cX5_others 142 = .ok (.isub, 1) := by decide +kernel
theorem dX5_others_143 : decode cX5_others 143 = .ok (.istore 5, 2) := by decide +kernel
theorem dX5_others_145 : decode cX5_others 145 = .ok (.iinc 9 1, 3) := by decide +kernel
theorem dX5_others_148 : decode cX5_others 148 = .ok (.goto (-73), 3) := by decide +kernel
theorem dX5_others_151 : decode cX5_others 151 = .ok (.iload 5, 2) := by decide +kernel
theorem dX5_others_153 : decode cX5_others 153 = .ok (.ireturn, 1) := by decide +kernel
theorem xiX5_rules_X5 : GoodIn wsX5_rules wsX50 := goodIn_sub (fun _ h => List.mem_cons_of_mem _ (List.mem_append_right _ h)) xgwX5
set_option maxRecDepth 20000 in
theorem ggX5_rules_X5_isNoLine : GoodIn wsX5_rules wsX5_isNoLine := (goodIn_ca (goodIn_r _ [5, 6] rfl (by decide +kernel)) xiX5_rules_X5)
set_option maxRecDepth 20000 in
theorem gX5_rules_X5_isNoLine : GoodIn wsX5_rules (wsV RX5 118 RX5 yX5_isNoLine wsX5_isNoLine) := goodIn_app (goodIn_r _ [1, 2, 3, 4] rfl (by decide +kernel)) ggX5_rules_X5_isNoLine
set_option maxRecDepth 20000 in
theorem ggX5_rules_X5_no : GoodIn wsX5_rules wsX5_no := (goodIn_ca (goodIn_r _ [10, 11] rfl (by decide +kernel)) xiX5_rules_X5)
set_option maxRecDepth 20000 in
theorem gX5_rules_X5_no : GoodIn wsX5_rules (wsV RX5 9 RX5 yX5_no wsX5_no) := goodIn_app (goodIn_r _ [7, 8, 9, 4] rfl (by decide +kernel)) ggX5_rules_X5_no
set_option maxRecDepth 20000 in
theorem ggX5_rules_X5_sum : GoodIn wsX5_rules wsX5_sum := (goodIn_ca (goodIn_r _ [15, 16, 17, 18, 4, 19, 6, 20, 21, 22, 23, 24, 25, 26, 27, 28, 29, 30, 31, 32, 33, 34, 35, 36, 37, 38, 39, 40, 41, 42, 43, 44, 45, 46, 47, 48, 49, 50] rfl (by decide +kernel)) xiX5_rules_X5)
set_option maxRecDepth 20000 in
theorem gX5_rules_X5_sum : GoodIn wsX5_rules (wsV RX5 149 RX5 yX5_sum wsX5_sum) := goodIn_app (goodIn_r _ [12, 13, 14, 4] rfl (by decide +kernel)) ggX5_rules_X5_sum
theorem dX5_rules_0 : decode cX5_rules 0 = .ok (.aload_n 0, 1) := by decide +kernel
theorem dX5_rules_1 : decode cX5_rules 1 = .ok (.iload_n 1, 1) := by decide +kernel
theorem dX5_rules_2 : decode cX5_rules 2 = .ok (.invokevirtual 118, 3) := by decide +kernel
theorem dX5_rules_5 : decode cX5_rules 5 = .ok (.ifCond .eq 9, 3) := by decide +kernel
theorem dX5_rules_8 : decode cX5_rules 8 = .ok (.aload_n 0, 1) := by decide +kernel
theorem dX5_rules_9 : decode cX5_rules 9 = .ok (.iconst (-1), 1) := by decide +kernel
theorem dX5_rules_10 : decode cX5_rules 10 = .ok (.invokevirtual 9, 3) := by decide +kernel
theorem dX5_rules_13 : decode cX5_rules 13 = .ok (.ireturn, 1) := by decide +kernel
theorem dX5_rules_14 : decode cX5_rules 14 = .ok (.iconst 0, 1) := by decide +kernel
theorem dX5_rules_15 : decode cX5_rules 15 = .ok (.istore_n 2, 1) := by decide +kernel
theorem dX5_rules_16 : decode cX5_rules 16 = .ok (.iconst 1, 1) := by decide +kernel
theorem dX5_rules_17 : decode cX5_rules 17 = .ok (.istore_n 3, 1) := by decide +kernel
theorem dX5_rules_18 : decode cX5_rules 18 = .ok (.iload_n 3, 1) := by decide +kernel
theorem dX5_rules_19 : decode cX5_rules 19 = .ok (.bipush 12, 2) := by decide +kernel
theorem dX5_rules_21 : decode cX5_rules 21 = .ok (.if_icmp .gt 32, 3) := by decide +kernel
theorem dX5_rules_24 : decode cX5_rules 24 = .ok (.aload_n 0, 1) := by decide +kernel
theorem dX5_rules_25 : decode cX5_rules 25 = .ok (.iload_n 1, 1) := by decide +kernel
theorem dX5_rules_26 : decode cX5_rules 26 = .ok (.iconst 3, 1) := by decide +kernel
theorem dX5_rules_27 : decode cX5_rules 27 = .ok (.iload_n 3, 1) := by decide +kernel
theorem dX5_rules_28 : decode cX5_rules 28 = .ok (.invokevirtual 149, 3) := by decide +kernel
theorem dX5_rules_31 : decode cX5_rules 31 = .ok (.aload_n 0, 1) := by decide +kernel
theorem dX5_rules_32 : decode cX5_rules 32 = .ok (.iload_n 1, 1) := by decide +kernel
theorem dX5_rules_33 : decode cX5_rules 33 = .ok (.iconst 3, 1) := by decide +kernel
theorem dX5_rules_34 : decode cX5_rules 34 = .ok (.iload_n 2, 1) := by decide +kernel
theorem dX5_rules_35 : decode cX5_rules 35 = .ok (.invokevirtual 149, 3) := by decide +kernel
theorem dX5_rules_38 : decode cX5_rules 38 = .ok (.if_icmp .ge 7, 3) := by decide +kernel
theorem dX5_rules_41 : decode cX5_rules 41 = .ok (.iload_n 3, 1) := by decide +kernel
theorem dX5_rules_42 : decode cX5_rules 42 = .ok (.goto 4, 3) := by decide +kernel
theorem dX5_rules_45 : decode cX5_rules 45 = .ok (.iload_n 2, 1) := by decide +kernel
theorem dX5_rules_46 : decode cX5_rules 46 = .ok (.istore_n 2, 1) := by decide +kernel
theorem dX5_rules_47 : decode cX5_rules 47 = .ok (.iinc 3 1, 3) := by decide +kernel
theorem dX5_rules_50 : decode cX5_rules 50 = .ok (.goto (-32), 3) := by decide +kernel
theorem dX5_rules_53 : decode cX5_rules 53 = .ok (.iload_n 2, 1) := by decide +kernel
theorem dX5_rules_54 : decode cX5_rules 54 = .ok (.ireturn, 1) := by decide +kernel
theorem xiX5_row_X5 : GoodIn wsX5_row wsX50 := goodIn_sub (fun _ h => List.mem_cons_of_mem _ (List.mem_append_right _ h)) xgwX5
set_option maxRecDepth 20000 in
theorem ggX5_row_X5_no : GoodIn wsX5_row wsX5_no := (goodIn_ca (goodIn_r _ [7, 8] rfl (by decide +kernel)) xiX5_row_X5)
set_option maxRecDepth 20000 in
theorem gX5_row_X5_no : GoodIn wsX5_row (wsV RX5 9 RX5 yX5_no wsX5_no) := goodIn_app (goodIn_r _ [3, 4, 5, 6] rfl (by decide +kernel)) ggX5_row_X5_no
theorem dX5_row_0 : decode cX5_row 0 = .ok (.iload_n 1, 1) := by decide +kernel
theorem dX5_row_1 : decode cX5_row 1 = .ok (.ifCond .ge 10, 3) := by decide +kernel
theorem dX5_row_4 : decode cX5_row 4 = .ok (.aload_n 0, 1) := by decide +kernel
theorem dX5_row_5 : decode cX5_row 5 = .ok (.bipush (-4), 2) := by decide +kernel
theorem dX5_row_7 : decode cX5_row 7 = .ok (.invokevirtual 9, 3) := by decide +kernel
theorem dX5_row_10 : decode cX5_row 10 = .ok (.ireturn, 1) := by decide +kernel
theorem dX5_row_11 : decode cX5_row 11 = .ok (.iload_n 1, 1) := by decide +kernel
theorem dX5_row_12 : decode cX5_row 12 = .ok (.sipush 999, 3) := by decide +kernel
theorem dX5_row_15 : decode cX5_row 15 = .ok (.if_icmp .gt 12, 3) := by decide +kernel
theorem dX5_row_18 : decode cX5_row 18 = .ok (.aload_n 0, 1) := by decide +kernel
theorem dX5_row_19 : decode cX5_row 19 = .ok (.getfield 188, 3) := by decide +kernel
theorem dX5_row_22 : decode cX5_row 22 = .ok (.bipush 12, 2) := by decide +kernel
theorem dX5_row_24 : decode cX5_row 24 = .ok (.if_icmp .ne 10, 3) := by decide +kernel
theorem dX5_row_27 : decode cX5_row 27 = .ok (.aload_n 0, 1) := by decide +kernel
theorem dX5_row_28 : decode cX5_row 28 = .ok (.bipush (-6), 2) := by decide +kernel
theorem dX5_row_30 : decode cX5_row 30 = .ok (.invokevirtual 9, 3) := by decide +kernel
theorem dX5_row_33 : decode cX5_row 33 = .ok (.ireturn, 1) := by decide +kernel
theorem dX5_row_34 : decode cX5_row 34 = .ok (.aload_n 0, 1) := by decide +kernel
theorem dX5_row_35 : decode cX5_row 35 = .ok (.getfield 25, 3) := by decide +kernel
theorem dX5_row_38 : decode cX5_row 38 = .ok (.aload_n 0, 1) := by decide +kernel
theorem dX5_row_39 : decode cX5_row 39 = .ok (.getfield 188, 3) := by decide +kernel
theorem dX5_row_42 : decode cX5_row 42 = .ok (.iload_n 1, 1) := by decide +kernel
theorem dX5_row_43 : decode cX5_row 43 = .ok (.iastore, 1) := by decide +kernel
theorem dX5_row_44 : decode cX5_row 44 = .ok (.aload_n 0, 1) := by decide +kernel
theorem dX5_row_45 : decode cX5_row 45 = .ok (.dup, 1) := by decide +kernel
theorem dX5_row_46 : decode cX5_row 46 = .ok (.getfield 188, 3) := by decide +kernel
theorem dX5_row_49 : decode cX5_row 49 = .ok (.iconst 1, 1) := by decide +kernel
theorem dX5_row_50 : decode cX5_row 50 = .ok (.iadd, 1) := by decide +kernel
theorem dX5_row_51 : decode cX5_row 51 = .ok (.putfield 188, 3) := by decide +kernel
theorem dX5_row_54 : decode cX5_row 54 = .ok (.aload_n 0, 1) := by decide +kernel
theorem dX5_row_55 : decode cX5_row 55 = .ok (.getfield 188, 3) := by decide +kernel
theorem dX5_row_58 : decode cX5_row 58 = .ok (.ireturn, 1) := by decide +kernel
theorem xiX5_judge_X5 : GoodIn wsX5_judge wsX50 := goodIn_sub (fun _ h => List.mem_cons_of_mem _ (List.mem_append_right _ h)) xgwX5
set_option maxRecDepth 20000 in
theorem ggX5_judge_X5_leg : GoodIn wsX5_judge wsX5_leg := (goodIn_ca (goodIn_r _ [8, 2, 9, 10, 7, 11] rfl (by decide +kernel)) xiX5_judge_X5)
set_option maxRecDepth 20000 in
theorem gX5_judge_X5_leg : GoodIn wsX5_judge (wsV RX5 99 RX5 yX5_leg wsX5_leg) := goodIn_app (goodIn_r _ [4, 5, 6, 7] rfl (by decide +kernel)) ggX5_judge_X5_leg
theorem dX5_judge_0 : decode cX5_judge 0 = .ok (.bipush (-9), 2) := by decide +kernel
theorem dX5_judge_2 : decode cX5_judge 2 = .ok (.istore_n 1, 1) := by decide +kernel
theorem dX5_judge_3 : decode cX5_judge 3 = .ok (.aload_n 0, 1) := by decide +kernel
theorem dX5_judge_4 : decode cX5_judge 4 = .ok (.getfield 188, 3) := by decide +kernel
theorem dX5_judge_7 : decode cX5_judge 7 = .ok (.iconst 1, 1) := by decide +kernel
theorem dX5_judge_8 : decode cX5_judge 8 = .ok (.isub, 1) := by decide +kernel
theorem dX5_judge_9 : decode cX5_judge 9 = .ok (.istore_n 2, 1) := by decide +kernel
theorem dX5_judge_10 : decode cX5_judge 10 = .ok (.iload_n 2, 1) := by decide +kernel
theorem dX5_judge_11 : decode cX5_judge 11 = .ok (.ifCond .lt 68, 3) := by decide +kernel
theorem dX5_judge_14 : decode cX5_judge 14 = .ok (.iload_n 2, 1) := by decide +kernel
theorem dX5_judge_15 : decode cX5_judge 15 = .ok (.ifCond .eq 42, 3) := by decide +kernel
theorem dX5_judge_18 : decode cX5_judge 18 = .ok (.iload_n 2, 1) := by decide +kernel
theorem dX5_judge_19 : decode cX5_judge 19 = .ok (.aload_n 0, 1) := by decide +kernel
theorem dX5_judge_20 : decode cX5_judge 20 = .ok (.getfield 19, 3) := by decide +kernel
theorem dX5_judge_23 : decode cX5_judge 23 = .ok (.iconst 0, 1) := by decide +kernel
theorem dX5_judge_24 : decode cX5_judge 24 = .ok (.iaload, 1) := by decide +kernel
theorem dX5_judge_25 : decode cX5_judge 25 = .ok (.if_icmp .ge 36, 3) := by decide +kernel
theorem dX5_judge_28 : decode cX5_judge 28 = .ok (.aload_n 0, 1) := by decide +kernel
theorem dX5_judge_29 : decode cX5_judge 29 = .ok (.getfield 25, 3) := by decide +kernel
theorem dX5_judge_32 : decode cX5_judge 32 = .ok (.iload_n 2, 1) := by decide +kernel
theorem dX5_judge_33 : decode cX5_judge 33 = .ok (.iaload, 1) := by decide +kernel
theorem dX5_judge_34 : decode cX5_judge 34 = .ok (.aload_n 0, 1) := by decide +kernel
theorem dX5_judge_35 : decode cX5_judge 35 = .ok (.getfield 25, 3) := by decide +kernel
theorem dX5_judge_38 : decode cX5_judge 38 = .ok (.iload_n 2, 1) := by decide +kernel
theorem dX5_judge_39 : decode cX5_judge 39 = .ok (.iconst 1, 1) := by decide +kernel
theorem dX5_judge_40 : decode cX5_judge 40 = .ok (.isub, 1) := by decide +kernel
theorem dX5_judge_41 : decode cX5_judge 41 = .ok (.iaload, 1) := by decide +kernel
theorem dX5_judge_42 : decode cX5_judge 42 = .ok (.isub, 1) := by decide +kernel
theorem dX5_judge_43 : decode cX5_judge 43 = .ok (.aload_n 0, 1) := by decide +kernel
theorem dX5_judge_44 : decode cX5_judge 44 = .ok (.iload_n 2, 1) := by decide +kernel
theorem dX5_judge_45 : decode cX5_judge 45 = .ok (.aload_n 0, 1) := by decide +kernel
theorem dX5_judge_46 : decode cX5_judge 46 = .ok (.getfield 19, 3) := by decide +kernel
theorem dX5_judge_49 : decode cX5_judge 49 = .ok (.iconst 2, 1) := by decide +kernel
theorem dX5_judge_50 : decode cX5_judge 50 = .ok (.iaload, 1) := by decide +kernel
theorem dX5_judge_51 : decode cX5_judge 51 = .ok (.invokevirtual 99, 3) := by decide +kernel
theorem dX5_judge_54 : decode cX5_judge 54 = .ok (.if_icmp .lt 7, 3) := by decide +kernel
theorem dX5_judge_57 : decode cX5_judge 57 = .ok (.iconst 1, 1) := by decide +kernel
theorem dX5_judge_58 : decode cX5_judge 58 = .ok (.goto 4, 3) := by decide +kernel
theorem dX5_judge_61 : decode cX5_judge 61 = .ok (.iconst 0, 1) := by decide +kernel
theorem dX5_judge_62 : decode cX5_judge 62 = .ok (.istore_n 3, 1) := by decide +kernel
theorem dX5_judge_63 : decode cX5_judge 63 = .ok (.iload_n 3, 1) := by decide +kernel
theorem dX5_judge_64 : decode cX5_judge 64 = .ok (.ifCond .eq 7, 3) := by decide +kernel
theorem dX5_judge_67 : decode cX5_judge 67 = .ok (.iload_n 1, 1) := by decide +kernel
theorem dX5_judge_68 : decode cX5_judge 68 = .ok (.goto 4, 3) := by decide +kernel
theorem dX5_judge_71 : decode cX5_judge 71 = .ok (.iload_n 2, 1) := by decide +kernel
theorem dX5_judge_72 : decode cX5_judge 72 = .ok (.istore_n 1, 1) := by decide +kernel
theorem dX5_judge_73 : decode cX5_judge 73 = .ok (.iinc 2 (-1), 3) := by decide +kernel
theorem dX5_judge_76 : decode cX5_judge 76 = .ok (.goto (-66), 3) := by decide +kernel
theorem dX5_judge_79 : decode cX5_judge 79 = .ok (.aload_n 0, 1) := by decide +kernel
theorem dX5_judge_80 : decode cX5_judge 80 = .ok (.iconst 0, 1) := by decide +kernel
theorem dX5_judge_81 : decode cX5_judge 81 = .ok (.putfield 188, 3) := by decide +kernel
theorem dX5_judge_84 : decode cX5_judge 84 = .ok (.iload_n 1, 1) := by decide +kernel
theorem dX5_judge_85 : decode cX5_judge 85 = .ok (.ireturn, 1) := by decide +kernel
theorem xiX5_lots_X5 : GoodIn wsX5_lots wsX50 := goodIn_sub (fun _ h => List.mem_cons_of_mem _ (List.mem_append_right _ h)) xgwX5
set_option maxRecDepth 20000 in
theorem ggX5_lots_X5_isNoLine : GoodIn wsX5_lots wsX5_isNoLine := (goodIn_ca (goodIn_r _ [8, 9] rfl (by decide +kernel)) xiX5_lots_X5)
set_option maxRecDepth 20000 in
theorem gX5_lots_X5_isNoLine : GoodIn wsX5_lots (wsV RX5 118 RX5 yX5_isNoLine wsX5_isNoLine) := goodIn_app (goodIn_r _ [4, 5, 6, 7] rfl (by decide +kernel)) ggX5_lots_X5_isNoLine
set_option maxRecDepth 20000 in
theorem ggX5_lots_X5_no : GoodIn wsX5_lots wsX5_no := (goodIn_ca (goodIn_r _ [13, 14] rfl (by decide +kernel)) xiX5_lots_X5)
set_option maxRecDepth 20000 in
theorem gX5_lots_X5_no : GoodIn wsX5_lots (wsV RX5 9 RX5 yX5_no wsX5_no) := goodIn_app (goodIn_r _ [10, 11, 12, 7] rfl (by decide +kernel)) ggX5_lots_X5_no
set_option maxRecDepth 20000 in
theorem ggX5_lots_X5_weights : GoodIn wsX5_lots wsX5_weights := (goodIn_ca (goodIn_r _ [18, 19, 20, 21, 7, 22, 9] rfl (by decide +kernel)) xiX5_lots_X5)
set_option maxRecDepth 20000 in
theorem gX5_lots_X5_weights : GoodIn wsX5_lots (wsV RX5 121 RX5 yX5_weights wsX5_weights) := goodIn_app (goodIn_r _ [15, 16, 17, 7] rfl (by decide +kernel)) ggX5_lots_X5_weights
set_option maxRecDepth 20000 in
theorem ggX5_lots_X5_weight : GoodIn wsX5_lots wsX5_weight := (goodIn_ca (goodIn_r _ [22, 9] rfl (by decide +kernel)) xiX5_lots_X5)
set_option maxRecDepth 20000 in
theorem gX5_lots_X5_weight : GoodIn wsX5_lots (wsV RX5 108 RX5 yX5_weight wsX5_weight) := goodIn_app (goodIn_r _ [19, 20, 21, 7] rfl (by decide +kernel)) ggX5_lots_X5_weight
set_option maxRecDepth 20000 in
theorem ggX5_lots_X5_home : GoodIn wsX5_lots wsX5_home := (goodIn_ca (goodIn_r _ [26, 9, 27, 28, 29, 7, 30, 31, 32, 33, 34, 35, 36, 37, 38, 39, 40, 41, 42, 43, 44, 45, 46, 47, 48, 49, 50, 51, 52, 53] rfl (by decide +kernel)) xiX5_lots_X5)
set_option maxRecDepth 20000 in
theorem gX5_lots_X5_home : GoodIn wsX5_lots (wsV RX5 145 RX5 yX5_home wsX5_home) := goodIn_app (goodIn_r _ [23, 24, 25, 7] rfl (by decide +kernel)) ggX5_lots_X5_home
theorem dX5_lots_0 : decode cX5_lots 0 = .ok (.aload_n 0, 1) := by decide +kernel
theorem dX5_lots_1 : decode cX5_lots 1 = .ok (.iload_n 1, 1) := by decide +kernel
theorem dX5_lots_2 : decode cX5_lots 2 = .ok (.invokevirtual 118, 3) := by decide +kernel
theorem dX5_lots_5 : decode cX5_lots 5 = .ok (.ifCond .eq 9, 3) := by decide +kernel
theorem dX5_lots_8 : decode cX5_lots 8 = .ok (.aload_n 0, 1) := by decide +kernel
theorem dX5_lots_9 : decode cX5_lots 9 = .ok (.iconst (-1), 1) := by decide +kernel
theorem dX5_lots_10 : decode cX5_lots 10 = .ok (.invokevirtual 9, 3) := by decide +kernel
theorem dX5_lots_13 : decode cX5_lots 13 = .ok (.ireturn, 1) := by decide +kernel
theorem dX5_lots_14 : decode cX5_lots 14 = .ok (.iload_n 2, 1) := by decide +kernel
theorem dX5_lots_15 : decode cX5_lots 15 = .ok (.ifCond .lt 8, 3) := by decide +kernel
theorem dX5_lots_18 : decode cX5_lots 18 = .ok (.iload_n 2, 1) := by decide +kernel
theorem dX5_lots_19 : decode cX5_lots 19 = .ok (.iconst 5, 1) := by decide +kernel
theorem dX5_lots_20 : decode cX5_lots 20 = .ok (.if_icmp .le 10, 3) := by decide +kernel
theorem dX5_lots_23 : decode cX5_lots 23 = .ok (.aload_n 0, 1) := by decide +kernel
theorem dX5_lots_24 : decode cX5_lots 24 = .ok (.bipush (-2), 2) := by decide +kernel
theorem dX5_lots_26 : decode cX5_lots 26 = .ok (.invokevirtual 9, 3) := by decide +kernel
theorem dX5_lots_29 : decode cX5_lots 29 = .ok (.ireturn, 1) := by decide +kernel
theorem dX5_lots_30 : decode cX5_lots 30 = .ok (.iload_n 3, 1) := by decide +kernel
theorem dX5_lots_31 : decode cX5_lots 31 = .ok (.iconst 1, 1) := by decide +kernel
theorem dX5_lots_32 : decode cX5_lots 32 = .ok (.if_icmp .ge 10, 3) := by decide +kernel
theorem dX5_lots_35 : decode cX5_lots 35 = .ok (.aload_n 0, 1) := by decide +kernel
theorem dX5_lots_36 : decode cX5_lots 36 = .ok (.bipush (-4), 2) := by decide +kernel
theorem dX5_lots_38 : decode cX5_lots 38 = .ok (.invokevirtual 9, 3) := by decide +kernel
theorem dX5_lots_41 : decode cX5_lots 41 = .ok (.ireturn, 1) := by decide +kernel
theorem dX5_lots_42 : decode cX5_lots 42 = .ok (.iload_n 3, 1) := by decide +kernel
theorem dX5_lots_43 : decode cX5_lots 43 = .ok (.bipush 30, 2) := by decide +kernel
theorem dX5_lots_45 : decode cX5_lots 45 = .ok (.if_icmp .le 10, 3) := by decide +kernel
theorem dX5_lots_48 : decode cX5_lots 48 = .ok (.aload_n 0, 1) := by decide +kernel
theorem dX5_lots_49 : decode cX5_lots 49 = .ok (.bipush (-6), 2) := by decide +kernel
theorem dX5_lots_51 : decode cX5_lots 51 = .ok (.invokevirtual 9, 3) := by decide +kernel
theorem dX5_lots_54 : decode cX5_lots 54 = .ok (.ireturn, 1) := by decide +kernel
theorem dX5_lots_55 : decode cX5_lots 55 = .ok (.iload 4, 2) := by decide +kernel
theorem dX5_lots_57 : decode cX5_lots 57 = .ok (.istore 5, 2) := by decide +kernel
theorem dX5_lots_59 : decode cX5_lots 59 = .ok (.iconst 0, 1) := by decide +kernel
theorem dX5_lots_60 : decode cX5_lots 60 = .ok (.istore 6, 2) := by decide +kernel
theorem dX5_lots_62 : decode cX5_lots 62 = .ok (.iconst 0, 1) := by decide +kernel
theorem dX5_lots_63 : decode cX5_lots 63 = .ok (.istore 7, 2) := by decide +kernel
theorem dX5_lots_65 : decode cX5_lots 65 = .ok (.iload 7, 2) := by decide +kernel
theorem dX5_lots_67 : decode cX5_lots 67 = .ok (.iload_n 3, 1) := by decide +kernel
theorem dX5_lots_68 : decode cX5_lots 68 = .ok (.if_icmp .ge 91, 3) := by decide +kernel
theorem dX5_lots_71 : decode cX5_lots 71 = .ok (.iload 5, 2) := by decide +kernel
theorem dX5_lots_73 : decode cX5_lots 73 = .ok (.ldc 191, 2) := by decide +kernel
theorem dX5_lots_75 : decode cX5_lots 75 = .ok (.imul, 1) := by decide +kernel
theorem dX5_lots_76 : decode cX5_lots 76 = .ok (.ldc 192, 2) := by decide +kernel
theorem dX5_lots_78 : decode cX5_lots 78 = .ok (.iadd, 1) := by decide +kernel
theorem dX5_lots_79 : decode cX5_lots 79 = .ok (.istore 5, 2) := by decide +kernel
theorem dX5_lots_81 : decode cX5_lots 81 = .ok (.iload 5, 2) := by decide +kernel
theorem dX5_lots_83 : decode cX5_lots 83 = .ok (.ldc 193, 2) := by decide +kernel
theorem dX5_lots_85 : decode cX5_lots 85 = .ok (.iand, 1) := by decide +kernel
theorem dX5_lots_86 : decode cX5_lots 86 = .ok (.sipush 256, 3) := by decide +kernel
theorem dX5_lots_89 : decode cX5_lots 89 = .ok (.idiv, 1) := by decide +kernel
theorem dX5_lots_90 : decode cX5_lots 90 = .ok (.aload_n 0, 1) := by decide +kernel
theorem dX5_lots_91 : decode cX5_lots 91 = .ok (.iload_n 1, 1) := by decide +kernel
theorem dX5_lots_92 : decode cX5_lots 92 = .ok (.iconst 0, 1) := by decide +kernel
theorem dX5_lots_93 : decode cX5_lots 93 = .ok (.invokevirtual 121, 3) := by decide +kernel
theorem dX5_lots_96 : decode cX5_lots 96 = .ok (.irem, 1) := by decide +kernel
theorem dX5_lots_97 : decode cX5_lots 97 = .ok (.istore 8, 2) := by decide +kernel
theorem dX5_lots_99 : decode cX5_lots 99 = .ok (.iconst 0, 1) := by decide +kernel
theorem dX5_lots_100 : decode cX5_lots 100 = .ok (.istore 9, 2) := by decide +kernel
theorem dX5_lots_102 : decode cX5_lots 102 = .ok (.iload 9, 2) := by decide +kernel
theorem dX5_lots_104 : decode cX5_lots 104 = .ok (.bipush 12, 2) := by decide +kernel
theorem dX5_lots_106 : decode cX5_lots 106 = .ok (.if_icmp .ge 33, 3) := by decide +kernel
theorem dX5_lots_109 : decode cX5_lots 109 = .ok (.iload 8, 2) := by decide +kernel
theorem dX5_lots_111 : decode cX5_lots 111 = .ok (.aload_n 0, 1) := by decide +kernel
theorem dX5_lots_112 : decode cX5_lots 112 = .ok (.iload_n 1, 1) := by decide +kernel
theorem dX5_lots_113 : decode cX5_lots 113 = .ok (.iload 9, 2) := by decide +kernel
theorem dX5_lots_115 : decode cX5_lots 115 = .ok (.invokevirtual 108, 3) := by decide +kernel
theorem dX5_lots_118 : decode cX5_lots 118 = .ok (.if_icmp .lt 21, 3) := by decide +kernel
theorem dX5_lots_121 : decode cX5_lots 121 = .ok (.iload 8, 2) := by decide +kernel
theorem dX5_lots_123 : decode cX5_lots 123 = .ok (.aload_n 0, 1) := by decide +kernel
theorem dX5_lots_124 : decode cX5_lots 124 = .ok (.iload_n 1, 1) := by decide +kernel
theorem dX5_lots_125 : decode cX5_lots 125 = .ok (.iload 9, 2) := by decide +kernel
theorem dX5_lots_127 : decode cX5_lots 127 = .ok (.invokevirtual 108, 3) := by decide +kernel
theorem dX5_lots_130 : decode cX5_lots 130 = .ok (.isub, 1) := by decide +kernel
theorem dX5_lots_131 : decode cX5_lots 131 = .ok (.istore 8, 2) := by decide +kernel
theorem dX5_lots_133 : decode cX5_lots 133 = .ok (.iinc 9 1, 3) := by decide +kernel
theorem dX5_lots_136 : decode cX5_lots 136 = .ok (.goto (-34), 3) := by decide +kernel
theorem dX5_lots_139 : decode cX5_lots 139 = .ok (.iload 6, 2) := by decide +kernel
theorem dX5_lots_141 : decode cX5_lots 141 = .ok (.aload_n 0, 1) := by decide +kernel
theorem dX5_lots_142 : decode cX5_lots 142 = .ok (.iload_n 1, 1) := by decide +kernel
theorem dX5_lots_143 : decode cX5_lots 143 = .ok (.iload_n 2, 1) := by decide +kernel
theorem dX5_lots_144 : decode cX5_lots 144 = .ok (.iconst 5, 1) := by decide +kernel
theorem dX5_lots_145 : decode cX5_lots 145 = .ok (.iload 9, 2) := by decide +kernel
theorem dX5_lots_147 : decode cX5_lots 147 = .ok (.invokevirtual 145, 3) := by decide +kernel
theorem dX5_lots_150 : decode cX5_lots 150 = .ok (.iadd, 1) := by decide +kernel
theorem dX5_lots_151 : decode cX5_lots 151 = .ok (.istore 6, 2) := by decide +kernel
theorem dX5_lots_153 : decode cX5_lots 153 = .ok (.iinc 7 1, 3) := by decide +kernel
theorem dX5_lots_156 : decode cX5_lots 156 = .ok (.goto (-91), 3) := by decide +kernel
theorem dX5_lots_159 : decode cX5_lots 159 = .ok (.iload 6, 2) := by decide +kernel
theorem dX5_lots_161 : decode cX5_lots 161 = .ok (.ireturn, 1) := by decide +kernel
theorem dX5_count_0 : decode cX5_count 0 = .ok (.iload_n 1, 1) := by decide +kernel
theorem dX5_count_1 : decode cX5_count 1 = .ok (.tableswitch 131 0 7 #[47, 54, 61, 100, 107, 114, 121, 126], 47) := by decide +kernel
theorem dX5_count_48 : decode cX5_count 48 = .ok (.aload_n 0, 1) := by decide +kernel
theorem dX5_count_49 : decode cX5_count 49 = .ok (.getfield 19, 3) := by decide +kernel
theorem dX5_count_52 : decode cX5_count 52 = .ok (.iconst 0, 1) := by decide +kernel
theorem dX5_count_53 : decode cX5_count 53 = .ok (.iaload, 1) := by decide +kernel
theorem dX5_count_54 : decode cX5_count 54 = .ok (.ireturn, 1) := by decide +kernel
theorem dX5_count_55 : decode cX5_count 55 = .ok (.aload_n 0, 1) := by decide +kernel
theorem dX5_count_56 : decode cX5_count 56 = .ok (.getfield 19, 3) := by decide +kernel
theorem dX5_count_59 : decode cX5_count 59 = .ok (.iconst 3, 1) := by decide +kernel
theorem dX5_count_60 : decode cX5_count 60 = .ok (.iaload, 1) := by decide +kernel
theorem dX5_count_61 : decode cX5_count 61 = .ok (.ireturn, 1) := by decide +kernel
theorem dX5_count_62 : decode cX5_count 62 = .ok (.aload_n 0, 1) := by decide +kernel
theorem dX5_count_63 : decode cX5_count 63 = .ok (.getfield 19, 3) := by decide +kernel
theorem dX5_count_66 : decode cX5_count 66 = .ok (.iconst 1, 1) := by decide +kernel
theorem dX5_count_67 : decode cX5_count 67 = .ok (.iaload, 1) := by decide +kernel
theorem dX5_count_68 : decode cX5_count 68 = .ok (.istore_n 2, 1) := by decide +kernel
theorem dX5_count_69 : decode cX5_count 69 = .ok (.iconst 1, 1) := by decide +kernel
theorem dX5_count_70 : decode cX5_count 70 = .ok (.istore_n 3, 1) := by decide +kernel
theorem dX5_count_71 : decode cX5_count 71 = .ok (.iload_n 3, 1) := by decide +kernel
theorem dX5_count_72 : decode cX5_count 72 = .ok (.aload_n 0, 1) := by decide +kernel
theorem dX5_count_73 : decode cX5_count 73 = .ok (.getfield 19, 3) := by decide +kernel
theorem dX5_count_76 : decode cX5_count 76 = .ok (.iconst 0, 1) := by decide +kernel
theorem dX5_count_77 : decode cX5_count 77 = .ok (.iaload, 1) := by decide +kernel
theorem dX5_count_78 : decode cX5_count 78 = .ok (.if_icmp .ge 21, 3) := by decide +kernel
theorem dX5_count_81 : decode cX5_count 81 = .ok (.iload_n 2, 1) := by decide +kernel
theorem dX5_count_82 : decode cX5_count 82 = .ok (.aload_n 0, 1) := by decide +kernel
theorem dX5_count_83 : decode cX5_count 83 = .ok (.getfield 19, 3) := by decide +kernel
theorem dX5_count_86 : decode cX5_count 86 = .ok (.bipush 10, 2) := by decide +kernel
theorem dX5_count_88 : decode cX5_count 88 = .ok (.iload_n 3, 1) := by decide +kernel
theorem dX5_count_89 : decode cX5_count 89 = .ok (.iadd, 1) := by decide +kernel
theorem dX5_count_90 : decode cX5_count 90 = .ok (.iaload, 1) := by decide +kernel
theorem dX5_count_91 : decode cX5_count 91 = .ok (.iadd, 1) := by decide +kernel
theorem dX5_count_92 : decode cX5_count 92 = .ok (.istore_n 2, 1) := by decide +kernel
theorem dX5_count_93 : decode cX5_count 93 = .ok (.iinc 3 1, 3) := by decide +kernel
theorem dX5_count_96 : decode cX5_count 96 = .ok (.goto (-25), 3) := by decide +kernel
theorem dX5_count_99 : decode cX5_count 99 = .ok (.iload_n 2, 1) := by decide +kernel
theorem dX5_count_100 : decode cX5_count 100 = .ok (.ireturn, 1) := by decide +kernel
theorem dX5_count_101 : decode cX5_count 101 = .ok (.aload_n 0, 1) := by decide +kernel
theorem dX5_count_102 : decode cX5_count 102 = .ok (.getfield 19, 3) := by decide +kernel
theorem dX5_count_105 : decode cX5_count 105 = .ok (.iconst 2, 1) := by decide +kernel
theorem dX5_count_106 : decode cX5_count 106 = .ok (.iaload, 1) := by decide +kernel
theorem dX5_count_107 : decode cX5_count 107 = .ok (.ireturn, 1) := by decide +kernel
theorem dX5_count_108 : decode cX5_count 108 = .ok (.aload_n 0, 1) := by decide +kernel
theorem dX5_count_109 : decode cX5_count 109 = .ok (.getfield 19, 3) := by decide +kernel
theorem dX5_count_112 : decode cX5_count 112 = .ok (.iconst 4, 1) := by decide +kernel
theorem dX5_count_113 : decode cX5_count 113 = .ok (.iaload, 1) := by decide +kernel
theorem dX5_count_114 : decode cX5_count 114 = .ok (.ireturn, 1) := by decide +kernel
theorem dX5_count_115 : decode cX5_count 115 = .ok (.aload_n 0, 1) := by decide +kernel
theorem dX5_count_116 : decode cX5_count 116 = .ok (.getfield 19, 3) := by decide +kernel
theorem dX5_count_119 : decode cX5_count 119 = .ok (.iconst 5, 1) := by decide +kernel
theorem dX5_count_120 : decode cX5_count 120 = .ok (.iaload, 1) := by decide +kernel
theorem dX5_count_121 : decode cX5_count 121 = .ok (.ireturn, 1) := by decide +kernel
theorem dX5_count_122 : decode cX5_count 122 = .ok (.aload_n 0, 1) := by decide +kernel
theorem dX5_count_123 : decode cX5_count 123 = .ok (.getfield 188, 3) := by decide +kernel
theorem dX5_count_126 : decode cX5_count 126 = .ok (.ireturn, 1) := by decide +kernel
theorem dX5_count_127 : decode cX5_count 127 = .ok (.aload_n 0, 1) := by decide +kernel
theorem dX5_count_128 : decode cX5_count 128 = .ok (.getfield 57, 3) := by decide +kernel
theorem dX5_count_131 : decode cX5_count 131 = .ok (.ireturn, 1) := by decide +kernel
theorem dX5_count_132 : decode cX5_count 132 = .ok (.iload_n 1, 1) := by decide +kernel
theorem dX5_count_133 : decode cX5_count 133 = .ok (.bipush 11, 2) := by decide +kernel
theorem dX5_count_135 : decode cX5_count 135 = .ok (.if_icmp .lt 21, 3) := by decide +kernel
theorem dX5_count_138 : decode cX5_count 138 = .ok (.iload_n 1, 1) := by decide +kernel
theorem dX5_count_139 : decode cX5_count 139 = .ok (.bipush 16, 2) := by decide +kernel
theorem dX5_count_141 : decode cX5_count 141 = .ok (.if_icmp .gt 15, 3) := by decide +kernel
theorem dX5_count_144 : decode cX5_count 144 = .ok (.aload_n 0, 1) := by decide +kernel
theorem dX5_count_145 : decode cX5_count 145 = .ok (.getfield 1, 3) := by decide +kernel
theorem dX5_count_148 : decode cX5_count 148 = .ok (.iload_n 1, 1) := by decide +kernel
theorem dX5_count_149 : decode cX5_count 149 = .ok (.bipush 10, 2) := by decide +kernel
theorem dX5_count_151 : decode cX5_count 151 = .ok (.isub, 1) := by decide +kernel
theorem dX5_count_152 : decode cX5_count 152 = .ok (.iaload, 1) := by decide +kernel
theorem dX5_count_153 : decode cX5_count 153 = .ok (.goto 5, 3) := by decide +kernel
theorem dX5_count_156 : decode cX5_count 156 = .ok (.bipush (-9), 2) := by decide +kernel
theorem dX5_count_158 : decode cX5_count 158 = .ok (.ireturn, 1) := by decide +kernel

theorem dL_below_0 : decode cL_below 0 = .ok (.iload_n 0, 1) := by decide +kernel
theorem dL_below_1 : decode cL_below 1 = .ok (.ldc 7, 2) := by decide +kernel
theorem dL_below_3 : decode cL_below 3 = .ok (.iand, 1) := by decide +kernel
theorem dL_below_4 : decode cL_below 4 = .ok (.iload_n 1, 1) := by decide +kernel
theorem dL_below_5 : decode cL_below 5 = .ok (.irem, 1) := by decide +kernel
theorem dL_below_6 : decode cL_below 6 = .ok (.ireturn, 1) := by decide +kernel
theorem dL_cell_0 : decode cL_cell 0 = .ok (.iload_n 1, 1) := by decide +kernel
theorem dL_cell_1 : decode cL_cell 1 = .ok (.aload_n 0, 1) := by decide +kernel
theorem dL_cell_2 : decode cL_cell 2 = .ok (.arraylength, 1) := by decide +kernel
theorem dL_cell_3 : decode cL_cell 3 = .ok (.if_icmp .ge 9, 3) := by decide +kernel
theorem dL_cell_6 : decode cL_cell 6 = .ok (.aload_n 0, 1) := by decide +kernel
theorem dL_cell_7 : decode cL_cell 7 = .ok (.iload_n 1, 1) := by decide +kernel
theorem dL_cell_8 : decode cL_cell 8 = .ok (.iaload, 1) := by decide +kernel
theorem dL_cell_9 : decode cL_cell 9 = .ok (.goto 9, 3) := by decide +kernel
theorem dL_cell_12 : decode cL_cell 12 = .ok (.ldc 8, 2) := by decide +kernel
theorem dL_cell_14 : decode cL_cell 14 = .ok (.iload_n 1, 1) := by decide +kernel
theorem dL_cell_15 : decode cL_cell 15 = .ok (.iconst 3, 1) := by decide +kernel
theorem dL_cell_16 : decode cL_cell 16 = .ok (.iadd, 1) := by decide +kernel
theorem dL_cell_17 : decode cL_cell 17 = .ok (.imul, 1) := by decide +kernel
theorem dL_cell_18 : decode cL_cell 18 = .ok (.ireturn, 1) := by decide +kernel
set_option maxRecDepth 20000 in
theorem ggL_act_L_below : GoodIn wsL_act wsL_below := goodIn_r _ [15, 16] (by decide +kernel) (by decide +kernel)
set_option maxRecDepth 20000 in
theorem gL_act_L_below : GoodIn wsL_act (va_wsS RL 9 yL_below wsL_below) := goodIn_app (goodIn_of _ (by decide +kernel)) ggL_act_L_below
set_option maxRecDepth 20000 in
theorem ggL_act_X0_addQuarter : GoodIn wsL_act wsX0_addQuarter := goodIn_ca (goodIn_r _ [21, 22, 23, 24, 185, 186, 187, 188, 189, 190, 191, 192, 193, 194, 195, 196, 197, 198, 199, 200] (by decide +kernel) (by decide +kernel)) (goodIn_sub (fun _ h => List.mem_cons_of_mem _ (List.mem_append_left _ (List.mem_append_left _ (List.mem_append_right _ h)))) (by decide +kernel))
set_option maxRecDepth 20000 in
theorem gL_act_X0_addQuarter : GoodIn wsL_act (wsV RL 21 RX0 yX0_addQuarter wsX0_addQuarter) := goodIn_app (goodIn_of _ (by decide +kernel)) ggL_act_X0_addQuarter
set_option maxRecDepth 20000 in
theorem ggL_act_X0_addPerson : GoodIn wsL_act wsX0_addPerson := goodIn_ca (goodIn_ca (goodIn_r _ [28, 22, 23, 29, 30, 31, 32, 20, 33, 34, 35, 185, 186, 187, 188, 189, 190, 191, 192, 193, 194, 195, 196, 197, 198, 199, 200] (by decide +kernel) (by decide +kernel)) (goodIn_sub (fun _ h => List.mem_cons_of_mem _ (List.mem_append_left _ (List.mem_append_left _ (List.mem_append_right _ h)))) (by decide +kernel))) (goodIn_sub (fun _ h => List.mem_cons_of_mem _ (List.mem_append_left _ (List.mem_append_right _ h))) (by decide +kernel))
set_option maxRecDepth 20000 in
theorem gL_act_X0_addPerson : GoodIn wsL_act (wsV RL 34 RX0 yX0_addPerson wsX0_addPerson) := goodIn_app (goodIn_of _ (by decide +kernel)) ggL_act_X0_addPerson
set_option maxRecDepth 20000 in
theorem ggL_act_X0_addOrder : GoodIn wsL_act wsX0_addOrder := goodIn_ca (goodIn_ca (goodIn_ca (goodIn_r _ [39, 22, 23, 40, 41, 42, 43, 44, 45, 46, 47, 48, 20, 49, 34, 35, 24, 50, 51, 52, 53, 54, 55, 56, 57, 185, 186, 187, 188, 189, 190, 191, 192, 193, 194, 195, 196, 197, 198, 199, 200] (by decide +kernel) (by decide +kernel)) (goodIn_sub (fun _ h => List.mem_cons_of_mem _ (List.mem_append_left _ (List.mem_append_left _ (List.mem_append_right _ h)))) (by decide +kernel))) (goodIn_sub (fun _ h => List.mem_cons_of_mem _ (List.mem_append_left _ (List.mem_append_right _ h))) (by decide +kernel))) (goodIn_sub (fun _ h => List.mem_cons_of_mem _ (List.mem_append_right _ h)) (by decide +kernel))
set_option maxRecDepth 20000 in
theorem gL_act_X0_addOrder : GoodIn wsL_act (wsV RL 44 RX0 yX0_addOrder wsX0_addOrder) := goodIn_app (goodIn_of _ (by decide +kernel)) ggL_act_X0_addOrder
set_option maxRecDepth 20000 in
theorem ggL_act_X1_pass : GoodIn wsL_act wsX1_pass := goodIn_r _ [162, 102, 163, 114, 113, 109, 110, 111, 100, 112, 103, 115, 116, 117, 118, 119, 120, 121, 122, 123, 176, 177, 178, 179, 180, 181, 182, 183, 184] (by decide +kernel) (by decide +kernel)
set_option maxRecDepth 20000 in
theorem gL_act_X1_pass : GoodIn wsL_act (wsV RL 88 RX1 yX1_pass wsX1_pass) := goodIn_app (goodIn_of _ (by decide +kernel)) ggL_act_X1_pass
set_option maxRecDepth 20000 in
theorem ggL_act_X0_pass : GoodIn wsL_act wsX0_pass := goodIn_ca (goodIn_r _ [167, 40, 129, 53, 54, 20, 55, 56, 57, 168, 169, 170, 171, 172, 173, 174, 175, 45, 134, 135, 136, 137, 42, 43, 138, 139, 140, 141, 79, 142, 143, 144, 145, 146, 147, 185, 186, 187, 188, 189, 190, 191, 192, 193, 194, 195, 196, 197, 198, 199, 200] (by decide +kernel) (by decide +kernel)) (goodIn_sub (fun _ h => List.mem_cons_of_mem _ (List.mem_append_right _ h)) (by decide +kernel))
set_option maxRecDepth 20000 in
theorem gL_act_X0_pass : GoodIn wsL_act (wsV RL 91 RX0 yX0_pass wsX0_pass) := goodIn_app (goodIn_of _ (by decide +kernel)) ggL_act_X0_pass
theorem dL_act_0 : decode cL_act 0 = .ok (.iload_n 2, 1) := by decide +kernel
theorem dL_act_1 : decode cL_act 1 = .ok (.bipush 9, 2) := by decide +kernel
theorem dL_act_3 : decode cL_act 3 = .ok (.ishr, 1) := by decide +kernel
theorem dL_act_4 : decode cL_act 4 = .ok (.bipush 24, 2) := by decide +kernel
theorem dL_act_6 : decode cL_act 6 = .ok (.invokestatic 9, 3) := by decide +kernel
theorem dL_act_9 : decode cL_act 9 = .ok (.istore_n 3, 1) := by decide +kernel
theorem dL_act_10 : decode cL_act 10 = .ok (.aload_n 1, 1) := by decide +kernel
theorem dL_act_11 : decode cL_act 11 = .ok (.getfield 15, 3) := by decide +kernel
theorem dL_act_14 : decode cL_act 14 = .ok (.ifCond .eq 7, 3) := by decide +kernel
theorem dL_act_17 : decode cL_act 17 = .ok (.iload_n 3, 1) := by decide +kernel
theorem dL_act_18 : decode cL_act 18 = .ok (.ifCond .ne 43, 3) := by decide +kernel
theorem dL_act_21 : decode cL_act 21 = .ok (.aload_n 1, 1) := by decide +kernel
theorem dL_act_22 : decode cL_act 22 = .ok (.getfield 15, 3) := by decide +kernel
theorem dL_act_25 : decode cL_act 25 = .ok (.bipush 6, 2) := by decide +kernel
theorem dL_act_27 : decode cL_act 27 = .ok (.if_icmp .ne 5, 3) := by decide +kernel
theorem dL_act_30 : decode cL_act 30 = .ok (.iconst 1, 1) := by decide +kernel
theorem dL_act_31 : decode cL_act 31 = .ok (.ireturn, 1) := by decide +kernel
theorem dL_act_32 : decode cL_act 32 = .ok (.aload_n 1, 1) := by decide +kernel
theorem dL_act_33 : decode cL_act 33 = .ok (.dup, 1) := by decide +kernel
theorem dL_act_34 : decode cL_act 34 = .ok (.getfield 15, 3) := by decide +kernel
theorem dL_act_37 : decode cL_act 37 = .ok (.iconst 1, 1) := by decide +kernel
theorem dL_act_38 : decode cL_act 38 = .ok (.iadd, 1) := by decide +kernel
theorem dL_act_39 : decode cL_act 39 = .ok (.putfield 15, 3) := by decide +kernel
theorem dL_act_42 : decode cL_act 42 = .ok (.aload_n 0, 1) := by decide +kernel
theorem dL_act_43 : decode cL_act 43 = .ok (.invokevirtual 21, 3) := by decide +kernel
theorem dL_act_46 : decode cL_act 46 = .ok (.aload_n 1, 1) := by decide +kernel
theorem dL_act_47 : decode cL_act 47 = .ok (.getfield 15, 3) := by decide +kernel
theorem dL_act_50 : decode cL_act 50 = .ok (.iconst 1, 1) := by decide +kernel
theorem dL_act_51 : decode cL_act 51 = .ok (.isub, 1) := by decide +kernel
theorem dL_act_52 : decode cL_act 52 = .ok (.if_icmp .ne 7, 3) := by decide +kernel
theorem dL_act_55 : decode cL_act 55 = .ok (.iconst 1, 1) := by decide +kernel
theorem dL_act_56 : decode cL_act 56 = .ok (.goto 4, 3) := by decide +kernel
theorem dL_act_59 : decode cL_act 59 = .ok (.iconst 0, 1) := by decide +kernel
theorem dL_act_60 : decode cL_act 60 = .ok (.ireturn, 1) := by decide +kernel
theorem dL_act_61 : decode cL_act 61 = .ok (.iload_n 2, 1) := by decide +kernel
theorem dL_act_62 : decode cL_act 62 = .ok (.iconst 1, 1) := by decide +kernel
theorem dL_act_63 : decode cL_act 63 = .ok (.ishr, 1) := by decide +kernel
theorem dL_act_64 : decode cL_act 64 = .ok (.aload_n 1, 1) := by decide +kernel
theorem dL_act_65 : decode cL_act 65 = .ok (.getfield 15, 3) := by decide +kernel
theorem dL_act_68 : decode cL_act 68 = .ok (.invokestatic 9, 3) := by decide +kernel
theorem dL_act_71 : decode cL_act 71 = .ok (.istore 4, 2) := by decide +kernel
theorem dL_act_73 : decode cL_act 73 = .ok (.iload_n 3, 1) := by decide +kernel
theorem dL_act_74 : decode cL_act 74 = .ok (.iconst 4, 1) := by decide +kernel
theorem dL_act_75 : decode cL_act 75 = .ok (.if_icmp .lt 10, 3) := by decide +kernel
theorem dL_act_78 : decode cL_act 78 = .ok (.aload_n 1, 1) := by decide +kernel
theorem dL_act_79 : decode cL_act 79 = .ok (.getfield 27, 3) := by decide +kernel
theorem dL_act_82 : decode cL_act 82 = .ok (.ifCond .ne 75, 3) := by decide +kernel
theorem dL_act_85 : decode cL_act 85 = .ok (.aload_n 1, 1) := by decide +kernel
theorem dL_act_86 : decode cL_act 86 = .ok (.getfield 27, 3) := by decide +kernel
theorem dL_act_89 : decode cL_act 89 = .ok (.bipush 20, 2) := by decide +kernel
theorem dL_act_91 : decode cL_act 91 = .ok (.if_icmp .ne 5, 3) := by decide +kernel
theorem dL_act_94 : decode cL_act 94 = .ok (.iconst 1, 1) := by decide +kernel
theorem dL_act_95 : decode cL_act 95 = .ok (.ireturn, 1) := by decide +kernel
theorem dL_act_96 : decode cL_act 96 = .ok (.aload_n 1, 1) := by decide +kernel
theorem dL_act_97 : decode cL_act 97 = .ok (.getfield 30, 3) := by decide +kernel
theorem dL_act_100 : decode cL_act 100 = .ok (.aload_n 1, 1) := by decide +kernel
theorem dL_act_101 : decode cL_act 101 = .ok (.getfield 27, 3) := by decide +kernel
theorem dL_act_104 : decode cL_act 104 = .ok (.aaload, 1) := by decide +kernel
theorem dL_act_105 : decode cL_act 105 = .ok (.iconst 0, 1) := by decide +kernel
theorem dL_act_106 : decode cL_act 106 = .ok (.iload_n 2, 1) := by decide +kernel
theorem dL_act_107 : decode cL_act 107 = .ok (.iconst 3, 1) := by decide +kernel
theorem dL_act_108 : decode cL_act 108 = .ok (.ishr, 1) := by decide +kernel
theorem dL_act_109 : decode cL_act 109 = .ok (.bipush 8, 2) := by decide +kernel
theorem dL_act_111 : decode cL_act 111 = .ok (.invokestatic 9, 3) := by decide +kernel
theorem dL_act_114 : decode cL_act 114 = .ok (.iastore, 1) := by decide +kernel
theorem dL_act_115 : decode cL_act 115 = .ok (.aload_n 1, 1) := by decide +kernel
theorem dL_act_116 : decode cL_act 116 = .ok (.dup, 1) := by decide +kernel
theorem dL_act_117 : decode cL_act 117 = .ok (.getfield 27, 3) := by decide +kernel
theorem dL_act_120 : decode cL_act 120 = .ok (.iconst 1, 1) := by decide +kernel
theorem dL_act_121 : decode cL_act 121 = .ok (.iadd, 1) := by decide +kernel
theorem dL_act_122 : decode cL_act 122 = .ok (.putfield 27, 3) := by decide +kernel
theorem dL_act_125 : decode cL_act 125 = .ok (.aload_n 0, 1) := by decide +kernel
theorem dL_act_126 : decode cL_act 126 = .ok (.aload_n 1, 1) := by decide +kernel
theorem dL_act_127 : decode cL_act 127 = .ok (.getfield 30, 3) := by decide +kernel
theorem dL_act_130 : decode cL_act 130 = .ok (.aload_n 1, 1) := by decide +kernel
theorem dL_act_131 : decode cL_act 131 = .ok (.getfield 27, 3) := by decide +kernel
theorem dL_act_134 : decode cL_act 134 = .ok (.iconst 1, 1) := by decide +kernel
theorem dL_act_135 : decode cL_act 135 = .ok (.isub, 1) := by decide +kernel
theorem dL_act_136 : decode cL_act 136 = .ok (.aaload, 1) := by decide +kernel
theorem dL_act_137 : decode cL_act 137 = .ok (.iconst 0, 1) := by decide +kernel
theorem dL_act_138 : decode cL_act 138 = .ok (.iaload, 1) := by decide +kernel
theorem dL_act_139 : decode cL_act 139 = .ok (.invokevirtual 34, 3) := by decide +kernel
theorem dL_act_142 : decode cL_act 142 = .ok (.aload_n 1, 1) := by decide +kernel
theorem dL_act_143 : decode cL_act 143 = .ok (.getfield 27, 3) := by decide +kernel
theorem dL_act_146 : decode cL_act 146 = .ok (.iconst 1, 1) := by decide +kernel
theorem dL_act_147 : decode cL_act 147 = .ok (.isub, 1) := by decide +kernel
theorem dL_act_148 : decode cL_act 148 = .ok (.if_icmp .ne 7, 3) := by decide +kernel
theorem dL_act_151 : decode cL_act 151 = .ok (.iconst 1, 1) := by decide +kernel
theorem dL_act_152 : decode cL_act 152 = .ok (.goto 4, 3) := by decide +kernel
theorem dL_act_155 : decode cL_act 155 = .ok (.iconst 0, 1) := by decide +kernel
theorem dL_act_156 : decode cL_act 156 = .ok (.ireturn, 1) := by decide +kernel
theorem dL_act_157 : decode cL_act 157 = .ok (.iload_n 2, 1) := by decide +kernel
theorem dL_act_158 : decode cL_act 158 = .ok (.iconst 4, 1) := by decide +kernel
theorem dL_act_159 : decode cL_act 159 = .ok (.ishr, 1) := by decide +kernel
theorem dL_act_160 : decode cL_act 160 = .ok (.aload_n 1, 1) := by decide +kernel
theorem dL_act_161 : decode cL_act 161 = .ok (.getfield 27, 3) := by decide +kernel
theorem dL_act_164 : decode cL_act 164 = .ok (.invokestatic 9, 3) := by decide +kernel
theorem dL_act_167 : decode cL_act 167 = .ok (.istore 5, 2) := by decide +kernel
theorem dL_act_169 : decode cL_act 169 = .ok (.iload_n 2, 1) := by decide +kernel
theorem dL_act_170 : decode cL_act 170 = .ok (.bipush 6, 2) := by decide +kernel
theorem dL_act_172 : decode cL_act 172 = .ok (.ishr, 1) := by decide +kernel
theorem dL_act_173 : decode cL_act 173 = .ok (.iconst 4, 1) := by decide +kernel
theorem dL_act_174 : decode cL_act 174 = .ok (.invokestatic 9, 3) := by decide +kernel
theorem dL_act_177 : decode cL_act 177 = .ok (.istore 6, 2) := by decide +kernel
theorem dL_act_179 : decode cL_act 179 = .ok (.iload_n 3, 1) := by decide +kernel
theorem dL_act_180 : decode cL_act 180 = .ok (.bipush 7, 2) := by decide +kernel
theorem dL_act_182 : decode cL_act 182 = .ok (.if_icmp .lt 10, 3) := by decide +kernel
theorem dL_act_185 : decode cL_act 185 = .ok (.aload_n 1, 1) := by decide +kernel
theorem dL_act_186 : decode cL_act 186 = .ok (.getfield 38, 3) := by decide +kernel
theorem dL_act_189 : decode cL_act 189 = .ok (.ifCond .ne 105, 3) := by decide +kernel
theorem dL_act_192 : decode cL_act 192 = .ok (.aload_n 1, 1) := by decide +kernel
theorem dL_act_193 : decode cL_act 193 = .ok (.getfield 38, 3) := by decide +kernel
theorem dL_act_196 : decode cL_act 196 = .ok (.bipush 10, 2) := by decide +kernel
theorem dL_act_198 : decode cL_act 198 = .ok (.if_icmp .ne 5, 3) := by decide +kernel
theorem dL_act_201 : decode cL_act 201 = .ok (.iconst 1, 1) := by decide +kernel
theorem dL_act_202 : decode cL_act 202 = .ok (.ireturn, 1) := by decide +kernel
theorem dL_act_203 : decode cL_act 203 = .ok (.aload_n 1, 1) := by decide +kernel
theorem dL_act_204 : decode cL_act 204 = .ok (.getfield 41, 3) := by decide +kernel
theorem dL_act_207 : decode cL_act 207 = .ok (.aload_n 1, 1) := by decide +kernel
theorem dL_act_208 : decode cL_act 208 = .ok (.getfield 38, 3) := by decide +kernel
theorem dL_act_211 : decode cL_act 211 = .ok (.aaload, 1) := by decide +kernel
theorem dL_act_212 : decode cL_act 212 = .ok (.astore 7, 2) := by decide +kernel
theorem dL_act_214 : decode cL_act 214 = .ok (.aload 7, 2) := by decide +kernel
theorem dL_act_216 : decode cL_act 216 = .ok (.iconst 0, 1) := by decide +kernel
theorem dL_act_217 : decode cL_act 217 = .ok (.iload 4, 2) := by decide +kernel
theorem dL_act_219 : decode cL_act 219 = .ok (.iastore, 1) := by decide +kernel
theorem dL_act_220 : decode cL_act 220 = .ok (.aload 7, 2) := by decide +kernel
theorem dL_act_222 : decode cL_act 222 = .ok (.iconst 1, 1) := by decide +kernel
theorem dL_act_223 : decode cL_act 223 = .ok (.iload_n 2, 1) := by decide +kernel
theorem dL_act_224 : decode cL_act 224 = .ok (.iconst 2, 1) := by decide +kernel
theorem dL_act_225 : decode cL_act 225 = .ok (.ishr, 1) := by decide +kernel
theorem dL_act_226 : decode cL_act 226 = .ok (.iconst 5, 1) := by decide +kernel
theorem dL_act_227 : decode cL_act 227 = .ok (.invokestatic 9, 3) := by decide +kernel
theorem dL_act_230 : decode cL_act 230 = .ok (.iastore, 1) := by decide +kernel
theorem dL_act_231 : decode cL_act 231 = .ok (.aload 7, 2) := by decide +kernel
theorem dL_act_233 : decode cL_act 233 = .ok (.iconst 2, 1) := by decide +kernel
theorem dL_act_234 : decode cL_act 234 = .ok (.iload_n 2, 1) := by decide +kernel
theorem dL_act_235 : decode cL_act 235 = .ok (.iconst 5, 1) := by decide +kernel
theorem dL_act_236 : decode cL_act 236 = .ok (.ishr, 1) := by decide +kernel
theorem dL_act_237 : decode cL_act 237 = .ok (.iconst 5, 1) := by decide +kernel
theorem dL_act_238 : decode cL_act 238 = .ok (.invokestatic 9, 3) := by decide +kernel
theorem dL_act_241 : decode cL_act 241 = .ok (.iastore, 1) := by decide +kernel
theorem dL_act_242 : decode cL_act 242 = .ok (.aload 7, 2) := by decide +kernel
theorem dL_act_244 : decode cL_act 244 = .ok (.iconst 3, 1) := by decide +kernel
theorem dL_act_245 : decode cL_act 245 = .ok (.iload 6, 2) := by decide +kernel
theorem dL_act_247 : decode cL_act 247 = .ok (.iastore, 1) := by decide +kernel
theorem dL_act_248 : decode cL_act 248 = .ok (.aload 7, 2) := by decide +kernel
theorem dL_act_250 : decode cL_act 250 = .ok (.iconst 4, 1) := by decide +kernel
theorem dL_act_251 : decode cL_act 251 = .ok (.iconst 1, 1) := by decide +kernel
theorem dL_act_252 : decode cL_act 252 = .ok (.iastore, 1) := by decide +kernel
theorem dL_act_253 : decode cL_act 253 = .ok (.aload_n 1, 1) := by decide +kernel
theorem dL_act_254 : decode cL_act 254 = .ok (.dup, 1) := by decide +kernel
theorem dL_act_255 : decode cL_act 255 = .ok (.getfield 38, 3) := by decide +kernel
theorem dL_act_258 : decode cL_act 258 = .ok (.iconst 1, 1) := by decide +kernel
theorem dL_act_259 : decode cL_act 259 = .ok (.iadd, 1) := by decide +kernel
theorem dL_act_260 : decode cL_act 260 = .ok (.putfield 38, 3) := by decide +kernel
theorem dL_act_263 : decode cL_act 263 = .ok (.aload_n 0, 1) := by decide +kernel
theorem dL_act_264 : decode cL_act 264 = .ok (.iload 4, 2) := by decide +kernel
theorem dL_act_266 : decode cL_act 266 = .ok (.aload 7, 2) := by decide +kernel
theorem dL_act_268 : decode cL_act 268 = .ok (.iconst 1, 1) := by decide +kernel
theorem dL_act_269 : decode cL_act 269 = .ok (.iaload, 1) := by decide +kernel
theorem dL_act_270 : decode cL_act 270 = .ok (.aload 7, 2) := by decide +kernel
theorem dL_act_272 : decode cL_act 272 = .ok (.iconst 2, 1) := by decide +kernel
theorem dL_act_273 : decode cL_act 273 = .ok (.iaload, 1) := by decide +kernel
theorem dL_act_274 : decode cL_act 274 = .ok (.iload 6, 2) := by decide +kernel
theorem dL_act_276 : decode cL_act 276 = .ok (.invokevirtual 44, 3) := by decide +kernel
theorem dL_act_279 : decode cL_act 279 = .ok (.aload_n 1, 1) := by decide +kernel
theorem dL_act_280 : decode cL_act 280 = .ok (.getfield 38, 3) := by decide +kernel
theorem dL_act_283 : decode cL_act 283 = .ok (.iconst 1, 1) := by decide +kernel
theorem dL_act_284 : decode cL_act 284 = .ok (.isub, 1) := by decide +kernel
theorem dL_act_285 : decode cL_act 285 = .ok (.if_icmp .ne 7, 3) := by decide +kernel
theorem dL_act_288 : decode cL_act 288 = .ok (.iconst 1, 1) := by decide +kernel
theorem dL_act_289 : decode cL_act 289 = .ok (.goto 4, 3) := by decide +kernel
theorem dL_act_292 : decode cL_act 292 = .ok (.iconst 0, 1) := by decide +kernel
theorem dL_act_293 : decode cL_act 293 = .ok (.ireturn, 1) := by decide +kernel
theorem dL_act_294 : decode cL_act 294 = .ok (.iload_n 2, 1) := by decide +kernel
theorem dL_act_295 : decode cL_act 295 = .ok (.iconst 2, 1) := by decide +kernel
theorem dL_act_296 : decode cL_act 296 = .ok (.ishr, 1) := by decide +kernel
theorem dL_act_297 : decode cL_act 297 = .ok (.aload_n 1, 1) := by decide +kernel
theorem dL_act_298 : decode cL_act 298 = .ok (.getfield 38, 3) := by decide +kernel
theorem dL_act_301 : decode cL_act 301 = .ok (.invokestatic 9, 3) := by decide +kernel
theorem dL_act_304 : decode cL_act 304 = .ok (.istore 7, 2) := by decide +kernel
theorem dL_act_306 : decode cL_act 306 = .ok (.iload_n 3, 1) := by decide +kernel
theorem dL_act_307 : decode cL_act 307 = .ok (.tableswitch 527 7 17 #[57, 57, 129, 182, 221, 221, 296, 342, 342, 342, 342], 57) := by decide +kernel
theorem dL_act_834 : decode cL_act 834 = .ok (.iconst 1, 1) := by decide +kernel
theorem dL_act_835 : decode cL_act 835 = .ok (.iload_n 2, 1) := by decide +kernel
theorem dL_act_836 : decode cL_act 836 = .ok (.iconst 2, 1) := by decide +kernel
theorem dL_act_837 : decode cL_act 837 = .ok (.ishr, 1) := by decide +kernel
theorem dL_act_838 : decode cL_act 838 = .ok (.iload_n 2, 1) := by decide +kernel
theorem dL_act_839 : decode cL_act 839 = .ok (.iconst 5, 1) := by decide +kernel
theorem dL_act_840 : decode cL_act 840 = .ok (.invokestatic 9, 3) := by decide +kernel
theorem dL_act_843 : decode cL_act 843 = .ok (.ifCond .ne 9, 3) := by decide +kernel
theorem dL_act_846 : decode cL_act 846 = .ok (.sipush 200, 3) := by decide +kernel
theorem dL_act_849 : decode cL_act 849 = .ok (.goto 5, 3) := by decide +kernel
theorem dL_act_852 : decode cL_act 852 = .ok (.bipush 12, 2) := by decide +kernel
theorem dL_act_854 : decode cL_act 854 = .ok (.invokestatic 9, 3) := by decide +kernel
theorem dL_act_857 : decode cL_act 857 = .ok (.iadd, 1) := by decide +kernel
theorem dL_act_858 : decode cL_act 858 = .ok (.istore 13, 2) := by decide +kernel
theorem dL_act_860 : decode cL_act 860 = .ok (.iconst 0, 1) := by decide +kernel
theorem dL_act_861 : decode cL_act 861 = .ok (.istore 14, 2) := by decide +kernel
theorem dL_act_863 : decode cL_act 863 = .ok (.iconst 0, 1) := by decide +kernel
theorem dL_act_864 : decode cL_act 864 = .ok (.istore 15, 2) := by decide +kernel
theorem dL_act_866 : decode cL_act 866 = .ok (.iload 15, 2) := by decide +kernel
theorem dL_act_868 : decode cL_act 868 = .ok (.iload 13, 2) := by decide +kernel
theorem dL_act_870 : decode cL_act 870 = .ok (.if_icmp .ge 18, 3) := by decide +kernel
theorem dL_act_873 : decode cL_act 873 = .ok (.iload 14, 2) := by decide +kernel
theorem dL_act_875 : decode cL_act 875 = .ok (.aload_n 1, 1) := by decide +kernel
theorem dL_act_876 : decode cL_act 876 = .ok (.invokevirtual 88, 3) := by decide +kernel
theorem dL_act_879 : decode cL_act 879 = .ok (.iadd, 1) := by decide +kernel
theorem dL_act_880 : decode cL_act 880 = .ok (.istore 14, 2) := by decide +kernel
theorem dL_act_882 : decode cL_act 882 = .ok (.iinc 15 1, 3) := by decide +kernel
theorem dL_act_885 : decode cL_act 885 = .ok (.goto (-19), 3) := by decide +kernel
theorem dL_act_888 : decode cL_act 888 = .ok (.aload_n 0, 1) := by decide +kernel
theorem dL_act_889 : decode cL_act 889 = .ok (.iload 13, 2) := by decide +kernel
theorem dL_act_891 : decode cL_act 891 = .ok (.invokevirtual 91, 3) := by decide +kernel
theorem dL_act_894 : decode cL_act 894 = .ok (.iload 14, 2) := by decide +kernel
theorem dL_act_896 : decode cL_act 896 = .ok (.if_icmp .ne 7, 3) := by decide +kernel
theorem dL_act_899 : decode cL_act 899 = .ok (.iconst 1, 1) := by decide +kernel
theorem dL_act_900 : decode cL_act 900 = .ok (.goto 4, 3) := by decide +kernel
theorem dL_act_903 : decode cL_act 903 = .ok (.iconst 0, 1) := by decide +kernel
theorem dL_act_904 : decode cL_act 904 = .ok (.ireturn, 1) := by decide +kernel
set_option maxRecDepth 20000 in
theorem ggL_build_X1_init : GoodIn wsL_build wsX1_init := goodIn_r _ [5, 6, 7, 8, 9, 10, 11, 12, 13, 192, 193, 194, 195, 196, 197, 198, 199, 200] (by decide +kernel) (by decide +kernel)
set_option maxRecDepth 20000 in
theorem gL_build_X1_init_n93 : GoodIn wsL_build (wsX1_init) := ggL_build_X1_init
set_option maxRecDepth 20000 in
theorem ggL_build_L_cell : GoodIn wsL_build wsL_cell := goodIn_r _ [17, 18] (by decide +kernel) (by decide +kernel)
set_option maxRecDepth 20000 in
theorem gL_build_L_cell : GoodIn wsL_build (va_wsS RL 94 yL_cell wsL_cell) := goodIn_app (goodIn_of _ (by decide +kernel)) ggL_build_L_cell
set_option maxRecDepth 20000 in
theorem ggL_build_L_below : GoodIn wsL_build wsL_below := goodIn_r _ [21, 22] (by decide +kernel) (by decide +kernel)
set_option maxRecDepth 20000 in
theorem gL_build_L_below : GoodIn wsL_build (va_wsS RL 9 yL_below wsL_below) := goodIn_app (goodIn_of _ (by decide +kernel)) ggL_build_L_below

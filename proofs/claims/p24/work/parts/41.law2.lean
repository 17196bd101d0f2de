set_option maxRecDepth 20000 in
theorem ggL_isMost_X5_count : GoodIn wsL_isMost wsX5_count := goodIn_r _ [6, 7, 8, 9, 10, 11, 12, 13, 14, 15, 16, 17, 18, 19, 20, 21, 22, 23, 24, 25, 26, 27, 28, 29, 30, 31, 32, 33, 34, 35, 36, 37, 38, 39, 40, 41, 42, 43, 44, 45, 46, 47, 48, 49, 50, 51, 52, 53, 54, 55, 56, 57, 58, 230, 231, 232, 233, 234, 235, 236, 237, 238, 239, 240, 241, 242, 243, 244, 245, 246, 247, 248, 249, 250, 251, 252, 253, 254, 255, 256, 257] (by decide +kernel) (by decide +kernel)
set_option maxRecDepth 20000 in
theorem gL_isMost_X5_count : GoodIn wsL_isMost (wsV RL 12 RX5 yX5_count wsX5_count) := goodIn_app (goodIn_of _ (by decide +kernel)) ggL_isMost_X5_count
set_option maxRecDepth 20000 in
theorem ggL_isMost_L_low : GoodIn wsL_isMost wsL_low := goodIn_r _ [62, 63] (by decide +kernel) (by decide +kernel)
set_option maxRecDepth 20000 in
theorem gL_isMost_L_low : GoodIn wsL_isMost (va_wsS RL 31 yL_low wsL_low) := goodIn_app (goodIn_of _ (by decide +kernel)) ggL_isMost_L_low
set_option maxRecDepth 20000 in
theorem ggL_isMost_X5_mostFrom : GoodIn wsL_isMost wsX5_mostFrom := goodIn_r _ [67, 7, 9, 68, 69, 70, 27, 71, 35, 36, 37, 38, 39, 72, 73, 74, 75, 76, 77, 78, 79, 80, 81, 82, 83, 84, 85, 86, 87, 88, 89, 90, 91, 34, 92, 29, 30, 31, 32, 33, 44, 45, 46, 47, 93, 5, 94, 95, 55, 56, 57, 58, 52, 53, 54, 230, 231, 232, 233, 234, 235, 236, 237, 238, 239, 240, 241, 242, 243, 244, 245, 246, 247, 248] (by decide +kernel) (by decide +kernel)
set_option maxRecDepth 20000 in
theorem gL_isMost_X5_mostFrom : GoodIn wsL_isMost (wsV RL 36 RX5 yX5_mostFrom wsX5_mostFrom) := goodIn_app (goodIn_of _ (by decide +kernel)) ggL_isMost_X5_mostFrom
set_option maxRecDepth 20000 in
theorem ggL_isMost_L_all : GoodIn wsL_isMost wsL_all := goodIn_r _ [98, 99, 100, 2, 3, 4, 5, 6, 7, 8, 9, 10, 11, 12, 13, 14, 15, 16, 17, 18, 19, 20, 21, 22, 23, 24, 25, 26, 27, 28, 29, 30, 31, 32, 33, 34, 35, 36, 37, 38, 39, 40, 41, 42, 43, 44, 45, 46, 47, 48, 49, 50, 51, 52, 53, 54, 55, 56, 57, 58, 101, 102, 103, 104, 105, 106, 107, 108, 109, 110, 111, 112, 113, 114, 115, 116, 117, 118, 119, 120, 121, 122, 123, 124, 125, 93, 94, 95, 126, 127, 128, 129, 130, 131, 132, 133, 134, 135, 136, 137, 138, 230, 231, 232, 233, 234, 235, 236, 237, 238, 239, 240, 241, 242, 243, 244, 245, 246, 247, 248, 249, 250, 251, 252, 253, 254, 255, 256, 257] (by decide +kernel) (by decide +kernel)
set_option maxRecDepth 20000 in
theorem gL_isMost_L_all : GoodIn wsL_isMost (va_wsS RL 39 yL_all wsL_all) := goodIn_app (goodIn_of _ (by decide +kernel)) ggL_isMost_L_all
set_option maxRecDepth 20000 in
theorem ggL_isMost_X5_bestGiver : GoodIn wsL_isMost wsX5_bestGiver := goodIn_r _ [142, 7, 9, 115, 36, 37, 27, 38, 39, 143, 144, 145, 146, 92, 147, 73, 74, 75, 76, 77, 78, 79, 80, 81, 82, 83, 84, 85, 86, 87, 69, 70, 71, 35, 88, 89, 90, 91, 34, 29, 30, 31, 32, 33, 44, 45, 46, 47, 93, 5, 94, 95, 55, 56, 57, 58, 52, 53, 54, 230, 231, 232, 233, 234, 235, 236, 237, 238, 239, 240, 241, 242, 243, 244, 245, 246, 247, 248] (by decide +kernel) (by decide +kernel)
set_option maxRecDepth 20000 in
theorem gL_isMost_X5_bestGiver : GoodIn wsL_isMost (wsV RL 43 RX5 yX5_bestGiver wsX5_bestGiver) := goodIn_app (goodIn_of _ (by decide +kernel)) ggL_isMost_X5_bestGiver
set_option maxRecDepth 20000 in
theorem ggL_isMost_X5_head : GoodIn wsL_isMost wsX5_head := goodIn_r _ [104, 7, 9, 105, 106, 107, 108, 109, 110, 111, 112, 113, 114, 115, 36, 37, 27, 38, 39, 116, 30, 31, 32, 33, 34, 35, 117, 56, 57, 58, 52, 53, 54, 230, 231, 232, 233, 234, 235, 236, 237, 238, 239, 240, 241, 242, 243, 244, 245, 246, 247, 248] (by decide +kernel) (by decide +kernel)
set_option maxRecDepth 20000 in
theorem gL_isMost_X5_head : GoodIn wsL_isMost (wsV RL 18 RX5 yX5_head wsX5_head) := goodIn_app (goodIn_of _ (by decide +kernel)) ggL_isMost_X5_head
set_option maxRecDepth 20000 in
theorem ggL_isMost_X5_total : GoodIn wsL_isMost wsX5_total := goodIn_r _ [151, 7, 9, 115, 36, 37, 27, 38, 39, 40, 41, 42, 43, 44, 45, 46, 47, 34, 35, 48, 49, 50, 51, 52, 53, 54, 55, 56, 57, 58, 230, 231, 232, 233, 234, 235, 236, 237, 238, 239, 240, 241, 242, 243, 244, 245, 246, 247, 248] (by decide +kernel) (by decide +kernel)
set_option maxRecDepth 20000 in
theorem gL_isMost_X5_total : GoodIn wsL_isMost (wsV RL 28 RX5 yX5_total wsX5_total) := goodIn_app (goodIn_of _ (by decide +kernel)) ggL_isMost_X5_total
set_option maxRecDepth 20000 in
theorem ggL_isMost_X5_vire : GoodIn wsL_isMost wsX5_vire := goodIn_r _ [155, 7, 9, 16, 68, 69, 70, 27, 71, 35, 36, 37, 38, 39, 156, 157, 5, 158, 159, 72, 73, 74, 75, 76, 77, 78, 79, 80, 81, 82, 83, 84, 85, 86, 87, 88, 89, 90, 91, 34, 92, 29, 30, 31, 32, 33, 44, 45, 46, 47, 93, 94, 95, 55, 56, 57, 58, 52, 53, 54, 160, 161, 162, 163, 164, 165, 166, 167, 168, 169, 170, 171, 172, 173, 174, 175, 176, 177, 178, 179, 180, 181, 182, 183, 184, 185, 186, 187, 188, 189, 190, 191, 192, 193, 194, 195, 196, 197, 198, 199, 200, 201, 202, 203, 204, 205, 206, 207, 208, 209, 21, 210, 211, 212, 23, 213, 214, 138, 215, 216, 217, 218, 117, 230, 231, 232, 233, 234, 235, 236, 237, 238, 239, 240, 241, 242, 243, 244, 245, 246, 247, 248, 254, 255, 256, 257, 258, 259, 260, 261, 262, 263, 249, 250, 251, 252, 253] (by decide +kernel) (by decide +kernel)
set_option maxRecDepth 20000 in
theorem gL_isMost_X5_vire : GoodIn wsL_isMost (wsV RL 46 RX5 yX5_vire wsX5_vire) := goodIn_app (goodIn_of _ (by decide +kernel)) ggL_isMost_X5_vire
set_option maxRecDepth 20000 in
theorem ggL_isMost_X5_undo : GoodIn wsL_isMost wsX5_undo := goodIn_r _ [222, 16, 7, 223, 224, 183, 184, 163, 185, 169, 186, 170, 178, 179, 180, 181, 225, 188, 189, 190, 191, 192, 193, 194, 195, 196, 197, 198, 199, 200, 27, 201, 34, 202, 203, 204, 205, 206, 92, 33, 52, 53, 54, 76, 78, 77, 39, 207, 208, 209, 21, 210, 211, 212, 23, 213, 214, 138, 226, 227, 228, 229, 230, 231, 258, 259, 260, 261, 262, 263, 254, 255, 256, 257, 232, 233, 234, 235, 236, 237, 238, 239, 240, 241, 242, 243, 244, 245, 246, 247, 248, 249, 250, 251, 252, 253] (by decide +kernel) (by decide +kernel)
set_option maxRecDepth 20000 in
theorem gL_isMost_X5_undo : GoodIn wsL_isMost (wsV RL 51 RX5 yX5_undo wsX5_undo) := goodIn_app (goodIn_of _ (by decide +kernel)) ggL_isMost_X5_undo
theorem dL_isMost_0 : decode cL_isMost 0 = .ok (.aload_n 0, 1) := by decide +kernel
theorem dL_isMost_1 : decode cL_isMost 1 = .ok (.iconst 1, 1) := by decide +kernel
theorem dL_isMost_2 : decode cL_isMost 2 = .ok (.invokevirtual 12, 3) := by decide +kernel
theorem dL_isMost_5 : decode cL_isMost 5 = .ok (.istore_n 2, 1) := by decide +kernel
theorem dL_isMost_6 : decode cL_isMost 6 = .ok (.iload_n 1, 1) := by decide +kernel
theorem dL_isMost_7 : decode cL_isMost 7 = .ok (.iload_n 2, 1) := by decide +kernel
theorem dL_isMost_8 : decode cL_isMost 8 = .ok (.invokestatic 31, 3) := by decide +kernel
theorem dL_isMost_11 : decode cL_isMost 11 = .ok (.istore_n 3, 1) := by decide +kernel
theorem dL_isMost_12 : decode cL_isMost 12 = .ok (.iload_n 1, 1) := by decide +kernel
theorem dL_isMost_13 : decode cL_isMost 13 = .ok (.iconst 4, 1) := by decide +kernel
theorem dL_isMost_14 : decode cL_isMost 14 = .ok (.ishr, 1) := by decide +kernel
theorem dL_isMost_15 : decode cL_isMost 15 = .ok (.iload_n 2, 1) := by decide +kernel
theorem dL_isMost_16 : decode cL_isMost 16 = .ok (.invokestatic 31, 3) := by decide +kernel
theorem dL_isMost_19 : decode cL_isMost 19 = .ok (.istore 4, 2) := by decide +kernel
theorem dL_isMost_21 : decode cL_isMost 21 = .ok (.iload_n 3, 1) := by decide +kernel
theorem dL_isMost_22 : decode cL_isMost 22 = .ok (.iload 4, 2) := by decide +kernel
theorem dL_isMost_24 : decode cL_isMost 24 = .ok (.if_icmp .ne 20, 3) := by decide +kernel
theorem dL_isMost_27 : decode cL_isMost 27 = .ok (.aload_n 0, 1) := by decide +kernel
theorem dL_isMost_28 : decode cL_isMost 28 = .ok (.iload_n 3, 1) := by decide +kernel
theorem dL_isMost_29 : decode cL_isMost 29 = .ok (.iload 4, 2) := by decide +kernel
theorem dL_isMost_31 : decode cL_isMost 31 = .ok (.invokevirtual 36, 3) := by decide +kernel
theorem dL_isMost_34 : decode cL_isMost 34 = .ok (.iconst (-1), 1) := by decide +kernel
theorem dL_isMost_35 : decode cL_isMost 35 = .ok (.if_icmp .ne 7, 3) := by decide +kernel
theorem dL_isMost_38 : decode cL_isMost 38 = .ok (.iconst 1, 1) := by decide +kernel
theorem dL_isMost_39 : decode cL_isMost 39 = .ok (.goto 4, 3) := by decide +kernel
theorem dL_isMost_42 : decode cL_isMost 42 = .ok (.iconst 0, 1) := by decide +kernel
theorem dL_isMost_43 : decode cL_isMost 43 = .ok (.ireturn, 1) := by decide +kernel
theorem dL_isMost_44 : decode cL_isMost 44 = .ok (.aload_n 0, 1) := by decide +kernel
theorem dL_isMost_45 : decode cL_isMost 45 = .ok (.invokestatic 39, 3) := by decide +kernel
theorem dL_isMost_48 : decode cL_isMost 48 = .ok (.lstore 5, 2) := by decide +kernel
theorem dL_isMost_50 : decode cL_isMost 50 = .ok (.aload_n 0, 1) := by decide +kernel
theorem dL_isMost_51 : decode cL_isMost 51 = .ok (.iload_n 3, 1) := by decide +kernel
theorem dL_isMost_52 : decode cL_isMost 52 = .ok (.iload 4, 2) := by decide +kernel
theorem dL_isMost_54 : decode cL_isMost 54 = .ok (.invokevirtual 36, 3) := by decide +kernel
theorem dL_isMost_57 : decode cL_isMost 57 = .ok (.istore 7, 2) := by decide +kernel
theorem dL_isMost_59 : decode cL_isMost 59 = .ok (.aload_n 0, 1) := by decide +kernel
theorem dL_isMost_60 : decode cL_isMost 60 = .ok (.iload 4, 2) := by decide +kernel
theorem dL_isMost_62 : decode cL_isMost 62 = .ok (.invokevirtual 43, 3) := by decide +kernel
theorem dL_isMost_65 : decode cL_isMost 65 = .ok (.istore 8, 2) := by decide +kernel
theorem dL_isMost_67 : decode cL_isMost 67 = .ok (.iload 7, 2) := by decide +kernel
theorem dL_isMost_69 : decode cL_isMost 69 = .ok (.ifCond .le 92, 3) := by decide +kernel
theorem dL_isMost_72 : decode cL_isMost 72 = .ok (.aload_n 0, 1) := by decide +kernel
theorem dL_isMost_73 : decode cL_isMost 73 = .ok (.iload_n 3, 1) := by decide +kernel
theorem dL_isMost_74 : decode cL_isMost 74 = .ok (.bipush 8, 2) := by decide +kernel
theorem dL_isMost_76 : decode cL_isMost 76 = .ok (.invokevirtual 18, 3) := by decide +kernel
theorem dL_isMost_79 : decode cL_isMost 79 = .ok (.istore 9, 2) := by decide +kernel
theorem dL_isMost_81 : decode cL_isMost 81 = .ok (.aload_n 0, 1) := by decide +kernel
theorem dL_isMost_82 : decode cL_isMost 82 = .ok (.iconst 0, 1) := by decide +kernel
theorem dL_isMost_83 : decode cL_isMost 83 = .ok (.iconst 0, 1) := by decide +kernel
theorem dL_isMost_84 : decode cL_isMost 84 = .ok (.invokevirtual 28, 3) := by decide +kernel
theorem dL_isMost_87 : decode cL_isMost 87 = .ok (.istore 10, 2) := by decide +kernel
theorem dL_isMost_89 : decode cL_isMost 89 = .ok (.iload 8, 2) := by decide +kernel
theorem dL_isMost_91 : decode cL_isMost 91 = .ok (.ifCond .lt 68, 3) := by decide +kernel
theorem dL_isMost_94 : decode cL_isMost 94 = .ok (.aload_n 0, 1) := by decide +kernel
theorem dL_isMost_95 : decode cL_isMost 95 = .ok (.iload 8, 2) := by decide +kernel
theorem dL_isMost_97 : decode cL_isMost 97 = .ok (.iload 4, 2) := by decide +kernel
theorem dL_isMost_99 : decode cL_isMost 99 = .ok (.invokevirtual 36, 3) := by decide +kernel
theorem dL_isMost_102 : decode cL_isMost 102 = .ok (.iload 7, 2) := by decide +kernel
theorem dL_isMost_104 : decode cL_isMost 104 = .ok (.if_icmp .lt 55, 3) := by decide +kernel
theorem dL_isMost_107 : decode cL_isMost 107 = .ok (.aload_n 0, 1) := by decide +kernel
theorem dL_isMost_108 : decode cL_isMost 108 = .ok (.iload_n 3, 1) := by decide +kernel
theorem dL_isMost_109 : decode cL_isMost 109 = .ok (.iload 4, 2) := by decide +kernel
theorem dL_isMost_111 : decode cL_isMost 111 = .ok (.iload 7, 2) := by decide +kernel
theorem dL_isMost_113 : decode cL_isMost 113 = .ok (.invokevirtual 46, 3) := by decide +kernel
theorem dL_isMost_116 : decode cL_isMost 116 = .ok (.iload 9, 2) := by decide +kernel
theorem dL_isMost_118 : decode cL_isMost 118 = .ok (.iload 7, 2) := by decide +kernel
theorem dL_isMost_120 : decode cL_isMost 120 = .ok (.isub, 1) := by decide +kernel
theorem dL_isMost_121 : decode cL_isMost 121 = .ok (.if_icmp .ne 38, 3) := by decide +kernel
theorem dL_isMost_124 : decode cL_isMost 124 = .ok (.aload_n 0, 1) := by decide +kernel
theorem dL_isMost_125 : decode cL_isMost 125 = .ok (.iconst 0, 1) := by decide +kernel
theorem dL_isMost_126 : decode cL_isMost 126 = .ok (.iconst 0, 1) := by decide +kernel
theorem dL_isMost_127 : decode cL_isMost 127 = .ok (.invokevirtual 28, 3) := by decide +kernel
theorem dL_isMost_130 : decode cL_isMost 130 = .ok (.iload 10, 2) := by decide +kernel
theorem dL_isMost_132 : decode cL_isMost 132 = .ok (.if_icmp .ne 27, 3) := by decide +kernel
theorem dL_isMost_135 : decode cL_isMost 135 = .ok (.iload 7, 2) := by decide +kernel
theorem dL_isMost_137 : decode cL_isMost 137 = .ok (.ldc 50, 2) := by decide +kernel
theorem dL_isMost_139 : decode cL_isMost 139 = .ok (.if_icmp .ge 13, 3) := by decide +kernel
theorem dL_isMost_142 : decode cL_isMost 142 = .ok (.aload_n 0, 1) := by decide +kernel
theorem dL_isMost_143 : decode cL_isMost 143 = .ok (.iload_n 3, 1) := by decide +kernel
theorem dL_isMost_144 : decode cL_isMost 144 = .ok (.iload 4, 2) := by decide +kernel
theorem dL_isMost_146 : decode cL_isMost 146 = .ok (.invokevirtual 36, 3) := by decide +kernel
theorem dL_isMost_149 : decode cL_isMost 149 = .ok (.ifCond .ne 10, 3) := by decide +kernel
theorem dL_isMost_152 : decode cL_isMost 152 = .ok (.aload_n 0, 1) := by decide +kernel
theorem dL_isMost_153 : decode cL_isMost 153 = .ok (.invokevirtual 51, 3) := by decide +kernel
theorem dL_isMost_156 : decode cL_isMost 156 = .ok (.ifCond .ge 5, 3) := by decide +kernel
theorem dL_isMost_159 : decode cL_isMost 159 = .ok (.iconst 0, 1) := by decide +kernel
theorem dL_isMost_160 : decode cL_isMost 160 = .ok (.ireturn, 1) := by decide +kernel
theorem dL_isMost_161 : decode cL_isMost 161 = .ok (.iload 7, 2) := by decide +kernel
theorem dL_isMost_163 : decode cL_isMost 163 = .ok (.ldc 50, 2) := by decide +kernel
theorem dL_isMost_165 : decode cL_isMost 165 = .ok (.if_icmp .ge 21, 3) := by decide +kernel
theorem dL_isMost_168 : decode cL_isMost 168 = .ok (.aload_n 0, 1) := by decide +kernel
theorem dL_isMost_169 : decode cL_isMost 169 = .ok (.iload_n 3, 1) := by decide +kernel
theorem dL_isMost_170 : decode cL_isMost 170 = .ok (.iload 4, 2) := by decide +kernel
theorem dL_isMost_172 : decode cL_isMost 172 = .ok (.iload 7, 2) := by decide +kernel
theorem dL_isMost_174 : decode cL_isMost 174 = .ok (.iconst 1, 1) := by decide +kernel
theorem dL_isMost_175 : decode cL_isMost 175 = .ok (.iadd, 1) := by decide +kernel
theorem dL_isMost_176 : decode cL_isMost 176 = .ok (.invokevirtual 46, 3) := by decide +kernel
theorem dL_isMost_179 : decode cL_isMost 179 = .ok (.bipush (-2), 2) := by decide +kernel
theorem dL_isMost_181 : decode cL_isMost 181 = .ok (.if_icmp .eq 5, 3) := by decide +kernel
theorem dL_isMost_184 : decode cL_isMost 184 = .ok (.iconst 0, 1) := by decide +kernel
theorem dL_isMost_185 : decode cL_isMost 185 = .ok (.ireturn, 1) := by decide +kernel
theorem dL_isMost_186 : decode cL_isMost 186 = .ok (.iload 8, 2) := by decide +kernel
theorem dL_isMost_188 : decode cL_isMost 188 = .ok (.iload 4, 2) := by decide +kernel
theorem dL_isMost_190 : decode cL_isMost 190 = .ok (.if_icmp .eq 27, 3) := by decide +kernel
theorem dL_isMost_193 : decode cL_isMost 193 = .ok (.iload 8, 2) := by decide +kernel
theorem dL_isMost_195 : decode cL_isMost 195 = .ok (.ifCond .ge 8, 3) := by decide +kernel
theorem dL_isMost_198 : decode cL_isMost 198 = .ok (.iload 7, 2) := by decide +kernel
theorem dL_isMost_200 : decode cL_isMost 200 = .ok (.ifCond .ne 17, 3) := by decide +kernel
theorem dL_isMost_203 : decode cL_isMost 203 = .ok (.aload_n 0, 1) := by decide +kernel
theorem dL_isMost_204 : decode cL_isMost 204 = .ok (.invokestatic 39, 3) := by decide +kernel
theorem dL_isMost_207 : decode cL_isMost 207 = .ok (.lload 5, 2) := by decide +kernel
theorem dL_isMost_209 : decode cL_isMost 209 = .ok (.lcmp, 1) := by decide +kernel
theorem dL_isMost_210 : decode cL_isMost 210 = .ok (.ifCond .ne 7, 3) := by decide +kernel
theorem dL_isMost_213 : decode cL_isMost 213 = .ok (.iconst 1, 1) := by decide +kernel
theorem dL_isMost_214 : decode cL_isMost 214 = .ok (.goto 4, 3) := by decide +kernel
theorem dL_isMost_217 : decode cL_isMost 217 = .ok (.iconst 0, 1) := by decide +kernel
theorem dL_isMost_218 : decode cL_isMost 218 = .ok (.ireturn, 1) := by decide +kernel
set_option maxRecDepth 20000 in
theorem ggL_isEnded_X5_count : GoodIn wsL_isEnded wsX5_count := goodIn_r _ [5, 6, 7, 8, 9, 10, 11, 12, 13, 14, 15, 16, 17, 18, 19, 20, 21, 22, 23, 24, 25, 26, 27, 28, 29, 30, 31, 32, 33, 34, 35, 36, 37, 38, 39, 40, 41, 42, 43, 44, 45, 46, 47, 48, 49, 50, 51, 52, 53, 54, 55, 56, 57, 187, 188, 189, 190, 191, 192, 193, 194, 195, 196, 197, 198, 199, 200, 201, 202, 203, 204, 205, 206, 207, 208, 209, 210, 211, 212, 213, 214] (by decide +kernel) (by decide +kernel)
set_option maxRecDepth 20000 in
theorem gL_isEnded_X5_count : GoodIn wsL_isEnded (wsV RL 12 RX5 yX5_count wsX5_count) := goodIn_app (goodIn_of _ (by decide +kernel)) ggL_isEnded_X5_count
set_option maxRecDepth 20000 in
theorem ggL_isEnded_X5_endYear : GoodIn wsL_isEnded wsX5_endYear := goodIn_r _ [61, 6, 7, 15, 8, 12, 13, 62, 63, 64, 65, 66, 67, 68, 69, 70, 71, 72, 73, 74, 75, 76, 77, 78, 79, 80, 81, 82, 83, 84, 85, 86, 87, 88, 89, 90, 91, 92, 93, 94, 95, 96, 97, 98, 99, 100, 101, 102, 26, 103, 33, 104, 105, 106, 107, 108, 109, 32, 51, 52, 53, 110, 111, 112, 38, 113, 114, 115, 20, 116, 117, 118, 22, 119, 120, 121, 122, 123, 124, 125, 43, 44, 45, 46, 34, 35, 36, 37, 54, 55, 56, 57, 126, 4, 127, 128, 129, 130, 131, 132, 187, 188, 189, 190, 191, 192, 193, 194, 211, 212, 213, 214, 215, 216, 217, 218, 219, 220, 195, 196, 197, 198, 199, 200, 201, 202, 203, 204, 205, 206, 207, 208, 209, 210] (by decide +kernel) (by decide +kernel)
set_option maxRecDepth 20000 in
theorem gL_isEnded_X5_endYear : GoodIn wsL_isEnded (wsV RL 55 RX5 yX5_endYear wsX5_endYear) := goodIn_app (goodIn_of _ (by decide +kernel)) ggL_isEnded_X5_endYear
set_option maxRecDepth 20000 in
theorem ggL_isEnded_L_all : GoodIn wsL_isEnded wsL_all := goodIn_r _ [136, 137, 138, 1, 2, 3, 4, 5, 6, 7, 8, 9, 10, 11, 12, 13, 14, 15, 16, 17, 18, 19, 20, 21, 22, 23, 24, 25, 26, 27, 28, 29, 30, 31, 32, 33, 34, 35, 36, 37, 38, 39, 40, 41, 42, 43, 44, 45, 46, 47, 48, 49, 50, 51, 52, 53, 54, 55, 56, 57, 139, 140, 141, 142, 143, 144, 145, 146, 147, 148, 149, 150, 151, 152, 153, 154, 155, 156, 157, 158, 159, 122, 123, 124, 125, 126, 127, 128, 160, 161, 162, 163, 164, 165, 166, 167, 168, 169, 170, 171, 121, 187, 188, 189, 190, 191, 192, 193, 194, 195, 196, 197, 198, 199, 200, 201, 202, 203, 204, 205, 206, 207, 208, 209, 210, 211, 212, 213, 214] (by decide +kernel) (by decide +kernel)
set_option maxRecDepth 20000 in
theorem gL_isEnded_L_all : GoodIn wsL_isEnded (va_wsS RL 39 yL_all wsL_all) := goodIn_app (goodIn_of _ (by decide +kernel)) ggL_isEnded_L_all
set_option maxRecDepth 20000 in
theorem ggL_isEnded_X5_wouldLapse : GoodIn wsL_isEnded wsX5_wouldLapse := goodIn_r _ [159, 6, 8, 12, 153, 35, 36, 26, 37, 38, 122, 123, 124, 125, 43, 44, 45, 46, 33, 34, 54, 55, 56, 57, 51, 52, 53, 126, 4, 127, 128, 187, 188, 189, 190, 191, 192, 193, 194, 195, 196, 197, 198, 199, 200, 201, 202, 203, 204, 205] (by decide +kernel) (by decide +kernel)
set_option maxRecDepth 20000 in
theorem gL_isEnded_X5_wouldLapse : GoodIn wsL_isEnded (wsV RL 22 RX5 yX5_wouldLapse wsX5_wouldLapse) := goodIn_app (goodIn_of _ (by decide +kernel)) ggL_isEnded_X5_wouldLapse
set_option maxRecDepth 20000 in
theorem ggL_isEnded_X5_total : GoodIn wsL_isEnded wsX5_total := goodIn_r _ [175, 6, 8, 153, 35, 36, 26, 37, 38, 39, 40, 41, 42, 43, 44, 45, 46, 33, 34, 47, 48, 49, 50, 51, 52, 53, 54, 55, 56, 57, 187, 188, 189, 190, 191, 192, 193, 194, 195, 196, 197, 198, 199, 200, 201, 202, 203, 204, 205] (by decide +kernel) (by decide +kernel)
set_option maxRecDepth 20000 in
theorem gL_isEnded_X5_total : GoodIn wsL_isEnded (wsV RL 28 RX5 yX5_total wsX5_total) := goodIn_app (goodIn_of _ (by decide +kernel)) ggL_isEnded_X5_total
set_option maxRecDepth 20000 in
theorem ggL_isEnded_X5_undo : GoodIn wsL_isEnded wsX5_undo := goodIn_r _ [179, 15, 6, 180, 181, 85, 86, 65, 87, 71, 88, 72, 80, 81, 82, 83, 182, 90, 91, 92, 93, 94, 95, 96, 97, 98, 99, 100, 101, 102, 26, 103, 33, 104, 105, 106, 107, 108, 109, 32, 51, 52, 53, 110, 111, 112, 38, 113, 114, 115, 20, 116, 117, 118, 22, 119, 120, 121, 183, 184, 185, 186, 187, 188, 215, 216, 217, 218, 219, 220, 211, 212, 213, 214, 189, 190, 191, 192, 193, 194, 195, 196, 197, 198, 199, 200, 201, 202, 203, 204, 205, 206, 207, 208, 209, 210] (by decide +kernel) (by decide +kernel)
set_option maxRecDepth 20000 in
theorem gL_isEnded_X5_undo : GoodIn wsL_isEnded (wsV RL 51 RX5 yX5_undo wsX5_undo) := goodIn_app (goodIn_of _ (by decide +kernel)) ggL_isEnded_X5_undo
theorem dL_isEnded_0 : decode cL_isEnded 0 = .ok (.aload_n 0, 1) := by decide +kernel
theorem dL_isEnded_1 : decode cL_isEnded 1 = .ok (.iconst 0, 1) := by decide +kernel
theorem dL_isEnded_2 : decode cL_isEnded 2 = .ok (.invokevirtual 12, 3) := by decide +kernel
theorem dL_isEnded_5 : decode cL_isEnded 5 = .ok (.bipush 99, 2) := by decide +kernel
theorem dL_isEnded_7 : decode cL_isEnded 7 = .ok (.if_icmp .ne 18, 3) := by decide +kernel
theorem dL_isEnded_10 : decode cL_isEnded 10 = .ok (.aload_n 0, 1) := by decide +kernel
theorem dL_isEnded_11 : decode cL_isEnded 11 = .ok (.invokevirtual 55, 3) := by decide +kernel
theorem dL_isEnded_14 : decode cL_isEnded 14 = .ok (.bipush (-2), 2) := by decide +kernel
theorem dL_isEnded_16 : decode cL_isEnded 16 = .ok (.if_icmp .ne 7, 3) := by decide +kernel
theorem dL_isEnded_19 : decode cL_isEnded 19 = .ok (.iconst 1, 1) := by decide +kernel
theorem dL_isEnded_20 : decode cL_isEnded 20 = .ok (.goto 4, 3) := by decide +kernel
theorem dL_isEnded_23 : decode cL_isEnded 23 = .ok (.iconst 0, 1) := by decide +kernel
theorem dL_isEnded_24 : decode cL_isEnded 24 = .ok (.ireturn, 1) := by decide +kernel
theorem dL_isEnded_25 : decode cL_isEnded 25 = .ok (.aload_n 0, 1) := by decide +kernel
theorem dL_isEnded_26 : decode cL_isEnded 26 = .ok (.invokestatic 39, 3) := by decide +kernel
theorem dL_isEnded_29 : decode cL_isEnded 29 = .ok (.lstore_n 1, 1) := by decide +kernel
theorem dL_isEnded_30 : decode cL_isEnded 30 = .ok (.aload_n 0, 1) := by decide +kernel
theorem dL_isEnded_31 : decode cL_isEnded 31 = .ok (.iconst 0, 1) := by decide +kernel
theorem dL_isEnded_32 : decode cL_isEnded 32 = .ok (.invokevirtual 22, 3) := by decide +kernel
theorem dL_isEnded_35 : decode cL_isEnded 35 = .ok (.istore_n 3, 1) := by decide +kernel
theorem dL_isEnded_36 : decode cL_isEnded 36 = .ok (.aload_n 0, 1) := by decide +kernel
theorem dL_isEnded_37 : decode cL_isEnded 37 = .ok (.iconst 0, 1) := by decide +kernel
theorem dL_isEnded_38 : decode cL_isEnded 38 = .ok (.iconst 3, 1) := by decide +kernel
theorem dL_isEnded_39 : decode cL_isEnded 39 = .ok (.invokevirtual 28, 3) := by decide +kernel
theorem dL_isEnded_42 : decode cL_isEnded 42 = .ok (.istore 4, 2) := by decide +kernel
theorem dL_isEnded_44 : decode cL_isEnded 44 = .ok (.aload_n 0, 1) := by decide +kernel
theorem dL_isEnded_45 : decode cL_isEnded 45 = .ok (.iconst 0, 1) := by decide +kernel
theorem dL_isEnded_46 : decode cL_isEnded 46 = .ok (.iconst 1, 1) := by decide +kernel
theorem dL_isEnded_47 : decode cL_isEnded 47 = .ok (.invokevirtual 28, 3) := by decide +kernel
theorem dL_isEnded_50 : decode cL_isEnded 50 = .ok (.istore 5, 2) := by decide +kernel
theorem dL_isEnded_52 : decode cL_isEnded 52 = .ok (.aload_n 0, 1) := by decide +kernel
theorem dL_isEnded_53 : decode cL_isEnded 53 = .ok (.bipush 7, 2) := by decide +kernel
theorem dL_isEnded_55 : decode cL_isEnded 55 = .ok (.invokevirtual 12, 3) := by decide +kernel
theorem dL_isEnded_58 : decode cL_isEnded 58 = .ok (.istore 6, 2) := by decide +kernel
theorem dL_isEnded_60 : decode cL_isEnded 60 = .ok (.aload_n 0, 1) := by decide +kernel
theorem dL_isEnded_61 : decode cL_isEnded 61 = .ok (.invokevirtual 55, 3) := by decide +kernel
theorem dL_isEnded_64 : decode cL_isEnded 64 = .ok (.iload_n 3, 1) := by decide +kernel
theorem dL_isEnded_65 : decode cL_isEnded 65 = .ok (.if_icmp .ne 65, 3) := by decide +kernel
theorem dL_isEnded_68 : decode cL_isEnded 68 = .ok (.aload_n 0, 1) := by decide +kernel
theorem dL_isEnded_69 : decode cL_isEnded 69 = .ok (.iconst 0, 1) := by decide +kernel
theorem dL_isEnded_70 : decode cL_isEnded 70 = .ok (.iconst 3, 1) := by decide +kernel
theorem dL_isEnded_71 : decode cL_isEnded 71 = .ok (.invokevirtual 28, 3) := by decide +kernel
theorem dL_isEnded_74 : decode cL_isEnded 74 = .ok (.iload 4, 2) := by decide +kernel
theorem dL_isEnded_76 : decode cL_isEnded 76 = .ok (.iload_n 3, 1) := by decide +kernel
theorem dL_isEnded_77 : decode cL_isEnded 77 = .ok (.isub, 1) := by decide +kernel
theorem dL_isEnded_78 : decode cL_isEnded 78 = .ok (.if_icmp .ne 52, 3) := by decide +kernel
theorem dL_isEnded_81 : decode cL_isEnded 81 = .ok (.aload_n 0, 1) := by decide +kernel
theorem dL_isEnded_82 : decode cL_isEnded 82 = .ok (.iconst 0, 1) := by decide +kernel
theorem dL_isEnded_83 : decode cL_isEnded 83 = .ok (.iconst 1, 1) := by decide +kernel
theorem dL_isEnded_84 : decode cL_isEnded 84 = .ok (.invokevirtual 28, 3) := by decide +kernel
theorem dL_isEnded_87 : decode cL_isEnded 87 = .ok (.iload 5, 2) := by decide +kernel
theorem dL_isEnded_89 : decode cL_isEnded 89 = .ok (.if_icmp .ne 41, 3) := by decide +kernel
theorem dL_isEnded_92 : decode cL_isEnded 92 = .ok (.aload_n 0, 1) := by decide +kernel
theorem dL_isEnded_93 : decode cL_isEnded 93 = .ok (.iconst 0, 1) := by decide +kernel
theorem dL_isEnded_94 : decode cL_isEnded 94 = .ok (.iconst 2, 1) := by decide +kernel
theorem dL_isEnded_95 : decode cL_isEnded 95 = .ok (.invokevirtual 28, 3) := by decide +kernel
theorem dL_isEnded_98 : decode cL_isEnded 98 = .ok (.ifCond .ne 32, 3) := by decide +kernel
theorem dL_isEnded_101 : decode cL_isEnded 101 = .ok (.aload_n 0, 1) := by decide +kernel
theorem dL_isEnded_102 : decode cL_isEnded 102 = .ok (.iconst 0, 1) := by decide +kernel
theorem dL_isEnded_103 : decode cL_isEnded 103 = .ok (.iconst 0, 1) := by decide +kernel
theorem dL_isEnded_104 : decode cL_isEnded 104 = .ok (.invokevirtual 28, 3) := by decide +kernel
theorem dL_isEnded_107 : decode cL_isEnded 107 = .ok (.iload 5, 2) := by decide +kernel
theorem dL_isEnded_109 : decode cL_isEnded 109 = .ok (.iload 4, 2) := by decide +kernel
theorem dL_isEnded_111 : decode cL_isEnded 111 = .ok (.iadd, 1) := by decide +kernel
theorem dL_isEnded_112 : decode cL_isEnded 112 = .ok (.iload_n 3, 1) := by decide +kernel
theorem dL_isEnded_113 : decode cL_isEnded 113 = .ok (.isub, 1) := by decide +kernel
theorem dL_isEnded_114 : decode cL_isEnded 114 = .ok (.if_icmp .ne 16, 3) := by decide +kernel
theorem dL_isEnded_117 : decode cL_isEnded 117 = .ok (.aload_n 0, 1) := by decide +kernel
theorem dL_isEnded_118 : decode cL_isEnded 118 = .ok (.bipush 7, 2) := by decide +kernel
theorem dL_isEnded_120 : decode cL_isEnded 120 = .ok (.invokevirtual 12, 3) := by decide +kernel
theorem dL_isEnded_123 : decode cL_isEnded 123 = .ok (.iload 6, 2) := by decide +kernel
theorem dL_isEnded_125 : decode cL_isEnded 125 = .ok (.iload_n 3, 1) := by decide +kernel
theorem dL_isEnded_126 : decode cL_isEnded 126 = .ok (.iadd, 1) := by decide +kernel
theorem dL_isEnded_127 : decode cL_isEnded 127 = .ok (.if_icmp .eq 5, 3) := by decide +kernel
theorem dL_isEnded_130 : decode cL_isEnded 130 = .ok (.iconst 0, 1) := by decide +kernel
theorem dL_isEnded_131 : decode cL_isEnded 131 = .ok (.ireturn, 1) := by decide +kernel
theorem dL_isEnded_132 : decode cL_isEnded 132 = .ok (.aload_n 0, 1) := by decide +kernel
theorem dL_isEnded_133 : decode cL_isEnded 133 = .ok (.invokevirtual 51, 3) := by decide +kernel
theorem dL_isEnded_136 : decode cL_isEnded 136 = .ok (.ifCond .lt 16, 3) := by decide +kernel
theorem dL_isEnded_139 : decode cL_isEnded 139 = .ok (.aload_n 0, 1) := by decide +kernel
theorem dL_isEnded_140 : decode cL_isEnded 140 = .ok (.invokestatic 39, 3) := by decide +kernel
theorem dL_isEnded_143 : decode cL_isEnded 143 = .ok (.lload_n 1, 1) := by decide +kernel
theorem dL_isEnded_144 : decode cL_isEnded 144 = .ok (.lcmp, 1) := by decide +kernel
theorem dL_isEnded_145 : decode cL_isEnded 145 = .ok (.ifCond .ne 7, 3) := by decide +kernel
theorem dL_isEnded_148 : decode cL_isEnded 148 = .ok (.iconst 1, 1) := by decide +kernel
theorem dL_isEnded_149 : decode cL_isEnded 149 = .ok (.goto 4, 3) := by decide +kernel
theorem dL_isEnded_152 : decode cL_isEnded 152 = .ok (.iconst 0, 1) := by decide +kernel
theorem dL_isEnded_153 : decode cL_isEnded 153 = .ok (.ireturn, 1) := by decide +kernel
set_option maxRecDepth 20000 in
theorem ggL_acts_X5_count : GoodIn wsL_acts wsX5_count := goodIn_r _ [5, 6, 7, 8, 9, 10, 11, 12, 13, 14, 15, 16, 17, 18, 19, 20, 21, 22, 23, 24, 25, 26, 27, 28, 29, 30, 31, 32, 33, 34, 35, 36, 37, 38, 39, 40, 41, 42, 43, 44, 45, 46, 47, 48, 49, 50, 51, 52, 53, 54, 55, 56, 57, 281, 282, 283, 284, 285, 286, 287, 288, 289, 290, 291, 292, 293, 294, 295, 296, 297, 298, 299, 300, 301, 302, 303, 304, 305, 306, 307, 308] (by decide +kernel) (by decide +kernel)
set_option maxRecDepth 20000 in
theorem gL_acts_X5_count : GoodIn wsL_acts (wsV RL 12 RX5 yX5_count wsX5_count) := goodIn_app (goodIn_of _ (by decide +kernel)) ggL_acts_X5_count
set_option maxRecDepth 20000 in
theorem ggL_acts_L_low : GoodIn wsL_acts wsL_low := goodIn_r _ [61, 62] (by decide +kernel) (by decide +kernel)
set_option maxRecDepth 20000 in
theorem gL_acts_L_low : GoodIn wsL_acts (va_wsS RL 31 yL_low wsL_low) := goodIn_app (goodIn_of _ (by decide +kernel)) ggL_acts_L_low
set_option maxRecDepth 20000 in
theorem ggL_acts_X5_make : GoodIn wsL_acts wsX5_make := goodIn_r _ [66, 6, 8, 67, 9, 15, 68, 35, 36, 26, 37, 38, 69, 70, 71, 72, 73, 74, 75, 76, 77, 78, 79, 80, 81, 82, 83, 84, 85, 86, 87, 88, 89, 90, 91, 92, 93, 94, 95, 96, 97, 98, 99, 100, 101, 102, 103, 104, 105, 106, 107, 108, 109, 110, 33, 111, 112, 113, 114, 115, 116, 32, 51, 52, 53, 117, 118, 119, 120, 121, 122, 20, 123, 124, 125, 22, 126, 127, 128, 129, 130, 131, 132, 34, 281, 282, 283, 284, 285, 286, 287, 288, 289, 290, 291, 292, 293, 294, 295, 296, 297, 298, 299, 305, 306, 307, 308, 309, 310, 311, 312, 313, 314, 300, 301, 302, 303, 304] (by decide +kernel) (by decide +kernel)
set_option maxRecDepth 20000 in
theorem gL_acts_X5_make : GoodIn wsL_acts (wsV RL 58 RX5 yX5_make wsX5_make) := goodIn_app (goodIn_of _ (by decide +kernel)) ggL_acts_X5_make
set_option maxRecDepth 20000 in
theorem ggL_acts_X5_allot : GoodIn wsL_acts wsX5_allot := goodIn_r _ [136, 6, 8, 137, 138, 15, 139, 68, 35, 36, 26, 37, 38, 140, 141, 4, 142, 143, 69, 70, 71, 72, 73, 74, 75, 76, 77, 78, 79, 80, 81, 82, 83, 84, 85, 86, 87, 88, 89, 90, 91, 92, 93, 94, 95, 96, 97, 98, 99, 100, 101, 102, 103, 104, 105, 106, 107, 108, 109, 110, 33, 111, 112, 113, 114, 115, 116, 32, 51, 52, 53, 117, 118, 119, 120, 121, 122, 20, 123, 124, 125, 22, 126, 127, 128, 281, 282, 283, 284, 285, 286, 287, 288, 289, 290, 291, 292, 293, 294, 295, 296, 297, 298, 299, 305, 306, 307, 308, 309, 310, 311, 312, 313, 314, 300, 301, 302, 303, 304] (by decide +kernel) (by decide +kernel)
set_option maxRecDepth 20000 in
theorem gL_acts_X5_allot : GoodIn wsL_acts (wsV RL 61 RX5 yX5_allot wsX5_allot) := goodIn_app (goodIn_of _ (by decide +kernel)) ggL_acts_X5_allot
set_option maxRecDepth 20000 in
theorem ggL_acts_X5_freeze : GoodIn wsL_acts wsX5_freeze := goodIn_r _ [147, 6, 8, 148, 15, 68, 35, 36, 26, 37, 38, 69, 70, 71, 72, 73, 74, 75, 76, 77, 78, 79, 80, 81, 82, 83, 84, 85, 86, 87, 88, 89, 90, 91, 92, 93, 94, 95, 96, 97, 98, 99, 100, 101, 102, 103, 104, 105, 106, 107, 108, 109, 110, 33, 111, 112, 113, 114, 115, 116, 32, 51, 52, 53, 117, 118, 119, 120, 121, 122, 20, 123, 124, 125, 22, 126, 127, 128, 23, 24, 25, 27, 28, 29, 30, 31, 34, 281, 282, 283, 284, 285, 286, 287, 288, 289, 290, 291, 292, 293, 294, 295, 296, 297, 298, 299, 305, 306, 307, 308, 309, 310, 311, 312, 313, 314, 300, 301, 302, 303, 304] (by decide +kernel) (by decide +kernel)
set_option maxRecDepth 20000 in
theorem gL_acts_X5_freeze : GoodIn wsL_acts (wsV RL 64 RX5 yX5_freeze wsX5_freeze) := goodIn_app (goodIn_of _ (by decide +kernel)) ggL_acts_X5_freeze
set_option maxRecDepth 20000 in
theorem ggL_acts_X5_setShare : GoodIn wsL_acts wsX5_setShare := goodIn_r _ [152, 6, 8, 15, 153, 68, 35, 36, 26, 37, 38, 154, 155, 4, 156, 69, 70, 71, 72, 73, 74, 75, 76, 77, 78, 79, 80, 81, 82, 83, 84, 85, 86, 87, 88, 89, 90, 91, 92, 93, 94, 95, 96, 97, 98, 99, 100, 101, 102, 103, 104, 105, 106, 107, 108, 109, 110, 33, 111, 112, 113, 114, 115, 116, 32, 51, 52, 53, 117, 118, 119, 120, 121, 122, 20, 123, 124, 125, 22, 126, 127, 128, 281, 282, 283, 284, 285, 286, 287, 288, 289, 290, 291, 292, 293, 294, 295, 296, 297, 298, 299, 305, 306, 307, 308, 309, 310, 311, 312, 313, 314, 300, 301, 302, 303, 304] (by decide +kernel) (by decide +kernel)
set_option maxRecDepth 20000 in
theorem gL_acts_X5_setShare : GoodIn wsL_acts (wsV RL 67 RX5 yX5_setShare wsX5_setShare) := goodIn_app (goodIn_of _ (by decide +kernel)) ggL_acts_X5_setShare
set_option maxRecDepth 20000 in
theorem ggL_acts_X5_setCarried : GoodIn wsL_acts wsX5_setCarried := goodIn_r _ [160, 15, 6, 12, 154, 155, 4, 156, 69, 70, 71, 72, 73, 74, 75, 76, 77, 78, 79, 80, 81, 82, 83, 84, 85, 86, 87, 88, 89, 90, 91, 92, 93, 94, 95, 96, 97, 98, 99, 100, 101, 102, 103, 104, 105, 106, 107, 108, 109, 26, 110, 33, 111, 112, 113, 114, 115, 116, 32, 51, 52, 53, 117, 118, 119, 38, 120, 121, 122, 20, 123, 124, 125, 22, 126, 127, 128, 281, 282, 283, 284, 285, 286, 287, 288, 305, 306, 307, 308, 309, 310, 311, 312, 313, 314, 289, 290, 291, 292, 293, 294, 295, 296, 297, 298, 299, 300, 301, 302, 303, 304] (by decide +kernel) (by decide +kernel)
set_option maxRecDepth 20000 in
theorem gL_acts_X5_setCarried : GoodIn wsL_acts (wsV RL 70 RX5 yX5_setCarried wsX5_setCarried) := goodIn_app (goodIn_of _ (by decide +kernel)) ggL_acts_X5_setCarried
set_option maxRecDepth 20000 in
theorem ggL_acts_X5_commit : GoodIn wsL_acts wsX5_commit := goodIn_r _ [164, 6, 8, 10, 11, 15, 7, 68, 35, 36, 26, 37, 38, 140, 141, 4, 142, 143, 165, 29, 30, 31, 32, 33, 34, 166, 55, 56, 57, 51, 52, 53, 167, 168, 169, 72, 170, 74, 75, 76, 77, 78, 79, 80, 81, 82, 83, 84, 85, 86, 87, 88, 89, 90, 91, 92, 93, 94, 95, 96, 97, 98, 99, 100, 101, 102, 103, 104, 105, 106, 107, 108, 109, 110, 111, 112, 113, 114, 115, 116, 117, 118, 119, 120, 121, 122, 20, 123, 124, 125, 22, 126, 127, 128, 171, 172, 173, 174, 175, 176, 177, 178, 281, 282, 283, 284, 285, 286, 287, 288, 300, 301, 302, 303, 304, 289, 290, 291, 292, 293, 294, 295, 296, 297, 298, 299, 305, 306, 307, 308, 309, 310, 311, 312, 313, 314] (by decide +kernel) (by decide +kernel)
set_option maxRecDepth 20000 in
theorem gL_acts_X5_commit : GoodIn wsL_acts (wsV RL 73 RX5 yX5_commit wsX5_commit) := goodIn_app (goodIn_of _ (by decide +kernel)) ggL_acts_X5_commit
set_option maxRecDepth 20000 in
theorem ggL_acts_X5_pay : GoodIn wsL_acts wsX5_pay := goodIn_r _ [182, 6, 10, 183, 15, 184, 8, 185, 14, 186, 187, 188, 20, 189, 128, 140, 141, 4, 142, 143, 69, 70, 71, 72, 73, 74, 75, 76, 77, 78, 79, 80, 81, 82, 83, 84, 85, 86, 87, 88, 89, 90, 91, 92, 93, 94, 95, 96, 97, 98, 99, 100, 101, 102, 103, 104, 105, 106, 107, 108, 109, 26, 110, 33, 111, 112, 113, 114, 115, 116, 32, 51, 52, 53, 117, 118, 119, 38, 120, 121, 122, 123, 124, 125, 22, 126, 127, 190, 191, 192, 193, 34, 35, 36, 37, 281, 282, 283, 284, 285, 286, 287, 288, 300, 301, 302, 303, 304, 305, 306, 307, 308, 309, 310, 311, 312, 313, 314, 289, 290, 291, 292, 293, 294, 295, 296, 297, 298, 299] (by decide +kernel) (by decide +kernel)
set_option maxRecDepth 20000 in
theorem gL_acts_X5_pay : GoodIn wsL_acts (wsV RL 76 RX5 yX5_pay wsX5_pay) := goodIn_app (goodIn_of _ (by decide +kernel)) ggL_acts_X5_pay
set_option maxRecDepth 20000 in
theorem ggL_acts_X5_release : GoodIn wsL_acts wsX5_release := goodIn_r _ [197, 6, 10, 183, 15, 186, 187, 188, 20, 189, 128, 69, 70, 71, 72, 73, 74, 75, 76, 77, 78, 79, 80, 81, 82, 83, 84, 85, 86, 87, 88, 89, 90, 91, 92, 93, 94, 95, 96, 97, 98, 99, 100, 101, 102, 103, 104, 105, 106, 107, 108, 109, 26, 110, 33, 111, 112, 113, 114, 115, 116, 32, 51, 52, 53, 117, 118, 119, 38, 120, 121, 122, 123, 124, 125, 22, 126, 127, 198, 199, 200, 201, 202, 203, 204, 205, 172, 173, 174, 34, 35, 36, 37, 281, 282, 283, 284, 285, 286, 287, 288, 300, 301, 302, 303, 304, 305, 306, 307, 308, 309, 310, 311, 312, 313, 314, 289, 290, 291, 292, 293, 294, 295, 296, 297, 298, 299] (by decide +kernel) (by decide +kernel)
set_option maxRecDepth 20000 in
theorem gL_acts_X5_release : GoodIn wsL_acts (wsV RL 79 RX5 yX5_release wsX5_release) := goodIn_app (goodIn_of _ (by decide +kernel)) ggL_acts_X5_release
set_option maxRecDepth 20000 in
theorem ggL_acts_X5_vire : GoodIn wsL_acts wsX5_vire := goodIn_r _ [209, 6, 8, 15, 210, 211, 212, 26, 213, 34, 35, 36, 37, 38, 140, 141, 4, 142, 143, 214, 215, 216, 217, 117, 119, 118, 218, 219, 220, 221, 222, 223, 224, 225, 226, 227, 228, 229, 230, 33, 116, 28, 29, 30, 31, 32, 43, 44, 45, 46, 231, 232, 233, 54, 55, 56, 57, 51, 52, 53, 234, 235, 236, 72, 237, 74, 75, 76, 77, 78, 79, 80, 81, 82, 83, 84, 85, 86, 87, 88, 89, 90, 91, 92, 93, 94, 95, 96, 97, 98, 99, 100, 101, 102, 103, 104, 105, 106, 107, 108, 109, 110, 111, 112, 113, 114, 115, 120, 121, 122, 20, 123, 124, 125, 22, 126, 127, 128, 238, 239, 240, 241, 166, 281, 282, 283, 284, 285, 286, 287, 288, 289, 290, 291, 292, 293, 294, 295, 296, 297, 298, 299, 305, 306, 307, 308, 309, 310, 311, 312, 313, 314, 300, 301, 302, 303, 304] (by decide +kernel) (by decide +kernel)
set_option maxRecDepth 20000 in
theorem gL_acts_X5_vire : GoodIn wsL_acts (wsV RL 46 RX5 yX5_vire wsX5_vire) := goodIn_app (goodIn_of _ (by decide +kernel)) ggL_acts_X5_vire
set_option maxRecDepth 20000 in
theorem ggL_acts_X5_revoke : GoodIn wsL_acts wsX5_revoke := goodIn_r _ [245, 15, 246, 7, 6, 247, 248, 249, 250, 251, 252, 92, 93, 72, 94, 78, 95, 79, 87, 88, 89, 90, 253, 254, 255, 256, 83, 84, 91, 257, 258, 259, 4, 260, 8, 166, 55, 56, 26, 57, 51, 52, 53, 34, 35, 36, 37, 38, 261, 262, 263, 264, 74, 75, 76, 77, 80, 81, 82, 85, 86, 96, 97, 98, 99, 100, 101, 102, 103, 104, 105, 106, 107, 108, 109, 110, 33, 111, 112, 113, 114, 115, 116, 32, 117, 118, 119, 120, 121, 122, 20, 123, 124, 125, 22, 126, 127, 128, 238, 239, 240, 241, 226, 211, 212, 213, 265, 266, 267, 268, 10, 183, 186, 187, 188, 189, 198, 199, 200, 201, 202, 203, 204, 205, 172, 173, 174, 281, 282, 309, 310, 311, 312, 313, 314, 283, 284, 285, 286, 287, 288, 305, 306, 307, 308, 289, 290, 291, 292, 293, 294, 295, 296, 297, 298, 299, 300, 301, 302, 303, 304] (by decide +kernel) (by decide +kernel)
set_option maxRecDepth 20000 in
theorem gL_acts_X5_revoke : GoodIn wsL_acts (wsV RL 82 RX5 yX5_revoke wsX5_revoke) := goodIn_app (goodIn_of _ (by decide +kernel)) ggL_acts_X5_revoke
set_option maxRecDepth 20000 in
theorem ggL_acts_X5_endYear : GoodIn wsL_acts wsX5_endYear := goodIn_r _ [272, 6, 7, 15, 8, 12, 13, 69, 70, 71, 72, 73, 74, 75, 76, 77, 78, 79, 80, 81, 82, 83, 84, 85, 86, 87, 88, 89, 90, 91, 92, 93, 94, 95, 96, 97, 98, 99, 100, 101, 102, 103, 104, 105, 106, 107, 108, 109, 26, 110, 33, 111, 112, 113, 114, 115, 116, 32, 51, 52, 53, 117, 118, 119, 38, 120, 121, 122, 20, 123, 124, 125, 22, 126, 127, 128, 273, 274, 275, 276, 43, 44, 45, 46, 34, 35, 36, 37, 54, 55, 56, 57, 231, 4, 232, 233, 277, 278, 279, 280, 281, 282, 283, 284, 285, 286, 287, 288, 305, 306, 307, 308, 309, 310, 311, 312, 313, 314, 289, 290, 291, 292, 293, 294, 295, 296, 297, 298, 299, 300, 301, 302, 303, 304] (by decide +kernel) (by decide +kernel)
set_option maxRecDepth 20000 in
theorem gL_acts_X5_endYear : GoodIn wsL_acts (wsV RL 55 RX5 yX5_endYear wsX5_endYear) := goodIn_app (goodIn_of _ (by decide +kernel)) ggL_acts_X5_endYear
theorem dL_acts_0 : decode cL_acts 0 = .ok (.aload_n 0, 1) := by decide +kernel
theorem dL_acts_1 : decode cL_acts 1 = .ok (.iconst 1, 1) := by decide +kernel
theorem dL_acts_2 : decode cL_acts 2 = .ok (.invokevirtual 12, 3) := by decide +kernel
theorem dL_acts_5 : decode cL_acts 5 = .ok (.istore_n 2, 1) := by decide +kernel
theorem dL_acts_6 : decode cL_acts 6 = .ok (.iload_n 1, 1) := by decide +kernel
theorem dL_acts_7 : decode cL_acts 7 = .ok (.iconst 4, 1) := by decide +kernel
theorem dL_acts_8 : decode cL_acts 8 = .ok (.ishr, 1) := by decide +kernel
theorem dL_acts_9 : decode cL_acts 9 = .ok (.iload_n 1, 1) := by decide +kernel
theorem dL_acts_10 : decode cL_acts 10 = .ok (.bipush 26, 2) := by decide +kernel
theorem dL_acts_12 : decode cL_acts 12 = .ok (.ishr, 1) := by decide +kernel
theorem dL_acts_13 : decode cL_acts 13 = .ok (.bipush 7, 2) := by decide +kernel
theorem dL_acts_15 : decode cL_acts 15 = .ok (.iand, 1) := by decide +kernel
theorem dL_acts_16 : decode cL_acts 16 = .ok (.ifCond .ne 9, 3) := by decide +kernel
theorem dL_acts_19 : decode cL_acts 19 = .ok (.iload_n 2, 1) := by decide +kernel
theorem dL_acts_20 : decode cL_acts 20 = .ok (.iconst 1, 1) := by decide +kernel
theorem dL_acts_21 : decode cL_acts 21 = .ok (.iadd, 1) := by decide +kernel
theorem dL_acts_22 : decode cL_acts 22 = .ok (.goto 4, 3) := by decide +kernel
theorem dL_acts_25 : decode cL_acts 25 = .ok (.iload_n 2, 1) := by decide +kernel
theorem dL_acts_26 : decode cL_acts 26 = .ok (.invokestatic 31, 3) := by decide +kernel
theorem dL_acts_29 : decode cL_acts 29 = .ok (.istore_n 3, 1) := by decide +kernel
theorem dL_acts_30 : decode cL_acts 30 = .ok (.iload_n 1, 1) := by decide +kernel
theorem dL_acts_31 : decode cL_acts 31 = .ok (.bipush 8, 2) := by decide +kernel
theorem dL_acts_33 : decode cL_acts 33 = .ok (.ishr, 1) := by decide +kernel
theorem dL_acts_34 : decode cL_acts 34 = .ok (.iload_n 2, 1) := by decide +kernel
theorem dL_acts_35 : decode cL_acts 35 = .ok (.invokestatic 31, 3) := by decide +kernel
theorem dL_acts_38 : decode cL_acts 38 = .ok (.istore 4, 2) := by decide +kernel
theorem dL_acts_40 : decode cL_acts 40 = .ok (.iload_n 1, 1) := by decide +kernel
theorem dL_acts_41 : decode cL_acts 41 = .ok (.iconst 4, 1) := by decide +kernel
theorem dL_acts_42 : decode cL_acts 42 = .ok (.ishr, 1) := by decide +kernel
theorem dL_acts_43 : decode cL_acts 43 = .ok (.iconst 1, 1) := by decide +kernel
theorem dL_acts_44 : decode cL_acts 44 = .ok (.aload_n 0, 1) := by decide +kernel
theorem dL_acts_45 : decode cL_acts 45 = .ok (.iconst 2, 1) := by decide +kernel
theorem dL_acts_46 : decode cL_acts 46 = .ok (.invokevirtual 12, 3) := by decide +kernel
theorem dL_acts_49 : decode cL_acts 49 = .ok (.iadd, 1) := by decide +kernel
theorem dL_acts_50 : decode cL_acts 50 = .ok (.invokestatic 31, 3) := by decide +kernel
theorem dL_acts_53 : decode cL_acts 53 = .ok (.istore 5, 2) := by decide +kernel
theorem dL_acts_55 : decode cL_acts 55 = .ok (.iload_n 1, 1) := by decide +kernel
theorem dL_acts_56 : decode cL_acts 56 = .ok (.bipush 20, 2) := by decide +kernel
theorem dL_acts_58 : decode cL_acts 58 = .ok (.invokestatic 31, 3) := by decide +kernel
theorem dL_acts_61 : decode cL_acts 61 = .ok (.tableswitch 243 0 18 #[91, 91, 106, 106, 106, 124, 136, 151, 165, 165, 165, 183, 183, 202, 209, 209, 209, 229, 229], 91) := by decide +kernel
theorem dL_acts_152 : decode cL_acts 152 = .ok (.aload_n 0, 1) := by decide +kernel
theorem dL_acts_153 : decode cL_acts 153 = .ok (.iload_n 3, 1) := by decide +kernel
theorem dL_acts_154 : decode cL_acts 154 = .ok (.iload_n 1, 1) := by decide +kernel
theorem dL_acts_155 : decode cL_acts 155 = .ok (.bipush 9, 2) := by decide +kernel
theorem dL_acts_157 : decode cL_acts 157 = .ok (.ishr, 1) := by decide +kernel
theorem dL_acts_158 : decode cL_acts 158 = .ok (.bipush 11, 2) := by decide +kernel
theorem dL_acts_160 : decode cL_acts 160 = .ok (.invokestatic 31, 3) := by decide +kernel
theorem dL_acts_163 : decode cL_acts 163 = .ok (.invokevirtual 58, 3) := by decide +kernel
theorem dL_acts_166 : decode cL_acts 166 = .ok (.ireturn, 1) := by decide +kernel
theorem dL_acts_167 : decode cL_acts 167 = .ok (.aload_n 0, 1) := by decide +kernel
theorem dL_acts_168 : decode cL_acts 168 = .ok (.iload_n 3, 1) := by decide +kernel
theorem dL_acts_169 : decode cL_acts 169 = .ok (.iconst 1, 1) := by decide +kernel
theorem dL_acts_170 : decode cL_acts 170 = .ok (.iload_n 1, 1) := by decide +kernel
theorem dL_acts_171 : decode cL_acts 171 = .ok (.bipush 9, 2) := by decide +kernel
theorem dL_acts_173 : decode cL_acts 173 = .ok (.ishr, 1) := by decide +kernel
theorem dL_acts_174 : decode cL_acts 174 = .ok (.sipush 9000, 3) := by decide +kernel
theorem dL_acts_177 : decode cL_acts 177 = .ok (.invokestatic 31, 3) := by decide +kernel
theorem dL_acts_180 : decode cL_acts 180 = .ok (.iadd, 1) := by decide +kernel
theorem dL_acts_181 : decode cL_acts 181 = .ok (.invokevirtual 61, 3) := by decide +kernel
theorem dL_acts_184 : decode cL_acts 184 = .ok (.ireturn, 1) := by decide +kernel
theorem dL_acts_185 : decode cL_acts 185 = .ok (.aload_n 0, 1) := by decide +kernel
theorem dL_acts_186 : decode cL_acts 186 = .ok (.iload_n 3, 1) := by decide +kernel
theorem dL_acts_187 : decode cL_acts 187 = .ok (.iload_n 1, 1) := by decide +kernel
theorem dL_acts_188 : decode cL_acts 188 = .ok (.bipush 9, 2) := by decide +kernel
theorem dL_acts_190 : decode cL_acts 190 = .ok (.ishr, 1) := by decide +kernel
theorem dL_acts_191 : decode cL_acts 191 = .ok (.iconst 1, 1) := by decide +kernel
theorem dL_acts_192 : decode cL_acts 192 = .ok (.iand, 1) := by decide +kernel
theorem dL_acts_193 : decode cL_acts 193 = .ok (.invokevirtual 64, 3) := by decide +kernel
theorem dL_acts_196 : decode cL_acts 196 = .ok (.ireturn, 1) := by decide +kernel
theorem dL_acts_197 : decode cL_acts 197 = .ok (.aload_n 0, 1) := by decide +kernel
theorem dL_acts_198 : decode cL_acts 198 = .ok (.iload_n 3, 1) := by decide +kernel
theorem dL_acts_199 : decode cL_acts 199 = .ok (.iload_n 1, 1) := by decide +kernel
theorem dL_acts_200 : decode cL_acts 200 = .ok (.bipush 9, 2) := by decide +kernel
theorem dL_acts_202 : decode cL_acts 202 = .ok (.ishr, 1) := by decide +kernel
theorem dL_acts_203 : decode cL_acts 203 = .ok (.bipush 102, 2) := by decide +kernel
theorem dL_acts_205 : decode cL_acts 205 = .ok (.invokestatic 31, 3) := by decide +kernel
theorem dL_acts_208 : decode cL_acts 208 = .ok (.invokevirtual 67, 3) := by decide +kernel
theorem dL_acts_211 : decode cL_acts 211 = .ok (.ireturn, 1) := by decide +kernel
theorem dL_acts_212 : decode cL_acts 212 = .ok (.aload_n 0, 1) := by decide +kernel
theorem dL_acts_213 : decode cL_acts 213 = .ok (.iload_n 1, 1) := by decide +kernel
theorem dL_acts_214 : decode cL_acts 214 = .ok (.bipush 9, 2) := by decide +kernel
theorem dL_acts_216 : decode cL_acts 216 = .ok (.ishr, 1) := by decide +kernel
theorem dL_acts_217 : decode cL_acts 217 = .ok (.bipush 102, 2) := by decide +kernel
theorem dL_acts_219 : decode cL_acts 219 = .ok (.invokestatic 31, 3) := by decide +kernel
theorem dL_acts_222 : decode cL_acts 222 = .ok (.invokevirtual 70, 3) := by decide +kernel
theorem dL_acts_225 : decode cL_acts 225 = .ok (.ireturn, 1) := by decide +kernel
theorem dL_acts_226 : decode cL_acts 226 = .ok (.aload_n 0, 1) := by decide +kernel
theorem dL_acts_227 : decode cL_acts 227 = .ok (.iload_n 3, 1) := by decide +kernel
theorem dL_acts_228 : decode cL_acts 228 = .ok (.iconst 1, 1) := by decide +kernel
theorem dL_acts_229 : decode cL_acts 229 = .ok (.iload_n 1, 1) := by decide +kernel
theorem dL_acts_230 : decode cL_acts 230 = .ok (.bipush 9, 2) := by decide +kernel
theorem dL_acts_232 : decode cL_acts 232 = .ok (.ishr, 1) := by decide +kernel
theorem dL_acts_233 : decode cL_acts 233 = .ok (.sipush 4000, 3) := by decide +kernel
theorem dL_acts_236 : decode cL_acts 236 = .ok (.invokestatic 31, 3) := by decide +kernel
theorem dL_acts_239 : decode cL_acts 239 = .ok (.iadd, 1) := by decide +kernel
theorem dL_acts_240 : decode cL_acts 240 = .ok (.invokevirtual 73, 3) := by decide +kernel
theorem dL_acts_243 : decode cL_acts 243 = .ok (.ireturn, 1) := by decide +kernel
theorem dL_acts_244 : decode cL_acts 244 = .ok (.aload_n 0, 1) := by decide +kernel
theorem dL_acts_245 : decode cL_acts 245 = .ok (.iload 5, 2) := by decide +kernel
theorem dL_acts_247 : decode cL_acts 247 = .ok (.iconst 1, 1) := by decide +kernel
theorem dL_acts_248 : decode cL_acts 248 = .ok (.iload_n 1, 1) := by decide +kernel
theorem dL_acts_249 : decode cL_acts 249 = .ok (.bipush 9, 2) := by decide +kernel
theorem dL_acts_251 : decode cL_acts 251 = .ok (.ishr, 1) := by decide +kernel
theorem dL_acts_252 : decode cL_acts 252 = .ok (.sipush 2000, 3) := by decide +kernel
theorem dL_acts_255 : decode cL_acts 255 = .ok (.invokestatic 31, 3) := by decide +kernel
theorem dL_acts_258 : decode cL_acts 258 = .ok (.iadd, 1) := by decide +kernel
theorem dL_acts_259 : decode cL_acts 259 = .ok (.invokevirtual 76, 3) := by decide +kernel
theorem dL_acts_262 : decode cL_acts 262 = .ok (.ireturn, 1) := by decide +kernel
theorem dL_acts_263 : decode cL_acts 263 = .ok (.aload_n 0, 1) := by decide +kernel
theorem dL_acts_264 : decode cL_acts 264 = .ok (.iload 5, 2) := by decide +kernel
theorem dL_acts_266 : decode cL_acts 266 = .ok (.invokevirtual 79, 3) := by decide +kernel
theorem dL_acts_269 : decode cL_acts 269 = .ok (.ireturn, 1) := by decide +kernel
theorem dL_acts_270 : decode cL_acts 270 = .ok (.aload_n 0, 1) := by decide +kernel
theorem dL_acts_271 : decode cL_acts 271 = .ok (.iload_n 3, 1) := by decide +kernel
theorem dL_acts_272 : decode cL_acts 272 = .ok (.iload 4, 2) := by decide +kernel
theorem dL_acts_274 : decode cL_acts 274 = .ok (.iconst 1, 1) := by decide +kernel
theorem dL_acts_275 : decode cL_acts 275 = .ok (.iload_n 1, 1) := by decide +kernel
theorem dL_acts_276 : decode cL_acts 276 = .ok (.bipush 12, 2) := by decide +kernel
theorem dL_acts_278 : decode cL_acts 278 = .ok (.ishr, 1) := by decide +kernel
theorem dL_acts_279 : decode cL_acts 279 = .ok (.sipush 3000, 3) := by decide +kernel
theorem dL_acts_282 : decode cL_acts 282 = .ok (.invokestatic 31, 3) := by decide +kernel
theorem dL_acts_285 : decode cL_acts 285 = .ok (.iadd, 1) := by decide +kernel
theorem dL_acts_286 : decode cL_acts 286 = .ok (.invokevirtual 46, 3) := by decide +kernel
theorem dL_acts_289 : decode cL_acts 289 = .ok (.ireturn, 1) := by decide +kernel
theorem dL_acts_290 : decode cL_acts 290 = .ok (.aload_n 0, 1) := by decide +kernel
theorem dL_acts_291 : decode cL_acts 291 = .ok (.iload_n 1, 1) := by decide +kernel
theorem dL_acts_292 : decode cL_acts 292 = .ok (.bipush 9, 2) := by decide +kernel
theorem dL_acts_294 : decode cL_acts 294 = .ok (.ishr, 1) := by decide +kernel
theorem dL_acts_295 : decode cL_acts 295 = .ok (.bipush 13, 2) := by decide +kernel
theorem dL_acts_297 : decode cL_acts 297 = .ok (.invokestatic 31, 3) := by decide +kernel
theorem dL_acts_300 : decode cL_acts 300 = .ok (.invokevirtual 82, 3) := by decide +kernel
theorem dL_acts_303 : decode cL_acts 303 = .ok (.ireturn, 1) := by decide +kernel
theorem dL_acts_304 : decode cL_acts 304 = .ok (.aload_n 0, 1) := by decide +kernel
theorem dL_acts_305 : decode cL_acts 305 = .ok (.invokevirtual 55, 3) := by decide +kernel
theorem dL_acts_308 : decode cL_acts 308 = .ok (.ireturn, 1) := by decide +kernel

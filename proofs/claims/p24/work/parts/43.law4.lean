set_option maxRecDepth 20000 in
theorem ggL_law_X5_init : GoodIn wsL_law wsX5_init := goodIn_r _ [5, 6, 7, 8, 9, 10, 11, 12, 13, 14, 15, 16, 17, 18, 19, 20, 21, 22, 23, 24, 25, 26, 27, 28, 29, 30, 31, 32, 33, 34, 35, 36, 37, 38, 39, 40, 41, 42, 43, 44, 45, 46, 47, 48, 49, 50, 51, 52, 53, 54, 55, 56, 57, 58, 59, 60, 61, 62, 63, 64, 65, 66, 67, 68, 69, 70, 71, 72, 389, 390, 391, 392, 393, 394, 387, 388, 395, 396, 397, 398, 399, 400, 401, 402, 403, 404, 405, 406, 407, 408, 409, 410, 411, 412, 413, 414, 415, 416, 417, 418, 419, 420] (by decide +kernel) (by decide +kernel)
set_option maxRecDepth 20000 in
theorem gL_law_X5_init : GoodIn wsL_law (wsX5_init) := ggL_law_X5_init
set_option maxRecDepth 20000 in
theorem ggL_law_L_cell : GoodIn wsL_law wsL_cell := goodIn_r _ [76] (by decide +kernel) (by decide +kernel)
set_option maxRecDepth 20000 in
theorem gL_law_L_cell : GoodIn wsL_law (va_wsS RL 86 yL_cell wsL_cell) := goodIn_app (goodIn_of _ (by decide +kernel)) ggL_law_L_cell
set_option maxRecDepth 20000 in
theorem ggL_law_L_low : GoodIn wsL_law wsL_low := goodIn_r _ [79, 80] (by decide +kernel) (by decide +kernel)
set_option maxRecDepth 20000 in
theorem gL_law_L_low : GoodIn wsL_law (va_wsS RL 31 yL_low wsL_low) := goodIn_app (goodIn_of _ (by decide +kernel)) ggL_law_L_low
set_option maxRecDepth 20000 in
theorem ggL_law_X5_make : GoodIn wsL_law wsX5_make := goodIn_r _ [84, 12, 17, 85, 86, 16, 87, 70, 71, 23, 72, 68, 88, 89, 90, 15, 91, 92, 93, 94, 95, 96, 97, 98, 99, 100, 101, 102, 103, 104, 105, 106, 107, 108, 109, 110, 111, 112, 56, 113, 114, 115, 11, 116, 24, 28, 117, 29, 118, 119, 120, 121, 122, 123, 34, 124, 125, 126, 127, 35, 36, 37, 38, 39, 40, 41, 42, 43, 128, 129, 130, 27, 131, 47, 132, 48, 49, 50, 133, 64, 65, 66, 67, 69, 387, 388, 389, 390, 391, 392, 393, 394, 399, 400, 401, 402, 403, 404, 405, 406, 407, 408, 409, 395, 396, 397, 398, 415, 416, 417, 418, 419, 420, 410, 411, 412, 413, 414] (by decide +kernel) (by decide +kernel)
set_option maxRecDepth 20000 in
theorem gL_law_X5_make : GoodIn wsL_law (wsV RL 58 RX5 yX5_make wsX5_make) := goodIn_app (goodIn_of _ (by decide +kernel)) ggL_law_X5_make
set_option maxRecDepth 20000 in
theorem ggL_law_X5_allot : GoodIn wsL_law wsX5_allot := goodIn_r _ [137, 12, 17, 138, 139, 16, 140, 87, 70, 71, 23, 72, 68, 141, 142, 2, 143, 144, 88, 89, 90, 15, 91, 92, 93, 94, 95, 96, 97, 98, 99, 100, 101, 102, 103, 104, 105, 106, 107, 108, 109, 110, 111, 112, 56, 113, 114, 115, 11, 116, 24, 28, 117, 29, 118, 119, 120, 121, 122, 123, 34, 124, 125, 126, 127, 35, 36, 37, 38, 39, 40, 41, 42, 43, 128, 129, 130, 27, 131, 47, 132, 48, 49, 50, 133, 387, 388, 389, 390, 391, 392, 393, 394, 399, 400, 401, 402, 403, 404, 405, 406, 407, 408, 409, 395, 396, 397, 398, 415, 416, 417, 418, 419, 420, 410, 411, 412, 413, 414] (by decide +kernel) (by decide +kernel)
set_option maxRecDepth 20000 in
theorem gL_law_X5_allot : GoodIn wsL_law (wsV RL 61 RX5 yX5_allot wsX5_allot) := goodIn_app (goodIn_of _ (by decide +kernel)) ggL_law_X5_allot
set_option maxRecDepth 20000 in
theorem ggL_law_L_all : GoodIn wsL_law wsL_all := goodIn_r _ [147, 148, 149, 150, 151, 152, 2, 153, 12, 154, 17, 86, 155, 156, 157, 158, 159, 16, 160, 161, 162, 163, 27, 164, 48, 165, 166, 167, 23, 168, 169, 170, 171, 172, 37, 34, 69, 70, 71, 72, 68, 173, 174, 175, 176, 177, 178, 179, 180, 181, 182, 183, 184, 38, 39, 40, 185, 186, 187, 188, 189, 190, 191, 192, 193, 85, 194, 195, 138, 196, 197, 140, 198, 199, 87, 200, 201, 202, 203, 204, 205, 206, 207, 208, 209, 210, 211, 212, 213, 214, 215, 216, 217, 218, 219, 220, 221, 222, 223, 224, 133, 387, 388, 389, 390, 391, 392, 393, 394, 399, 400, 401, 402, 403, 404, 405, 406, 407, 408, 409, 410, 411, 412, 413, 414, 395, 396, 397, 398] (by decide +kernel) (by decide +kernel)
set_option maxRecDepth 20000 in
theorem gL_law_L_all : GoodIn wsL_law (va_wsS RL 39 yL_all wsL_all) := goodIn_app (goodIn_of _ (by decide +kernel)) ggL_law_L_all
set_option maxRecDepth 20000 in
theorem ggL_law_L_acts : GoodIn wsL_law wsL_acts := goodIn_r _ [227, 150, 151, 152, 2, 153, 12, 154, 17, 86, 155, 156, 157, 158, 159, 16, 160, 161, 162, 163, 27, 164, 48, 165, 166, 167, 23, 168, 169, 170, 171, 172, 37, 34, 69, 70, 71, 72, 68, 173, 174, 175, 176, 177, 178, 179, 180, 181, 182, 183, 184, 38, 39, 40, 185, 186, 187, 188, 77, 78, 75, 79, 80, 81, 82, 83, 84, 85, 87, 88, 89, 90, 15, 91, 92, 93, 94, 95, 96, 97, 98, 99, 100, 101, 102, 103, 104, 105, 106, 107, 108, 109, 110, 111, 112, 56, 113, 114, 115, 11, 116, 24, 28, 117, 29, 118, 119, 120, 121, 122, 123, 124, 125, 126, 127, 35, 36, 41, 42, 43, 128, 129, 130, 131, 47, 132, 49, 50, 133, 64, 65, 66, 67, 134, 135, 136, 137, 138, 139, 140, 141, 142, 143, 144, 228, 229, 230, 231, 195, 232, 233, 234, 235, 199, 236, 237, 238, 239, 240, 241, 242, 243, 244, 245, 246, 200, 201, 247, 248, 249, 250, 251, 252, 253, 254, 255, 256, 257, 258, 259, 260, 261, 262, 218, 219, 217, 221, 222, 223, 224, 263, 264, 265, 266, 267, 268, 269, 270, 271, 272, 273, 274, 275, 276, 277, 278, 279, 280, 281, 282, 283, 284, 285, 286, 287, 288, 289, 290, 291, 292, 293, 294, 295, 296, 297, 298, 299, 300, 301, 302, 303, 210, 211, 212, 304, 305, 306, 307, 308, 309, 310, 311, 312, 313, 314, 315, 316, 317, 318, 319, 320, 321, 322, 323, 324, 325, 326, 327, 328, 329, 330, 331, 332, 333, 334, 335, 336, 337, 338, 339, 340, 341, 342, 206, 207, 208, 209, 343, 344, 345, 346, 387, 388, 389, 390, 391, 392, 393, 394, 399, 400, 401, 402, 403, 404, 405, 406, 407, 408, 409, 410, 411, 412, 413, 414, 395, 396, 397, 398, 415, 416, 417, 418, 419, 420] (by decide +kernel) (by decide +kernel)
set_option maxRecDepth 20000 in
theorem gL_law_L_acts : GoodIn wsL_law (va_wsS RL 90 yL_acts wsL_acts) := goodIn_app (goodIn_of _ (by decide +kernel)) ggL_law_L_acts
set_option maxRecDepth 20000 in
theorem ggL_law_X5_undo : GoodIn wsL_law wsX5_undo := goodIn_r _ [350, 16, 12, 316, 322, 110, 111, 15, 112, 96, 56, 97, 105, 106, 107, 108, 351, 114, 115, 11, 116, 24, 28, 117, 29, 118, 119, 120, 121, 122, 23, 123, 34, 124, 125, 126, 127, 35, 36, 37, 38, 39, 40, 41, 42, 43, 68, 128, 129, 130, 27, 131, 47, 132, 48, 49, 50, 133, 352, 353, 354, 355, 387, 388, 415, 416, 417, 418, 419, 420, 395, 396, 397, 398, 389, 390, 391, 392, 393, 394, 399, 400, 401, 402, 403, 404, 405, 406, 407, 408, 409, 410, 411, 412, 413, 414] (by decide +kernel) (by decide +kernel)
set_option maxRecDepth 20000 in
theorem gL_law_X5_undo : GoodIn wsL_law (wsV RL 51 RX5 yX5_undo wsX5_undo) := goodIn_app (goodIn_of _ (by decide +kernel)) ggL_law_X5_undo
set_option maxRecDepth 20000 in
theorem ggL_law_L_isSound : GoodIn wsL_law wsL_isSound := goodIn_r _ [358, 150, 151, 152, 2, 153, 12, 154, 17, 86, 155, 156, 157, 158, 159, 16, 160, 161, 162, 163, 27, 164, 48, 165, 166, 167, 23, 168, 169, 170, 171, 172, 37, 34, 69, 70, 71, 72, 68, 173, 174, 175, 176, 177, 178, 179, 180, 181, 182, 183, 184, 38, 39, 40, 185, 186, 187, 188, 189, 190, 191, 192, 193, 85, 194, 195, 138, 196, 197, 140, 198, 199, 87, 200, 201, 359, 360, 361, 362, 213, 214, 215, 216, 217, 218, 219, 220, 221, 222, 223, 224, 133, 202, 203, 204, 205, 206, 207, 208, 209, 210, 211, 212, 387, 388, 389, 390, 391, 392, 393, 394, 399, 400, 401, 402, 403, 404, 405, 406, 407, 408, 409, 410, 411, 412, 413, 414, 395, 396, 397, 398] (by decide +kernel) (by decide +kernel)
set_option maxRecDepth 20000 in
theorem gL_law_L_isSound : GoodIn wsL_law (va_wsS RL 94 yL_isSound wsL_isSound) := goodIn_app (goodIn_of _ (by decide +kernel)) ggL_law_L_isSound
set_option maxRecDepth 20000 in
theorem ggL_law_L_isMost : GoodIn wsL_law wsL_isMost := goodIn_r _ [365, 366, 150, 151, 152, 2, 153, 12, 154, 17, 86, 155, 156, 157, 158, 159, 16, 160, 161, 162, 163, 27, 164, 48, 165, 166, 167, 23, 168, 169, 170, 171, 172, 37, 34, 69, 70, 71, 72, 68, 173, 174, 175, 176, 177, 178, 179, 180, 181, 182, 183, 184, 38, 39, 40, 185, 186, 187, 188, 77, 78, 75, 79, 80, 367, 368, 369, 370, 283, 284, 285, 286, 287, 288, 289, 290, 41, 43, 42, 291, 292, 293, 294, 295, 296, 297, 298, 299, 300, 301, 302, 303, 36, 210, 211, 212, 145, 146, 147, 148, 149, 189, 190, 191, 192, 193, 85, 194, 195, 138, 196, 197, 140, 198, 199, 87, 200, 201, 202, 203, 204, 205, 206, 207, 208, 209, 213, 214, 215, 216, 217, 218, 219, 220, 221, 222, 223, 224, 133, 371, 372, 373, 374, 375, 376, 377, 378, 379, 359, 360, 361, 362, 279, 280, 281, 282, 141, 142, 143, 144, 304, 305, 306, 15, 307, 92, 93, 94, 95, 96, 97, 98, 99, 100, 101, 102, 103, 104, 105, 106, 107, 108, 109, 110, 111, 112, 56, 113, 114, 115, 11, 116, 24, 28, 117, 29, 118, 119, 120, 121, 122, 123, 124, 125, 126, 127, 35, 128, 129, 130, 131, 47, 132, 49, 50, 308, 309, 310, 311, 347, 348, 349, 350, 316, 322, 351, 352, 353, 354, 355, 387, 388, 389, 390, 391, 392, 393, 394, 399, 400, 401, 402, 403, 404, 405, 406, 407, 408, 409, 410, 411, 412, 413, 414, 395, 396, 397, 398, 415, 416, 417, 418, 419, 420] (by decide +kernel) (by decide +kernel)
set_option maxRecDepth 20000 in
theorem gL_law_L_isMost : GoodIn wsL_law (va_wsS RL 98 yL_isMost wsL_isMost) := goodIn_app (goodIn_of _ (by decide +kernel)) ggL_law_L_isMost
set_option maxRecDepth 20000 in
theorem ggL_law_L_isEnded : GoodIn wsL_law wsL_isEnded := goodIn_r _ [382, 150, 151, 152, 2, 153, 12, 154, 17, 86, 155, 156, 157, 158, 159, 16, 160, 161, 162, 163, 27, 164, 48, 165, 166, 167, 23, 168, 169, 170, 171, 172, 37, 34, 69, 70, 71, 72, 68, 173, 174, 175, 176, 177, 178, 179, 180, 181, 182, 183, 184, 38, 39, 40, 185, 186, 187, 188, 339, 340, 341, 342, 88, 89, 90, 15, 91, 92, 93, 94, 95, 96, 97, 98, 99, 100, 101, 102, 103, 104, 105, 106, 107, 108, 109, 110, 111, 112, 56, 113, 114, 115, 11, 116, 24, 28, 117, 29, 118, 119, 120, 121, 122, 123, 124, 125, 126, 127, 35, 36, 41, 42, 43, 128, 129, 130, 131, 47, 132, 49, 50, 133, 206, 207, 208, 209, 210, 211, 212, 343, 344, 345, 346, 145, 146, 75, 147, 148, 149, 189, 190, 191, 192, 193, 85, 194, 195, 138, 196, 197, 140, 198, 199, 87, 200, 201, 202, 203, 204, 205, 213, 214, 215, 216, 217, 218, 219, 220, 221, 222, 223, 224, 359, 360, 361, 362, 347, 348, 349, 350, 316, 322, 351, 352, 353, 354, 355, 387, 388, 389, 390, 391, 392, 393, 394, 399, 400, 401, 402, 403, 404, 405, 406, 407, 408, 409, 410, 411, 412, 413, 414, 395, 396, 397, 398, 415, 416, 417, 418, 419, 420] (by decide +kernel) (by decide +kernel)
set_option maxRecDepth 20000 in
theorem gL_law_L_isEnded : GoodIn wsL_law (va_wsS RL 102 yL_isEnded wsL_isEnded) := goodIn_app (goodIn_of _ (by decide +kernel)) ggL_law_L_isEnded
set_option maxRecDepth 20000 in
theorem ggL_law_X5_count : GoodIn wsL_law wsX5_count := goodIn_r _ [153, 12, 154, 17, 86, 155, 156, 157, 158, 159, 16, 160, 161, 162, 163, 27, 164, 48, 165, 166, 167, 23, 168, 169, 170, 171, 172, 37, 34, 69, 70, 71, 72, 68, 173, 174, 175, 176, 177, 178, 179, 180, 181, 182, 183, 184, 38, 39, 40, 185, 186, 187, 188, 387, 388, 389, 390, 391, 392, 393, 394, 399, 400, 401, 402, 403, 404, 405, 406, 407, 408, 409, 410, 411, 412, 413, 414, 395, 396, 397, 398] (by decide +kernel) (by decide +kernel)
set_option maxRecDepth 20000 in
theorem gL_law_X5_count : GoodIn wsL_law (wsV RL 12 RX5 yX5_count wsX5_count) := goodIn_app (goodIn_of _ (by decide +kernel)) ggL_law_X5_count
set_option maxRecDepth 20000 in
theorem ggL_law_X5_deed : GoodIn wsL_law wsX5_deed := goodIn_r _ [386, 16, 318, 322, 110, 111, 15, 112, 96, 56, 97, 105, 106, 107, 108, 387, 388, 415, 416, 417, 418, 419, 420, 395, 396, 397, 398] (by decide +kernel) (by decide +kernel)
set_option maxRecDepth 20000 in
theorem gL_law_X5_deed : GoodIn wsL_law (wsV RL 105 RX5 yX5_deed wsX5_deed) := goodIn_app (goodIn_of _ (by decide +kernel)) ggL_law_X5_deed
set_option maxRecDepth 20000 in
theorem ggL_law_X5_revoke : GoodIn wsL_law wsX5_revoke := goodIn_r _ [315, 16, 316, 154, 12, 317, 318, 319, 320, 321, 322, 110, 111, 15, 112, 96, 56, 97, 105, 106, 107, 108, 323, 324, 325, 326, 101, 102, 109, 327, 328, 329, 2, 330, 17, 201, 186, 187, 23, 188, 38, 39, 40, 69, 70, 71, 72, 68, 331, 332, 333, 334, 92, 93, 94, 95, 98, 99, 100, 103, 104, 113, 114, 115, 11, 116, 24, 28, 117, 29, 118, 119, 120, 121, 122, 123, 34, 124, 125, 126, 127, 35, 36, 37, 41, 42, 43, 128, 129, 130, 27, 131, 47, 132, 48, 49, 50, 133, 308, 309, 310, 311, 299, 284, 285, 286, 335, 336, 337, 338, 155, 218, 221, 222, 223, 224, 271, 272, 273, 274, 275, 276, 277, 278, 252, 253, 254, 387, 388, 415, 416, 417, 418, 419, 420, 389, 390, 391, 392, 393, 394, 395, 396, 397, 398, 399, 400, 401, 402, 403, 404, 405, 406, 407, 408, 409, 410, 411, 412, 413, 414] (by decide +kernel) (by decide +kernel)
set_option maxRecDepth 20000 in
theorem gL_law_X5_revoke : GoodIn wsL_law (wsV RL 82 RX5 yX5_revoke wsX5_revoke) := goodIn_app (goodIn_of _ (by decide +kernel)) ggL_law_X5_revoke
set_option maxRecDepth 20000 in
theorem ggL_law_X5_commitment : GoodIn wsL_law wsX5_commitment := goodIn_r _ [216, 12, 155, 217, 218, 219, 220, 221, 222, 223, 27, 224, 133, 387, 388, 389, 390, 391, 392, 393, 394, 410, 411, 412, 413, 414] (by decide +kernel) (by decide +kernel)
set_option maxRecDepth 20000 in
theorem gL_law_X5_commitment : GoodIn wsL_law (wsV RL 25 RX5 yX5_commitment wsX5_commitment) := goodIn_app (goodIn_of _ (by decide +kernel)) ggL_law_X5_commitment
set_option maxRecDepth 20000 in
theorem ggL_law_X5_head : GoodIn wsL_law wsX5_head := goodIn_r _ [192, 12, 17, 193, 85, 194, 195, 138, 196, 197, 140, 198, 199, 87, 70, 71, 23, 72, 68, 200, 170, 171, 172, 37, 34, 69, 201, 186, 187, 188, 38, 39, 40, 387, 388, 389, 390, 391, 392, 393, 394, 399, 400, 401, 402, 403, 404, 405, 406, 407, 408, 409] (by decide +kernel) (by decide +kernel)
set_option maxRecDepth 20000 in
theorem gL_law_X5_head : GoodIn wsL_law (wsV RL 18 RX5 yX5_head wsX5_head) := goodIn_app (goodIn_of _ (by decide +kernel)) ggL_law_X5_head
theorem dL_law_0 : decode cL_law 0 = .ok (.new 13, 3) := by decide +kernel
theorem dL_law_3 : decode cL_law 3 = .ok (.dup, 1) := by decide +kernel
theorem dL_law_4 : decode cL_law 4 = .ok (.invokespecial 85, 3) := by decide +kernel
theorem dL_law_7 : decode cL_law 7 = .ok (.astore_n 1, 1) := by decide +kernel
theorem dL_law_8 : decode cL_law 8 = .ok (.aload_n 0, 1) := by decide +kernel
theorem dL_law_9 : decode cL_law 9 = .ok (.iconst 0, 1) := by decide +kernel
theorem dL_law_10 : decode cL_law 10 = .ok (.invokestatic 86, 3) := by decide +kernel
theorem dL_law_13 : decode cL_law 13 = .ok (.istore_n 2, 1) := by decide +kernel
theorem dL_law_14 : decode cL_law 14 = .ok (.iconst 0, 1) := by decide +kernel
theorem dL_law_15 : decode cL_law 15 = .ok (.istore_n 3, 1) := by decide +kernel
theorem dL_law_16 : decode cL_law 16 = .ok (.iload_n 3, 1) := by decide +kernel
theorem dL_law_17 : decode cL_law 17 = .ok (.iconst 3, 1) := by decide +kernel
theorem dL_law_18 : decode cL_law 18 = .ok (.if_icmp .ge 59, 3) := by decide +kernel
theorem dL_law_21 : decode cL_law 21 = .ok (.aload_n 1, 1) := by decide +kernel
theorem dL_law_22 : decode cL_law 22 = .ok (.iload_n 2, 1) := by decide +kernel
theorem dL_law_23 : decode cL_law 23 = .ok (.iconst 2, 1) := by decide +kernel
theorem dL_law_24 : decode cL_law 24 = .ok (.iload_n 3, 1) := by decide +kernel
theorem dL_law_25 : decode cL_law 25 = .ok (.imul, 1) := by decide +kernel
theorem dL_law_26 : decode cL_law 26 = .ok (.ishr, 1) := by decide +kernel
theorem dL_law_27 : decode cL_law 27 = .ok (.iload_n 3, 1) := by decide +kernel
theorem dL_law_28 : decode cL_law 28 = .ok (.iconst 1, 1) := by decide +kernel
theorem dL_law_29 : decode cL_law 29 = .ok (.iadd, 1) := by decide +kernel
theorem dL_law_30 : decode cL_law 30 = .ok (.invokestatic 31, 3) := by decide +kernel
theorem dL_law_33 : decode cL_law 33 = .ok (.iload_n 2, 1) := by decide +kernel
theorem dL_law_34 : decode cL_law 34 = .ok (.bipush 7, 2) := by decide +kernel
theorem dL_law_36 : decode cL_law 36 = .ok (.iconst 3, 1) := by decide +kernel
theorem dL_law_37 : decode cL_law 37 = .ok (.iload_n 3, 1) := by decide +kernel
theorem dL_law_38 : decode cL_law 38 = .ok (.imul, 1) := by decide +kernel
theorem dL_law_39 : decode cL_law 39 = .ok (.iadd, 1) := by decide +kernel
theorem dL_law_40 : decode cL_law 40 = .ok (.ishr, 1) := by decide +kernel
theorem dL_law_41 : decode cL_law 41 = .ok (.bipush 10, 2) := by decide +kernel
theorem dL_law_43 : decode cL_law 43 = .ok (.invokestatic 31, 3) := by decide +kernel
theorem dL_law_46 : decode cL_law 46 = .ok (.invokevirtual 58, 3) := by decide +kernel
theorem dL_law_49 : decode cL_law 49 = .ok (.pop, 1) := by decide +kernel
theorem dL_law_50 : decode cL_law 50 = .ok (.aload_n 1, 1) := by decide +kernel
theorem dL_law_51 : decode cL_law 51 = .ok (.iload_n 3, 1) := by decide +kernel
theorem dL_law_52 : decode cL_law 52 = .ok (.iconst 1, 1) := by decide +kernel
theorem dL_law_53 : decode cL_law 53 = .ok (.iadd, 1) := by decide +kernel
theorem dL_law_54 : decode cL_law 54 = .ok (.iconst 1, 1) := by decide +kernel
theorem dL_law_55 : decode cL_law 55 = .ok (.iload_n 2, 1) := by decide +kernel
theorem dL_law_56 : decode cL_law 56 = .ok (.iconst 5, 1) := by decide +kernel
theorem dL_law_57 : decode cL_law 57 = .ok (.iload_n 3, 1) := by decide +kernel
theorem dL_law_58 : decode cL_law 58 = .ok (.imul, 1) := by decide +kernel
theorem dL_law_59 : decode cL_law 59 = .ok (.ishr, 1) := by decide +kernel
theorem dL_law_60 : decode cL_law 60 = .ok (.sipush 9000, 3) := by decide +kernel
theorem dL_law_63 : decode cL_law 63 = .ok (.invokestatic 31, 3) := by decide +kernel
theorem dL_law_66 : decode cL_law 66 = .ok (.iadd, 1) := by decide +kernel
theorem dL_law_67 : decode cL_law 67 = .ok (.invokevirtual 61, 3) := by decide +kernel
theorem dL_law_70 : decode cL_law 70 = .ok (.pop, 1) := by decide +kernel
theorem dL_law_71 : decode cL_law 71 = .ok (.iinc 3 1, 3) := by decide +kernel
theorem dL_law_74 : decode cL_law 74 = .ok (.goto (-58), 3) := by decide +kernel
theorem dL_law_77 : decode cL_law 77 = .ok (.iconst 0, 1) := by decide +kernel
theorem dL_law_78 : decode cL_law 78 = .ok (.istore_n 3, 1) := by decide +kernel
theorem dL_law_79 : decode cL_law 79 = .ok (.iload_n 3, 1) := by decide +kernel
theorem dL_law_80 : decode cL_law 80 = .ok (.bipush 24, 2) := by decide +kernel
theorem dL_law_82 : decode cL_law 82 = .ok (.if_icmp .ge 133, 3) := by decide +kernel
theorem dL_law_85 : decode cL_law 85 = .ok (.aload_n 0, 1) := by decide +kernel
theorem dL_law_86 : decode cL_law 86 = .ok (.iconst 1, 1) := by decide +kernel
theorem dL_law_87 : decode cL_law 87 = .ok (.iload_n 3, 1) := by decide +kernel
theorem dL_law_88 : decode cL_law 88 = .ok (.iadd, 1) := by decide +kernel
theorem dL_law_89 : decode cL_law 89 = .ok (.invokestatic 86, 3) := by decide +kernel
theorem dL_law_92 : decode cL_law 92 = .ok (.istore 4, 2) := by decide +kernel
theorem dL_law_94 : decode cL_law 94 = .ok (.aload_n 1, 1) := by decide +kernel
theorem dL_law_95 : decode cL_law 95 = .ok (.invokestatic 39, 3) := by decide +kernel
theorem dL_law_98 : decode cL_law 98 = .ok (.lstore 5, 2) := by decide +kernel
theorem dL_law_100 : decode cL_law 100 = .ok (.aload_n 1, 1) := by decide +kernel
theorem dL_law_101 : decode cL_law 101 = .ok (.iload 4, 2) := by decide +kernel
theorem dL_law_103 : decode cL_law 103 = .ok (.invokestatic 90, 3) := by decide +kernel
theorem dL_law_106 : decode cL_law 106 = .ok (.istore 7, 2) := by decide +kernel
theorem dL_law_108 : decode cL_law 108 = .ok (.iload 7, 2) := by decide +kernel
theorem dL_law_110 : decode cL_law 110 = .ok (.ifCond .ge 15, 3) := by decide +kernel
theorem dL_law_113 : decode cL_law 113 = .ok (.aload_n 1, 1) := by decide +kernel
theorem dL_law_114 : decode cL_law 114 = .ok (.invokestatic 39, 3) := by decide +kernel
theorem dL_law_117 : decode cL_law 117 = .ok (.lload 5, 2) := by decide +kernel
theorem dL_law_119 : decode cL_law 119 = .ok (.lcmp, 1) := by decide +kernel
theorem dL_law_120 : decode cL_law 120 = .ok (.ifCond .eq 5, 3) := by decide +kernel
theorem dL_law_123 : decode cL_law 123 = .ok (.iconst 0, 1) := by decide +kernel
theorem dL_law_124 : decode cL_law 124 = .ok (.ireturn, 1) := by decide +kernel
theorem dL_law_125 : decode cL_law 125 = .ok (.iload 7, 2) := by decide +kernel
theorem dL_law_127 : decode cL_law 127 = .ok (.ifCond .lt 32, 3) := by decide +kernel
theorem dL_law_130 : decode cL_law 130 = .ok (.iload 4, 2) := by decide +kernel
theorem dL_law_132 : decode cL_law 132 = .ok (.bipush 28, 2) := by decide +kernel
theorem dL_law_134 : decode cL_law 134 = .ok (.ishr, 1) := by decide +kernel
theorem dL_law_135 : decode cL_law 135 = .ok (.iconst 3, 1) := by decide +kernel
theorem dL_law_136 : decode cL_law 136 = .ok (.iand, 1) := by decide +kernel
theorem dL_law_137 : decode cL_law 137 = .ok (.ifCond .ne 22, 3) := by decide +kernel
theorem dL_law_140 : decode cL_law 140 = .ok (.aload_n 1, 1) := by decide +kernel
theorem dL_law_141 : decode cL_law 141 = .ok (.invokevirtual 51, 3) := by decide +kernel
theorem dL_law_144 : decode cL_law 144 = .ok (.ifCond .lt 13, 3) := by decide +kernel
theorem dL_law_147 : decode cL_law 147 = .ok (.aload_n 1, 1) := by decide +kernel
theorem dL_law_148 : decode cL_law 148 = .ok (.invokestatic 39, 3) := by decide +kernel
theorem dL_law_151 : decode cL_law 151 = .ok (.lload 5, 2) := by decide +kernel
theorem dL_law_153 : decode cL_law 153 = .ok (.lcmp, 1) := by decide +kernel
theorem dL_law_154 : decode cL_law 154 = .ok (.ifCond .eq 5, 3) := by decide +kernel
theorem dL_law_157 : decode cL_law 157 = .ok (.iconst 0, 1) := by decide +kernel
theorem dL_law_158 : decode cL_law 158 = .ok (.ireturn, 1) := by decide +kernel
theorem dL_law_159 : decode cL_law 159 = .ok (.iload_n 3, 1) := by decide +kernel
theorem dL_law_160 : decode cL_law 160 = .ok (.iconst 3, 1) := by decide +kernel
theorem dL_law_161 : decode cL_law 161 = .ok (.irem, 1) := by decide +kernel
theorem dL_law_162 : decode cL_law 162 = .ok (.iconst 1, 1) := by decide +kernel
theorem dL_law_163 : decode cL_law 163 = .ok (.if_icmp .ne 10, 3) := by decide +kernel
theorem dL_law_166 : decode cL_law 166 = .ok (.aload_n 1, 1) := by decide +kernel
theorem dL_law_167 : decode cL_law 167 = .ok (.invokestatic 94, 3) := by decide +kernel
theorem dL_law_170 : decode cL_law 170 = .ok (.ifCond .eq 37, 3) := by decide +kernel
theorem dL_law_173 : decode cL_law 173 = .ok (.iload_n 3, 1) := by decide +kernel
theorem dL_law_174 : decode cL_law 174 = .ok (.iconst 3, 1) := by decide +kernel
theorem dL_law_175 : decode cL_law 175 = .ok (.irem, 1) := by decide +kernel
theorem dL_law_176 : decode cL_law 176 = .ok (.iconst 2, 1) := by decide +kernel
theorem dL_law_177 : decode cL_law 177 = .ok (.if_icmp .ne 15, 3) := by decide +kernel
theorem dL_law_180 : decode cL_law 180 = .ok (.aload_n 1, 1) := by decide +kernel
theorem dL_law_181 : decode cL_law 181 = .ok (.iload 4, 2) := by decide +kernel
theorem dL_law_183 : decode cL_law 183 = .ok (.bipush 7, 2) := by decide +kernel
theorem dL_law_185 : decode cL_law 185 = .ok (.ishr, 1) := by decide +kernel
theorem dL_law_186 : decode cL_law 186 = .ok (.invokestatic 98, 3) := by decide +kernel
theorem dL_law_189 : decode cL_law 189 = .ok (.ifCond .eq 18, 3) := by decide +kernel
theorem dL_law_192 : decode cL_law 192 = .ok (.iload_n 3, 1) := by decide +kernel
theorem dL_law_193 : decode cL_law 193 = .ok (.bipush 8, 2) := by decide +kernel
theorem dL_law_195 : decode cL_law 195 = .ok (.irem, 1) := by decide +kernel
theorem dL_law_196 : decode cL_law 196 = .ok (.iconst 5, 1) := by decide +kernel
theorem dL_law_197 : decode cL_law 197 = .ok (.if_icmp .ne 12, 3) := by decide +kernel
theorem dL_law_200 : decode cL_law 200 = .ok (.aload_n 1, 1) := by decide +kernel
theorem dL_law_201 : decode cL_law 201 = .ok (.invokestatic 102, 3) := by decide +kernel
theorem dL_law_204 : decode cL_law 204 = .ok (.ifCond .ne 5, 3) := by decide +kernel
theorem dL_law_207 : decode cL_law 207 = .ok (.iconst 0, 1) := by decide +kernel
theorem dL_law_208 : decode cL_law 208 = .ok (.ireturn, 1) := by decide +kernel
theorem dL_law_209 : decode cL_law 209 = .ok (.iinc 3 1, 3) := by decide +kernel
theorem dL_law_212 : decode cL_law 212 = .ok (.goto (-133), 3) := by decide +kernel
theorem dL_law_215 : decode cL_law 215 = .ok (.aload_n 1, 1) := by decide +kernel
theorem dL_law_216 : decode cL_law 216 = .ok (.bipush 9, 2) := by decide +kernel
theorem dL_law_218 : decode cL_law 218 = .ok (.invokevirtual 12, 3) := by decide +kernel
theorem dL_law_221 : decode cL_law 221 = .ok (.istore_n 3, 1) := by decide +kernel
theorem dL_law_222 : decode cL_law 222 = .ok (.iconst 0, 1) := by decide +kernel
theorem dL_law_223 : decode cL_law 223 = .ok (.istore 4, 2) := by decide +kernel
theorem dL_law_225 : decode cL_law 225 = .ok (.iload 4, 2) := by decide +kernel
theorem dL_law_227 : decode cL_law 227 = .ok (.iload_n 3, 1) := by decide +kernel
theorem dL_law_228 : decode cL_law 228 = .ok (.if_icmp .ge 50, 3) := by decide +kernel
theorem dL_law_231 : decode cL_law 231 = .ok (.aload_n 1, 1) := by decide +kernel
theorem dL_law_232 : decode cL_law 232 = .ok (.iconst 0, 1) := by decide +kernel
theorem dL_law_233 : decode cL_law 233 = .ok (.invokevirtual 105, 3) := by decide +kernel
theorem dL_law_236 : decode cL_law 236 = .ok (.istore 5, 2) := by decide +kernel
theorem dL_law_238 : decode cL_law 238 = .ok (.iload 5, 2) := by decide +kernel
theorem dL_law_240 : decode cL_law 240 = .ok (.ifCond .lt 30, 3) := by decide +kernel
theorem dL_law_243 : decode cL_law 243 = .ok (.iload 5, 2) := by decide +kernel
theorem dL_law_245 : decode cL_law 245 = .ok (.bipush 10, 2) := by decide +kernel
theorem dL_law_247 : decode cL_law 247 = .ok (.if_icmp .gt 23, 3) := by decide +kernel
theorem dL_law_250 : decode cL_law 250 = .ok (.aload_n 1, 1) := by decide +kernel
theorem dL_law_251 : decode cL_law 251 = .ok (.invokevirtual 51, 3) := by decide +kernel
theorem dL_law_254 : decode cL_law 254 = .ok (.iload_n 3, 1) := by decide +kernel
theorem dL_law_255 : decode cL_law 255 = .ok (.iconst 1, 1) := by decide +kernel
theorem dL_law_256 : decode cL_law 256 = .ok (.isub, 1) := by decide +kernel
theorem dL_law_257 : decode cL_law 257 = .ok (.iload 4, 2) := by decide +kernel
theorem dL_law_259 : decode cL_law 259 = .ok (.isub, 1) := by decide +kernel
theorem dL_law_260 : decode cL_law 260 = .ok (.if_icmp .ne 10, 3) := by decide +kernel
theorem dL_law_263 : decode cL_law 263 = .ok (.aload_n 1, 1) := by decide +kernel
theorem dL_law_264 : decode cL_law 264 = .ok (.invokestatic 94, 3) := by decide +kernel
theorem dL_law_267 : decode cL_law 267 = .ok (.ifCond .ne 5, 3) := by decide +kernel
theorem dL_law_270 : decode cL_law 270 = .ok (.iconst 0, 1) := by decide +kernel
theorem dL_law_271 : decode cL_law 271 = .ok (.ireturn, 1) := by decide +kernel
theorem dL_law_272 : decode cL_law 272 = .ok (.iinc 4 1, 3) := by decide +kernel
theorem dL_law_275 : decode cL_law 275 = .ok (.goto (-50), 3) := by decide +kernel
theorem dL_law_278 : decode cL_law 278 = .ok (.aload_n 1, 1) := by decide +kernel
theorem dL_law_279 : decode cL_law 279 = .ok (.invokestatic 39, 3) := by decide +kernel
theorem dL_law_282 : decode cL_law 282 = .ok (.lstore 4, 2) := by decide +kernel
theorem dL_law_284 : decode cL_law 284 = .ok (.aload_n 1, 1) := by decide +kernel
theorem dL_law_285 : decode cL_law 285 = .ok (.invokevirtual 51, 3) := by decide +kernel
theorem dL_law_288 : decode cL_law 288 = .ok (.bipush (-2), 2) := by decide +kernel
theorem dL_law_290 : decode cL_law 290 = .ok (.if_icmp .ne 69, 3) := by decide +kernel
theorem dL_law_293 : decode cL_law 293 = .ok (.aload_n 1, 1) := by decide +kernel
theorem dL_law_294 : decode cL_law 294 = .ok (.iconst 0, 1) := by decide +kernel
theorem dL_law_295 : decode cL_law 295 = .ok (.invokevirtual 105, 3) := by decide +kernel
theorem dL_law_298 : decode cL_law 298 = .ok (.bipush (-9), 2) := by decide +kernel
theorem dL_law_300 : decode cL_law 300 = .ok (.if_icmp .ne 59, 3) := by decide +kernel
theorem dL_law_303 : decode cL_law 303 = .ok (.aload_n 1, 1) := by decide +kernel
theorem dL_law_304 : decode cL_law 304 = .ok (.iconst 0, 1) := by decide +kernel
theorem dL_law_305 : decode cL_law 305 = .ok (.invokevirtual 82, 3) := by decide +kernel
theorem dL_law_308 : decode cL_law 308 = .ok (.bipush (-2), 2) := by decide +kernel
theorem dL_law_310 : decode cL_law 310 = .ok (.if_icmp .ne 49, 3) := by decide +kernel
theorem dL_law_313 : decode cL_law 313 = .ok (.aload_n 1, 1) := by decide +kernel
theorem dL_law_314 : decode cL_law 314 = .ok (.invokestatic 39, 3) := by decide +kernel
theorem dL_law_317 : decode cL_law 317 = .ok (.lload 4, 2) := by decide +kernel
theorem dL_law_319 : decode cL_law 319 = .ok (.lcmp, 1) := by decide +kernel
theorem dL_law_320 : decode cL_law 320 = .ok (.ifCond .ne 39, 3) := by decide +kernel
theorem dL_law_323 : decode cL_law 323 = .ok (.aload_n 1, 1) := by decide +kernel
theorem dL_law_324 : decode cL_law 324 = .ok (.bipush 10, 2) := by decide +kernel
theorem dL_law_326 : decode cL_law 326 = .ok (.invokevirtual 12, 3) := by decide +kernel
theorem dL_law_329 : decode cL_law 329 = .ok (.iconst (-1), 1) := by decide +kernel
theorem dL_law_330 : decode cL_law 330 = .ok (.if_icmp .ne 29, 3) := by decide +kernel
theorem dL_law_333 : decode cL_law 333 = .ok (.aload_n 1, 1) := by decide +kernel
theorem dL_law_334 : decode cL_law 334 = .ok (.bipush 40, 2) := by decide +kernel
theorem dL_law_336 : decode cL_law 336 = .ok (.iconst 0, 1) := by decide +kernel
theorem dL_law_337 : decode cL_law 337 = .ok (.invokevirtual 25, 3) := by decide +kernel
theorem dL_law_340 : decode cL_law 340 = .ok (.iconst (-1), 1) := by decide +kernel
theorem dL_law_341 : decode cL_law 341 = .ok (.if_icmp .ne 18, 3) := by decide +kernel
theorem dL_law_344 : decode cL_law 344 = .ok (.aload_n 1, 1) := by decide +kernel
theorem dL_law_345 : decode cL_law 345 = .ok (.bipush 20, 2) := by decide +kernel
theorem dL_law_347 : decode cL_law 347 = .ok (.iconst 0, 1) := by decide +kernel
theorem dL_law_348 : decode cL_law 348 = .ok (.invokevirtual 18, 3) := by decide +kernel
theorem dL_law_351 : decode cL_law 351 = .ok (.iconst (-1), 1) := by decide +kernel
theorem dL_law_352 : decode cL_law 352 = .ok (.if_icmp .ne 7, 3) := by decide +kernel
theorem dL_law_355 : decode cL_law 355 = .ok (.iconst 1, 1) := by decide +kernel
theorem dL_law_356 : decode cL_law 356 = .ok (.goto 4, 3) := by decide +kernel
theorem dL_law_359 : decode cL_law 359 = .ok (.iconst 0, 1) := by decide +kernel
theorem dL_law_360 : decode cL_law 360 = .ok (.ireturn, 1) := by decide +kernel

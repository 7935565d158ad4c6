set_option maxRecDepth 20000 in
theorem ggL_steps_r1_law : GoodIn wsL_law wsL_steps_r1 := goodIn_r _ [120, 121, 116, 122, 123, 127, 128, 129, 130, 131, 132, 133, 2, 134, 13, 135, 136, 137, 138, 139, 140, 141, 142, 143] (by decide +kernel) (by decide +kernel)
set_option maxRecDepth 20000 in
theorem ggL_steps_r2_law : GoodIn wsL_law wsL_steps_r2 := goodIn_r _ [144, 145, 146, 147, 148, 149, 150, 151, 152, 153, 26, 154, 155, 156, 25, 157, 87, 158, 159, 160, 12, 161, 47, 162] (by decide +kernel) (by decide +kernel)
set_option maxRecDepth 20000 in
theorem ggL_steps_r3_law : GoodIn wsL_law wsL_steps_r3 := goodIn_r _ [163, 164, 165, 18, 166, 167, 168, 169, 170, 171, 17, 172, 56, 173, 174, 175, 176, 177, 178, 179, 180, 181, 182, 183] (by decide +kernel) (by decide +kernel)
set_option maxRecDepth 20000 in
theorem ggL_steps_r4_law : GoodIn wsL_law wsL_steps_r4 := goodIn_r _ [184, 57, 185, 186, 187, 188, 189, 190, 191, 192, 193, 194, 195, 59, 58, 196, 197, 198, 199, 22, 200, 201, 202, 203] (by decide +kernel) (by decide +kernel)
set_option maxRecDepth 20000 in
theorem ggL_steps_r5_law : GoodIn wsL_law wsL_steps_r5 := goodIn_r _ [204, 205, 21, 206, 68, 207, 208, 209, 210, 211, 212, 213, 214, 69, 70, 215, 216, 217, 218, 219, 76, 77, 73, 220] (by decide +kernel) (by decide +kernel)
set_option maxRecDepth 20000 in
theorem ggL_steps_r6_law : GoodIn wsL_law wsL_steps_r6 := goodIn_r _ [221, 222, 223, 48, 49, 50, 51, 224, 225, 226, 227, 74, 75, 228, 229, 230, 231, 72, 71, 232, 233, 234, 235, 236] (by decide +kernel) (by decide +kernel)
set_option maxRecDepth 20000 in
theorem ggL_steps_r7_law : GoodIn wsL_law wsL_steps_r7 := goodIn_r _ [237, 238, 239, 240, 241, 242, 243, 244, 245, 246, 247, 248, 249, 250, 251, 86, 252, 253, 254, 255, 85, 256, 257, 258] (by decide +kernel) (by decide +kernel)
set_option maxRecDepth 20000 in
theorem ggL_steps_r8_law : GoodIn wsL_law wsL_steps_r8 := goodIn_r _ [259, 260, 261, 262, 263, 264, 265, 266, 267, 268, 34, 269, 270, 271, 272, 273, 274, 275, 276, 91, 277, 278, 279, 280] (by decide +kernel) (by decide +kernel)
set_option maxRecDepth 20000 in
theorem ggL_steps_r9_law : GoodIn wsL_law wsL_steps_r9 := goodIn_r _ [281, 282, 88, 89, 90, 283, 284, 285, 33, 286, 107, 108, 109, 287, 288, 289, 290, 291, 35, 30, 292, 293, 294, 295] (by decide +kernel) (by decide +kernel)
set_option maxRecDepth 20000 in
theorem ggL_steps_r10_law : GoodIn wsL_law wsL_steps_r10 := goodIn_r _ [296, 297, 298, 299, 78, 300, 301, 302, 303, 304, 305, 306, 307, 29, 308, 99, 309, 310, 311, 312, 313, 100, 314, 315] (by decide +kernel) (by decide +kernel)
set_option maxRecDepth 20000 in
theorem ggL_steps_r11_law : GoodIn wsL_law wsL_steps_r11 := goodIn_r _ [316, 317, 318, 319, 320, 321, 322, 323, 324, 325, 326, 327, 328, 329, 330, 331, 332, 333, 334, 98, 335, 336, 337, 338] (by decide +kernel) (by decide +kernel)
set_option maxRecDepth 20000 in
theorem ggL_steps_r12_law : GoodIn wsL_law wsL_steps_r12 := goodIn_r _ [339, 340, 341, 342, 343, 344, 345, 346, 347, 348, 36, 349, 350, 351, 352, 353, 354, 355, 356, 357, 358, 359, 360, 361] (by decide +kernel) (by decide +kernel)
set_option maxRecDepth 20000 in
theorem ggL_steps_r13_law : GoodIn wsL_law wsL_steps_r13 := goodIn_r _ [362, 363, 364, 365, 366, 367, 368, 369, 370, 37, 14, 38, 371, 372, 373, 374, 111, 375, 376, 377, 378, 379, 60, 61] (by decide +kernel) (by decide +kernel)
set_option maxRecDepth 20000 in
theorem ggL_steps_r14_law : GoodIn wsL_law wsL_steps_r14 := goodIn_r _ [380, 381, 382, 383, 384, 385, 386, 387, 112, 110, 388, 389, 390, 391, 392, 393, 394, 395, 396, 397, 398, 399, 400, 401] (by decide +kernel) (by decide +kernel)
set_option maxRecDepth 20000 in
theorem ggL_steps_r15_law : GoodIn wsL_law wsL_steps_r15 := goodIn_r _ [402, 403, 404, 405, 406, 407, 408, 409, 410, 411, 412, 413, 414, 415, 416, 417, 418, 419, 420, 421, 422, 423, 424, 425] (by decide +kernel) (by decide +kernel)
set_option maxRecDepth 20000 in
theorem ggL_steps_r16_law : GoodIn wsL_law wsL_steps_r16 := goodIn_r _ [426] (by decide +kernel) (by decide +kernel)
set_option maxRecDepth 20000 in
theorem ggL_steps_c_law : GoodIn wsL_law [.code yL_steps cL_steps 15 (some .boolean)] := goodIn_r _ [126] (by decide +kernel) (by decide +kernel)
set_option maxRecDepth 20000 in
theorem ggL_law_L_steps : GoodIn wsL_law wsL_steps := goodIn_ca (goodIn_ca (goodIn_ca (goodIn_ca (goodIn_ca (goodIn_ca (goodIn_ca (goodIn_ca (goodIn_ca (goodIn_ca (show GoodIn wsL_law (.code yL_steps cL_steps 15 (some .boolean) :: (wsL_steps_r1 ++ (wsL_steps_r2 ++ (wsL_steps_r3 ++ (wsL_steps_r4 ++ (wsL_steps_r5 ++ (wsL_steps_r6 ++ (wsL_steps_r7 ++ (wsL_steps_r8 ++ (wsL_steps_r9 ++ (wsL_steps_r10 ++ (wsL_steps_r11 ++ (wsL_steps_r12 ++ (wsL_steps_r13 ++ (wsL_steps_r14 ++ (wsL_steps_r15 ++ wsL_steps_r16)))))))))))))))) from goodIn_app (a := [.code yL_steps cL_steps 15 (some .boolean)]) ggL_steps_c_law (goodIn_app ggL_steps_r1_law (goodIn_app ggL_steps_r2_law (goodIn_app ggL_steps_r3_law (goodIn_app ggL_steps_r4_law (goodIn_app ggL_steps_r5_law (goodIn_app ggL_steps_r6_law (goodIn_app ggL_steps_r7_law (goodIn_app ggL_steps_r8_law (goodIn_app ggL_steps_r9_law (goodIn_app ggL_steps_r10_law (goodIn_app ggL_steps_r11_law (goodIn_app ggL_steps_r12_law (goodIn_app ggL_steps_r13_law (goodIn_app ggL_steps_r14_law (goodIn_app ggL_steps_r15_law ggL_steps_r16_law)))))))))))))))) (goodIn_sub inlX6 (by decide +kernel))) (goodIn_sub inlX4 (by decide +kernel))) (goodIn_sub inlX3 (by decide +kernel))) (goodIn_sub inlX2 (by decide +kernel))) (goodIn_sub inlX5 (by decide +kernel))) (goodIn_sub inlX1 (by decide +kernel))) (goodIn_sub inlX0 (by decide +kernel))) (goodIn_sub (fun _ h => List.mem_append_left _ (List.mem_append_left _ (List.mem_append_right _ h))) (by decide +kernel))) (goodIn_sub (fun _ h => List.mem_append_left _ (List.mem_append_right _ h)) (by decide +kernel))) (goodIn_sub (fun _ h => List.mem_append_right _ h) (by decide +kernel))
set_option maxRecDepth 20000 in
theorem gL_law_L_steps : GoodIn wsL_law (va_wsS RL 131 yL_steps wsL_steps) := goodIn_app (goodIn_of _ (by decide +kernel)) ggL_law_L_steps
set_option maxRecDepth 20000 in
theorem ggL_sets_r1_law : GoodIn wsL_law wsL_sets_r1 := goodIn_r _ [120, 121, 116, 122, 123, 127, 128, 129, 130, 131, 132, 133, 2, 134, 13, 135, 136, 137, 138, 139, 140, 141, 142, 143] (by decide +kernel) (by decide +kernel)
set_option maxRecDepth 20000 in
theorem ggL_sets_r2_law : GoodIn wsL_law wsL_sets_r2 := goodIn_r _ [144, 145, 146, 147, 148, 149, 150, 151, 152, 153, 26, 154, 155, 156, 25, 157, 87, 158, 159, 160, 12, 161, 47, 162] (by decide +kernel) (by decide +kernel)
set_option maxRecDepth 20000 in
theorem ggL_sets_r3_law : GoodIn wsL_law wsL_sets_r3 := goodIn_r _ [163, 164, 165, 18, 166, 167, 168, 169, 170, 171, 17, 172, 56, 173, 174, 175, 176, 177, 178, 179, 180, 181, 182, 183] (by decide +kernel) (by decide +kernel)
set_option maxRecDepth 20000 in
theorem ggL_sets_r4_law : GoodIn wsL_law wsL_sets_r4 := goodIn_r _ [184, 57, 185, 186, 187, 188, 189, 190, 191, 192, 193, 194, 195, 59, 58, 196, 197, 198, 199, 22, 200, 201, 202, 203] (by decide +kernel) (by decide +kernel)
set_option maxRecDepth 20000 in
theorem ggL_sets_r5_law : GoodIn wsL_law wsL_sets_r5 := goodIn_r _ [204, 205, 21, 206, 68, 207, 208, 209, 210, 211, 212, 213, 214, 69, 70, 215, 216, 217, 218, 219, 76, 77, 73, 220] (by decide +kernel) (by decide +kernel)
set_option maxRecDepth 20000 in
theorem ggL_sets_r6_law : GoodIn wsL_law wsL_sets_r6 := goodIn_r _ [221, 222, 223, 48, 49, 50, 51, 224, 225, 226, 227, 74, 75, 228, 229, 230, 231, 72, 71, 232, 233, 234, 235, 236] (by decide +kernel) (by decide +kernel)
set_option maxRecDepth 20000 in
theorem ggL_sets_r7_law : GoodIn wsL_law wsL_sets_r7 := goodIn_r _ [237, 238, 239, 240, 241, 242, 243, 244, 245, 246, 247, 248, 249, 250, 251, 86, 252, 253, 254, 255, 85, 256, 257, 258] (by decide +kernel) (by decide +kernel)
set_option maxRecDepth 20000 in
theorem ggL_sets_r8_law : GoodIn wsL_law wsL_sets_r8 := goodIn_r _ [259, 260, 261, 262, 263, 264, 265, 266, 267, 268, 34, 269, 270, 271, 272, 273, 274, 275, 276, 91, 277, 278, 279, 280] (by decide +kernel) (by decide +kernel)
set_option maxRecDepth 20000 in
theorem ggL_sets_r9_law : GoodIn wsL_law wsL_sets_r9 := goodIn_r _ [281, 282, 88, 89, 90, 283, 284, 285, 33, 286, 107, 108, 109, 287, 288, 289, 290, 291, 35, 30, 292, 293, 294, 295] (by decide +kernel) (by decide +kernel)
set_option maxRecDepth 20000 in
theorem ggL_sets_r10_law : GoodIn wsL_law wsL_sets_r10 := goodIn_r _ [296, 297, 298, 299, 78, 300, 301, 302, 303, 304, 305, 306, 307, 29, 308, 99, 309, 310, 311, 312, 313, 100, 314, 315] (by decide +kernel) (by decide +kernel)
set_option maxRecDepth 20000 in
theorem ggL_sets_r11_law : GoodIn wsL_law wsL_sets_r11 := goodIn_r _ [316, 317, 318, 319, 320, 321, 322, 323, 324, 325, 326, 327, 328, 329, 330, 331, 332, 333, 334, 98, 335, 336, 337, 338] (by decide +kernel) (by decide +kernel)
set_option maxRecDepth 20000 in
theorem ggL_sets_r12_law : GoodIn wsL_law wsL_sets_r12 := goodIn_r _ [339, 340, 341, 342, 343, 344, 345, 346, 347, 348, 36, 349, 350, 351, 352, 353, 354, 355, 356, 357, 358, 359, 360, 361] (by decide +kernel) (by decide +kernel)
set_option maxRecDepth 20000 in
theorem ggL_sets_r13_law : GoodIn wsL_law wsL_sets_r13 := goodIn_r _ [362, 363, 364, 365, 366, 367, 368, 369, 370, 37, 14, 38, 371, 372, 373, 374, 111, 375, 376, 377, 378, 379, 60, 61] (by decide +kernel) (by decide +kernel)
set_option maxRecDepth 20000 in
theorem ggL_sets_r14_law : GoodIn wsL_law wsL_sets_r14 := goodIn_r _ [380, 381, 382, 383, 384, 385, 386, 387, 112, 110, 388, 389, 390, 391, 392, 393, 394, 395, 396, 397, 398, 399, 400, 401] (by decide +kernel) (by decide +kernel)
set_option maxRecDepth 20000 in
theorem ggL_sets_r15_law : GoodIn wsL_law wsL_sets_r15 := goodIn_r _ [402, 403, 404, 405, 406, 407, 408, 409, 410, 411, 412, 413, 414, 415, 416, 417, 418, 419, 420, 421, 422, 423, 424, 425] (by decide +kernel) (by decide +kernel)
set_option maxRecDepth 20000 in
theorem ggL_sets_r16_law : GoodIn wsL_law wsL_sets_r16 := goodIn_r _ [426, 430, 431, 432, 433, 434, 435, 436, 437, 438, 439, 440, 441] (by decide +kernel) (by decide +kernel)
set_option maxRecDepth 20000 in
theorem ggL_sets_c_law : GoodIn wsL_law [.code yL_sets cL_sets 11 (some .boolean)] := goodIn_r _ [429] (by decide +kernel) (by decide +kernel)
set_option maxRecDepth 20000 in
theorem ggL_law_L_sets : GoodIn wsL_law wsL_sets := goodIn_ca (goodIn_ca (goodIn_ca (goodIn_ca (goodIn_ca (goodIn_ca (goodIn_ca (goodIn_ca (goodIn_ca (goodIn_ca (show GoodIn wsL_law (.code yL_sets cL_sets 11 (some .boolean) :: (wsL_sets_r1 ++ (wsL_sets_r2 ++ (wsL_sets_r3 ++ (wsL_sets_r4 ++ (wsL_sets_r5 ++ (wsL_sets_r6 ++ (wsL_sets_r7 ++ (wsL_sets_r8 ++ (wsL_sets_r9 ++ (wsL_sets_r10 ++ (wsL_sets_r11 ++ (wsL_sets_r12 ++ (wsL_sets_r13 ++ (wsL_sets_r14 ++ (wsL_sets_r15 ++ wsL_sets_r16)))))))))))))))) from goodIn_app (a := [.code yL_sets cL_sets 11 (some .boolean)]) ggL_sets_c_law (goodIn_app ggL_sets_r1_law (goodIn_app ggL_sets_r2_law (goodIn_app ggL_sets_r3_law (goodIn_app ggL_sets_r4_law (goodIn_app ggL_sets_r5_law (goodIn_app ggL_sets_r6_law (goodIn_app ggL_sets_r7_law (goodIn_app ggL_sets_r8_law (goodIn_app ggL_sets_r9_law (goodIn_app ggL_sets_r10_law (goodIn_app ggL_sets_r11_law (goodIn_app ggL_sets_r12_law (goodIn_app ggL_sets_r13_law (goodIn_app ggL_sets_r14_law (goodIn_app ggL_sets_r15_law ggL_sets_r16_law)))))))))))))))) (goodIn_sub inlX6 (by decide +kernel))) (goodIn_sub inlX4 (by decide +kernel))) (goodIn_sub inlX3 (by decide +kernel))) (goodIn_sub inlX2 (by decide +kernel))) (goodIn_sub inlX5 (by decide +kernel))) (goodIn_sub inlX1 (by decide +kernel))) (goodIn_sub inlX0 (by decide +kernel))) (goodIn_sub (fun _ h => List.mem_append_left _ (List.mem_append_left _ (List.mem_append_right _ h))) (by decide +kernel))) (goodIn_sub (fun _ h => List.mem_append_left _ (List.mem_append_right _ h)) (by decide +kernel))) (goodIn_sub (fun _ h => List.mem_append_right _ h) (by decide +kernel))
set_option maxRecDepth 20000 in
theorem gL_law_L_sets : GoodIn wsL_law (va_wsS RL 135 yL_sets wsL_sets) := goodIn_app (goodIn_of _ (by decide +kernel)) ggL_law_L_sets
set_option maxRecDepth 20000 in
theorem ggL_songs_r1_law : GoodIn wsL_law wsL_songs_r1 := goodIn_r _ [120, 121, 116, 122, 123, 127, 128, 129, 130, 131, 132, 133, 2, 134, 13, 135, 136, 137, 138, 139, 140, 141, 142, 143] (by decide +kernel) (by decide +kernel)
set_option maxRecDepth 20000 in
theorem ggL_songs_r2_law : GoodIn wsL_law wsL_songs_r2 := goodIn_r _ [144, 145, 146, 147, 148, 149, 150, 151, 152, 153, 26, 154, 155, 156, 25, 157, 87, 158, 159, 160, 12, 161, 47, 162] (by decide +kernel) (by decide +kernel)
set_option maxRecDepth 20000 in
theorem ggL_songs_r3_law : GoodIn wsL_law wsL_songs_r3 := goodIn_r _ [163, 164, 165, 18, 166, 167, 168, 169, 170, 171, 17, 172, 56, 173, 174, 175, 176, 177, 178, 179, 180, 181, 182, 183] (by decide +kernel) (by decide +kernel)
set_option maxRecDepth 20000 in
theorem ggL_songs_r4_law : GoodIn wsL_law wsL_songs_r4 := goodIn_r _ [184, 57, 185, 186, 187, 188, 189, 190, 191, 192, 193, 194, 195, 59, 58, 196, 197, 198, 199, 22, 200, 201, 202, 203] (by decide +kernel) (by decide +kernel)
set_option maxRecDepth 20000 in
theorem ggL_songs_r5_law : GoodIn wsL_law wsL_songs_r5 := goodIn_r _ [204, 205, 21, 206, 68, 207, 208, 209, 210, 211, 212, 213, 214, 69, 70, 215, 216, 217, 218, 219, 76, 77, 73, 220] (by decide +kernel) (by decide +kernel)
set_option maxRecDepth 20000 in
theorem ggL_songs_r6_law : GoodIn wsL_law wsL_songs_r6 := goodIn_r _ [221, 222, 223, 48, 49, 50, 51, 224, 225, 226, 227, 74, 75, 228, 229, 230, 231, 72, 71, 232, 233, 234, 235, 236] (by decide +kernel) (by decide +kernel)
set_option maxRecDepth 20000 in
theorem ggL_songs_r7_law : GoodIn wsL_law wsL_songs_r7 := goodIn_r _ [237, 238, 239, 240, 241, 242, 243, 244, 245, 246, 247, 248, 249, 250, 251, 86, 252, 253, 254, 255, 85, 256, 257, 258] (by decide +kernel) (by decide +kernel)
set_option maxRecDepth 20000 in
theorem ggL_songs_r8_law : GoodIn wsL_law wsL_songs_r8 := goodIn_r _ [259, 260, 261, 262, 263, 264, 265, 266, 267, 268, 34, 269, 270, 271, 272, 273, 274, 275, 276, 91, 277, 278, 279, 280] (by decide +kernel) (by decide +kernel)
set_option maxRecDepth 20000 in
theorem ggL_songs_r9_law : GoodIn wsL_law wsL_songs_r9 := goodIn_r _ [281, 282, 88, 89, 90, 283, 284, 285, 33, 286, 107, 108, 109, 287, 288, 289, 290, 291, 35, 30, 292, 293, 294, 295] (by decide +kernel) (by decide +kernel)
set_option maxRecDepth 20000 in
theorem ggL_songs_r10_law : GoodIn wsL_law wsL_songs_r10 := goodIn_r _ [296, 297, 298, 299, 78, 300, 301, 302, 303, 304, 305, 306, 307, 29, 308, 99, 309, 310, 311, 312, 313, 100, 314, 315] (by decide +kernel) (by decide +kernel)
set_option maxRecDepth 20000 in
theorem ggL_songs_r11_law : GoodIn wsL_law wsL_songs_r11 := goodIn_r _ [316, 317, 318, 319, 320, 321, 322, 323, 324, 325, 326, 327, 328, 329, 330, 331, 332, 333, 334, 98, 335, 336, 337, 338] (by decide +kernel) (by decide +kernel)
set_option maxRecDepth 20000 in
theorem ggL_songs_r12_law : GoodIn wsL_law wsL_songs_r12 := goodIn_r _ [339, 340, 341, 342, 343, 344, 345, 346, 347, 348, 36, 349, 350, 351, 352, 353, 354, 355, 356, 357, 358, 359, 360, 361] (by decide +kernel) (by decide +kernel)
set_option maxRecDepth 20000 in
theorem ggL_songs_r13_law : GoodIn wsL_law wsL_songs_r13 := goodIn_r _ [362, 363, 364, 365, 366, 367, 368, 369, 370, 37, 14, 38, 371, 372, 373, 374, 111, 375, 376, 377, 378, 379, 60, 61] (by decide +kernel) (by decide +kernel)
set_option maxRecDepth 20000 in
theorem ggL_songs_r14_law : GoodIn wsL_law wsL_songs_r14 := goodIn_r _ [380, 381, 382, 383, 384, 385, 386, 387, 112, 110, 388, 389, 390, 391, 392, 393, 394, 395, 396, 397, 398, 399, 400, 401] (by decide +kernel) (by decide +kernel)
set_option maxRecDepth 20000 in
theorem ggL_songs_r15_law : GoodIn wsL_law wsL_songs_r15 := goodIn_r _ [402, 403, 404, 405, 406, 407, 408, 409, 410, 411, 412, 413, 414, 415, 416, 417, 418, 419, 420, 421, 422, 423, 424, 425] (by decide +kernel) (by decide +kernel)
set_option maxRecDepth 20000 in
theorem ggL_songs_r16_law : GoodIn wsL_law wsL_songs_r16 := goodIn_r _ [426, 445, 446, 447] (by decide +kernel) (by decide +kernel)
set_option maxRecDepth 20000 in
theorem ggL_songs_c_law : GoodIn wsL_law [.code yL_songs cL_songs 13 (some .boolean)] := goodIn_r _ [444] (by decide +kernel) (by decide +kernel)
set_option maxRecDepth 20000 in
theorem ggL_law_L_songs : GoodIn wsL_law wsL_songs := goodIn_ca (goodIn_ca (goodIn_ca (goodIn_ca (goodIn_ca (goodIn_ca (goodIn_ca (goodIn_ca (goodIn_ca (goodIn_ca (show GoodIn wsL_law (.code yL_songs cL_songs 13 (some .boolean) :: (wsL_songs_r1 ++ (wsL_songs_r2 ++ (wsL_songs_r3 ++ (wsL_songs_r4 ++ (wsL_songs_r5 ++ (wsL_songs_r6 ++ (wsL_songs_r7 ++ (wsL_songs_r8 ++ (wsL_songs_r9 ++ (wsL_songs_r10 ++ (wsL_songs_r11 ++ (wsL_songs_r12 ++ (wsL_songs_r13 ++ (wsL_songs_r14 ++ (wsL_songs_r15 ++ wsL_songs_r16)))))))))))))))) from goodIn_app (a := [.code yL_songs cL_songs 13 (some .boolean)]) ggL_songs_c_law (goodIn_app ggL_songs_r1_law (goodIn_app ggL_songs_r2_law (goodIn_app ggL_songs_r3_law (goodIn_app ggL_songs_r4_law (goodIn_app ggL_songs_r5_law (goodIn_app ggL_songs_r6_law (goodIn_app ggL_songs_r7_law (goodIn_app ggL_songs_r8_law (goodIn_app ggL_songs_r9_law (goodIn_app ggL_songs_r10_law (goodIn_app ggL_songs_r11_law (goodIn_app ggL_songs_r12_law (goodIn_app ggL_songs_r13_law (goodIn_app ggL_songs_r14_law (goodIn_app ggL_songs_r15_law ggL_songs_r16_law)))))))))))))))) (goodIn_sub inlX6 (by decide +kernel))) (goodIn_sub inlX4 (by decide +kernel))) (goodIn_sub inlX3 (by decide +kernel))) (goodIn_sub inlX2 (by decide +kernel))) (goodIn_sub inlX5 (by decide +kernel))) (goodIn_sub inlX1 (by decide +kernel))) (goodIn_sub inlX0 (by decide +kernel))) (goodIn_sub (fun _ h => List.mem_append_left _ (List.mem_append_left _ (List.mem_append_right _ h))) (by decide +kernel))) (goodIn_sub (fun _ h => List.mem_append_left _ (List.mem_append_right _ h)) (by decide +kernel))) (goodIn_sub (fun _ h => List.mem_append_right _ h) (by decide +kernel))
set_option maxRecDepth 20000 in
theorem gL_law_L_songs : GoodIn wsL_law (va_wsS RL 139 yL_songs wsL_songs) := goodIn_app (goodIn_of _ (by decide +kernel)) ggL_law_L_songs
set_option maxRecDepth 20000 in
theorem ggL_list_r1_law : GoodIn wsL_law wsL_list_r1 := goodIn_r _ [120, 121, 116, 122, 123, 127, 128, 129, 130, 131, 132, 133, 2, 134, 13, 135, 136, 137, 138, 139, 140, 141, 142, 143] (by decide +kernel) (by decide +kernel)
set_option maxRecDepth 20000 in
theorem ggL_list_r2_law : GoodIn wsL_law wsL_list_r2 := goodIn_r _ [144, 145, 146, 147, 148, 149, 150, 151, 152, 153, 26, 154, 155, 156, 25, 157, 87, 158, 159, 160, 12, 161, 47, 162] (by decide +kernel) (by decide +kernel)
set_option maxRecDepth 20000 in
theorem ggL_list_r3_law : GoodIn wsL_law wsL_list_r3 := goodIn_r _ [163, 164, 165, 18, 166, 167, 168, 169, 170, 171, 17, 172, 56, 173, 174, 175, 176, 177, 178, 179, 180, 181, 182, 183] (by decide +kernel) (by decide +kernel)
set_option maxRecDepth 20000 in
theorem ggL_list_r4_law : GoodIn wsL_law wsL_list_r4 := goodIn_r _ [184, 57, 185, 186, 187, 188, 189, 190, 191, 192, 193, 194, 195, 59, 58, 196, 197, 198, 199, 22, 200, 201, 202, 203] (by decide +kernel) (by decide +kernel)
set_option maxRecDepth 20000 in
theorem ggL_list_r5_law : GoodIn wsL_law wsL_list_r5 := goodIn_r _ [204, 205, 21, 206, 68, 207, 208, 209, 210, 211, 212, 213, 214, 69, 70, 215, 216, 217, 218, 219, 76, 77, 73, 220] (by decide +kernel) (by decide +kernel)
set_option maxRecDepth 20000 in
theorem ggL_list_r6_law : GoodIn wsL_law wsL_list_r6 := goodIn_r _ [221, 222, 223, 48, 49, 50, 51, 224, 225, 226, 227, 74, 75, 228, 229, 230, 231, 72, 71, 232, 233, 234, 235, 236] (by decide +kernel) (by decide +kernel)
set_option maxRecDepth 20000 in
theorem ggL_list_r7_law : GoodIn wsL_law wsL_list_r7 := goodIn_r _ [237, 238, 239, 240, 241, 242, 243, 244, 245, 246, 247, 248, 249, 250, 251, 86, 252, 253, 254, 255, 85, 256, 257, 258] (by decide +kernel) (by decide +kernel)
set_option maxRecDepth 20000 in
theorem ggL_list_r8_law : GoodIn wsL_law wsL_list_r8 := goodIn_r _ [259, 260, 261, 262, 263, 264, 265, 266, 267, 268, 34, 269, 270, 271, 272, 273, 274, 275, 276, 91, 277, 278, 279, 280] (by decide +kernel) (by decide +kernel)
set_option maxRecDepth 20000 in
theorem ggL_list_r9_law : GoodIn wsL_law wsL_list_r9 := goodIn_r _ [281, 282, 88, 89, 90, 283, 284, 285, 33, 286, 107, 108, 109, 287, 288, 289, 290, 291, 35, 30, 292, 293, 294, 295] (by decide +kernel) (by decide +kernel)
set_option maxRecDepth 20000 in
theorem ggL_list_r10_law : GoodIn wsL_law wsL_list_r10 := goodIn_r _ [296, 297, 298, 299, 78, 300, 301, 302, 303, 304, 305, 306, 307, 29, 308, 99, 309, 310, 311, 312, 313, 100, 314, 315] (by decide +kernel) (by decide +kernel)
set_option maxRecDepth 20000 in
theorem ggL_list_r11_law : GoodIn wsL_law wsL_list_r11 := goodIn_r _ [316, 317, 318, 319, 320, 321, 322, 323, 324, 325, 326, 327, 328, 329, 330, 331, 332, 333, 334, 98, 335, 336, 337, 338] (by decide +kernel) (by decide +kernel)
set_option maxRecDepth 20000 in
theorem ggL_list_r12_law : GoodIn wsL_law wsL_list_r12 := goodIn_r _ [339, 340, 341, 342, 343, 344, 345, 346, 347, 348, 36, 349, 350, 351, 352, 353, 354, 355, 356, 357, 358, 359, 360, 361] (by decide +kernel) (by decide +kernel)
set_option maxRecDepth 20000 in
theorem ggL_list_r13_law : GoodIn wsL_law wsL_list_r13 := goodIn_r _ [362, 363, 364, 365, 366, 367, 368, 369, 370, 37, 14, 38, 371, 372, 373, 374, 111, 375, 376, 377, 378, 379, 60, 61] (by decide +kernel) (by decide +kernel)
set_option maxRecDepth 20000 in
theorem ggL_list_r14_law : GoodIn wsL_law wsL_list_r14 := goodIn_r _ [380, 381, 382, 383, 384, 385, 386, 387, 112, 110, 388, 389, 390, 391, 392, 393, 394, 395, 396, 397, 398, 399, 400, 401] (by decide +kernel) (by decide +kernel)
set_option maxRecDepth 20000 in
theorem ggL_list_r15_law : GoodIn wsL_law wsL_list_r15 := goodIn_r _ [402, 403, 404, 405, 406, 407, 408, 409, 410, 411, 412, 413, 414, 415, 416, 417, 418, 419, 420, 421, 422, 423, 424, 425] (by decide +kernel) (by decide +kernel)
set_option maxRecDepth 20000 in
theorem ggL_list_r16_law : GoodIn wsL_law wsL_list_r16 := goodIn_r _ [426, 445, 446, 447] (by decide +kernel) (by decide +kernel)
set_option maxRecDepth 20000 in
theorem ggL_list_c_law : GoodIn wsL_law [.code yL_list cL_list 14 (some .boolean)] := goodIn_r _ [450] (by decide +kernel) (by decide +kernel)
set_option maxRecDepth 20000 in
theorem ggL_law_L_list : GoodIn wsL_law wsL_list := goodIn_ca (goodIn_ca (goodIn_ca (goodIn_ca (goodIn_ca (goodIn_ca (goodIn_ca (goodIn_ca (goodIn_ca (goodIn_ca (show GoodIn wsL_law (.code yL_list cL_list 14 (some .boolean) :: (wsL_list_r1 ++ (wsL_list_r2 ++ (wsL_list_r3 ++ (wsL_list_r4 ++ (wsL_list_r5 ++ (wsL_list_r6 ++ (wsL_list_r7 ++ (wsL_list_r8 ++ (wsL_list_r9 ++ (wsL_list_r10 ++ (wsL_list_r11 ++ (wsL_list_r12 ++ (wsL_list_r13 ++ (wsL_list_r14 ++ (wsL_list_r15 ++ wsL_list_r16)))))))))))))))) from goodIn_app (a := [.code yL_list cL_list 14 (some .boolean)]) ggL_list_c_law (goodIn_app ggL_list_r1_law (goodIn_app ggL_list_r2_law (goodIn_app ggL_list_r3_law (goodIn_app ggL_list_r4_law (goodIn_app ggL_list_r5_law (goodIn_app ggL_list_r6_law (goodIn_app ggL_list_r7_law (goodIn_app ggL_list_r8_law (goodIn_app ggL_list_r9_law (goodIn_app ggL_list_r10_law (goodIn_app ggL_list_r11_law (goodIn_app ggL_list_r12_law (goodIn_app ggL_list_r13_law (goodIn_app ggL_list_r14_law (goodIn_app ggL_list_r15_law ggL_list_r16_law)))))))))))))))) (goodIn_sub inlX6 (by decide +kernel))) (goodIn_sub inlX4 (by decide +kernel))) (goodIn_sub inlX3 (by decide +kernel))) (goodIn_sub inlX2 (by decide +kernel))) (goodIn_sub inlX5 (by decide +kernel))) (goodIn_sub inlX1 (by decide +kernel))) (goodIn_sub inlX0 (by decide +kernel))) (goodIn_sub (fun _ h => List.mem_append_left _ (List.mem_append_left _ (List.mem_append_right _ h))) (by decide +kernel))) (goodIn_sub (fun _ h => List.mem_append_left _ (List.mem_append_right _ h)) (by decide +kernel))) (goodIn_sub (fun _ h => List.mem_append_right _ h) (by decide +kernel))
set_option maxRecDepth 20000 in
theorem gL_law_L_list : GoodIn wsL_law (va_wsS RL 143 yL_list wsL_list) := goodIn_app (goodIn_of _ (by decide +kernel)) ggL_law_L_list
set_option maxRecDepth 20000 in
theorem ggL_plays_r1_law : GoodIn wsL_law wsL_plays_r1 := goodIn_r _ [120, 121, 116, 122, 123, 454, 455, 456, 457, 458, 459, 460, 461, 462, 463, 464, 465, 466, 467, 468, 469, 127, 128, 129] (by decide +kernel) (by decide +kernel)
set_option maxRecDepth 20000 in
theorem ggL_plays_r2_law : GoodIn wsL_law wsL_plays_r2 := goodIn_r _ [130, 131, 132, 133, 2, 134, 13, 135, 136, 137, 138, 139, 140, 141, 142, 143, 144, 145, 146, 147, 148, 149, 150, 151] (by decide +kernel) (by decide +kernel)
set_option maxRecDepth 20000 in
theorem ggL_plays_r3_law : GoodIn wsL_law wsL_plays_r3 := goodIn_r _ [152, 153, 26, 154, 155, 156, 25, 157, 87, 158, 159, 160, 12, 161, 47, 162, 163, 164, 165, 18, 166, 167, 168, 169] (by decide +kernel) (by decide +kernel)
set_option maxRecDepth 20000 in
theorem ggL_plays_r4_law : GoodIn wsL_law wsL_plays_r4 := goodIn_r _ [170, 171, 17, 172, 56, 173, 174, 175, 176, 177, 178, 179, 180, 181, 182, 183, 184, 57, 185, 186, 187, 188, 189, 190] (by decide +kernel) (by decide +kernel)
set_option maxRecDepth 20000 in
theorem ggL_plays_r5_law : GoodIn wsL_law wsL_plays_r5 := goodIn_r _ [191, 192, 193, 194, 195, 59, 58, 196, 197, 198, 199, 22, 200, 201, 202, 203, 204, 205, 21, 206, 68, 207, 208, 209] (by decide +kernel) (by decide +kernel)
set_option maxRecDepth 20000 in
theorem ggL_plays_r6_law : GoodIn wsL_law wsL_plays_r6 := goodIn_r _ [210, 211, 212, 213, 214, 69, 70, 215, 216, 217, 218, 219, 76, 77, 73, 220, 221, 222, 223, 48, 49, 50, 51, 224] (by decide +kernel) (by decide +kernel)
set_option maxRecDepth 20000 in
theorem ggL_plays_r7_law : GoodIn wsL_law wsL_plays_r7 := goodIn_r _ [225, 226, 227, 74, 75, 228, 229, 230, 231, 72, 71, 232, 233, 234, 235, 236, 237, 238, 239, 240, 241, 242, 243, 244] (by decide +kernel) (by decide +kernel)
set_option maxRecDepth 20000 in
theorem ggL_plays_r8_law : GoodIn wsL_law wsL_plays_r8 := goodIn_r _ [245, 246, 247, 248, 249, 250, 251, 86, 252, 253, 254, 255, 85, 256, 257, 258, 259, 260, 261, 262, 263, 264, 265, 266] (by decide +kernel) (by decide +kernel)
set_option maxRecDepth 20000 in
theorem ggL_plays_r9_law : GoodIn wsL_law wsL_plays_r9 := goodIn_r _ [267, 268, 34, 269, 270, 271, 272, 273, 274, 275, 276, 91, 277, 278, 279, 280, 281, 282, 88, 89, 90, 283, 284, 285] (by decide +kernel) (by decide +kernel)
set_option maxRecDepth 20000 in
theorem ggL_plays_r10_law : GoodIn wsL_law wsL_plays_r10 := goodIn_r _ [33, 286, 107, 108, 109, 287, 288, 289, 290, 291, 35, 30, 292, 293, 294, 295, 296, 297, 298, 299, 78, 300, 301, 302] (by decide +kernel) (by decide +kernel)
set_option maxRecDepth 20000 in
theorem ggL_plays_r11_law : GoodIn wsL_law wsL_plays_r11 := goodIn_r _ [303, 304, 305, 306, 307, 29, 308, 99, 309, 310, 311, 312, 313, 100, 314, 315, 316, 317, 318, 319, 320, 321, 322, 323] (by decide +kernel) (by decide +kernel)
set_option maxRecDepth 20000 in
theorem ggL_plays_r12_law : GoodIn wsL_law wsL_plays_r12 := goodIn_r _ [324, 325, 326, 327, 328, 329, 330, 331, 332, 333, 334, 98, 335, 336, 337, 338, 339, 340, 341, 342, 343, 344, 345, 346] (by decide +kernel) (by decide +kernel)
set_option maxRecDepth 20000 in
theorem ggL_plays_r13_law : GoodIn wsL_law wsL_plays_r13 := goodIn_r _ [347, 348, 36, 349, 350, 351, 352, 353, 354, 355, 356, 357, 358, 359, 360, 361, 362, 363, 364, 365, 366, 367, 368, 369] (by decide +kernel) (by decide +kernel)
set_option maxRecDepth 20000 in
theorem ggL_plays_r14_law : GoodIn wsL_law wsL_plays_r14 := goodIn_r _ [370, 37, 14, 38, 371, 372, 373, 374, 111, 375, 376, 377, 378, 379, 60, 61, 380, 381, 382, 383, 384, 385, 386, 387] (by decide +kernel) (by decide +kernel)
set_option maxRecDepth 20000 in
theorem ggL_plays_r15_law : GoodIn wsL_law wsL_plays_r15 := goodIn_r _ [112, 110, 388, 389, 390, 391, 392, 393, 394, 395, 396, 397, 398, 399, 400, 401, 402, 403, 404, 405, 406, 407, 408, 409] (by decide +kernel) (by decide +kernel)
set_option maxRecDepth 20000 in
theorem ggL_plays_r16_law : GoodIn wsL_law wsL_plays_r16 := goodIn_r _ [410, 411, 412, 413, 414, 415, 416, 417, 418, 419, 420, 421, 422, 423, 424, 425, 426] (by decide +kernel) (by decide +kernel)
set_option maxRecDepth 20000 in
theorem ggL_plays_c_law : GoodIn wsL_law [.code yL_plays cL_plays 15 (some .boolean)] := goodIn_r _ [453] (by decide +kernel) (by decide +kernel)
set_option maxRecDepth 20000 in
theorem ggL_law_L_plays : GoodIn wsL_law wsL_plays := goodIn_ca (goodIn_ca (goodIn_ca (goodIn_ca (goodIn_ca (goodIn_ca (goodIn_ca (goodIn_ca (goodIn_ca (goodIn_ca (show GoodIn wsL_law (.code yL_plays cL_plays 15 (some .boolean) :: (wsL_plays_r1 ++ (wsL_plays_r2 ++ (wsL_plays_r3 ++ (wsL_plays_r4 ++ (wsL_plays_r5 ++ (wsL_plays_r6 ++ (wsL_plays_r7 ++ (wsL_plays_r8 ++ (wsL_plays_r9 ++ (wsL_plays_r10 ++ (wsL_plays_r11 ++ (wsL_plays_r12 ++ (wsL_plays_r13 ++ (wsL_plays_r14 ++ (wsL_plays_r15 ++ wsL_plays_r16)))))))))))))))) from goodIn_app (a := [.code yL_plays cL_plays 15 (some .boolean)]) ggL_plays_c_law (goodIn_app ggL_plays_r1_law (goodIn_app ggL_plays_r2_law (goodIn_app ggL_plays_r3_law (goodIn_app ggL_plays_r4_law (goodIn_app ggL_plays_r5_law (goodIn_app ggL_plays_r6_law (goodIn_app ggL_plays_r7_law (goodIn_app ggL_plays_r8_law (goodIn_app ggL_plays_r9_law (goodIn_app ggL_plays_r10_law (goodIn_app ggL_plays_r11_law (goodIn_app ggL_plays_r12_law (goodIn_app ggL_plays_r13_law (goodIn_app ggL_plays_r14_law (goodIn_app ggL_plays_r15_law ggL_plays_r16_law)))))))))))))))) (goodIn_sub inlX6 (by decide +kernel))) (goodIn_sub inlX4 (by decide +kernel))) (goodIn_sub inlX3 (by decide +kernel))) (goodIn_sub inlX2 (by decide +kernel))) (goodIn_sub inlX5 (by decide +kernel))) (goodIn_sub inlX1 (by decide +kernel))) (goodIn_sub inlX0 (by decide +kernel))) (goodIn_sub (fun _ h => List.mem_append_left _ (List.mem_append_left _ (List.mem_append_right _ h))) (by decide +kernel))) (goodIn_sub (fun _ h => List.mem_append_left _ (List.mem_append_right _ h)) (by decide +kernel))) (goodIn_sub (fun _ h => List.mem_append_right _ h) (by decide +kernel))
set_option maxRecDepth 20000 in
theorem gL_law_L_plays : GoodIn wsL_law (va_wsS RL 147 yL_plays wsL_plays) := goodIn_app (goodIn_of _ (by decide +kernel)) ggL_law_L_plays
set_option maxRecDepth 20000 in
theorem ggL_law_L_memory : GoodIn wsL_law wsL_memory := goodIn_ca (goodIn_r _ [472, 473, 466, 474, 475, 476, 2, 477, 36, 478, 479, 480, 481, 37, 482, 483, 484, 485, 38, 486, 487, 488, 489, 34, 490, 491, 492, 33, 493, 109, 110, 494, 495, 496, 497, 26, 154, 155, 156, 25, 157, 87, 498, 499, 500, 501, 502, 88, 89, 90, 463, 464, 116, 465, 457, 458, 459, 460, 461, 462, 503, 504, 505, 506, 135, 136, 137, 138, 139, 140, 141, 142, 507, 508, 509, 510, 107, 375, 208, 209, 12, 210, 47, 511, 512, 513, 514, 30, 357, 358, 359, 360, 515, 393, 394, 29, 395, 98, 335, 550, 551, 552, 553, 554, 555, 556, 557, 558, 559, 560, 589, 590, 591, 592, 593, 594, 579, 580, 581, 582, 583, 584, 585, 561, 586, 587, 588] (by decide +kernel) (by decide +kernel)) (goodIn_sub (fun _ h => List.mem_append_left _ (List.mem_append_left _ (List.mem_append_right _ h))) (by decide +kernel))
set_option maxRecDepth 20000 in
theorem gL_law_L_memory : GoodIn wsL_law (va_wsS RL 151 yL_memory wsL_memory) := goodIn_app (goodIn_of _ (by decide +kernel)) ggL_law_L_memory
set_option maxRecDepth 20000 in
theorem ggL_law_L_song : GoodIn wsL_law wsL_song := goodIn_ca (goodIn_r _ [518, 445, 446, 116, 447, 460, 461, 462, 120, 121, 122, 123, 519, 520, 521, 2, 522, 22, 200, 201, 202, 138, 139, 140, 141, 142, 240, 241, 242, 21, 243, 73, 207, 208, 209, 12, 210, 47, 523, 524, 525, 526, 18, 527, 297, 298, 299, 78, 74, 75, 300, 301, 302, 17, 303, 59, 304, 528, 529, 530, 531, 532, 533, 534, 535, 536, 323, 324, 325, 57, 56, 185, 186, 187, 173, 174, 175, 537, 538, 539, 540, 541, 542, 543, 544, 545, 337, 338, 339, 340, 315, 316, 317, 58, 546, 547, 548, 549, 550, 551, 552, 553, 554, 555, 556, 557, 558, 559, 560, 568, 569, 570, 571, 572, 573, 574, 575, 576, 577, 578, 561, 562, 563, 564, 565, 566, 567] (by decide +kernel) (by decide +kernel)) (goodIn_sub (fun _ h => List.mem_append_left _ (List.mem_append_left _ (List.mem_append_right _ h))) (by decide +kernel))
set_option maxRecDepth 20000 in
theorem gL_law_L_song : GoodIn wsL_law (va_wsS RL 155 yL_song wsL_song) := goodIn_app (goodIn_of _ (by decide +kernel)) ggL_law_L_song
theorem dL_law_0 : decode cL_law 0 = .ok (.new 11, 3) := by decide +kernel
theorem dL_law_3 : decode cL_law 3 = .ok (.dup, 1) := by decide +kernel
theorem dL_law_4 : decode cL_law 4 = .ok (.invokespecial 126, 3) := by decide +kernel
theorem dL_law_7 : decode cL_law 7 = .ok (.astore_n 1, 1) := by decide +kernel
theorem dL_law_8 : decode cL_law 8 = .ok (.bipush 64, 2) := by decide +kernel
theorem dL_law_10 : decode cL_law 10 = .ok (.newarray .int, 2) := by decide +kernel
theorem dL_law_12 : decode cL_law 12 = .ok (.astore_n 2, 1) := by decide +kernel
theorem dL_law_13 : decode cL_law 13 = .ok (.bipush 64, 2) := by decide +kernel
theorem dL_law_15 : decode cL_law 15 = .ok (.newarray .int, 2) := by decide +kernel
theorem dL_law_17 : decode cL_law 17 = .ok (.astore_n 3, 1) := by decide +kernel
theorem dL_law_18 : decode cL_law 18 = .ok (.bipush 64, 2) := by decide +kernel
theorem dL_law_20 : decode cL_law 20 = .ok (.newarray .int, 2) := by decide +kernel
theorem dL_law_22 : decode cL_law 22 = .ok (.astore 4, 2) := by decide +kernel
theorem dL_law_24 : decode cL_law 24 = .ok (.bipush 48, 2) := by decide +kernel
theorem dL_law_26 : decode cL_law 26 = .ok (.newarray .int, 2) := by decide +kernel
theorem dL_law_28 : decode cL_law 28 = .ok (.astore 5, 2) := by decide +kernel
theorem dL_law_30 : decode cL_law 30 = .ok (.bipush 6, 2) := by decide +kernel
theorem dL_law_32 : decode cL_law 32 = .ok (.newarray .int, 2) := by decide +kernel
theorem dL_law_34 : decode cL_law 34 = .ok (.astore 6, 2) := by decide +kernel
theorem dL_law_36 : decode cL_law 36 = .ok (.bipush 40, 2) := by decide +kernel
theorem dL_law_38 : decode cL_law 38 = .ok (.newarray .int, 2) := by decide +kernel
theorem dL_law_40 : decode cL_law 40 = .ok (.astore 7, 2) := by decide +kernel
theorem dL_law_42 : decode cL_law 42 = .ok (.bipush 48, 2) := by decide +kernel
theorem dL_law_44 : decode cL_law 44 = .ok (.newarray .int, 2) := by decide +kernel
theorem dL_law_46 : decode cL_law 46 = .ok (.astore 8, 2) := by decide +kernel
theorem dL_law_48 : decode cL_law 48 = .ok (.bipush 6, 2) := by decide +kernel
theorem dL_law_50 : decode cL_law 50 = .ok (.newarray .int, 2) := by decide +kernel
theorem dL_law_52 : decode cL_law 52 = .ok (.astore 9, 2) := by decide +kernel
theorem dL_law_54 : decode cL_law 54 = .ok (.bipush 10, 2) := by decide +kernel
theorem dL_law_56 : decode cL_law 56 = .ok (.newarray .int, 2) := by decide +kernel
theorem dL_law_58 : decode cL_law 58 = .ok (.astore 10, 2) := by decide +kernel
theorem dL_law_60 : decode cL_law 60 = .ok (.bipush 16, 2) := by decide +kernel
theorem dL_law_62 : decode cL_law 62 = .ok (.newarray .int, 2) := by decide +kernel
theorem dL_law_64 : decode cL_law 64 = .ok (.astore 11, 2) := by decide +kernel
theorem dL_law_66 : decode cL_law 66 = .ok (.bipush 64, 2) := by decide +kernel
theorem dL_law_68 : decode cL_law 68 = .ok (.newarray .int, 2) := by decide +kernel
theorem dL_law_70 : decode cL_law 70 = .ok (.astore 12, 2) := by decide +kernel
theorem dL_law_72 : decode cL_law 72 = .ok (.bipush 64, 2) := by decide +kernel
theorem dL_law_74 : decode cL_law 74 = .ok (.newarray .int, 2) := by decide +kernel
theorem dL_law_76 : decode cL_law 76 = .ok (.astore 13, 2) := by decide +kernel
theorem dL_law_78 : decode cL_law 78 = .ok (.iconst 0, 1) := by decide +kernel
theorem dL_law_79 : decode cL_law 79 = .ok (.istore 14, 2) := by decide +kernel
theorem dL_law_81 : decode cL_law 81 = .ok (.iload 14, 2) := by decide +kernel
theorem dL_law_83 : decode cL_law 83 = .ok (.bipush 8, 2) := by decide +kernel
theorem dL_law_85 : decode cL_law 85 = .ok (.if_icmp .ge 15, 3) := by decide +kernel
theorem dL_law_88 : decode cL_law 88 = .ok (.aload 7, 2) := by decide +kernel
theorem dL_law_90 : decode cL_law 90 = .ok (.iload 14, 2) := by decide +kernel
theorem dL_law_92 : decode cL_law 92 = .ok (.iconst 1, 1) := by decide +kernel
theorem dL_law_93 : decode cL_law 93 = .ok (.iastore, 1) := by decide +kernel
theorem dL_law_94 : decode cL_law 94 = .ok (.iinc 14 1, 3) := by decide +kernel
theorem dL_law_97 : decode cL_law 97 = .ok (.goto (-16), 3) := by decide +kernel
theorem dL_law_100 : decode cL_law 100 = .ok (.iconst 0, 1) := by decide +kernel
theorem dL_law_101 : decode cL_law 101 = .ok (.istore 14, 2) := by decide +kernel
theorem dL_law_103 : decode cL_law 103 = .ok (.iload 14, 2) := by decide +kernel
theorem dL_law_105 : decode cL_law 105 = .ok (.bipush 90, 2) := by decide +kernel
theorem dL_law_107 : decode cL_law 107 = .ok (.if_icmp .ge 293, 3) := by decide +kernel
theorem dL_law_110 : decode cL_law 110 = .ok (.aload_n 0, 1) := by decide +kernel
theorem dL_law_111 : decode cL_law 111 = .ok (.iload 14, 2) := by decide +kernel
theorem dL_law_113 : decode cL_law 113 = .ok (.invokestatic 127, 3) := by decide +kernel
theorem dL_law_116 : decode cL_law 116 = .ok (.istore 15, 2) := by decide +kernel
theorem dL_law_118 : decode cL_law 118 = .ok (.iload 15, 2) := by decide +kernel
theorem dL_law_120 : decode cL_law 120 = .ok (.bipush 32, 2) := by decide +kernel
theorem dL_law_122 : decode cL_law 122 = .ok (.invokestatic 97, 3) := by decide +kernel
theorem dL_law_125 : decode cL_law 125 = .ok (.istore 16, 2) := by decide +kernel
theorem dL_law_127 : decode cL_law 127 = .ok (.iconst 1, 1) := by decide +kernel
theorem dL_law_128 : decode cL_law 128 = .ok (.istore 17, 2) := by decide +kernel
theorem dL_law_130 : decode cL_law 130 = .ok (.iload 14, 2) := by decide +kernel
theorem dL_law_132 : decode cL_law 132 = .ok (.bipush 14, 2) := by decide +kernel
theorem dL_law_134 : decode cL_law 134 = .ok (.if_icmp .lt 10, 3) := by decide +kernel
theorem dL_law_137 : decode cL_law 137 = .ok (.iload 16, 2) := by decide +kernel
theorem dL_law_139 : decode cL_law 139 = .ok (.bipush 6, 2) := by decide +kernel
theorem dL_law_141 : decode cL_law 141 = .ok (.if_icmp .ge 24, 3) := by decide +kernel
theorem dL_law_144 : decode cL_law 144 = .ok (.aload_n 1, 1) := by decide +kernel
theorem dL_law_145 : decode cL_law 145 = .ok (.iload 15, 2) := by decide +kernel
theorem dL_law_147 : decode cL_law 147 = .ok (.iconst 5, 1) := by decide +kernel
theorem dL_law_148 : decode cL_law 148 = .ok (.ishr, 1) := by decide +kernel
theorem dL_law_149 : decode cL_law 149 = .ok (.aload_n 2, 1) := by decide +kernel
theorem dL_law_150 : decode cL_law 150 = .ok (.aload_n 3, 1) := by decide +kernel
theorem dL_law_151 : decode cL_law 151 = .ok (.aload 4, 2) := by decide +kernel
theorem dL_law_153 : decode cL_law 153 = .ok (.aload 5, 2) := by decide +kernel
theorem dL_law_155 : decode cL_law 155 = .ok (.aload 10, 2) := by decide +kernel
theorem dL_law_157 : decode cL_law 157 = .ok (.invokestatic 131, 3) := by decide +kernel
theorem dL_law_160 : decode cL_law 160 = .ok (.istore 17, 2) := by decide +kernel
theorem dL_law_162 : decode cL_law 162 = .ok (.goto 169, 3) := by decide +kernel
theorem dL_law_165 : decode cL_law 165 = .ok (.iload 16, 2) := by decide +kernel
theorem dL_law_167 : decode cL_law 167 = .ok (.bipush 10, 2) := by decide +kernel
theorem dL_law_169 : decode cL_law 169 = .ok (.if_icmp .ge 27, 3) := by decide +kernel
theorem dL_law_172 : decode cL_law 172 = .ok (.aload_n 1, 1) := by decide +kernel
theorem dL_law_173 : decode cL_law 173 = .ok (.iload 16, 2) := by decide +kernel
theorem dL_law_175 : decode cL_law 175 = .ok (.bipush 6, 2) := by decide +kernel
theorem dL_law_177 : decode cL_law 177 = .ok (.isub, 1) := by decide +kernel
theorem dL_law_178 : decode cL_law 178 = .ok (.iload 15, 2) := by decide +kernel
theorem dL_law_180 : decode cL_law 180 = .ok (.iconst 5, 1) := by decide +kernel
theorem dL_law_181 : decode cL_law 181 = .ok (.ishr, 1) := by decide +kernel
theorem dL_law_182 : decode cL_law 182 = .ok (.aload 6, 2) := by decide +kernel
theorem dL_law_184 : decode cL_law 184 = .ok (.aload 7, 2) := by decide +kernel
theorem dL_law_186 : decode cL_law 186 = .ok (.aload 10, 2) := by decide +kernel
theorem dL_law_188 : decode cL_law 188 = .ok (.invokestatic 135, 3) := by decide +kernel
theorem dL_law_191 : decode cL_law 191 = .ok (.istore 17, 2) := by decide +kernel
theorem dL_law_193 : decode cL_law 193 = .ok (.goto 138, 3) := by decide +kernel
theorem dL_law_196 : decode cL_law 196 = .ok (.iload 16, 2) := by decide +kernel
theorem dL_law_198 : decode cL_law 198 = .ok (.bipush 14, 2) := by decide +kernel
theorem dL_law_200 : decode cL_law 200 = .ok (.if_icmp .ge 38, 3) := by decide +kernel
theorem dL_law_203 : decode cL_law 203 = .ok (.aload_n 1, 1) := by decide +kernel
theorem dL_law_204 : decode cL_law 204 = .ok (.iload 16, 2) := by decide +kernel
theorem dL_law_206 : decode cL_law 206 = .ok (.bipush 13, 2) := by decide +kernel
theorem dL_law_208 : decode cL_law 208 = .ok (.if_icmp .ge 7, 3) := by decide +kernel
theorem dL_law_211 : decode cL_law 211 = .ok (.iconst 0, 1) := by decide +kernel
theorem dL_law_212 : decode cL_law 212 = .ok (.goto 4, 3) := by decide +kernel
theorem dL_law_215 : decode cL_law 215 = .ok (.iconst 1, 1) := by decide +kernel
theorem dL_law_216 : decode cL_law 216 = .ok (.iload 15, 2) := by decide +kernel
theorem dL_law_218 : decode cL_law 218 = .ok (.iconst 5, 1) := by decide +kernel
theorem dL_law_219 : decode cL_law 219 = .ok (.ishr, 1) := by decide +kernel
theorem dL_law_220 : decode cL_law 220 = .ok (.aload 8, 2) := by decide +kernel
theorem dL_law_222 : decode cL_law 222 = .ok (.aload 9, 2) := by decide +kernel
theorem dL_law_224 : decode cL_law 224 = .ok (.aload 6, 2) := by decide +kernel
theorem dL_law_226 : decode cL_law 226 = .ok (.aload 10, 2) := by decide +kernel
theorem dL_law_228 : decode cL_law 228 = .ok (.aload 13, 2) := by decide +kernel
theorem dL_law_230 : decode cL_law 230 = .ok (.invokestatic 139, 3) := by decide +kernel
theorem dL_law_233 : decode cL_law 233 = .ok (.istore 17, 2) := by decide +kernel
theorem dL_law_235 : decode cL_law 235 = .ok (.goto 96, 3) := by decide +kernel
theorem dL_law_238 : decode cL_law 238 = .ok (.iload 16, 2) := by decide +kernel
theorem dL_law_240 : decode cL_law 240 = .ok (.bipush 20, 2) := by decide +kernel
theorem dL_law_242 : decode cL_law 242 = .ok (.if_icmp .ge 51, 3) := by decide +kernel
theorem dL_law_245 : decode cL_law 245 = .ok (.aload_n 1, 1) := by decide +kernel
theorem dL_law_246 : decode cL_law 246 = .ok (.iload 16, 2) := by decide +kernel
theorem dL_law_248 : decode cL_law 248 = .ok (.bipush 16, 2) := by decide +kernel
theorem dL_law_250 : decode cL_law 250 = .ok (.if_icmp .ge 7, 3) := by decide +kernel
theorem dL_law_253 : decode cL_law 253 = .ok (.iconst 0, 1) := by decide +kernel
theorem dL_law_254 : decode cL_law 254 = .ok (.goto 15, 3) := by decide +kernel
theorem dL_law_257 : decode cL_law 257 = .ok (.iload 16, 2) := by decide +kernel
theorem dL_law_259 : decode cL_law 259 = .ok (.bipush 16, 2) := by decide +kernel
theorem dL_law_261 : decode cL_law 261 = .ok (.if_icmp .ne 7, 3) := by decide +kernel
theorem dL_law_264 : decode cL_law 264 = .ok (.iconst 1, 1) := by decide +kernel
theorem dL_law_265 : decode cL_law 265 = .ok (.goto 4, 3) := by decide +kernel
theorem dL_law_268 : decode cL_law 268 = .ok (.iconst 2, 1) := by decide +kernel
theorem dL_law_269 : decode cL_law 269 = .ok (.iload 15, 2) := by decide +kernel
theorem dL_law_271 : decode cL_law 271 = .ok (.iconst 5, 1) := by decide +kernel
theorem dL_law_272 : decode cL_law 272 = .ok (.ishr, 1) := by decide +kernel
theorem dL_law_273 : decode cL_law 273 = .ok (.aload 8, 2) := by decide +kernel
theorem dL_law_275 : decode cL_law 275 = .ok (.aload 9, 2) := by decide +kernel
theorem dL_law_277 : decode cL_law 277 = .ok (.aload 6, 2) := by decide +kernel
theorem dL_law_279 : decode cL_law 279 = .ok (.aload 10, 2) := by decide +kernel
theorem dL_law_281 : decode cL_law 281 = .ok (.aload 11, 2) := by decide +kernel
theorem dL_law_283 : decode cL_law 283 = .ok (.aload 12, 2) := by decide +kernel
theorem dL_law_285 : decode cL_law 285 = .ok (.invokestatic 143, 3) := by decide +kernel
theorem dL_law_288 : decode cL_law 288 = .ok (.istore 17, 2) := by decide +kernel
theorem dL_law_290 : decode cL_law 290 = .ok (.goto 41, 3) := by decide +kernel
theorem dL_law_293 : decode cL_law 293 = .ok (.aload_n 1, 1) := by decide +kernel
theorem dL_law_294 : decode cL_law 294 = .ok (.iload 16, 2) := by decide +kernel
theorem dL_law_296 : decode cL_law 296 = .ok (.bipush 20, 2) := by decide +kernel
theorem dL_law_298 : decode cL_law 298 = .ok (.if_icmp .ne 7, 3) := by decide +kernel
theorem dL_law_301 : decode cL_law 301 = .ok (.iconst 1, 1) := by decide +kernel
theorem dL_law_302 : decode cL_law 302 = .ok (.goto 4, 3) := by decide +kernel
theorem dL_law_305 : decode cL_law 305 = .ok (.iconst 0, 1) := by decide +kernel
theorem dL_law_306 : decode cL_law 306 = .ok (.iload 15, 2) := by decide +kernel
theorem dL_law_308 : decode cL_law 308 = .ok (.iconst 5, 1) := by decide +kernel
theorem dL_law_309 : decode cL_law 309 = .ok (.ishr, 1) := by decide +kernel
theorem dL_law_310 : decode cL_law 310 = .ok (.aload_n 2, 1) := by decide +kernel
theorem dL_law_311 : decode cL_law 311 = .ok (.aload_n 3, 1) := by decide +kernel
theorem dL_law_312 : decode cL_law 312 = .ok (.aload 4, 2) := by decide +kernel
theorem dL_law_314 : decode cL_law 314 = .ok (.aload 5, 2) := by decide +kernel
theorem dL_law_316 : decode cL_law 316 = .ok (.aload 6, 2) := by decide +kernel
theorem dL_law_318 : decode cL_law 318 = .ok (.aload 7, 2) := by decide +kernel
theorem dL_law_320 : decode cL_law 320 = .ok (.aload 10, 2) := by decide +kernel
theorem dL_law_322 : decode cL_law 322 = .ok (.aload 11, 2) := by decide +kernel
theorem dL_law_324 : decode cL_law 324 = .ok (.aload 12, 2) := by decide +kernel
theorem dL_law_326 : decode cL_law 326 = .ok (.invokestatic 147, 3) := by decide +kernel
theorem dL_law_329 : decode cL_law 329 = .ok (.istore 17, 2) := by decide +kernel
theorem dL_law_331 : decode cL_law 331 = .ok (.iload 17, 2) := by decide +kernel
theorem dL_law_333 : decode cL_law 333 = .ok (.ifCond .eq 59, 3) := by decide +kernel
theorem dL_law_336 : decode cL_law 336 = .ok (.aload_n 1, 1) := by decide +kernel
theorem dL_law_337 : decode cL_law 337 = .ok (.aload_n 2, 1) := by decide +kernel
theorem dL_law_338 : decode cL_law 338 = .ok (.aload_n 3, 1) := by decide +kernel
theorem dL_law_339 : decode cL_law 339 = .ok (.aload 4, 2) := by decide +kernel
theorem dL_law_341 : decode cL_law 341 = .ok (.aload 5, 2) := by decide +kernel
theorem dL_law_343 : decode cL_law 343 = .ok (.aload 6, 2) := by decide +kernel
theorem dL_law_345 : decode cL_law 345 = .ok (.aload 10, 2) := by decide +kernel
theorem dL_law_347 : decode cL_law 347 = .ok (.aload 11, 2) := by decide +kernel
theorem dL_law_349 : decode cL_law 349 = .ok (.aload 12, 2) := by decide +kernel
theorem dL_law_351 : decode cL_law 351 = .ok (.invokestatic 151, 3) := by decide +kernel
theorem dL_law_354 : decode cL_law 354 = .ok (.ifCond .eq 38, 3) := by decide +kernel
theorem dL_law_357 : decode cL_law 357 = .ok (.aload_n 1, 1) := by decide +kernel
theorem dL_law_358 : decode cL_law 358 = .ok (.iload 15, 2) := by decide +kernel
theorem dL_law_360 : decode cL_law 360 = .ok (.bipush 6, 2) := by decide +kernel
theorem dL_law_362 : decode cL_law 362 = .ok (.ishr, 1) := by decide +kernel
theorem dL_law_363 : decode cL_law 363 = .ok (.iconst 3, 1) := by decide +kernel
theorem dL_law_364 : decode cL_law 364 = .ok (.invokestatic 97, 3) := by decide +kernel
theorem dL_law_367 : decode cL_law 367 = .ok (.iload 15, 2) := by decide +kernel
theorem dL_law_369 : decode cL_law 369 = .ok (.bipush 8, 2) := by decide +kernel
theorem dL_law_371 : decode cL_law 371 = .ok (.ishr, 1) := by decide +kernel
theorem dL_law_372 : decode cL_law 372 = .ok (.aload_n 2, 1) := by decide +kernel
theorem dL_law_373 : decode cL_law 373 = .ok (.aload_n 3, 1) := by decide +kernel
theorem dL_law_374 : decode cL_law 374 = .ok (.aload 4, 2) := by decide +kernel
theorem dL_law_376 : decode cL_law 376 = .ok (.aload 5, 2) := by decide +kernel
theorem dL_law_378 : decode cL_law 378 = .ok (.aload 6, 2) := by decide +kernel
theorem dL_law_380 : decode cL_law 380 = .ok (.aload 8, 2) := by decide +kernel
theorem dL_law_382 : decode cL_law 382 = .ok (.aload 9, 2) := by decide +kernel
theorem dL_law_384 : decode cL_law 384 = .ok (.aload 13, 2) := by decide +kernel
theorem dL_law_386 : decode cL_law 386 = .ok (.invokestatic 155, 3) := by decide +kernel
theorem dL_law_389 : decode cL_law 389 = .ok (.ifCond .ne 5, 3) := by decide +kernel
theorem dL_law_392 : decode cL_law 392 = .ok (.iconst 0, 1) := by decide +kernel
theorem dL_law_393 : decode cL_law 393 = .ok (.ireturn, 1) := by decide +kernel
theorem dL_law_394 : decode cL_law 394 = .ok (.iinc 14 1, 3) := by decide +kernel
theorem dL_law_397 : decode cL_law 397 = .ok (.goto (-294), 3) := by decide +kernel
theorem dL_law_400 : decode cL_law 400 = .ok (.iconst 1, 1) := by decide +kernel
theorem dL_law_401 : decode cL_law 401 = .ok (.ireturn, 1) := by decide +kernel
abbrev vwCl : List vw_C := [(RX0, TX0, 3), (RX1, TX1, 6), (RX2, TX2, 6), (RX3, TX3, 1), (RX4, TX4, 7), (RX5, TX5, 11), (RX6, TX6, 11)]

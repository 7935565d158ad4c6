theorem dL_memory_212 : decode cL_memory 212 = .ok (.bipush 8, 2) := by decide +kernel
theorem dL_memory_214 : decode cL_memory 214 = .ok (.if_icmp .ge 74, 3) := by decide +kernel
theorem dL_memory_217 : decode cL_memory 217 = .ok (.iload 12, 2) := by decide +kernel
theorem dL_memory_219 : decode cL_memory 219 = .ok (.ifCond .eq 69, 3) := by decide +kernel
theorem dL_memory_222 : decode cL_memory 222 = .ok (.aload_n 0, 1) := by decide +kernel
theorem dL_memory_223 : decode cL_memory 223 = .ok (.iload 13, 2) := by decide +kernel
theorem dL_memory_225 : decode cL_memory 225 = .ok (.invokevirtual 87, 3) := by decide +kernel
theorem dL_memory_228 : decode cL_memory 228 = .ok (.aload 7, 2) := by decide +kernel
theorem dL_memory_230 : decode cL_memory 230 = .ok (.iload 13, 2) := by decide +kernel
theorem dL_memory_232 : decode cL_memory 232 = .ok (.iaload, 1) := by decide +kernel
theorem dL_memory_233 : decode cL_memory 233 = .ok (.if_icmp .ne 46, 3) := by decide +kernel
theorem dL_memory_236 : decode cL_memory 236 = .ok (.aload_n 0, 1) := by decide +kernel
theorem dL_memory_237 : decode cL_memory 237 = .ok (.iload 13, 2) := by decide +kernel
theorem dL_memory_239 : decode cL_memory 239 = .ok (.invokevirtual 90, 3) := by decide +kernel
theorem dL_memory_242 : decode cL_memory 242 = .ok (.iload 9, 2) := by decide +kernel
theorem dL_memory_244 : decode cL_memory 244 = .ok (.ifCond .eq 27, 3) := by decide +kernel
theorem dL_memory_247 : decode cL_memory 247 = .ok (.aload 7, 2) := by decide +kernel
theorem dL_memory_249 : decode cL_memory 249 = .ok (.bipush 8, 2) := by decide +kernel
theorem dL_memory_251 : decode cL_memory 251 = .ok (.iload 13, 2) := by decide +kernel
theorem dL_memory_253 : decode cL_memory 253 = .ok (.iadd, 1) := by decide +kernel
theorem dL_memory_254 : decode cL_memory 254 = .ok (.iaload, 1) := by decide +kernel
theorem dL_memory_255 : decode cL_memory 255 = .ok (.ldc 52, 2) := by decide +kernel
theorem dL_memory_257 : decode cL_memory 257 = .ok (.if_icmp .ge 14, 3) := by decide +kernel
theorem dL_memory_260 : decode cL_memory 260 = .ok (.aload 7, 2) := by decide +kernel
theorem dL_memory_262 : decode cL_memory 262 = .ok (.bipush 8, 2) := by decide +kernel
theorem dL_memory_264 : decode cL_memory 264 = .ok (.iload 13, 2) := by decide +kernel
theorem dL_memory_266 : decode cL_memory 266 = .ok (.iadd, 1) := by decide +kernel
theorem dL_memory_267 : decode cL_memory 267 = .ok (.iaload, 1) := by decide +kernel
theorem dL_memory_268 : decode cL_memory 268 = .ok (.goto 4, 3) := by decide +kernel
theorem dL_memory_271 : decode cL_memory 271 = .ok (.iconst (-1), 1) := by decide +kernel
theorem dL_memory_272 : decode cL_memory 272 = .ok (.if_icmp .ne 7, 3) := by decide +kernel
theorem dL_memory_275 : decode cL_memory 275 = .ok (.iconst 1, 1) := by decide +kernel
theorem dL_memory_276 : decode cL_memory 276 = .ok (.goto 4, 3) := by decide +kernel
theorem dL_memory_279 : decode cL_memory 279 = .ok (.iconst 0, 1) := by decide +kernel
theorem dL_memory_280 : decode cL_memory 280 = .ok (.istore 12, 2) := by decide +kernel
theorem dL_memory_282 : decode cL_memory 282 = .ok (.iinc 13 1, 3) := by decide +kernel
theorem dL_memory_285 : decode cL_memory 285 = .ok (.goto (-75), 3) := by decide +kernel
theorem dL_memory_288 : decode cL_memory 288 = .ok (.iload 12, 2) := by decide +kernel
theorem dL_memory_290 : decode cL_memory 290 = .ok (.ireturn, 1) := by decide +kernel
set_option maxRecDepth 20000 in
theorem ggL_song_L_lays : GoodIn wsL_song wsL_lays := goodIn_r _ [4] (by decide +kernel) (by decide +kernel)
set_option maxRecDepth 20000 in
theorem gL_song_L_lays : GoodIn wsL_song (va_wsS RL 93 yL_lays wsL_lays) := goodIn_app (goodIn_of _ (by decide +kernel)) ggL_song_L_lays
set_option maxRecDepth 20000 in
theorem ggL_song_L_has : GoodIn wsL_song wsL_has := goodIn_r _ [7] (by decide +kernel) (by decide +kernel)
set_option maxRecDepth 20000 in
theorem gL_song_L_has : GoodIn wsL_song (va_wsS RL 59 yL_has wsL_has) := goodIn_app (goodIn_of _ (by decide +kernel)) ggL_song_L_has
set_option maxRecDepth 20000 in
theorem ggL_song_L_low : GoodIn wsL_song wsL_low := goodIn_r _ [10, 11] (by decide +kernel) (by decide +kernel)
set_option maxRecDepth 20000 in
theorem gL_song_L_low : GoodIn wsL_song (va_wsS RL 97 yL_low wsL_low) := goodIn_app (goodIn_of _ (by decide +kernel)) ggL_song_L_low
set_option maxRecDepth 20000 in
theorem ggL_song_X6_bars : GoodIn wsL_song wsX6_bars := goodIn_ca (goodIn_r _ [16, 17, 18, 19, 15, 20, 21, 22, 23, 24, 25, 26, 27, 28, 29, 30, 31, 32, 33, 34, 35, 36, 37, 98, 99, 100, 101, 102, 103, 104, 105, 106, 107, 108, 109, 110, 111, 112, 113, 114, 115, 116, 117, 118, 119, 120] (by decide +kernel) (by decide +kernel)) (goodIn_sub (fun _ h => List.mem_cons_of_mem _ (List.mem_append_right _ h)) (by decide +kernel))
set_option maxRecDepth 20000 in
theorem gL_song_X6_bars : GoodIn wsL_song (wsV RL 100 RX6 yX6_bars wsX6_bars) := goodIn_app (goodIn_of _ (by decide +kernel)) ggL_song_X6_bars
set_option maxRecDepth 20000 in
theorem ggL_song_X6_beats : GoodIn wsL_song wsX6_beats := goodIn_ca (goodIn_r _ [41, 17, 42, 18, 19, 15, 20, 21, 22, 23, 24, 25, 26, 27, 28, 29, 30, 31, 32, 33, 34, 35, 36, 37, 43, 44, 45, 46, 47, 48, 49, 50, 51, 52, 53, 54, 55, 56, 57, 58, 59, 60, 61, 62, 63, 64, 65, 66, 67, 68, 69, 70, 71, 72, 73, 74, 75, 76, 98, 99, 100, 101, 102, 103, 104, 105, 106, 107, 108, 109, 110, 111, 112, 113, 114, 115, 116, 117, 118, 119, 120, 121, 122, 123, 124, 125, 126] (by decide +kernel) (by decide +kernel)) (goodIn_sub (fun _ h => List.mem_cons_of_mem _ (List.mem_append_right _ h)) (by decide +kernel))
set_option maxRecDepth 20000 in
theorem gL_song_X6_beats : GoodIn wsL_song (wsV RL 103 RX6 yX6_beats wsX6_beats) := goodIn_app (goodIn_of _ (by decide +kernel)) ggL_song_X6_beats
set_option maxRecDepth 20000 in
theorem ggL_song_X6_beatsByTicks : GoodIn wsL_song wsX6_beatsByTicks := goodIn_ca (goodIn_r _ [80, 17, 42, 18, 19, 15, 20, 21, 22, 23, 24, 25, 26, 27, 28, 29, 30, 31, 32, 33, 34, 35, 36, 37, 43, 44, 45, 46, 47, 48, 49, 50, 51, 52, 53, 54, 55, 56, 81, 82, 83, 84, 85, 86, 87, 88, 89, 90, 91, 92, 93, 61, 62, 63, 64, 65, 66, 67, 68, 69, 70, 71, 72, 73, 74, 75, 76, 98, 99, 100, 101, 102, 103, 104, 105, 106, 107, 108, 109, 110, 111, 112, 113, 114, 115, 116, 117, 118, 119, 120, 121, 122, 123, 124, 125, 126] (by decide +kernel) (by decide +kernel)) (goodIn_sub (fun _ h => List.mem_cons_of_mem _ (List.mem_append_right _ h)) (by decide +kernel))
set_option maxRecDepth 20000 in
theorem gL_song_X6_beatsByTicks : GoodIn wsL_song (wsV RL 106 RX6 yX6_beatsByTicks wsX6_beatsByTicks) := goodIn_app (goodIn_of _ (by decide +kernel)) ggL_song_X6_beatsByTicks
set_option maxRecDepth 20000 in
theorem ggL_song_X6_barAt : GoodIn wsL_song wsX6_barAt := goodIn_ca (goodIn_r _ [97, 17, 18, 19, 15, 20, 21, 22, 23, 24, 25, 26, 27, 28, 29, 30, 31, 32, 33, 34, 35, 36, 37, 43, 44, 45, 46, 47, 48, 49, 50, 51, 52, 53, 54, 55, 56, 98, 99, 100, 101, 102, 103, 104, 105, 106, 107, 108, 109, 110, 111, 112, 113, 114, 115, 116, 117, 118, 119, 120, 121, 122, 123, 124, 125, 126] (by decide +kernel) (by decide +kernel)) (goodIn_sub (fun _ h => List.mem_cons_of_mem _ (List.mem_append_right _ h)) (by decide +kernel))
set_option maxRecDepth 20000 in
theorem gL_song_X6_barAt : GoodIn wsL_song (wsV RL 109 RX6 yX6_barAt wsX6_barAt) := goodIn_app (goodIn_of _ (by decide +kernel)) ggL_song_X6_barAt
theorem dL_song_0 : decode cL_song 0 = .ok (.iload_n 1, 1) := by decide +kernel
theorem dL_song_1 : decode cL_song 1 = .ok (.iconst 0, 1) := by decide +kernel
theorem dL_song_2 : decode cL_song 2 = .ok (.aload 10, 2) := by decide +kernel
theorem dL_song_4 : decode cL_song 4 = .ok (.aload 8, 2) := by decide +kernel
theorem dL_song_6 : decode cL_song 6 = .ok (.aload 9, 2) := by decide +kernel
theorem dL_song_8 : decode cL_song 8 = .ok (.aload 7, 2) := by decide +kernel
theorem dL_song_10 : decode cL_song 10 = .ok (.invokestatic 93, 3) := by decide +kernel
theorem dL_song_13 : decode cL_song 13 = .ok (.istore 11, 2) := by decide +kernel
theorem dL_song_15 : decode cL_song 15 = .ok (.iconst 0, 1) := by decide +kernel
theorem dL_song_16 : decode cL_song 16 = .ok (.istore 12, 2) := by decide +kernel
theorem dL_song_18 : decode cL_song 18 = .ok (.iconst 0, 1) := by decide +kernel
theorem dL_song_19 : decode cL_song 19 = .ok (.istore 13, 2) := by decide +kernel
theorem dL_song_21 : decode cL_song 21 = .ok (.iload 13, 2) := by decide +kernel
theorem dL_song_23 : decode cL_song 23 = .ok (.bipush 64, 2) := by decide +kernel
theorem dL_song_25 : decode cL_song 25 = .ok (.iload 11, 2) := by decide +kernel
theorem dL_song_27 : decode cL_song 27 = .ok (.imul, 1) := by decide +kernel
theorem dL_song_28 : decode cL_song 28 = .ok (.if_icmp .ge 51, 3) := by decide +kernel
theorem dL_song_31 : decode cL_song 31 = .ok (.iload 12, 2) := by decide +kernel
theorem dL_song_33 : decode cL_song 33 = .ok (.aload 10, 2) := by decide +kernel
theorem dL_song_35 : decode cL_song 35 = .ok (.iload 13, 2) := by decide +kernel
theorem dL_song_37 : decode cL_song 37 = .ok (.bipush 64, 2) := by decide +kernel
theorem dL_song_39 : decode cL_song 39 = .ok (.idiv, 1) := by decide +kernel
theorem dL_song_40 : decode cL_song 40 = .ok (.iaload, 1) := by decide +kernel
theorem dL_song_41 : decode cL_song 41 = .ok (.iload 13, 2) := by decide +kernel
theorem dL_song_43 : decode cL_song 43 = .ok (.iconst 4, 1) := by decide +kernel
theorem dL_song_44 : decode cL_song 44 = .ok (.irem, 1) := by decide +kernel
theorem dL_song_45 : decode cL_song 45 = .ok (.iload 13, 2) := by decide +kernel
theorem dL_song_47 : decode cL_song 47 = .ok (.bipush 64, 2) := by decide +kernel
theorem dL_song_49 : decode cL_song 49 = .ok (.irem, 1) := by decide +kernel
theorem dL_song_50 : decode cL_song 50 = .ok (.iconst 4, 1) := by decide +kernel
theorem dL_song_51 : decode cL_song 51 = .ok (.idiv, 1) := by decide +kernel
theorem dL_song_52 : decode cL_song 52 = .ok (.aload_n 3, 1) := by decide +kernel
theorem dL_song_53 : decode cL_song 53 = .ok (.aload 4, 2) := by decide +kernel
theorem dL_song_55 : decode cL_song 55 = .ok (.aload 5, 2) := by decide +kernel
theorem dL_song_57 : decode cL_song 57 = .ok (.aload 6, 2) := by decide +kernel
theorem dL_song_59 : decode cL_song 59 = .ok (.invokestatic 59, 3) := by decide +kernel
theorem dL_song_62 : decode cL_song 62 = .ok (.ifCond .le 7, 3) := by decide +kernel
theorem dL_song_65 : decode cL_song 65 = .ok (.iconst 1, 1) := by decide +kernel
theorem dL_song_66 : decode cL_song 66 = .ok (.goto 4, 3) := by decide +kernel
theorem dL_song_69 : decode cL_song 69 = .ok (.iconst 0, 1) := by decide +kernel
theorem dL_song_70 : decode cL_song 70 = .ok (.iadd, 1) := by decide +kernel
theorem dL_song_71 : decode cL_song 71 = .ok (.istore 12, 2) := by decide +kernel
theorem dL_song_73 : decode cL_song 73 = .ok (.iinc 13 1, 3) := by decide +kernel
theorem dL_song_76 : decode cL_song 76 = .ok (.goto (-55), 3) := by decide +kernel
theorem dL_song_79 : decode cL_song 79 = .ok (.iload 11, 2) := by decide +kernel
theorem dL_song_81 : decode cL_song 81 = .ok (.ifCond .ne 7, 3) := by decide +kernel
theorem dL_song_84 : decode cL_song 84 = .ok (.iconst 0, 1) := by decide +kernel
theorem dL_song_85 : decode cL_song 85 = .ok (.goto 9, 3) := by decide +kernel
theorem dL_song_88 : decode cL_song 88 = .ok (.iload_n 2, 1) := by decide +kernel
theorem dL_song_89 : decode cL_song 89 = .ok (.iload 11, 2) := by decide +kernel
theorem dL_song_91 : decode cL_song 91 = .ok (.invokestatic 97, 3) := by decide +kernel
theorem dL_song_94 : decode cL_song 94 = .ok (.istore 13, 2) := by decide +kernel
theorem dL_song_96 : decode cL_song 96 = .ok (.aload_n 0, 1) := by decide +kernel
theorem dL_song_97 : decode cL_song 97 = .ok (.iload_n 1, 1) := by decide +kernel
theorem dL_song_98 : decode cL_song 98 = .ok (.invokevirtual 100, 3) := by decide +kernel
theorem dL_song_101 : decode cL_song 101 = .ok (.iload 11, 2) := by decide +kernel
theorem dL_song_103 : decode cL_song 103 = .ok (.if_icmp .ne 60, 3) := by decide +kernel
theorem dL_song_106 : decode cL_song 106 = .ok (.aload_n 0, 1) := by decide +kernel
theorem dL_song_107 : decode cL_song 107 = .ok (.iload_n 1, 1) := by decide +kernel
theorem dL_song_108 : decode cL_song 108 = .ok (.invokevirtual 103, 3) := by decide +kernel
theorem dL_song_111 : decode cL_song 111 = .ok (.iload 12, 2) := by decide +kernel
theorem dL_song_113 : decode cL_song 113 = .ok (.if_icmp .ne 50, 3) := by decide +kernel
theorem dL_song_116 : decode cL_song 116 = .ok (.aload_n 0, 1) := by decide +kernel
theorem dL_song_117 : decode cL_song 117 = .ok (.iload_n 1, 1) := by decide +kernel
theorem dL_song_118 : decode cL_song 118 = .ok (.invokevirtual 106, 3) := by decide +kernel
theorem dL_song_121 : decode cL_song 121 = .ok (.iload 12, 2) := by decide +kernel
theorem dL_song_123 : decode cL_song 123 = .ok (.if_icmp .ne 40, 3) := by decide +kernel
theorem dL_song_126 : decode cL_song 126 = .ok (.iload 11, 2) := by decide +kernel
theorem dL_song_128 : decode cL_song 128 = .ok (.ifCond .eq 31, 3) := by decide +kernel
theorem dL_song_131 : decode cL_song 131 = .ok (.aload_n 0, 1) := by decide +kernel
theorem dL_song_132 : decode cL_song 132 = .ok (.iload_n 1, 1) := by decide +kernel
theorem dL_song_133 : decode cL_song 133 = .ok (.iload 13, 2) := by decide +kernel
theorem dL_song_135 : decode cL_song 135 = .ok (.invokevirtual 109, 3) := by decide +kernel
theorem dL_song_138 : decode cL_song 138 = .ok (.aload 10, 2) := by decide +kernel
theorem dL_song_140 : decode cL_song 140 = .ok (.iload 13, 2) := by decide +kernel
theorem dL_song_142 : decode cL_song 142 = .ok (.iaload, 1) := by decide +kernel
theorem dL_song_143 : decode cL_song 143 = .ok (.iconst 2, 1) := by decide +kernel
theorem dL_song_144 : decode cL_song 144 = .ok (.idiv, 1) := by decide +kernel
theorem dL_song_145 : decode cL_song 145 = .ok (.bipush 10, 2) := by decide +kernel
theorem dL_song_147 : decode cL_song 147 = .ok (.imul, 1) := by decide +kernel
theorem dL_song_148 : decode cL_song 148 = .ok (.aload 10, 2) := by decide +kernel
theorem dL_song_150 : decode cL_song 150 = .ok (.iload 13, 2) := by decide +kernel
theorem dL_song_152 : decode cL_song 152 = .ok (.iaload, 1) := by decide +kernel
theorem dL_song_153 : decode cL_song 153 = .ok (.iconst 2, 1) := by decide +kernel
theorem dL_song_154 : decode cL_song 154 = .ok (.irem, 1) := by decide +kernel
theorem dL_song_155 : decode cL_song 155 = .ok (.iadd, 1) := by decide +kernel
theorem dL_song_156 : decode cL_song 156 = .ok (.if_icmp .ne 7, 3) := by decide +kernel
theorem dL_song_159 : decode cL_song 159 = .ok (.iconst 1, 1) := by decide +kernel
theorem dL_song_160 : decode cL_song 160 = .ok (.goto 4, 3) := by decide +kernel
theorem dL_song_163 : decode cL_song 163 = .ok (.iconst 0, 1) := by decide +kernel
theorem dL_song_164 : decode cL_song 164 = .ok (.ireturn, 1) := by decide +kernel
set_option maxRecDepth 20000 in
theorem ggL_steps_L_low : GoodIn wsL_steps wsL_low := goodIn_r _ [4, 5] (by decide +kernel) (by decide +kernel)
set_option maxRecDepth 20000 in
theorem gL_steps_L_low : GoodIn wsL_steps (va_wsS RL 97 yL_low wsL_low) := goodIn_app (goodIn_of _ (by decide +kernel)) ggL_steps_L_low
set_option maxRecDepth 20000 in
theorem ggL_steps_L_calls : GoodIn wsL_steps wsL_calls := goodIn_ca (goodIn_ca (goodIn_ca (goodIn_r _ [8, 9, 10, 11, 12, 13, 14, 15, 16, 17, 18, 19, 20, 21, 22, 23, 24, 25, 26, 27, 28, 29, 30, 31, 32, 33, 34, 35, 36, 37, 38, 39, 40, 41, 42, 43, 44, 45, 46, 47, 48, 49, 50, 51, 52, 53, 54, 55, 56, 57, 58, 59, 60, 61, 62, 63, 64, 65, 66, 67, 68, 69, 70, 71, 72, 73, 74, 75, 76, 77, 78, 79, 80, 81, 82, 83, 84, 85, 86, 87, 88, 89, 90, 91, 92, 93, 94, 95, 96, 97, 98, 99, 100, 101, 102, 103, 104, 105, 106, 107, 108, 109, 110, 111, 112, 113, 114, 115, 116, 117, 118, 119, 120, 121, 122, 123, 124, 125, 126, 127, 128, 129, 130, 131, 132, 133, 134, 135, 136, 137, 138, 139, 140, 141, 142, 143, 144, 145, 146, 147, 148, 149, 150, 151, 152, 153, 154, 155, 156, 157, 158, 159, 160, 161, 162, 163, 164, 165, 166, 167, 168, 169, 170, 171, 172, 173, 174, 175, 176, 177, 178, 179, 180, 181, 182, 183, 184, 185, 186, 187, 188, 189, 190, 191, 192, 193, 194, 195, 196, 197, 198, 199, 200, 201, 202, 203, 204, 205, 206, 207, 208, 209, 210, 211, 212, 213, 214, 215, 216, 217, 218, 219, 220, 221, 222, 223, 224, 225, 226, 227, 228, 229, 230, 231, 232, 233, 234, 235, 236, 237, 238, 239, 240, 241, 242, 243, 244, 245, 246, 247, 248, 249, 250, 251, 252, 253, 254, 255, 256, 257, 258, 259, 260, 261, 262, 263, 264, 265, 266, 267, 268, 269, 270, 271, 272, 273, 274, 275, 276, 277, 278, 279, 280, 281, 282, 283, 284, 285, 286, 287, 288, 289, 290, 291, 292, 293, 294, 295, 296, 297, 298, 299, 300, 301, 302, 303, 304, 305, 306, 307, 308, 309, 310, 311, 312, 313, 314, 315, 316, 317, 318, 319, 320, 321, 322, 323, 324, 325, 326, 327, 328, 329, 330, 331, 332, 333, 334, 335, 336, 337, 338, 339, 340, 341, 342, 343, 344, 345, 346, 347, 348, 349, 350, 351, 352, 353, 354, 355, 356, 357, 358, 359, 360, 361, 362, 363, 364, 365, 366, 367, 368, 369, 370, 371, 372, 373, 374, 375, 376, 377, 378, 379, 380, 381, 382, 383, 384, 385, 386, 387, 388, 389, 390, 391, 392, 393, 394, 395, 396, 397, 398, 399, 400, 401, 402, 403, 404, 405, 406] (by decide +kernel) (by decide +kernel)) (goodIn_sub (fun _ h => List.mem_cons_of_mem _ (List.mem_append_left _ (List.mem_append_left _ (List.mem_append_right _ h)))) (by decide +kernel))) (goodIn_sub (fun _ h => List.mem_cons_of_mem _ (List.mem_append_left _ (List.mem_append_right _ h))) (by decide +kernel))) (goodIn_sub (fun _ h => List.mem_cons_of_mem _ (List.mem_append_right _ h)) (by decide +kernel))
set_option maxRecDepth 20000 in
theorem gL_steps_L_calls : GoodIn wsL_steps (va_wsS RL 112 yL_calls wsL_calls) := goodIn_app (goodIn_of _ (by decide +kernel)) ggL_steps_L_calls
theorem dL_steps_0 : decode cL_steps 0 = .ok (.iload_n 1, 1) := by decide +kernel
theorem dL_steps_1 : decode cL_steps 1 = .ok (.iconst 3, 1) := by decide +kernel
theorem dL_steps_2 : decode cL_steps 2 = .ok (.invokestatic 97, 3) := by decide +kernel
theorem dL_steps_5 : decode cL_steps 5 = .ok (.istore 7, 2) := by decide +kernel
theorem dL_steps_7 : decode cL_steps 7 = .ok (.iload_n 1, 1) := by decide +kernel
theorem dL_steps_8 : decode cL_steps 8 = .ok (.iconst 2, 1) := by decide +kernel
theorem dL_steps_9 : decode cL_steps 9 = .ok (.ishr, 1) := by decide +kernel
theorem dL_steps_10 : decode cL_steps 10 = .ok (.iconst 4, 1) := by decide +kernel
theorem dL_steps_11 : decode cL_steps 11 = .ok (.invokestatic 97, 3) := by decide +kernel
theorem dL_steps_14 : decode cL_steps 14 = .ok (.istore 8, 2) := by decide +kernel
theorem dL_steps_16 : decode cL_steps 16 = .ok (.iload_n 1, 1) := by decide +kernel
theorem dL_steps_17 : decode cL_steps 17 = .ok (.iconst 4, 1) := by decide +kernel
theorem dL_steps_18 : decode cL_steps 18 = .ok (.ishr, 1) := by decide +kernel
theorem dL_steps_19 : decode cL_steps 19 = .ok (.bipush 16, 2) := by decide +kernel
theorem dL_steps_21 : decode cL_steps 21 = .ok (.invokestatic 97, 3) := by decide +kernel
theorem dL_steps_24 : decode cL_steps 24 = .ok (.istore 9, 2) := by decide +kernel
theorem dL_steps_26 : decode cL_steps 26 = .ok (.iload_n 1, 1) := by decide +kernel
theorem dL_steps_27 : decode cL_steps 27 = .ok (.bipush 7, 2) := by decide +kernel
theorem dL_steps_29 : decode cL_steps 29 = .ok (.ishr, 1) := by decide +kernel
theorem dL_steps_30 : decode cL_steps 30 = .ok (.iload_n 1, 1) := by decide +kernel
theorem dL_steps_31 : decode cL_steps 31 = .ok (.bipush 12, 2) := by decide +kernel
theorem dL_steps_33 : decode cL_steps 33 = .ok (.ishr, 1) := by decide +kernel
theorem dL_steps_34 : decode cL_steps 34 = .ok (.iconst 2, 1) := by decide +kernel
theorem dL_steps_35 : decode cL_steps 35 = .ok (.invokestatic 97, 3) := by decide +kernel
theorem dL_steps_38 : decode cL_steps 38 = .ok (.ifCond .ne 8, 3) := by decide +kernel
theorem dL_steps_41 : decode cL_steps 41 = .ok (.bipush 9, 2) := by decide +kernel
theorem dL_steps_43 : decode cL_steps 43 = .ok (.goto 4, 3) := by decide +kernel
theorem dL_steps_46 : decode cL_steps 46 = .ok (.iconst 4, 1) := by decide +kernel
theorem dL_steps_47 : decode cL_steps 47 = .ok (.invokestatic 97, 3) := by decide +kernel
theorem dL_steps_50 : decode cL_steps 50 = .ok (.istore 10, 2) := by decide +kernel
theorem dL_steps_52 : decode cL_steps 52 = .ok (.iload 9, 2) := by decide +kernel
theorem dL_steps_54 : decode cL_steps 54 = .ok (.bipush 11, 2) := by decide +kernel
theorem dL_steps_56 : decode cL_steps 56 = .ok (.if_icmp .le 18, 3) := by decide +kernel
theorem dL_steps_59 : decode cL_steps 59 = .ok (.iload_n 1, 1) := by decide +kernel
theorem dL_steps_60 : decode cL_steps 60 = .ok (.bipush 11, 2) := by decide +kernel
theorem dL_steps_62 : decode cL_steps 62 = .ok (.ishr, 1) := by decide +kernel
theorem dL_steps_63 : decode cL_steps 63 = .ok (.iconst 2, 1) := by decide +kernel
theorem dL_steps_64 : decode cL_steps 64 = .ok (.invokestatic 97, 3) := by decide +kernel
theorem dL_steps_67 : decode cL_steps 67 = .ok (.ifCond .ne 7, 3) := by decide +kernel
theorem dL_steps_70 : decode cL_steps 70 = .ok (.iconst 1, 1) := by decide +kernel
theorem dL_steps_71 : decode cL_steps 71 = .ok (.goto 4, 3) := by decide +kernel
theorem dL_steps_74 : decode cL_steps 74 = .ok (.iconst 0, 1) := by decide +kernel
theorem dL_steps_75 : decode cL_steps 75 = .ok (.istore 11, 2) := by decide +kernel
theorem dL_steps_77 : decode cL_steps 77 = .ok (.iload 11, 2) := by decide +kernel
theorem dL_steps_79 : decode cL_steps 79 = .ok (.ifCond .eq 22, 3) := by decide +kernel
theorem dL_steps_82 : decode cL_steps 82 = .ok (.bipush 16, 2) := by decide +kernel
theorem dL_steps_84 : decode cL_steps 84 = .ok (.iload 7, 2) := by decide +kernel
theorem dL_steps_86 : decode cL_steps 86 = .ok (.imul, 1) := by decide +kernel
theorem dL_steps_87 : decode cL_steps 87 = .ok (.iconst 4, 1) := by decide +kernel
theorem dL_steps_88 : decode cL_steps 88 = .ok (.iload 8, 2) := by decide +kernel
theorem dL_steps_90 : decode cL_steps 90 = .ok (.imul, 1) := by decide +kernel
theorem dL_steps_91 : decode cL_steps 91 = .ok (.iadd, 1) := by decide +kernel
theorem dL_steps_92 : decode cL_steps 92 = .ok (.iload 9, 2) := by decide +kernel
theorem dL_steps_94 : decode cL_steps 94 = .ok (.iadd, 1) := by decide +kernel
theorem dL_steps_95 : decode cL_steps 95 = .ok (.bipush 12, 2) := by decide +kernel
theorem dL_steps_97 : decode cL_steps 97 = .ok (.isub, 1) := by decide +kernel
theorem dL_steps_98 : decode cL_steps 98 = .ok (.goto 11, 3) := by decide +kernel
theorem dL_steps_101 : decode cL_steps 101 = .ok (.bipush 16, 2) := by decide +kernel
theorem dL_steps_103 : decode cL_steps 103 = .ok (.iload 8, 2) := by decide +kernel
theorem dL_steps_105 : decode cL_steps 105 = .ok (.imul, 1) := by decide +kernel
theorem dL_steps_106 : decode cL_steps 106 = .ok (.iload 9, 2) := by decide +kernel
theorem dL_steps_108 : decode cL_steps 108 = .ok (.iadd, 1) := by decide +kernel
theorem dL_steps_109 : decode cL_steps 109 = .ok (.istore 12, 2) := by decide +kernel
theorem dL_steps_111 : decode cL_steps 111 = .ok (.iload 11, 2) := by decide +kernel
theorem dL_steps_113 : decode cL_steps 113 = .ok (.ifCond .eq 11, 3) := by decide +kernel
theorem dL_steps_116 : decode cL_steps 116 = .ok (.aload 5, 2) := by decide +kernel
theorem dL_steps_118 : decode cL_steps 118 = .ok (.iload 12, 2) := by decide +kernel
theorem dL_steps_120 : decode cL_steps 120 = .ok (.iaload, 1) := by decide +kernel
theorem dL_steps_121 : decode cL_steps 121 = .ok (.goto 33, 3) := by decide +kernel
theorem dL_steps_124 : decode cL_steps 124 = .ok (.iload 7, 2) := by decide +kernel
theorem dL_steps_126 : decode cL_steps 126 = .ok (.ifCond .ne 10, 3) := by decide +kernel
theorem dL_steps_129 : decode cL_steps 129 = .ok (.aload_n 2, 1) := by decide +kernel
theorem dL_steps_130 : decode cL_steps 130 = .ok (.iload 12, 2) := by decide +kernel
theorem dL_steps_132 : decode cL_steps 132 = .ok (.iaload, 1) := by decide +kernel
theorem dL_steps_133 : decode cL_steps 133 = .ok (.goto 21, 3) := by decide +kernel
theorem dL_steps_136 : decode cL_steps 136 = .ok (.iload 7, 2) := by decide +kernel
theorem dL_steps_138 : decode cL_steps 138 = .ok (.iconst 1, 1) := by decide +kernel
theorem dL_steps_139 : decode cL_steps 139 = .ok (.if_icmp .ne 10, 3) := by decide +kernel
theorem dL_steps_142 : decode cL_steps 142 = .ok (.aload_n 3, 1) := by decide +kernel
theorem dL_steps_143 : decode cL_steps 143 = .ok (.iload 12, 2) := by decide +kernel
theorem dL_steps_145 : decode cL_steps 145 = .ok (.iaload, 1) := by decide +kernel
theorem dL_steps_146 : decode cL_steps 146 = .ok (.goto 8, 3) := by decide +kernel
theorem dL_steps_149 : decode cL_steps 149 = .ok (.aload 4, 2) := by decide +kernel
theorem dL_steps_151 : decode cL_steps 151 = .ok (.iload 12, 2) := by decide +kernel
theorem dL_steps_153 : decode cL_steps 153 = .ok (.iaload, 1) := by decide +kernel
theorem dL_steps_154 : decode cL_steps 154 = .ok (.istore 13, 2) := by decide +kernel
theorem dL_steps_156 : decode cL_steps 156 = .ok (.aload 6, 2) := by decide +kernel
theorem dL_steps_158 : decode cL_steps 158 = .ok (.iconst 1, 1) := by decide +kernel
theorem dL_steps_159 : decode cL_steps 159 = .ok (.iaload, 1) := by decide +kernel
theorem dL_steps_160 : decode cL_steps 160 = .ok (.ifCond .ne 7, 3) := by decide +kernel
theorem dL_steps_163 : decode cL_steps 163 = .ok (.iconst 1, 1) := by decide +kernel
theorem dL_steps_164 : decode cL_steps 164 = .ok (.goto 4, 3) := by decide +kernel
theorem dL_steps_167 : decode cL_steps 167 = .ok (.iconst 0, 1) := by decide +kernel
theorem dL_steps_168 : decode cL_steps 168 = .ok (.istore 14, 2) := by decide +kernel
theorem dL_steps_170 : decode cL_steps 170 = .ok (.aload 5, 2) := by decide +kernel
theorem dL_steps_172 : decode cL_steps 172 = .ok (.iload 11, 2) := by decide +kernel
theorem dL_steps_174 : decode cL_steps 174 = .ok (.ifCond .eq 8, 3) := by decide +kernel
theorem dL_steps_177 : decode cL_steps 177 = .ok (.iload 12, 2) := by decide +kernel
theorem dL_steps_179 : decode cL_steps 179 = .ok (.goto 4, 3) := by decide +kernel
theorem dL_steps_182 : decode cL_steps 182 = .ok (.iconst 0, 1) := by decide +kernel
theorem dL_steps_183 : decode cL_steps 183 = .ok (.iload 11, 2) := by decide +kernel
theorem dL_steps_185 : decode cL_steps 185 = .ok (.ifCond .eq 13, 3) := by decide +kernel
theorem dL_steps_188 : decode cL_steps 188 = .ok (.iload 14, 2) := by decide +kernel
theorem dL_steps_190 : decode cL_steps 190 = .ok (.ifCond .eq 8, 3) := by decide +kernel
theorem dL_steps_193 : decode cL_steps 193 = .ok (.iload 10, 2) := by decide +kernel
theorem dL_steps_195 : decode cL_steps 195 = .ok (.goto 17, 3) := by decide +kernel
theorem dL_steps_198 : decode cL_steps 198 = .ok (.aload 5, 2) := by decide +kernel
theorem dL_steps_200 : decode cL_steps 200 = .ok (.iload 11, 2) := by decide +kernel
theorem dL_steps_202 : decode cL_steps 202 = .ok (.ifCond .eq 8, 3) := by decide +kernel
theorem dL_steps_205 : decode cL_steps 205 = .ok (.iload 12, 2) := by decide +kernel
theorem dL_steps_207 : decode cL_steps 207 = .ok (.goto 4, 3) := by decide +kernel
theorem dL_steps_210 : decode cL_steps 210 = .ok (.iconst 0, 1) := by decide +kernel
theorem dL_steps_211 : decode cL_steps 211 = .ok (.iaload, 1) := by decide +kernel
theorem dL_steps_212 : decode cL_steps 212 = .ok (.iastore, 1) := by decide +kernel
theorem dL_steps_213 : decode cL_steps 213 = .ok (.aload_n 2, 1) := by decide +kernel
theorem dL_steps_214 : decode cL_steps 214 = .ok (.iload 11, 2) := by decide +kernel
theorem dL_steps_216 : decode cL_steps 216 = .ok (.ifCond .eq 7, 3) := by decide +kernel
theorem dL_steps_219 : decode cL_steps 219 = .ok (.iconst 0, 1) := by decide +kernel
theorem dL_steps_220 : decode cL_steps 220 = .ok (.goto 5, 3) := by decide +kernel
theorem dL_steps_223 : decode cL_steps 223 = .ok (.iload 12, 2) := by decide +kernel
theorem dL_steps_225 : decode cL_steps 225 = .ok (.iload 11, 2) := by decide +kernel
theorem dL_steps_227 : decode cL_steps 227 = .ok (.ifCond .ne 18, 3) := by decide +kernel
theorem dL_steps_230 : decode cL_steps 230 = .ok (.iload 14, 2) := by decide +kernel
theorem dL_steps_232 : decode cL_steps 232 = .ok (.ifCond .eq 13, 3) := by decide +kernel
theorem dL_steps_235 : decode cL_steps 235 = .ok (.iload 7, 2) := by decide +kernel
theorem dL_steps_237 : decode cL_steps 237 = .ok (.ifCond .ne 8, 3) := by decide +kernel
theorem dL_steps_240 : decode cL_steps 240 = .ok (.iload 10, 2) := by decide +kernel
theorem dL_steps_242 : decode cL_steps 242 = .ok (.goto 16, 3) := by decide +kernel
theorem dL_steps_245 : decode cL_steps 245 = .ok (.aload_n 2, 1) := by decide +kernel
theorem dL_steps_246 : decode cL_steps 246 = .ok (.iload 11, 2) := by decide +kernel
theorem dL_steps_248 : decode cL_steps 248 = .ok (.ifCond .eq 7, 3) := by decide +kernel
theorem dL_steps_251 : decode cL_steps 251 = .ok (.iconst 0, 1) := by decide +kernel
theorem dL_steps_252 : decode cL_steps 252 = .ok (.goto 5, 3) := by decide +kernel
theorem dL_steps_255 : decode cL_steps 255 = .ok (.iload 12, 2) := by decide +kernel
theorem dL_steps_257 : decode cL_steps 257 = .ok (.iaload, 1) := by decide +kernel
theorem dL_steps_258 : decode cL_steps 258 = .ok (.iastore, 1) := by decide +kernel
theorem dL_steps_259 : decode cL_steps 259 = .ok (.aload_n 3, 1) := by decide +kernel
theorem dL_steps_260 : decode cL_steps 260 = .ok (.iload 11, 2) := by decide +kernel
theorem dL_steps_262 : decode cL_steps 262 = .ok (.ifCond .eq 7, 3) := by decide +kernel
theorem dL_steps_265 : decode cL_steps 265 = .ok (.iconst 0, 1) := by decide +kernel
theorem dL_steps_266 : decode cL_steps 266 = .ok (.goto 5, 3) := by decide +kernel
theorem dL_steps_269 : decode cL_steps 269 = .ok (.iload 12, 2) := by decide +kernel
theorem dL_steps_271 : decode cL_steps 271 = .ok (.iload 11, 2) := by decide +kernel
theorem dL_steps_273 : decode cL_steps 273 = .ok (.ifCond .ne 19, 3) := by decide +kernel
theorem dL_steps_276 : decode cL_steps 276 = .ok (.iload 14, 2) := by decide +kernel
theorem dL_steps_278 : decode cL_steps 278 = .ok (.ifCond .eq 14, 3) := by decide +kernel
theorem dL_steps_281 : decode cL_steps 281 = .ok (.iload 7, 2) := by decide +kernel
theorem dL_steps_283 : decode cL_steps 283 = .ok (.iconst 1, 1) := by decide +kernel
theorem dL_steps_284 : decode cL_steps 284 = .ok (.if_icmp .ne 8, 3) := by decide +kernel
theorem dL_steps_287 : decode cL_steps 287 = .ok (.iload 10, 2) := by decide +kernel
theorem dL_steps_289 : decode cL_steps 289 = .ok (.goto 16, 3) := by decide +kernel
theorem dL_steps_292 : decode cL_steps 292 = .ok (.aload_n 3, 1) := by decide +kernel
theorem dL_steps_293 : decode cL_steps 293 = .ok (.iload 11, 2) := by decide +kernel
theorem dL_steps_295 : decode cL_steps 295 = .ok (.ifCond .eq 7, 3) := by decide +kernel
theorem dL_steps_298 : decode cL_steps 298 = .ok (.iconst 0, 1) := by decide +kernel
theorem dL_steps_299 : decode cL_steps 299 = .ok (.goto 5, 3) := by decide +kernel
theorem dL_steps_302 : decode cL_steps 302 = .ok (.iload 12, 2) := by decide +kernel
theorem dL_steps_304 : decode cL_steps 304 = .ok (.iaload, 1) := by decide +kernel
theorem dL_steps_305 : decode cL_steps 305 = .ok (.iastore, 1) := by decide +kernel
theorem dL_steps_306 : decode cL_steps 306 = .ok (.aload 4, 2) := by decide +kernel
theorem dL_steps_308 : decode cL_steps 308 = .ok (.iload 11, 2) := by decide +kernel
theorem dL_steps_310 : decode cL_steps 310 = .ok (.ifCond .eq 7, 3) := by decide +kernel
theorem dL_steps_313 : decode cL_steps 313 = .ok (.iconst 0, 1) := by decide +kernel
theorem dL_steps_314 : decode cL_steps 314 = .ok (.goto 5, 3) := by decide +kernel
theorem dL_steps_317 : decode cL_steps 317 = .ok (.iload 12, 2) := by decide +kernel
theorem dL_steps_319 : decode cL_steps 319 = .ok (.iload 11, 2) := by decide +kernel
theorem dL_steps_321 : decode cL_steps 321 = .ok (.ifCond .ne 19, 3) := by decide +kernel
theorem dL_steps_324 : decode cL_steps 324 = .ok (.iload 14, 2) := by decide +kernel
theorem dL_steps_326 : decode cL_steps 326 = .ok (.ifCond .eq 14, 3) := by decide +kernel
theorem dL_steps_329 : decode cL_steps 329 = .ok (.iload 7, 2) := by decide +kernel
theorem dL_steps_331 : decode cL_steps 331 = .ok (.iconst 2, 1) := by decide +kernel
theorem dL_steps_332 : decode cL_steps 332 = .ok (.if_icmp .ne 8, 3) := by decide +kernel
theorem dL_steps_335 : decode cL_steps 335 = .ok (.iload 10, 2) := by decide +kernel
theorem dL_steps_337 : decode cL_steps 337 = .ok (.goto 17, 3) := by decide +kernel
theorem dL_steps_340 : decode cL_steps 340 = .ok (.aload 4, 2) := by decide +kernel
theorem dL_steps_342 : decode cL_steps 342 = .ok (.iload 11, 2) := by decide +kernel
theorem dL_steps_344 : decode cL_steps 344 = .ok (.ifCond .eq 7, 3) := by decide +kernel
theorem dL_steps_347 : decode cL_steps 347 = .ok (.iconst 0, 1) := by decide +kernel
theorem dL_steps_348 : decode cL_steps 348 = .ok (.goto 5, 3) := by decide +kernel
theorem dL_steps_351 : decode cL_steps 351 = .ok (.iload 12, 2) := by decide +kernel
theorem dL_steps_353 : decode cL_steps 353 = .ok (.iaload, 1) := by decide +kernel
theorem dL_steps_354 : decode cL_steps 354 = .ok (.iastore, 1) := by decide +kernel
theorem dL_steps_355 : decode cL_steps 355 = .ok (.aload_n 0, 1) := by decide +kernel
theorem dL_steps_356 : decode cL_steps 356 = .ok (.iload 11, 2) := by decide +kernel
theorem dL_steps_358 : decode cL_steps 358 = .ok (.ifCond .eq 7, 3) := by decide +kernel
theorem dL_steps_361 : decode cL_steps 361 = .ok (.iconst 2, 1) := by decide +kernel
theorem dL_steps_362 : decode cL_steps 362 = .ok (.goto 4, 3) := by decide +kernel
theorem dL_steps_365 : decode cL_steps 365 = .ok (.iconst 1, 1) := by decide +kernel
theorem dL_steps_366 : decode cL_steps 366 = .ok (.iload 7, 2) := by decide +kernel
theorem dL_steps_368 : decode cL_steps 368 = .ok (.iload 8, 2) := by decide +kernel
theorem dL_steps_370 : decode cL_steps 370 = .ok (.iload 9, 2) := by decide +kernel
theorem dL_steps_372 : decode cL_steps 372 = .ok (.iload 10, 2) := by decide +kernel
theorem dL_steps_374 : decode cL_steps 374 = .ok (.iconst 1, 1) := by decide +kernel
theorem dL_steps_375 : decode cL_steps 375 = .ok (.isub, 1) := by decide +kernel
theorem dL_steps_376 : decode cL_steps 376 = .ok (.invokestatic 112, 3) := by decide +kernel
theorem dL_steps_379 : decode cL_steps 379 = .ok (.iload 14, 2) := by decide +kernel
theorem dL_steps_381 : decode cL_steps 381 = .ok (.ifCond .eq 10, 3) := by decide +kernel
theorem dL_steps_384 : decode cL_steps 384 = .ok (.iload 13, 2) := by decide +kernel
theorem dL_steps_386 : decode cL_steps 386 = .ok (.iconst 1, 1) := by decide +kernel
theorem dL_steps_387 : decode cL_steps 387 = .ok (.isub, 1) := by decide +kernel
theorem dL_steps_388 : decode cL_steps 388 = .ok (.goto 5, 3) := by decide +kernel
theorem dL_steps_391 : decode cL_steps 391 = .ok (.bipush (-7), 2) := by decide +kernel
theorem dL_steps_393 : decode cL_steps 393 = .ok (.if_icmp .ne 7, 3) := by decide +kernel
theorem dL_steps_396 : decode cL_steps 396 = .ok (.iconst 1, 1) := by decide +kernel
theorem dL_steps_397 : decode cL_steps 397 = .ok (.goto 4, 3) := by decide +kernel
theorem dL_steps_400 : decode cL_steps 400 = .ok (.iconst 0, 1) := by decide +kernel
theorem dL_steps_401 : decode cL_steps 401 = .ok (.ireturn, 1) := by decide +kernel
set_option maxRecDepth 20000 in
theorem ggL_sets_L_low : GoodIn wsL_sets wsL_low := goodIn_r _ [4, 5] (by decide +kernel) (by decide +kernel)
set_option maxRecDepth 20000 in
theorem gL_sets_L_low : GoodIn wsL_sets (va_wsS RL 97 yL_low wsL_low) := goodIn_app (goodIn_of _ (by decide +kernel)) ggL_sets_L_low
set_option maxRecDepth 20000 in
theorem ggL_sets_L_calls : GoodIn wsL_sets wsL_calls := goodIn_ca (goodIn_ca (goodIn_ca (goodIn_r _ [8, 9, 10, 11, 12, 13, 14, 15, 16, 17, 18, 19, 20, 21, 22, 23, 24, 25, 26, 27, 28, 29, 30, 31, 32, 33, 34, 35, 36, 37, 38, 39, 40, 41, 42, 43, 44, 45, 46, 47, 48, 49, 50, 51, 52, 53, 54, 55, 56, 57, 58, 59, 60, 61, 62, 63, 64, 65, 66, 67, 68, 69, 70, 71, 72, 73, 74, 75, 76, 77, 78, 79, 80, 81, 82, 83, 84, 85, 86, 87, 88, 89, 90, 91, 92, 93, 94, 95, 96, 97, 98, 99, 100, 101, 102, 103, 104, 105, 106, 107, 108, 109, 110, 111, 112, 113, 114, 115, 116, 117, 118, 119, 120, 121, 122, 123, 124, 125, 126, 127, 128, 129, 130, 131, 132, 133, 134, 135, 136, 137, 138, 139, 140, 141, 142, 143, 144, 145, 146, 147, 148, 149, 150, 151, 152, 153, 154, 155, 156, 157, 158, 159, 160, 161, 162, 163, 164, 165, 166, 167, 168, 169, 170, 171, 172, 173, 174, 175, 176, 177, 178, 179, 180, 181, 182, 183, 184, 185, 186, 187, 188, 189, 190, 191, 192, 193, 194, 195, 196, 197, 198, 199, 200, 201, 202, 203, 204, 205, 206, 207, 208, 209, 210, 211, 212, 213, 214, 215, 216, 217, 218, 219, 220, 221, 222, 223, 224, 225, 226, 227, 228, 229, 230, 231, 232, 233, 234, 235, 236, 237, 238, 239, 240, 241, 242, 243, 244, 245, 246, 247, 248, 249, 250, 251, 252, 253, 254, 255, 256, 257, 258, 259, 260, 261, 262, 263, 264, 265, 266, 267, 268, 269, 270, 271, 272, 273, 274, 275, 276, 277, 278, 279, 280, 281, 282, 283, 284, 285, 286, 287, 288, 289, 290, 291, 292, 293, 294, 295, 296, 297, 298, 299, 300, 301, 302, 303, 304, 305, 306, 307, 308, 309, 310, 311, 312, 313, 314, 315, 316, 317, 318, 319, 320, 321, 322, 323, 324, 325, 326, 327, 328, 329, 330, 331, 332, 333, 334, 335, 336, 337, 338, 339, 340, 341, 342, 343, 344, 345, 346, 347, 348, 349, 350, 351, 352, 353, 354, 355, 356, 357, 358, 359, 360, 361, 374, 375, 376, 377, 378, 379, 380, 381, 382, 383, 384, 385, 386, 387, 388, 389, 390, 391, 392, 393, 394, 395, 396, 397, 398, 399, 400, 401, 402, 403, 404, 405, 406, 407, 408, 409, 410, 411, 412, 413, 414, 415, 416, 417, 418] (by decide +kernel) (by decide +kernel)) (goodIn_sub (fun _ h => List.mem_cons_of_mem _ (List.mem_append_left _ (List.mem_append_left _ (List.mem_append_right _ h)))) (by decide +kernel))) (goodIn_sub (fun _ h => List.mem_cons_of_mem _ (List.mem_append_left _ (List.mem_append_right _ h))) (by decide +kernel))) (goodIn_sub (fun _ h => List.mem_cons_of_mem _ (List.mem_append_right _ h)) (by decide +kernel))
set_option maxRecDepth 20000 in
theorem gL_sets_L_calls : GoodIn wsL_sets (va_wsS RL 112 yL_calls wsL_calls) := goodIn_app (goodIn_of _ (by decide +kernel)) ggL_sets_L_calls
set_option maxRecDepth 20000 in
theorem ggL_sets_X6_tune : GoodIn wsL_sets wsX6_tune := goodIn_ca (goodIn_ca (goodIn_r _ [365, 299, 16, 17, 13, 18, 19, 20, 21, 22, 23, 24, 25, 26, 27, 28, 42, 43, 44, 45, 46, 47, 374, 375, 376, 377, 378, 379, 380, 381, 382, 383, 384, 392] (by decide +kernel) (by decide +kernel)) (goodIn_sub (fun _ h => List.mem_cons_of_mem _ (List.mem_append_left _ (List.mem_append_left _ (List.mem_append_right _ h)))) (by decide +kernel))) (goodIn_sub (fun _ h => List.mem_cons_of_mem _ (List.mem_append_left _ (List.mem_append_right _ h))) (by decide +kernel))
set_option maxRecDepth 20000 in
theorem gL_sets_X6_tune : GoodIn wsL_sets (wsV RL 116 RX6 yX6_tune wsX6_tune) := goodIn_app (goodIn_of _ (by decide +kernel)) ggL_sets_X6_tune
set_option maxRecDepth 20000 in
theorem ggL_sets_X6_freeze : GoodIn wsL_sets wsX6_freeze := goodIn_ca (goodIn_r _ [369, 52, 299, 53, 54, 13, 55, 19, 20, 21, 22, 23, 370, 371, 372, 59, 373, 311, 312, 65, 43, 44, 45, 46, 47, 226, 103, 104, 105, 374, 375, 376, 377, 378, 379, 380, 381, 382, 383, 384, 393, 394, 395, 396, 397, 398, 392] (by decide +kernel) (by decide +kernel)) (goodIn_sub (fun _ h => List.mem_cons_of_mem _ (List.mem_append_left _ (List.mem_append_left _ (List.mem_append_right _ h)))) (by decide +kernel))
set_option maxRecDepth 20000 in
theorem gL_sets_X6_freeze : GoodIn wsL_sets (wsV RL 119 RX6 yX6_freeze wsX6_freeze) := goodIn_app (goodIn_of _ (by decide +kernel)) ggL_sets_X6_freeze
theorem dL_sets_0 : decode cL_sets 0 = .ok (.aload 5, 2) := by decide +kernel
theorem dL_sets_2 : decode cL_sets 2 = .ok (.iconst 1, 1) := by decide +kernel
theorem dL_sets_3 : decode cL_sets 3 = .ok (.iaload, 1) := by decide +kernel
theorem dL_sets_4 : decode cL_sets 4 = .ok (.ifCond .ne 7, 3) := by decide +kernel
theorem dL_sets_7 : decode cL_sets 7 = .ok (.iconst 1, 1) := by decide +kernel
theorem dL_sets_8 : decode cL_sets 8 = .ok (.goto 4, 3) := by decide +kernel
theorem dL_sets_11 : decode cL_sets 11 = .ok (.iconst 0, 1) := by decide +kernel
theorem dL_sets_12 : decode cL_sets 12 = .ok (.istore 6, 2) := by decide +kernel
theorem dL_sets_14 : decode cL_sets 14 = .ok (.iload_n 1, 1) := by decide +kernel
theorem dL_sets_15 : decode cL_sets 15 = .ok (.ifCond .ne 79, 3) := by decide +kernel
theorem dL_sets_18 : decode cL_sets 18 = .ok (.iload_n 2, 1) := by decide +kernel
theorem dL_sets_19 : decode cL_sets 19 = .ok (.bipush 8, 2) := by decide +kernel
theorem dL_sets_21 : decode cL_sets 21 = .ok (.invokestatic 97, 3) := by decide +kernel
theorem dL_sets_24 : decode cL_sets 24 = .ok (.istore 7, 2) := by decide +kernel
theorem dL_sets_26 : decode cL_sets 26 = .ok (.iconst 1, 1) := by decide +kernel
theorem dL_sets_27 : decode cL_sets 27 = .ok (.iload_n 2, 1) := by decide +kernel
theorem dL_sets_28 : decode cL_sets 28 = .ok (.iconst 3, 1) := by decide +kernel
theorem dL_sets_29 : decode cL_sets 29 = .ok (.ishr, 1) := by decide +kernel
theorem dL_sets_30 : decode cL_sets 30 = .ok (.bipush 6, 2) := by decide +kernel
theorem dL_sets_32 : decode cL_sets 32 = .ok (.invokestatic 97, 3) := by decide +kernel
theorem dL_sets_35 : decode cL_sets 35 = .ok (.iadd, 1) := by decide +kernel
theorem dL_sets_36 : decode cL_sets 36 = .ok (.istore 8, 2) := by decide +kernel
theorem dL_sets_38 : decode cL_sets 38 = .ok (.aload 4, 2) := by decide +kernel
theorem dL_sets_40 : decode cL_sets 40 = .ok (.iload 7, 2) := by decide +kernel
theorem dL_sets_42 : decode cL_sets 42 = .ok (.iaload, 1) := by decide +kernel
theorem dL_sets_43 : decode cL_sets 43 = .ok (.istore 9, 2) := by decide +kernel
theorem dL_sets_45 : decode cL_sets 45 = .ok (.aload 4, 2) := by decide +kernel
theorem dL_sets_47 : decode cL_sets 47 = .ok (.iload 7, 2) := by decide +kernel
theorem dL_sets_49 : decode cL_sets 49 = .ok (.iload 6, 2) := by decide +kernel
theorem dL_sets_51 : decode cL_sets 51 = .ok (.ifCond .eq 8, 3) := by decide +kernel
theorem dL_sets_54 : decode cL_sets 54 = .ok (.iload 8, 2) := by decide +kernel
theorem dL_sets_56 : decode cL_sets 56 = .ok (.goto 5, 3) := by decide +kernel
theorem dL_sets_59 : decode cL_sets 59 = .ok (.iload 9, 2) := by decide +kernel
theorem dL_sets_61 : decode cL_sets 61 = .ok (.iastore, 1) := by decide +kernel
theorem dL_sets_62 : decode cL_sets 62 = .ok (.aload_n 0, 1) := by decide +kernel
theorem dL_sets_63 : decode cL_sets 63 = .ok (.iconst 0, 1) := by decide +kernel
theorem dL_sets_64 : decode cL_sets 64 = .ok (.iload 7, 2) := by decide +kernel
theorem dL_sets_66 : decode cL_sets 66 = .ok (.iload 8, 2) := by decide +kernel
theorem dL_sets_68 : decode cL_sets 68 = .ok (.iconst 0, 1) := by decide +kernel
theorem dL_sets_69 : decode cL_sets 69 = .ok (.iconst 0, 1) := by decide +kernel
theorem dL_sets_70 : decode cL_sets 70 = .ok (.invokestatic 112, 3) := by decide +kernel
theorem dL_sets_73 : decode cL_sets 73 = .ok (.iload 6, 2) := by decide +kernel
theorem dL_sets_75 : decode cL_sets 75 = .ok (.ifCond .eq 8, 3) := by decide +kernel
theorem dL_sets_78 : decode cL_sets 78 = .ok (.iload 9, 2) := by decide +kernel
theorem dL_sets_80 : decode cL_sets 80 = .ok (.goto 5, 3) := by decide +kernel
theorem dL_sets_83 : decode cL_sets 83 = .ok (.bipush (-7), 2) := by decide +kernel
theorem dL_sets_85 : decode cL_sets 85 = .ok (.if_icmp .ne 7, 3) := by decide +kernel
theorem dL_sets_88 : decode cL_sets 88 = .ok (.iconst 1, 1) := by decide +kernel
theorem dL_sets_89 : decode cL_sets 89 = .ok (.goto 4, 3) := by decide +kernel
theorem dL_sets_92 : decode cL_sets 92 = .ok (.iconst 0, 1) := by decide +kernel
theorem dL_sets_93 : decode cL_sets 93 = .ok (.ireturn, 1) := by decide +kernel
theorem dL_sets_94 : decode cL_sets 94 = .ok (.iload_n 1, 1) := by decide +kernel
theorem dL_sets_95 : decode cL_sets 95 = .ok (.iconst 1, 1) := by decide +kernel
theorem dL_sets_96 : decode cL_sets 96 = .ok (.if_icmp .ne 139, 3) := by decide +kernel
theorem dL_sets_99 : decode cL_sets 99 = .ok (.iload_n 2, 1) := by decide +kernel
theorem dL_sets_100 : decode cL_sets 100 = .ok (.iconst 3, 1) := by decide +kernel
theorem dL_sets_101 : decode cL_sets 101 = .ok (.invokestatic 97, 3) := by decide +kernel
theorem dL_sets_104 : decode cL_sets 104 = .ok (.istore 7, 2) := by decide +kernel
theorem dL_sets_106 : decode cL_sets 106 = .ok (.iload_n 2, 1) := by decide +kernel
theorem dL_sets_107 : decode cL_sets 107 = .ok (.iconst 2, 1) := by decide +kernel
theorem dL_sets_108 : decode cL_sets 108 = .ok (.ishr, 1) := by decide +kernel
theorem dL_sets_109 : decode cL_sets 109 = .ok (.bipush 7, 2) := by decide +kernel
theorem dL_sets_111 : decode cL_sets 111 = .ok (.invokestatic 97, 3) := by decide +kernel
theorem dL_sets_114 : decode cL_sets 114 = .ok (.istore 8, 2) := by decide +kernel
theorem dL_sets_116 : decode cL_sets 116 = .ok (.iload_n 2, 1) := by decide +kernel
theorem dL_sets_117 : decode cL_sets 117 = .ok (.iconst 5, 1) := by decide +kernel
theorem dL_sets_118 : decode cL_sets 118 = .ok (.ishr, 1) := by decide +kernel
theorem dL_sets_119 : decode cL_sets 119 = .ok (.iconst 3, 1) := by decide +kernel
theorem dL_sets_120 : decode cL_sets 120 = .ok (.invokestatic 97, 3) := by decide +kernel
theorem dL_sets_123 : decode cL_sets 123 = .ok (.ifCond .ne 7, 3) := by decide +kernel
theorem dL_sets_126 : decode cL_sets 126 = .ok (.iconst 0, 1) := by decide +kernel
theorem dL_sets_127 : decode cL_sets 127 = .ok (.goto 29, 3) := by decide +kernel
theorem dL_sets_130 : decode cL_sets 130 = .ok (.iconst 2, 1) := by decide +kernel
theorem dL_sets_131 : decode cL_sets 131 = .ok (.iload_n 2, 1) := by decide +kernel
theorem dL_sets_132 : decode cL_sets 132 = .ok (.bipush 6, 2) := by decide +kernel
theorem dL_sets_134 : decode cL_sets 134 = .ok (.ishr, 1) := by decide +kernel
theorem dL_sets_135 : decode cL_sets 135 = .ok (.iload_n 2, 1) := by decide +kernel
theorem dL_sets_136 : decode cL_sets 136 = .ok (.bipush 9, 2) := by decide +kernel
theorem dL_sets_138 : decode cL_sets 138 = .ok (.ishr, 1) := by decide +kernel
theorem dL_sets_139 : decode cL_sets 139 = .ok (.iconst 2, 1) := by decide +kernel
theorem dL_sets_140 : decode cL_sets 140 = .ok (.invokestatic 97, 3) := by decide +kernel
theorem dL_sets_143 : decode cL_sets 143 = .ok (.ifCond .ne 8, 3) := by decide +kernel
theorem dL_sets_146 : decode cL_sets 146 = .ok (.bipush 7, 2) := by decide +kernel
theorem dL_sets_148 : decode cL_sets 148 = .ok (.goto 4, 3) := by decide +kernel
theorem dL_sets_151 : decode cL_sets 151 = .ok (.iconst 2, 1) := by decide +kernel
theorem dL_sets_152 : decode cL_sets 152 = .ok (.invokestatic 97, 3) := by decide +kernel
theorem dL_sets_155 : decode cL_sets 155 = .ok (.iadd, 1) := by decide +kernel
theorem dL_sets_156 : decode cL_sets 156 = .ok (.istore 9, 2) := by decide +kernel
theorem dL_sets_158 : decode cL_sets 158 = .ok (.aload_n 3, 1) := by decide +kernel
theorem dL_sets_159 : decode cL_sets 159 = .ok (.iload 7, 2) := by decide +kernel
theorem dL_sets_161 : decode cL_sets 161 = .ok (.iaload, 1) := by decide +kernel
theorem dL_sets_162 : decode cL_sets 162 = .ok (.istore 10, 2) := by decide +kernel
theorem dL_sets_164 : decode cL_sets 164 = .ok (.aload_n 3, 1) := by decide +kernel
theorem dL_sets_165 : decode cL_sets 165 = .ok (.iload 7, 2) := by decide +kernel
theorem dL_sets_167 : decode cL_sets 167 = .ok (.iload 6, 2) := by decide +kernel
theorem dL_sets_169 : decode cL_sets 169 = .ok (.ifCond .eq 8, 3) := by decide +kernel
theorem dL_sets_172 : decode cL_sets 172 = .ok (.iload 8, 2) := by decide +kernel
theorem dL_sets_174 : decode cL_sets 174 = .ok (.goto 5, 3) := by decide +kernel
theorem dL_sets_177 : decode cL_sets 177 = .ok (.iload 10, 2) := by decide +kernel
theorem dL_sets_179 : decode cL_sets 179 = .ok (.iastore, 1) := by decide +kernel
theorem dL_sets_180 : decode cL_sets 180 = .ok (.aload_n 3, 1) := by decide +kernel
theorem dL_sets_181 : decode cL_sets 181 = .ok (.iconst 3, 1) := by decide +kernel
theorem dL_sets_182 : decode cL_sets 182 = .ok (.iload 7, 2) := by decide +kernel
theorem dL_sets_184 : decode cL_sets 184 = .ok (.iadd, 1) := by decide +kernel
theorem dL_sets_185 : decode cL_sets 185 = .ok (.iload 6, 2) := by decide +kernel
theorem dL_sets_187 : decode cL_sets 187 = .ok (.ifCond .eq 8, 3) := by decide +kernel
theorem dL_sets_190 : decode cL_sets 190 = .ok (.iload 9, 2) := by decide +kernel
theorem dL_sets_192 : decode cL_sets 192 = .ok (.goto 9, 3) := by decide +kernel
theorem dL_sets_195 : decode cL_sets 195 = .ok (.aload_n 3, 1) := by decide +kernel
theorem dL_sets_196 : decode cL_sets 196 = .ok (.iconst 3, 1) := by decide +kernel
theorem dL_sets_197 : decode cL_sets 197 = .ok (.iload 7, 2) := by decide +kernel
theorem dL_sets_199 : decode cL_sets 199 = .ok (.iadd, 1) := by decide +kernel
theorem dL_sets_200 : decode cL_sets 200 = .ok (.iaload, 1) := by decide +kernel
theorem dL_sets_201 : decode cL_sets 201 = .ok (.iastore, 1) := by decide +kernel
theorem dL_sets_202 : decode cL_sets 202 = .ok (.aload_n 0, 1) := by decide +kernel
theorem dL_sets_203 : decode cL_sets 203 = .ok (.iconst 3, 1) := by decide +kernel
theorem dL_sets_204 : decode cL_sets 204 = .ok (.iload 7, 2) := by decide +kernel
theorem dL_sets_206 : decode cL_sets 206 = .ok (.iload 8, 2) := by decide +kernel
theorem dL_sets_208 : decode cL_sets 208 = .ok (.iload 9, 2) := by decide +kernel
theorem dL_sets_210 : decode cL_sets 210 = .ok (.iconst 0, 1) := by decide +kernel
theorem dL_sets_211 : decode cL_sets 211 = .ok (.invokestatic 112, 3) := by decide +kernel
theorem dL_sets_214 : decode cL_sets 214 = .ok (.iload 6, 2) := by decide +kernel
theorem dL_sets_216 : decode cL_sets 216 = .ok (.ifCond .eq 8, 3) := by decide +kernel
theorem dL_sets_219 : decode cL_sets 219 = .ok (.iload 10, 2) := by decide +kernel
theorem dL_sets_221 : decode cL_sets 221 = .ok (.goto 5, 3) := by decide +kernel
theorem dL_sets_224 : decode cL_sets 224 = .ok (.bipush (-7), 2) := by decide +kernel
theorem dL_sets_226 : decode cL_sets 226 = .ok (.if_icmp .ne 7, 3) := by decide +kernel
theorem dL_sets_229 : decode cL_sets 229 = .ok (.iconst 1, 1) := by decide +kernel
theorem dL_sets_230 : decode cL_sets 230 = .ok (.goto 4, 3) := by decide +kernel
theorem dL_sets_233 : decode cL_sets 233 = .ok (.iconst 0, 1) := by decide +kernel
theorem dL_sets_234 : decode cL_sets 234 = .ok (.ireturn, 1) := by decide +kernel
theorem dL_sets_235 : decode cL_sets 235 = .ok (.iload_n 1, 1) := by decide +kernel
theorem dL_sets_236 : decode cL_sets 236 = .ok (.iconst 2, 1) := by decide +kernel
theorem dL_sets_237 : decode cL_sets 237 = .ok (.if_icmp .ne 65, 3) := by decide +kernel
theorem dL_sets_240 : decode cL_sets 240 = .ok (.iload_n 2, 1) := by decide +kernel
theorem dL_sets_241 : decode cL_sets 241 = .ok (.bipush 8, 2) := by decide +kernel
theorem dL_sets_243 : decode cL_sets 243 = .ok (.invokestatic 97, 3) := by decide +kernel
theorem dL_sets_246 : decode cL_sets 246 = .ok (.istore 7, 2) := by decide +kernel
theorem dL_sets_248 : decode cL_sets 248 = .ok (.aload 4, 2) := by decide +kernel
theorem dL_sets_250 : decode cL_sets 250 = .ok (.bipush 8, 2) := by decide +kernel
theorem dL_sets_252 : decode cL_sets 252 = .ok (.iload 7, 2) := by decide +kernel
theorem dL_sets_254 : decode cL_sets 254 = .ok (.iadd, 1) := by decide +kernel
theorem dL_sets_255 : decode cL_sets 255 = .ok (.iaload, 1) := by decide +kernel
theorem dL_sets_256 : decode cL_sets 256 = .ok (.istore 8, 2) := by decide +kernel
theorem dL_sets_258 : decode cL_sets 258 = .ok (.aload 4, 2) := by decide +kernel
theorem dL_sets_260 : decode cL_sets 260 = .ok (.bipush 8, 2) := by decide +kernel
theorem dL_sets_262 : decode cL_sets 262 = .ok (.iload 7, 2) := by decide +kernel
theorem dL_sets_264 : decode cL_sets 264 = .ok (.iadd, 1) := by decide +kernel
theorem dL_sets_265 : decode cL_sets 265 = .ok (.iload_n 2, 1) := by decide +kernel
theorem dL_sets_266 : decode cL_sets 266 = .ok (.iconst 3, 1) := by decide +kernel
theorem dL_sets_267 : decode cL_sets 267 = .ok (.ishr, 1) := by decide +kernel
theorem dL_sets_268 : decode cL_sets 268 = .ok (.bipush 25, 2) := by decide +kernel
theorem dL_sets_270 : decode cL_sets 270 = .ok (.invokestatic 97, 3) := by decide +kernel
theorem dL_sets_273 : decode cL_sets 273 = .ok (.bipush 12, 2) := by decide +kernel
theorem dL_sets_275 : decode cL_sets 275 = .ok (.isub, 1) := by decide +kernel
theorem dL_sets_276 : decode cL_sets 276 = .ok (.iastore, 1) := by decide +kernel
theorem dL_sets_277 : decode cL_sets 277 = .ok (.aload_n 0, 1) := by decide +kernel
theorem dL_sets_278 : decode cL_sets 278 = .ok (.iload 7, 2) := by decide +kernel
theorem dL_sets_280 : decode cL_sets 280 = .ok (.aload 4, 2) := by decide +kernel
theorem dL_sets_282 : decode cL_sets 282 = .ok (.bipush 8, 2) := by decide +kernel
theorem dL_sets_284 : decode cL_sets 284 = .ok (.iload 7, 2) := by decide +kernel
theorem dL_sets_286 : decode cL_sets 286 = .ok (.iadd, 1) := by decide +kernel
theorem dL_sets_287 : decode cL_sets 287 = .ok (.iaload, 1) := by decide +kernel
theorem dL_sets_288 : decode cL_sets 288 = .ok (.invokevirtual 116, 3) := by decide +kernel
theorem dL_sets_291 : decode cL_sets 291 = .ok (.iload 8, 2) := by decide +kernel
theorem dL_sets_293 : decode cL_sets 293 = .ok (.if_icmp .ne 7, 3) := by decide +kernel
theorem dL_sets_296 : decode cL_sets 296 = .ok (.iconst 1, 1) := by decide +kernel
theorem dL_sets_297 : decode cL_sets 297 = .ok (.goto 4, 3) := by decide +kernel
theorem dL_sets_300 : decode cL_sets 300 = .ok (.iconst 0, 1) := by decide +kernel
theorem dL_sets_301 : decode cL_sets 301 = .ok (.ireturn, 1) := by decide +kernel
theorem dL_sets_302 : decode cL_sets 302 = .ok (.iload_n 2, 1) := by decide +kernel
theorem dL_sets_303 : decode cL_sets 303 = .ok (.iconst 3, 1) := by decide +kernel
theorem dL_sets_304 : decode cL_sets 304 = .ok (.invokestatic 97, 3) := by decide +kernel
theorem dL_sets_307 : decode cL_sets 307 = .ok (.istore 7, 2) := by decide +kernel
theorem dL_sets_309 : decode cL_sets 309 = .ok (.aload 5, 2) := by decide +kernel
theorem dL_sets_311 : decode cL_sets 311 = .ok (.bipush 9, 2) := by decide +kernel
theorem dL_sets_313 : decode cL_sets 313 = .ok (.iaload, 1) := by decide +kernel
theorem dL_sets_314 : decode cL_sets 314 = .ok (.iload 7, 2) := by decide +kernel
theorem dL_sets_316 : decode cL_sets 316 = .ok (.ishr, 1) := by decide +kernel
theorem dL_sets_317 : decode cL_sets 317 = .ok (.iconst 1, 1) := by decide +kernel
theorem dL_sets_318 : decode cL_sets 318 = .ok (.iand, 1) := by decide +kernel
theorem dL_sets_319 : decode cL_sets 319 = .ok (.iconst 1, 1) := by decide +kernel
theorem dL_sets_320 : decode cL_sets 320 = .ok (.if_icmp .ne 7, 3) := by decide +kernel
theorem dL_sets_323 : decode cL_sets 323 = .ok (.iconst 1, 1) := by decide +kernel
theorem dL_sets_324 : decode cL_sets 324 = .ok (.goto 4, 3) := by decide +kernel
theorem dL_sets_327 : decode cL_sets 327 = .ok (.iconst 0, 1) := by decide +kernel
theorem dL_sets_328 : decode cL_sets 328 = .ok (.istore 8, 2) := by decide +kernel
theorem dL_sets_330 : decode cL_sets 330 = .ok (.iload_n 2, 1) := by decide +kernel
theorem dL_sets_331 : decode cL_sets 331 = .ok (.iconst 2, 1) := by decide +kernel
theorem dL_sets_332 : decode cL_sets 332 = .ok (.ishr, 1) := by decide +kernel
theorem dL_sets_333 : decode cL_sets 333 = .ok (.iconst 3, 1) := by decide +kernel
theorem dL_sets_334 : decode cL_sets 334 = .ok (.invokestatic 97, 3) := by decide +kernel
theorem dL_sets_337 : decode cL_sets 337 = .ok (.ifCond .le 7, 3) := by decide +kernel
theorem dL_sets_340 : decode cL_sets 340 = .ok (.iconst 1, 1) := by decide +kernel
theorem dL_sets_341 : decode cL_sets 341 = .ok (.goto 4, 3) := by decide +kernel
theorem dL_sets_344 : decode cL_sets 344 = .ok (.iconst 0, 1) := by decide +kernel
theorem dL_sets_345 : decode cL_sets 345 = .ok (.istore 9, 2) := by decide +kernel
theorem dL_sets_347 : decode cL_sets 347 = .ok (.iconst 0, 1) := by decide +kernel
theorem dL_sets_348 : decode cL_sets 348 = .ok (.istore 10, 2) := by decide +kernel
theorem dL_sets_350 : decode cL_sets 350 = .ok (.iload 10, 2) := by decide +kernel
theorem dL_sets_352 : decode cL_sets 352 = .ok (.bipush 8, 2) := by decide +kernel
theorem dL_sets_354 : decode cL_sets 354 = .ok (.if_icmp .ge 41, 3) := by decide +kernel
theorem dL_sets_357 : decode cL_sets 357 = .ok (.iload 9, 2) := by decide +kernel
theorem dL_sets_359 : decode cL_sets 359 = .ok (.ifCond .eq 36, 3) := by decide +kernel
theorem dL_sets_362 : decode cL_sets 362 = .ok (.iload 8, 2) := by decide +kernel
theorem dL_sets_364 : decode cL_sets 364 = .ok (.ifCond .ne 31, 3) := by decide +kernel
theorem dL_sets_367 : decode cL_sets 367 = .ok (.aload 4, 2) := by decide +kernel
theorem dL_sets_369 : decode cL_sets 369 = .ok (.bipush 16, 2) := by decide +kernel
theorem dL_sets_371 : decode cL_sets 371 = .ok (.bipush 8, 2) := by decide +kernel
theorem dL_sets_373 : decode cL_sets 373 = .ok (.iload 7, 2) := by decide +kernel
theorem dL_sets_375 : decode cL_sets 375 = .ok (.imul, 1) := by decide +kernel
theorem dL_sets_376 : decode cL_sets 376 = .ok (.iadd, 1) := by decide +kernel
theorem dL_sets_377 : decode cL_sets 377 = .ok (.iload 10, 2) := by decide +kernel
theorem dL_sets_379 : decode cL_sets 379 = .ok (.iadd, 1) := by decide +kernel
theorem dL_sets_380 : decode cL_sets 380 = .ok (.aload 4, 2) := by decide +kernel
theorem dL_sets_382 : decode cL_sets 382 = .ok (.bipush 8, 2) := by decide +kernel
theorem dL_sets_384 : decode cL_sets 384 = .ok (.iload 10, 2) := by decide +kernel
theorem dL_sets_386 : decode cL_sets 386 = .ok (.iadd, 1) := by decide +kernel
theorem dL_sets_387 : decode cL_sets 387 = .ok (.iaload, 1) := by decide +kernel
theorem dL_sets_388 : decode cL_sets 388 = .ok (.iastore, 1) := by decide +kernel
theorem dL_sets_389 : decode cL_sets 389 = .ok (.iinc 10 1, 3) := by decide +kernel
theorem dL_sets_392 : decode cL_sets 392 = .ok (.goto (-42), 3) := by decide +kernel
theorem dL_sets_395 : decode cL_sets 395 = .ok (.aload 5, 2) := by decide +kernel
theorem dL_sets_397 : decode cL_sets 397 = .ok (.bipush 9, 2) := by decide +kernel
theorem dL_sets_399 : decode cL_sets 399 = .ok (.iload 9, 2) := by decide +kernel
theorem dL_sets_401 : decode cL_sets 401 = .ok (.ifCond .eq 16, 3) := by decide +kernel
theorem dL_sets_404 : decode cL_sets 404 = .ok (.aload 5, 2) := by decide +kernel
theorem dL_sets_406 : decode cL_sets 406 = .ok (.bipush 9, 2) := by decide +kernel
theorem dL_sets_408 : decode cL_sets 408 = .ok (.iaload, 1) := by decide +kernel
theorem dL_sets_409 : decode cL_sets 409 = .ok (.iconst 1, 1) := by decide +kernel
theorem dL_sets_410 : decode cL_sets 410 = .ok (.iload 7, 2) := by decide +kernel
theorem dL_sets_412 : decode cL_sets 412 = .ok (.ishl, 1) := by decide +kernel
theorem dL_sets_413 : decode cL_sets 413 = .ok (.ior, 1) := by decide +kernel
theorem dL_sets_414 : decode cL_sets 414 = .ok (.goto 15, 3) := by decide +kernel
theorem dL_sets_417 : decode cL_sets 417 = .ok (.aload 5, 2) := by decide +kernel
theorem dL_sets_419 : decode cL_sets 419 = .ok (.bipush 9, 2) := by decide +kernel
theorem dL_sets_421 : decode cL_sets 421 = .ok (.iaload, 1) := by decide +kernel
theorem dL_sets_422 : decode cL_sets 422 = .ok (.iconst 1, 1) := by decide +kernel
theorem dL_sets_423 : decode cL_sets 423 = .ok (.iload 7, 2) := by decide +kernel
theorem dL_sets_425 : decode cL_sets 425 = .ok (.ishl, 1) := by decide +kernel
theorem dL_sets_426 : decode cL_sets 426 = .ok (.iconst (-1), 1) := by decide +kernel
theorem dL_sets_427 : decode cL_sets 427 = .ok (.ixor, 1) := by decide +kernel
theorem dL_sets_428 : decode cL_sets 428 = .ok (.iand, 1) := by decide +kernel
theorem dL_sets_429 : decode cL_sets 429 = .ok (.iastore, 1) := by decide +kernel
theorem dL_sets_430 : decode cL_sets 430 = .ok (.aload_n 0, 1) := by decide +kernel
theorem dL_sets_431 : decode cL_sets 431 = .ok (.iload 7, 2) := by decide +kernel
theorem dL_sets_433 : decode cL_sets 433 = .ok (.iload 9, 2) := by decide +kernel
theorem dL_sets_435 : decode cL_sets 435 = .ok (.invokevirtual 119, 3) := by decide +kernel
theorem dL_sets_438 : decode cL_sets 438 = .ok (.iload 8, 2) := by decide +kernel
theorem dL_sets_440 : decode cL_sets 440 = .ok (.if_icmp .ne 7, 3) := by decide +kernel
theorem dL_sets_443 : decode cL_sets 443 = .ok (.iconst 1, 1) := by decide +kernel
theorem dL_sets_444 : decode cL_sets 444 = .ok (.goto 4, 3) := by decide +kernel
theorem dL_sets_447 : decode cL_sets 447 = .ok (.iconst 0, 1) := by decide +kernel
theorem dL_sets_448 : decode cL_sets 448 = .ok (.ireturn, 1) := by decide +kernel
set_option maxRecDepth 20000 in
theorem ggL_songs_L_low : GoodIn wsL_songs wsL_low := goodIn_r _ [4, 5] (by decide +kernel) (by decide +kernel)
set_option maxRecDepth 20000 in
theorem gL_songs_L_low : GoodIn wsL_songs (va_wsS RL 97 yL_low wsL_low) := goodIn_app (goodIn_of _ (by decide +kernel)) ggL_songs_L_low
set_option maxRecDepth 20000 in
theorem ggL_songs_L_calls : GoodIn wsL_songs wsL_calls := goodIn_ca (goodIn_ca (goodIn_ca (goodIn_r _ [8, 9, 10, 11, 12, 13, 14, 15, 16, 17, 18, 19, 20, 21, 22, 23, 24, 25, 26, 27, 28, 29, 30, 31, 32, 33, 34, 35, 36, 37, 38, 39, 40, 41, 42, 43, 44, 45, 46, 47, 48, 49, 50, 51, 52, 53, 54, 55, 56, 57, 58, 59, 60, 61, 62, 63, 64, 65, 66, 67, 68, 69, 70, 71, 72, 73, 74, 75, 76, 77, 78, 79, 80, 81, 82, 83, 84, 85, 86, 87, 88, 89, 90, 91, 92, 93, 94, 95, 96, 97, 98, 99, 100, 101, 102, 103, 104, 105, 106, 107, 108, 109, 110, 111, 112, 113, 114, 115, 116, 117, 118, 119, 120, 121, 122, 123, 124, 125, 126, 127, 128, 129, 130, 131, 132, 133, 134, 135, 136, 137, 138, 139, 140, 141, 142, 143, 144, 145, 146, 147, 148, 149, 150, 151, 152, 153, 154, 155, 156, 157, 158, 159, 160, 161, 162, 163, 164, 165, 166, 167, 168, 169, 170, 171, 172, 173, 174, 175, 176, 177, 178, 179, 180, 181, 182, 183, 184, 185, 186, 187, 188, 189, 190, 191, 192, 193, 194, 195, 196, 197, 198, 199, 200, 201, 202, 203, 204, 205, 206, 207, 208, 209, 210, 211, 212, 213, 214, 215, 216, 217, 218, 219, 220, 221, 222, 223, 224, 225, 226, 227, 228, 229, 230, 231, 232, 233, 234, 235, 236, 237, 238, 239, 240, 241, 242, 243, 244, 245, 246, 247, 248, 249, 250, 251, 252, 253, 254, 255, 256, 257, 258, 259, 260, 261, 262, 263, 264, 265, 266, 267, 268, 269, 270, 271, 272, 273, 274, 275, 276, 277, 278, 279, 280, 281, 282, 283, 284, 285, 286, 287, 288, 289, 290, 291, 292, 293, 294, 295, 296, 297, 298, 299, 300, 301, 302, 303, 304, 305, 306, 307, 308, 309, 310, 311, 312, 313, 314, 315, 316, 317, 318, 319, 320, 321, 322, 323, 324, 325, 326, 327, 328, 329, 330, 331, 332, 333, 334, 335, 336, 337, 338, 339, 340, 341, 342, 343, 344, 345, 346, 347, 348, 349, 350, 351, 352, 353, 354, 355, 356, 357, 358, 359, 360, 361, 365, 366, 367, 368, 369, 370, 371, 372, 373, 374, 375, 376, 377, 378, 379, 380, 381, 382, 383, 384, 385, 386, 387, 388, 389, 390, 391, 392, 393, 394, 395, 396, 397, 398, 399, 400, 401, 402, 403, 404, 405, 406, 407, 408, 409] (by decide +kernel) (by decide +kernel)) (goodIn_sub (fun _ h => List.mem_cons_of_mem _ (List.mem_append_left _ (List.mem_append_left _ (List.mem_append_right _ h)))) (by decide +kernel))) (goodIn_sub (fun _ h => List.mem_cons_of_mem _ (List.mem_append_left _ (List.mem_append_right _ h))) (by decide +kernel))) (goodIn_sub (fun _ h => List.mem_cons_of_mem _ (List.mem_append_right _ h)) (by decide +kernel))
set_option maxRecDepth 20000 in
theorem gL_songs_L_calls : GoodIn wsL_songs (va_wsS RL 112 yL_calls wsL_calls) := goodIn_app (goodIn_of _ (by decide +kernel)) ggL_songs_L_calls
set_option maxRecDepth 20000 in
theorem ggL_songs_L_lays : GoodIn wsL_songs wsL_lays := goodIn_r _ [364] (by decide +kernel) (by decide +kernel)
set_option maxRecDepth 20000 in
theorem gL_songs_L_lays : GoodIn wsL_songs (va_wsS RL 93 yL_lays wsL_lays) := goodIn_app (goodIn_of _ (by decide +kernel)) ggL_songs_L_lays
theorem dL_songs_0 : decode cL_songs 0 = .ok (.aload 6, 2) := by decide +kernel
theorem dL_songs_2 : decode cL_songs 2 = .ok (.iconst 1, 1) := by decide +kernel
theorem dL_songs_3 : decode cL_songs 3 = .ok (.iaload, 1) := by decide +kernel
theorem dL_songs_4 : decode cL_songs 4 = .ok (.ifCond .ne 7, 3) := by decide +kernel
theorem dL_songs_7 : decode cL_songs 7 = .ok (.iconst 1, 1) := by decide +kernel
theorem dL_songs_8 : decode cL_songs 8 = .ok (.goto 4, 3) := by decide +kernel
theorem dL_songs_11 : decode cL_songs 11 = .ok (.iconst 0, 1) := by decide +kernel
theorem dL_songs_12 : decode cL_songs 12 = .ok (.istore 8, 2) := by decide +kernel
theorem dL_songs_14 : decode cL_songs 14 = .ok (.iload_n 2, 1) := by decide +kernel
theorem dL_songs_15 : decode cL_songs 15 = .ok (.iconst 3, 1) := by decide +kernel
theorem dL_songs_16 : decode cL_songs 16 = .ok (.invokestatic 97, 3) := by decide +kernel
theorem dL_songs_19 : decode cL_songs 19 = .ok (.istore 9, 2) := by decide +kernel
theorem dL_songs_21 : decode cL_songs 21 = .ok (.iload_n 1, 1) := by decide +kernel
theorem dL_songs_22 : decode cL_songs 22 = .ok (.ifCond .eq 11, 3) := by decide +kernel
theorem dL_songs_25 : decode cL_songs 25 = .ok (.aload 4, 2) := by decide +kernel
theorem dL_songs_27 : decode cL_songs 27 = .ok (.iload 9, 2) := by decide +kernel
theorem dL_songs_29 : decode cL_songs 29 = .ok (.iaload, 1) := by decide +kernel
theorem dL_songs_30 : decode cL_songs 30 = .ok (.ifCond .ne 129, 3) := by decide +kernel
theorem dL_songs_33 : decode cL_songs 33 = .ok (.iload_n 2, 1) := by decide +kernel
theorem dL_songs_34 : decode cL_songs 34 = .ok (.iconst 2, 1) := by decide +kernel
theorem dL_songs_35 : decode cL_songs 35 = .ok (.ishr, 1) := by decide +kernel
theorem dL_songs_36 : decode cL_songs 36 = .ok (.iconst 3, 1) := by decide +kernel
theorem dL_songs_37 : decode cL_songs 37 = .ok (.invokestatic 97, 3) := by decide +kernel
theorem dL_songs_40 : decode cL_songs 40 = .ok (.istore 10, 2) := by decide +kernel
theorem dL_songs_42 : decode cL_songs 42 = .ok (.iconst 1, 1) := by decide +kernel
theorem dL_songs_43 : decode cL_songs 43 = .ok (.iload_n 2, 1) := by decide +kernel
theorem dL_songs_44 : decode cL_songs 44 = .ok (.iconst 4, 1) := by decide +kernel
theorem dL_songs_45 : decode cL_songs 45 = .ok (.ishr, 1) := by decide +kernel
theorem dL_songs_46 : decode cL_songs 46 = .ok (.iconst 4, 1) := by decide +kernel
theorem dL_songs_47 : decode cL_songs 47 = .ok (.invokestatic 97, 3) := by decide +kernel
theorem dL_songs_50 : decode cL_songs 50 = .ok (.iadd, 1) := by decide +kernel
theorem dL_songs_51 : decode cL_songs 51 = .ok (.istore 11, 2) := by decide +kernel
theorem dL_songs_53 : decode cL_songs 53 = .ok (.aload 4, 2) := by decide +kernel
theorem dL_songs_55 : decode cL_songs 55 = .ok (.iload 9, 2) := by decide +kernel
theorem dL_songs_57 : decode cL_songs 57 = .ok (.iaload, 1) := by decide +kernel
theorem dL_songs_58 : decode cL_songs 58 = .ok (.iconst 4, 1) := by decide +kernel
theorem dL_songs_59 : decode cL_songs 59 = .ok (.if_icmp .ne 5, 3) := by decide +kernel
theorem dL_songs_62 : decode cL_songs 62 = .ok (.iconst 1, 1) := by decide +kernel
theorem dL_songs_63 : decode cL_songs 63 = .ok (.ireturn, 1) := by decide +kernel
theorem dL_songs_64 : decode cL_songs 64 = .ok (.iload 8, 2) := by decide +kernel
theorem dL_songs_66 : decode cL_songs 66 = .ok (.ifCond .eq 55, 3) := by decide +kernel
theorem dL_songs_69 : decode cL_songs 69 = .ok (.bipush 16, 2) := by decide +kernel
theorem dL_songs_71 : decode cL_songs 71 = .ok (.iload 9, 2) := by decide +kernel
theorem dL_songs_73 : decode cL_songs 73 = .ok (.imul, 1) := by decide +kernel
theorem dL_songs_74 : decode cL_songs 74 = .ok (.iconst 4, 1) := by decide +kernel
theorem dL_songs_75 : decode cL_songs 75 = .ok (.aload 4, 2) := by decide +kernel
theorem dL_songs_77 : decode cL_songs 77 = .ok (.iload 9, 2) := by decide +kernel
theorem dL_songs_79 : decode cL_songs 79 = .ok (.iaload, 1) := by decide +kernel
theorem dL_songs_80 : decode cL_songs 80 = .ok (.imul, 1) := by decide +kernel
theorem dL_songs_81 : decode cL_songs 81 = .ok (.iadd, 1) := by decide +kernel
theorem dL_songs_82 : decode cL_songs 82 = .ok (.istore 12, 2) := by decide +kernel
theorem dL_songs_84 : decode cL_songs 84 = .ok (.aload_n 3, 1) := by decide +kernel
theorem dL_songs_85 : decode cL_songs 85 = .ok (.iload 12, 2) := by decide +kernel
theorem dL_songs_87 : decode cL_songs 87 = .ok (.iload 10, 2) := by decide +kernel
theorem dL_songs_89 : decode cL_songs 89 = .ok (.iastore, 1) := by decide +kernel
theorem dL_songs_90 : decode cL_songs 90 = .ok (.aload_n 3, 1) := by decide +kernel
theorem dL_songs_91 : decode cL_songs 91 = .ok (.iload 12, 2) := by decide +kernel
theorem dL_songs_93 : decode cL_songs 93 = .ok (.iconst 1, 1) := by decide +kernel
theorem dL_songs_94 : decode cL_songs 94 = .ok (.iadd, 1) := by decide +kernel
theorem dL_songs_95 : decode cL_songs 95 = .ok (.iload 11, 2) := by decide +kernel
theorem dL_songs_97 : decode cL_songs 97 = .ok (.iastore, 1) := by decide +kernel
theorem dL_songs_98 : decode cL_songs 98 = .ok (.aload_n 3, 1) := by decide +kernel
theorem dL_songs_99 : decode cL_songs 99 = .ok (.iload 12, 2) := by decide +kernel
theorem dL_songs_101 : decode cL_songs 101 = .ok (.iconst 2, 1) := by decide +kernel
theorem dL_songs_102 : decode cL_songs 102 = .ok (.iadd, 1) := by decide +kernel
theorem dL_songs_103 : decode cL_songs 103 = .ok (.iconst 0, 1) := by decide +kernel
theorem dL_songs_104 : decode cL_songs 104 = .ok (.iastore, 1) := by decide +kernel
theorem dL_songs_105 : decode cL_songs 105 = .ok (.aload_n 3, 1) := by decide +kernel
theorem dL_songs_106 : decode cL_songs 106 = .ok (.iload 12, 2) := by decide +kernel
theorem dL_songs_108 : decode cL_songs 108 = .ok (.iconst 3, 1) := by decide +kernel
theorem dL_songs_109 : decode cL_songs 109 = .ok (.iadd, 1) := by decide +kernel
theorem dL_songs_110 : decode cL_songs 110 = .ok (.iconst 0, 1) := by decide +kernel
theorem dL_songs_111 : decode cL_songs 111 = .ok (.iastore, 1) := by decide +kernel
theorem dL_songs_112 : decode cL_songs 112 = .ok (.aload 4, 2) := by decide +kernel
theorem dL_songs_114 : decode cL_songs 114 = .ok (.iload 9, 2) := by decide +kernel
theorem dL_songs_116 : decode cL_songs 116 = .ok (.dup2, 1) := by decide +kernel
theorem dL_songs_117 : decode cL_songs 117 = .ok (.iaload, 1) := by decide +kernel
theorem dL_songs_118 : decode cL_songs 118 = .ok (.iconst 1, 1) := by decide +kernel
theorem dL_songs_119 : decode cL_songs 119 = .ok (.iadd, 1) := by decide +kernel
theorem dL_songs_120 : decode cL_songs 120 = .ok (.iastore, 1) := by decide +kernel
theorem dL_songs_121 : decode cL_songs 121 = .ok (.aload_n 0, 1) := by decide +kernel
theorem dL_songs_122 : decode cL_songs 122 = .ok (.iconst 4, 1) := by decide +kernel
theorem dL_songs_123 : decode cL_songs 123 = .ok (.iload 9, 2) := by decide +kernel
theorem dL_songs_125 : decode cL_songs 125 = .ok (.iload 10, 2) := by decide +kernel
theorem dL_songs_127 : decode cL_songs 127 = .ok (.iload 11, 2) := by decide +kernel
theorem dL_songs_129 : decode cL_songs 129 = .ok (.iconst 0, 1) := by decide +kernel
theorem dL_songs_130 : decode cL_songs 130 = .ok (.invokestatic 112, 3) := by decide +kernel
theorem dL_songs_133 : decode cL_songs 133 = .ok (.iload 8, 2) := by decide +kernel
theorem dL_songs_135 : decode cL_songs 135 = .ok (.ifCond .eq 13, 3) := by decide +kernel
theorem dL_songs_138 : decode cL_songs 138 = .ok (.aload 4, 2) := by decide +kernel
theorem dL_songs_140 : decode cL_songs 140 = .ok (.iload 9, 2) := by decide +kernel
theorem dL_songs_142 : decode cL_songs 142 = .ok (.iaload, 1) := by decide +kernel
theorem dL_songs_143 : decode cL_songs 143 = .ok (.iconst 1, 1) := by decide +kernel
theorem dL_songs_144 : decode cL_songs 144 = .ok (.isub, 1) := by decide +kernel
theorem dL_songs_145 : decode cL_songs 145 = .ok (.goto 5, 3) := by decide +kernel
theorem dL_songs_148 : decode cL_songs 148 = .ok (.bipush (-7), 2) := by decide +kernel
theorem dL_songs_150 : decode cL_songs 150 = .ok (.if_icmp .ne 7, 3) := by decide +kernel
theorem dL_songs_153 : decode cL_songs 153 = .ok (.iconst 1, 1) := by decide +kernel
theorem dL_songs_154 : decode cL_songs 154 = .ok (.goto 4, 3) := by decide +kernel
theorem dL_songs_157 : decode cL_songs 157 = .ok (.iconst 0, 1) := by decide +kernel
theorem dL_songs_158 : decode cL_songs 158 = .ok (.ireturn, 1) := by decide +kernel
theorem dL_songs_159 : decode cL_songs 159 = .ok (.iload_n 2, 1) := by decide +kernel
theorem dL_songs_160 : decode cL_songs 160 = .ok (.iconst 3, 1) := by decide +kernel
theorem dL_songs_161 : decode cL_songs 161 = .ok (.ishr, 1) := by decide +kernel
theorem dL_songs_162 : decode cL_songs 162 = .ok (.aload 4, 2) := by decide +kernel
theorem dL_songs_164 : decode cL_songs 164 = .ok (.iload 9, 2) := by decide +kernel
theorem dL_songs_166 : decode cL_songs 166 = .ok (.iaload, 1) := by decide +kernel
theorem dL_songs_167 : decode cL_songs 167 = .ok (.invokestatic 97, 3) := by decide +kernel
theorem dL_songs_170 : decode cL_songs 170 = .ok (.istore 10, 2) := by decide +kernel
theorem dL_songs_172 : decode cL_songs 172 = .ok (.iload_n 2, 1) := by decide +kernel
theorem dL_songs_173 : decode cL_songs 173 = .ok (.iconst 5, 1) := by decide +kernel
theorem dL_songs_174 : decode cL_songs 174 = .ok (.ishr, 1) := by decide +kernel
theorem dL_songs_175 : decode cL_songs 175 = .ok (.aload 4, 2) := by decide +kernel
theorem dL_songs_177 : decode cL_songs 177 = .ok (.iload 9, 2) := by decide +kernel
theorem dL_songs_179 : decode cL_songs 179 = .ok (.iaload, 1) := by decide +kernel
theorem dL_songs_180 : decode cL_songs 180 = .ok (.invokestatic 97, 3) := by decide +kernel
theorem dL_songs_183 : decode cL_songs 183 = .ok (.istore 11, 2) := by decide +kernel
theorem dL_songs_185 : decode cL_songs 185 = .ok (.iload_n 2, 1) := by decide +kernel
theorem dL_songs_186 : decode cL_songs 186 = .ok (.bipush 8, 2) := by decide +kernel
theorem dL_songs_188 : decode cL_songs 188 = .ok (.ishr, 1) := by decide +kernel
theorem dL_songs_189 : decode cL_songs 189 = .ok (.iconst 4, 1) := by decide +kernel
theorem dL_songs_190 : decode cL_songs 190 = .ok (.invokestatic 97, 3) := by decide +kernel
theorem dL_songs_193 : decode cL_songs 193 = .ok (.istore 12, 2) := by decide +kernel
theorem dL_songs_195 : decode cL_songs 195 = .ok (.aload_n 3, 1) := by decide +kernel
theorem dL_songs_196 : decode cL_songs 196 = .ok (.bipush 16, 2) := by decide +kernel
theorem dL_songs_198 : decode cL_songs 198 = .ok (.iload 9, 2) := by decide +kernel
theorem dL_songs_200 : decode cL_songs 200 = .ok (.imul, 1) := by decide +kernel
theorem dL_songs_201 : decode cL_songs 201 = .ok (.iconst 4, 1) := by decide +kernel
theorem dL_songs_202 : decode cL_songs 202 = .ok (.iload 10, 2) := by decide +kernel
theorem dL_songs_204 : decode cL_songs 204 = .ok (.imul, 1) := by decide +kernel
theorem dL_songs_205 : decode cL_songs 205 = .ok (.iadd, 1) := by decide +kernel
theorem dL_songs_206 : decode cL_songs 206 = .ok (.iconst 2, 1) := by decide +kernel
theorem dL_songs_207 : decode cL_songs 207 = .ok (.iadd, 1) := by decide +kernel
theorem dL_songs_208 : decode cL_songs 208 = .ok (.iload 8, 2) := by decide +kernel
theorem dL_songs_210 : decode cL_songs 210 = .ok (.ifCond .eq 8, 3) := by decide +kernel
theorem dL_songs_213 : decode cL_songs 213 = .ok (.iload 11, 2) := by decide +kernel
theorem dL_songs_215 : decode cL_songs 215 = .ok (.goto 17, 3) := by decide +kernel
theorem dL_songs_218 : decode cL_songs 218 = .ok (.aload_n 3, 1) := by decide +kernel
theorem dL_songs_219 : decode cL_songs 219 = .ok (.bipush 16, 2) := by decide +kernel
theorem dL_songs_221 : decode cL_songs 221 = .ok (.iload 9, 2) := by decide +kernel
theorem dL_songs_223 : decode cL_songs 223 = .ok (.imul, 1) := by decide +kernel
theorem dL_songs_224 : decode cL_songs 224 = .ok (.iconst 4, 1) := by decide +kernel
theorem dL_songs_225 : decode cL_songs 225 = .ok (.iload 10, 2) := by decide +kernel
theorem dL_songs_227 : decode cL_songs 227 = .ok (.imul, 1) := by decide +kernel
theorem dL_songs_228 : decode cL_songs 228 = .ok (.iadd, 1) := by decide +kernel
theorem dL_songs_229 : decode cL_songs 229 = .ok (.iconst 2, 1) := by decide +kernel
theorem dL_songs_230 : decode cL_songs 230 = .ok (.iadd, 1) := by decide +kernel
theorem dL_songs_231 : decode cL_songs 231 = .ok (.iaload, 1) := by decide +kernel
theorem dL_songs_232 : decode cL_songs 232 = .ok (.iastore, 1) := by decide +kernel
theorem dL_songs_233 : decode cL_songs 233 = .ok (.aload_n 3, 1) := by decide +kernel
theorem dL_songs_234 : decode cL_songs 234 = .ok (.bipush 16, 2) := by decide +kernel
theorem dL_songs_236 : decode cL_songs 236 = .ok (.iload 9, 2) := by decide +kernel
theorem dL_songs_238 : decode cL_songs 238 = .ok (.imul, 1) := by decide +kernel
theorem dL_songs_239 : decode cL_songs 239 = .ok (.iconst 4, 1) := by decide +kernel
theorem dL_songs_240 : decode cL_songs 240 = .ok (.iload 10, 2) := by decide +kernel
theorem dL_songs_242 : decode cL_songs 242 = .ok (.imul, 1) := by decide +kernel
theorem dL_songs_243 : decode cL_songs 243 = .ok (.iadd, 1) := by decide +kernel
theorem dL_songs_244 : decode cL_songs 244 = .ok (.iconst 3, 1) := by decide +kernel
theorem dL_songs_245 : decode cL_songs 245 = .ok (.iadd, 1) := by decide +kernel
theorem dL_songs_246 : decode cL_songs 246 = .ok (.iload 8, 2) := by decide +kernel
theorem dL_songs_248 : decode cL_songs 248 = .ok (.ifCond .eq 8, 3) := by decide +kernel
theorem dL_songs_251 : decode cL_songs 251 = .ok (.iload 12, 2) := by decide +kernel
theorem dL_songs_253 : decode cL_songs 253 = .ok (.goto 17, 3) := by decide +kernel
theorem dL_songs_256 : decode cL_songs 256 = .ok (.aload_n 3, 1) := by decide +kernel
theorem dL_songs_257 : decode cL_songs 257 = .ok (.bipush 16, 2) := by decide +kernel
theorem dL_songs_259 : decode cL_songs 259 = .ok (.iload 9, 2) := by decide +kernel
theorem dL_songs_261 : decode cL_songs 261 = .ok (.imul, 1) := by decide +kernel
theorem dL_songs_262 : decode cL_songs 262 = .ok (.iconst 4, 1) := by decide +kernel
theorem dL_songs_263 : decode cL_songs 263 = .ok (.iload 10, 2) := by decide +kernel
theorem dL_songs_265 : decode cL_songs 265 = .ok (.imul, 1) := by decide +kernel
theorem dL_songs_266 : decode cL_songs 266 = .ok (.iadd, 1) := by decide +kernel
theorem dL_songs_267 : decode cL_songs 267 = .ok (.iconst 3, 1) := by decide +kernel
theorem dL_songs_268 : decode cL_songs 268 = .ok (.iadd, 1) := by decide +kernel
theorem dL_songs_269 : decode cL_songs 269 = .ok (.iaload, 1) := by decide +kernel
theorem dL_songs_270 : decode cL_songs 270 = .ok (.iastore, 1) := by decide +kernel
theorem dL_songs_271 : decode cL_songs 271 = .ok (.aload_n 0, 1) := by decide +kernel
theorem dL_songs_272 : decode cL_songs 272 = .ok (.iconst 5, 1) := by decide +kernel
theorem dL_songs_273 : decode cL_songs 273 = .ok (.iload 9, 2) := by decide +kernel
theorem dL_songs_275 : decode cL_songs 275 = .ok (.iload 10, 2) := by decide +kernel
theorem dL_songs_277 : decode cL_songs 277 = .ok (.iload 11, 2) := by decide +kernel
theorem dL_songs_279 : decode cL_songs 279 = .ok (.iload 12, 2) := by decide +kernel
theorem dL_songs_281 : decode cL_songs 281 = .ok (.invokestatic 112, 3) := by decide +kernel
theorem dL_songs_284 : decode cL_songs 284 = .ok (.iload 8, 2) := by decide +kernel
theorem dL_songs_286 : decode cL_songs 286 = .ok (.ifCond .eq 19, 3) := by decide +kernel
theorem dL_songs_289 : decode cL_songs 289 = .ok (.iload 9, 2) := by decide +kernel
theorem dL_songs_291 : decode cL_songs 291 = .ok (.iconst 0, 1) := by decide +kernel
theorem dL_songs_292 : decode cL_songs 292 = .ok (.aload 7, 2) := by decide +kernel
theorem dL_songs_294 : decode cL_songs 294 = .ok (.aload_n 3, 1) := by decide +kernel
theorem dL_songs_295 : decode cL_songs 295 = .ok (.aload 4, 2) := by decide +kernel
theorem dL_songs_297 : decode cL_songs 297 = .ok (.aload 5, 2) := by decide +kernel
theorem dL_songs_299 : decode cL_songs 299 = .ok (.invokestatic 93, 3) := by decide +kernel
theorem dL_songs_302 : decode cL_songs 302 = .ok (.goto 5, 3) := by decide +kernel
theorem dL_songs_305 : decode cL_songs 305 = .ok (.bipush (-7), 2) := by decide +kernel
theorem dL_songs_307 : decode cL_songs 307 = .ok (.if_icmp .ne 7, 3) := by decide +kernel
theorem dL_songs_310 : decode cL_songs 310 = .ok (.iconst 1, 1) := by decide +kernel
theorem dL_songs_311 : decode cL_songs 311 = .ok (.goto 4, 3) := by decide +kernel
theorem dL_songs_314 : decode cL_songs 314 = .ok (.iconst 0, 1) := by decide +kernel
theorem dL_songs_315 : decode cL_songs 315 = .ok (.ireturn, 1) := by decide +kernel
set_option maxRecDepth 20000 in
theorem ggL_list_L_low : GoodIn wsL_list wsL_low := goodIn_r _ [4, 5] (by decide +kernel) (by decide +kernel)
set_option maxRecDepth 20000 in
theorem gL_list_L_low : GoodIn wsL_list (va_wsS RL 97 yL_low wsL_low) := goodIn_app (goodIn_of _ (by decide +kernel)) ggL_list_L_low
set_option maxRecDepth 20000 in
theorem ggL_list_L_calls : GoodIn wsL_list wsL_calls := goodIn_ca (goodIn_ca (goodIn_ca (goodIn_r _ [8, 9, 10, 11, 12, 13, 14, 15, 16, 17, 18, 19, 20, 21, 22, 23, 24, 25, 26, 27, 28, 29, 30, 31, 32, 33, 34, 35, 36, 37, 38, 39, 40, 41, 42, 43, 44, 45, 46, 47, 48, 49, 50, 51, 52, 53, 54, 55, 56, 57, 58, 59, 60, 61, 62, 63, 64, 65, 66, 67, 68, 69, 70, 71, 72, 73, 74, 75, 76, 77, 78, 79, 80, 81, 82, 83, 84, 85, 86, 87, 88, 89, 90, 91, 92, 93, 94, 95, 96, 97, 98, 99, 100, 101, 102, 103, 104, 105, 106, 107, 108, 109, 110, 111, 112, 113, 114, 115, 116, 117, 118, 119, 120, 121, 122, 123, 124, 125, 126, 127, 128, 129, 130, 131, 132, 133, 134, 135, 136, 137, 138, 139, 140, 141, 142, 143, 144, 145, 146, 147, 148, 149, 150, 151, 152, 153, 154, 155, 156, 157, 158, 159, 160, 161, 162, 163, 164, 165, 166, 167, 168, 169, 170, 171, 172, 173, 174, 175, 176, 177, 178, 179, 180, 181, 182, 183, 184, 185, 186, 187, 188, 189, 190, 191, 192, 193, 194, 195, 196, 197, 198, 199, 200, 201, 202, 203, 204, 205, 206, 207, 208, 209, 210, 211, 212, 213, 214, 215, 216, 217, 218, 219, 220, 221, 222, 223, 224, 225, 226, 227, 228, 229, 230, 231, 232, 233, 234, 235, 236, 237, 238, 239, 240, 241, 242, 243, 244, 245, 246, 247, 248, 249, 250, 251, 252, 253, 254, 255, 256, 257, 258, 259, 260, 261, 262, 263, 264, 265, 266, 267, 268, 269, 270, 271, 272, 273, 274, 275, 276, 277, 278, 279, 280, 281, 282, 283, 284, 285, 286, 287, 288, 289, 290, 291, 292, 293, 294, 295, 296, 297, 298, 299, 300, 301, 302, 303, 304, 305, 306, 307, 308, 309, 310, 311, 312, 313, 314, 315, 316, 317, 318, 319, 320, 321, 322, 323, 324, 325, 326, 327, 328, 329, 330, 331, 332, 333, 334, 335, 336, 337, 338, 339, 340, 341, 342, 343, 344, 345, 346, 347, 348, 349, 350, 351, 352, 353, 354, 355, 356, 357, 358, 359, 360, 361, 365, 366, 367, 368, 369, 370, 371, 372, 373, 374, 375, 376, 377, 378, 379, 380, 381, 382, 383, 384, 385, 386, 387, 388, 389, 390, 391, 392, 393, 394, 395, 396, 397, 398, 399, 400, 401, 402, 403, 404, 405, 406, 407, 408, 409] (by decide +kernel) (by decide +kernel)) (goodIn_sub (fun _ h => List.mem_cons_of_mem _ (List.mem_append_left _ (List.mem_append_left _ (List.mem_append_right _ h)))) (by decide +kernel))) (goodIn_sub (fun _ h => List.mem_cons_of_mem _ (List.mem_append_left _ (List.mem_append_right _ h))) (by decide +kernel))) (goodIn_sub (fun _ h => List.mem_cons_of_mem _ (List.mem_append_right _ h)) (by decide +kernel))
set_option maxRecDepth 20000 in
theorem gL_list_L_calls : GoodIn wsL_list (va_wsS RL 112 yL_calls wsL_calls) := goodIn_app (goodIn_of _ (by decide +kernel)) ggL_list_L_calls
set_option maxRecDepth 20000 in
theorem ggL_list_L_lays : GoodIn wsL_list wsL_lays := goodIn_r _ [364] (by decide +kernel) (by decide +kernel)
set_option maxRecDepth 20000 in
theorem gL_list_L_lays : GoodIn wsL_list (va_wsS RL 93 yL_lays wsL_lays) := goodIn_app (goodIn_of _ (by decide +kernel)) ggL_list_L_lays
theorem dL_list_0 : decode cL_list 0 = .ok (.iload_n 1, 1) := by decide +kernel
theorem dL_list_1 : decode cL_list 1 = .ok (.ifCond .ne 96, 3) := by decide +kernel
theorem dL_list_4 : decode cL_list 4 = .ok (.iload_n 2, 1) := by decide +kernel
theorem dL_list_5 : decode cL_list 5 = .ok (.iconst 3, 1) := by decide +kernel
theorem dL_list_6 : decode cL_list 6 = .ok (.invokestatic 97, 3) := by decide +kernel
theorem dL_list_9 : decode cL_list 9 = .ok (.istore 9, 2) := by decide +kernel
theorem dL_list_11 : decode cL_list 11 = .ok (.aload 6, 2) := by decide +kernel
theorem dL_list_13 : decode cL_list 13 = .ok (.iconst 0, 1) := by decide +kernel
theorem dL_list_14 : decode cL_list 14 = .ok (.iaload, 1) := by decide +kernel
theorem dL_list_15 : decode cL_list 15 = .ok (.iconst 3, 1) := by decide +kernel
theorem dL_list_16 : decode cL_list 16 = .ok (.if_icmp .ne 5, 3) := by decide +kernel
theorem dL_list_19 : decode cL_list 19 = .ok (.iconst 1, 1) := by decide +kernel
theorem dL_list_20 : decode cL_list 20 = .ok (.ireturn, 1) := by decide +kernel
theorem dL_list_21 : decode cL_list 21 = .ok (.aload 6, 2) := by decide +kernel
theorem dL_list_23 : decode cL_list 23 = .ok (.iconst 1, 1) := by decide +kernel
theorem dL_list_24 : decode cL_list 24 = .ok (.iaload, 1) := by decide +kernel
theorem dL_list_25 : decode cL_list 25 = .ok (.ifCond .ne 7, 3) := by decide +kernel
theorem dL_list_28 : decode cL_list 28 = .ok (.iconst 1, 1) := by decide +kernel
theorem dL_list_29 : decode cL_list 29 = .ok (.goto 4, 3) := by decide +kernel
theorem dL_list_32 : decode cL_list 32 = .ok (.iconst 0, 1) := by decide +kernel
theorem dL_list_33 : decode cL_list 33 = .ok (.istore 10, 2) := by decide +kernel
theorem dL_list_35 : decode cL_list 35 = .ok (.aload 4, 2) := by decide +kernel
theorem dL_list_37 : decode cL_list 37 = .ok (.iconst 3, 1) := by decide +kernel
theorem dL_list_38 : decode cL_list 38 = .ok (.aload 6, 2) := by decide +kernel
theorem dL_list_40 : decode cL_list 40 = .ok (.iconst 0, 1) := by decide +kernel
theorem dL_list_41 : decode cL_list 41 = .ok (.iaload, 1) := by decide +kernel
theorem dL_list_42 : decode cL_list 42 = .ok (.iadd, 1) := by decide +kernel
theorem dL_list_43 : decode cL_list 43 = .ok (.iload 9, 2) := by decide +kernel
theorem dL_list_45 : decode cL_list 45 = .ok (.iastore, 1) := by decide +kernel
theorem dL_list_46 : decode cL_list 46 = .ok (.aload 6, 2) := by decide +kernel
theorem dL_list_48 : decode cL_list 48 = .ok (.iconst 0, 1) := by decide +kernel
theorem dL_list_49 : decode cL_list 49 = .ok (.dup2, 1) := by decide +kernel
theorem dL_list_50 : decode cL_list 50 = .ok (.iaload, 1) := by decide +kernel
theorem dL_list_51 : decode cL_list 51 = .ok (.iload 10, 2) := by decide +kernel
theorem dL_list_53 : decode cL_list 53 = .ok (.ifCond .eq 7, 3) := by decide +kernel
theorem dL_list_56 : decode cL_list 56 = .ok (.iconst 1, 1) := by decide +kernel
theorem dL_list_57 : decode cL_list 57 = .ok (.goto 4, 3) := by decide +kernel
theorem dL_list_60 : decode cL_list 60 = .ok (.iconst 0, 1) := by decide +kernel
theorem dL_list_61 : decode cL_list 61 = .ok (.iadd, 1) := by decide +kernel
theorem dL_list_62 : decode cL_list 62 = .ok (.iastore, 1) := by decide +kernel
theorem dL_list_63 : decode cL_list 63 = .ok (.aload_n 0, 1) := by decide +kernel
theorem dL_list_64 : decode cL_list 64 = .ok (.bipush 6, 2) := by decide +kernel
theorem dL_list_66 : decode cL_list 66 = .ok (.iload 9, 2) := by decide +kernel
theorem dL_list_68 : decode cL_list 68 = .ok (.iconst 0, 1) := by decide +kernel
theorem dL_list_69 : decode cL_list 69 = .ok (.iconst 0, 1) := by decide +kernel
theorem dL_list_70 : decode cL_list 70 = .ok (.iconst 0, 1) := by decide +kernel
theorem dL_list_71 : decode cL_list 71 = .ok (.invokestatic 112, 3) := by decide +kernel
theorem dL_list_74 : decode cL_list 74 = .ok (.iload 10, 2) := by decide +kernel
theorem dL_list_76 : decode cL_list 76 = .ok (.ifCond .eq 10, 3) := by decide +kernel
theorem dL_list_79 : decode cL_list 79 = .ok (.aload 6, 2) := by decide +kernel
theorem dL_list_81 : decode cL_list 81 = .ok (.iconst 0, 1) := by decide +kernel
theorem dL_list_82 : decode cL_list 82 = .ok (.iaload, 1) := by decide +kernel
theorem dL_list_83 : decode cL_list 83 = .ok (.goto 5, 3) := by decide +kernel
theorem dL_list_86 : decode cL_list 86 = .ok (.bipush (-7), 2) := by decide +kernel
theorem dL_list_88 : decode cL_list 88 = .ok (.if_icmp .ne 7, 3) := by decide +kernel
theorem dL_list_91 : decode cL_list 91 = .ok (.iconst 1, 1) := by decide +kernel
theorem dL_list_92 : decode cL_list 92 = .ok (.goto 4, 3) := by decide +kernel
theorem dL_list_95 : decode cL_list 95 = .ok (.iconst 0, 1) := by decide +kernel
theorem dL_list_96 : decode cL_list 96 = .ok (.ireturn, 1) := by decide +kernel
theorem dL_list_97 : decode cL_list 97 = .ok (.iload_n 1, 1) := by decide +kernel
theorem dL_list_98 : decode cL_list 98 = .ok (.iconst 1, 1) := by decide +kernel
theorem dL_list_99 : decode cL_list 99 = .ok (.if_icmp .ne 59, 3) := by decide +kernel
theorem dL_list_102 : decode cL_list 102 = .ok (.aload 6, 2) := by decide +kernel
theorem dL_list_104 : decode cL_list 104 = .ok (.iconst 1, 1) := by decide +kernel
theorem dL_list_105 : decode cL_list 105 = .ok (.iaload, 1) := by decide +kernel
theorem dL_list_106 : decode cL_list 106 = .ok (.ifCond .le 8, 3) := by decide +kernel
theorem dL_list_109 : decode cL_list 109 = .ok (.bipush (-7), 2) := by decide +kernel
theorem dL_list_111 : decode cL_list 111 = .ok (.goto 7, 3) := by decide +kernel
theorem dL_list_114 : decode cL_list 114 = .ok (.aload 6, 2) := by decide +kernel
theorem dL_list_116 : decode cL_list 116 = .ok (.iconst 0, 1) := by decide +kernel
theorem dL_list_117 : decode cL_list 117 = .ok (.iaload, 1) := by decide +kernel
theorem dL_list_118 : decode cL_list 118 = .ok (.istore 9, 2) := by decide +kernel
theorem dL_list_120 : decode cL_list 120 = .ok (.aload 6, 2) := by decide +kernel
theorem dL_list_122 : decode cL_list 122 = .ok (.iconst 0, 1) := by decide +kernel
theorem dL_list_123 : decode cL_list 123 = .ok (.iload 9, 2) := by decide +kernel
theorem dL_list_125 : decode cL_list 125 = .ok (.ifCond .ge 10, 3) := by decide +kernel
theorem dL_list_128 : decode cL_list 128 = .ok (.aload 6, 2) := by decide +kernel
theorem dL_list_130 : decode cL_list 130 = .ok (.iconst 0, 1) := by decide +kernel
theorem dL_list_131 : decode cL_list 131 = .ok (.iaload, 1) := by decide +kernel
theorem dL_list_132 : decode cL_list 132 = .ok (.goto 4, 3) := by decide +kernel
theorem dL_list_135 : decode cL_list 135 = .ok (.iconst 0, 1) := by decide +kernel
theorem dL_list_136 : decode cL_list 136 = .ok (.iastore, 1) := by decide +kernel
theorem dL_list_137 : decode cL_list 137 = .ok (.aload_n 0, 1) := by decide +kernel
theorem dL_list_138 : decode cL_list 138 = .ok (.bipush 7, 2) := by decide +kernel
theorem dL_list_140 : decode cL_list 140 = .ok (.iconst 0, 1) := by decide +kernel
theorem dL_list_141 : decode cL_list 141 = .ok (.iconst 0, 1) := by decide +kernel
theorem dL_list_142 : decode cL_list 142 = .ok (.iconst 0, 1) := by decide +kernel
theorem dL_list_143 : decode cL_list 143 = .ok (.iconst 0, 1) := by decide +kernel
theorem dL_list_144 : decode cL_list 144 = .ok (.invokestatic 112, 3) := by decide +kernel
theorem dL_list_147 : decode cL_list 147 = .ok (.iload 9, 2) := by decide +kernel
theorem dL_list_149 : decode cL_list 149 = .ok (.if_icmp .ne 7, 3) := by decide +kernel
theorem dL_list_152 : decode cL_list 152 = .ok (.iconst 1, 1) := by decide +kernel
theorem dL_list_153 : decode cL_list 153 = .ok (.goto 4, 3) := by decide +kernel
theorem dL_list_156 : decode cL_list 156 = .ok (.iconst 0, 1) := by decide +kernel
theorem dL_list_157 : decode cL_list 157 = .ok (.ireturn, 1) := by decide +kernel
theorem dL_list_158 : decode cL_list 158 = .ok (.iconst 0, 1) := by decide +kernel
theorem dL_list_159 : decode cL_list 159 = .ok (.istore 9, 2) := by decide +kernel
theorem dL_list_161 : decode cL_list 161 = .ok (.aload 6, 2) := by decide +kernel
theorem dL_list_163 : decode cL_list 163 = .ok (.iconst 1, 1) := by decide +kernel
theorem dL_list_164 : decode cL_list 164 = .ok (.iaload, 1) := by decide +kernel
theorem dL_list_165 : decode cL_list 165 = .ok (.ifCond .ne 14, 3) := by decide +kernel
theorem dL_list_168 : decode cL_list 168 = .ok (.aload 6, 2) := by decide +kernel
theorem dL_list_170 : decode cL_list 170 = .ok (.iconst 0, 1) := by decide +kernel
theorem dL_list_171 : decode cL_list 171 = .ok (.iaload, 1) := by decide +kernel
theorem dL_list_172 : decode cL_list 172 = .ok (.ifCond .le 7, 3) := by decide +kernel
theorem dL_list_175 : decode cL_list 175 = .ok (.iconst 1, 1) := by decide +kernel
theorem dL_list_176 : decode cL_list 176 = .ok (.goto 4, 3) := by decide +kernel
theorem dL_list_179 : decode cL_list 179 = .ok (.iconst 0, 1) := by decide +kernel
theorem dL_list_180 : decode cL_list 180 = .ok (.istore 10, 2) := by decide +kernel
theorem dL_list_182 : decode cL_list 182 = .ok (.iconst 0, 1) := by decide +kernel
theorem dL_list_183 : decode cL_list 183 = .ok (.istore 11, 2) := by decide +kernel
theorem dL_list_185 : decode cL_list 185 = .ok (.iload 11, 2) := by decide +kernel
theorem dL_list_187 : decode cL_list 187 = .ok (.aload 6, 2) := by decide +kernel
theorem dL_list_189 : decode cL_list 189 = .ok (.iconst 0, 1) := by decide +kernel
theorem dL_list_190 : decode cL_list 190 = .ok (.iaload, 1) := by decide +kernel
theorem dL_list_191 : decode cL_list 191 = .ok (.if_icmp .ge 101, 3) := by decide +kernel
theorem dL_list_194 : decode cL_list 194 = .ok (.aload 6, 2) := by decide +kernel
theorem dL_list_196 : decode cL_list 196 = .ok (.iconst 1, 1) := by decide +kernel
theorem dL_list_197 : decode cL_list 197 = .ok (.iaload, 1) := by decide +kernel
theorem dL_list_198 : decode cL_list 198 = .ok (.ifCond .ne 94, 3) := by decide +kernel
theorem dL_list_201 : decode cL_list 201 = .ok (.aload 4, 2) := by decide +kernel
theorem dL_list_203 : decode cL_list 203 = .ok (.iconst 3, 1) := by decide +kernel
theorem dL_list_204 : decode cL_list 204 = .ok (.iload 11, 2) := by decide +kernel
theorem dL_list_206 : decode cL_list 206 = .ok (.iadd, 1) := by decide +kernel
theorem dL_list_207 : decode cL_list 207 = .ok (.iaload, 1) := by decide +kernel
theorem dL_list_208 : decode cL_list 208 = .ok (.iload 9, 2) := by decide +kernel
theorem dL_list_210 : decode cL_list 210 = .ok (.aload 8, 2) := by decide +kernel
theorem dL_list_212 : decode cL_list 212 = .ok (.aload_n 3, 1) := by decide +kernel
theorem dL_list_213 : decode cL_list 213 = .ok (.aload 4, 2) := by decide +kernel
theorem dL_list_215 : decode cL_list 215 = .ok (.aload 5, 2) := by decide +kernel
theorem dL_list_217 : decode cL_list 217 = .ok (.invokestatic 93, 3) := by decide +kernel
theorem dL_list_220 : decode cL_list 220 = .ok (.istore 12, 2) := by decide +kernel
theorem dL_list_222 : decode cL_list 222 = .ok (.iload 9, 2) := by decide +kernel
theorem dL_list_224 : decode cL_list 224 = .ok (.istore 13, 2) := by decide +kernel
theorem dL_list_226 : decode cL_list 226 = .ok (.iload 13, 2) := by decide +kernel
theorem dL_list_228 : decode cL_list 228 = .ok (.iload 9, 2) := by decide +kernel
theorem dL_list_230 : decode cL_list 230 = .ok (.iload 12, 2) := by decide +kernel
theorem dL_list_232 : decode cL_list 232 = .ok (.iadd, 1) := by decide +kernel
theorem dL_list_233 : decode cL_list 233 = .ok (.if_icmp .ge 29, 3) := by decide +kernel
theorem dL_list_236 : decode cL_list 236 = .ok (.iload 13, 2) := by decide +kernel
theorem dL_list_238 : decode cL_list 238 = .ok (.bipush 64, 2) := by decide +kernel
theorem dL_list_240 : decode cL_list 240 = .ok (.if_icmp .ge 22, 3) := by decide +kernel
theorem dL_list_243 : decode cL_list 243 = .ok (.aload 8, 2) := by decide +kernel
theorem dL_list_245 : decode cL_list 245 = .ok (.iload 13, 2) := by decide +kernel
theorem dL_list_247 : decode cL_list 247 = .ok (.dup2, 1) := by decide +kernel
theorem dL_list_248 : decode cL_list 248 = .ok (.iaload, 1) := by decide +kernel
theorem dL_list_249 : decode cL_list 249 = .ok (.bipush 8, 2) := by decide +kernel
theorem dL_list_251 : decode cL_list 251 = .ok (.iload 11, 2) := by decide +kernel
theorem dL_list_253 : decode cL_list 253 = .ok (.imul, 1) := by decide +kernel
theorem dL_list_254 : decode cL_list 254 = .ok (.iadd, 1) := by decide +kernel
theorem dL_list_255 : decode cL_list 255 = .ok (.iastore, 1) := by decide +kernel
theorem dL_list_256 : decode cL_list 256 = .ok (.iinc 13 1, 3) := by decide +kernel
theorem dL_list_259 : decode cL_list 259 = .ok (.goto (-33), 3) := by decide +kernel
theorem dL_list_262 : decode cL_list 262 = .ok (.iload 10, 2) := by decide +kernel
theorem dL_list_264 : decode cL_list 264 = .ok (.ifCond .eq 12, 3) := by decide +kernel
theorem dL_list_267 : decode cL_list 267 = .ok (.iload 12, 2) := by decide +kernel
theorem dL_list_269 : decode cL_list 269 = .ok (.ifCond .le 7, 3) := by decide +kernel
theorem dL_list_272 : decode cL_list 272 = .ok (.iconst 1, 1) := by decide +kernel
theorem dL_list_273 : decode cL_list 273 = .ok (.goto 4, 3) := by decide +kernel
theorem dL_list_276 : decode cL_list 276 = .ok (.iconst 0, 1) := by decide +kernel
theorem dL_list_277 : decode cL_list 277 = .ok (.istore 10, 2) := by decide +kernel
theorem dL_list_279 : decode cL_list 279 = .ok (.iload 9, 2) := by decide +kernel
theorem dL_list_281 : decode cL_list 281 = .ok (.iload 12, 2) := by decide +kernel
theorem dL_list_283 : decode cL_list 283 = .ok (.iadd, 1) := by decide +kernel
theorem dL_list_284 : decode cL_list 284 = .ok (.istore 9, 2) := by decide +kernel
theorem dL_list_286 : decode cL_list 286 = .ok (.iinc 11 1, 3) := by decide +kernel
theorem dL_list_289 : decode cL_list 289 = .ok (.goto (-104), 3) := by decide +kernel
theorem dL_list_292 : decode cL_list 292 = .ok (.iload 10, 2) := by decide +kernel
theorem dL_list_294 : decode cL_list 294 = .ok (.ifCond .eq 12, 3) := by decide +kernel
theorem dL_list_297 : decode cL_list 297 = .ok (.iload 9, 2) := by decide +kernel
theorem dL_list_299 : decode cL_list 299 = .ok (.bipush 64, 2) := by decide +kernel
theorem dL_list_301 : decode cL_list 301 = .ok (.if_icmp .le 5, 3) := by decide +kernel
theorem dL_list_304 : decode cL_list 304 = .ok (.iconst 1, 1) := by decide +kernel
theorem dL_list_305 : decode cL_list 305 = .ok (.ireturn, 1) := by decide +kernel
theorem dL_list_306 : decode cL_list 306 = .ok (.iload 10, 2) := by decide +kernel
theorem dL_list_308 : decode cL_list 308 = .ok (.ifCond .eq 51, 3) := by decide +kernel
theorem dL_list_311 : decode cL_list 311 = .ok (.aload 6, 2) := by decide +kernel
theorem dL_list_313 : decode cL_list 313 = .ok (.iconst 1, 1) := by decide +kernel
theorem dL_list_314 : decode cL_list 314 = .ok (.iload 9, 2) := by decide +kernel
theorem dL_list_316 : decode cL_list 316 = .ok (.iastore, 1) := by decide +kernel
theorem dL_list_317 : decode cL_list 317 = .ok (.aload 6, 2) := by decide +kernel
theorem dL_list_319 : decode cL_list 319 = .ok (.iconst 2, 1) := by decide +kernel
theorem dL_list_320 : decode cL_list 320 = .ok (.iconst 0, 1) := by decide +kernel
theorem dL_list_321 : decode cL_list 321 = .ok (.iastore, 1) := by decide +kernel
theorem dL_list_322 : decode cL_list 322 = .ok (.aload 6, 2) := by decide +kernel
theorem dL_list_324 : decode cL_list 324 = .ok (.iconst 3, 1) := by decide +kernel
theorem dL_list_325 : decode cL_list 325 = .ok (.iconst 0, 1) := by decide +kernel
theorem dL_list_326 : decode cL_list 326 = .ok (.iastore, 1) := by decide +kernel
theorem dL_list_327 : decode cL_list 327 = .ok (.aload 6, 2) := by decide +kernel
theorem dL_list_329 : decode cL_list 329 = .ok (.iconst 4, 1) := by decide +kernel
theorem dL_list_330 : decode cL_list 330 = .ok (.iconst 0, 1) := by decide +kernel
theorem dL_list_331 : decode cL_list 331 = .ok (.iastore, 1) := by decide +kernel
theorem dL_list_332 : decode cL_list 332 = .ok (.aload 6, 2) := by decide +kernel
theorem dL_list_334 : decode cL_list 334 = .ok (.iconst 5, 1) := by decide +kernel
theorem dL_list_335 : decode cL_list 335 = .ok (.iconst 0, 1) := by decide +kernel
theorem dL_list_336 : decode cL_list 336 = .ok (.iastore, 1) := by decide +kernel
theorem dL_list_337 : decode cL_list 337 = .ok (.iconst 0, 1) := by decide +kernel
theorem dL_list_338 : decode cL_list 338 = .ok (.istore 11, 2) := by decide +kernel
theorem dL_list_340 : decode cL_list 340 = .ok (.iload 11, 2) := by decide +kernel
theorem dL_list_342 : decode cL_list 342 = .ok (.bipush 8, 2) := by decide +kernel
theorem dL_list_344 : decode cL_list 344 = .ok (.if_icmp .ge 15, 3) := by decide +kernel
theorem dL_list_347 : decode cL_list 347 = .ok (.aload 7, 2) := by decide +kernel
theorem dL_list_349 : decode cL_list 349 = .ok (.iload 11, 2) := by decide +kernel
theorem dL_list_351 : decode cL_list 351 = .ok (.iconst 0, 1) := by decide +kernel
theorem dL_list_352 : decode cL_list 352 = .ok (.iastore, 1) := by decide +kernel
theorem dL_list_353 : decode cL_list 353 = .ok (.iinc 11 1, 3) := by decide +kernel
theorem dL_list_356 : decode cL_list 356 = .ok (.goto (-16), 3) := by decide +kernel
theorem dL_list_359 : decode cL_list 359 = .ok (.aload_n 0, 1) := by decide +kernel
theorem dL_list_360 : decode cL_list 360 = .ok (.bipush 8, 2) := by decide +kernel
theorem dL_list_362 : decode cL_list 362 = .ok (.iconst 0, 1) := by decide +kernel
theorem dL_list_363 : decode cL_list 363 = .ok (.iconst 0, 1) := by decide +kernel
theorem dL_list_364 : decode cL_list 364 = .ok (.iconst 0, 1) := by decide +kernel
theorem dL_list_365 : decode cL_list 365 = .ok (.iconst 0, 1) := by decide +kernel
theorem dL_list_366 : decode cL_list 366 = .ok (.invokestatic 112, 3) := by decide +kernel
theorem dL_list_369 : decode cL_list 369 = .ok (.iload 10, 2) := by decide +kernel
theorem dL_list_371 : decode cL_list 371 = .ok (.ifCond .eq 8, 3) := by decide +kernel
theorem dL_list_374 : decode cL_list 374 = .ok (.iload 9, 2) := by decide +kernel
theorem dL_list_376 : decode cL_list 376 = .ok (.goto 5, 3) := by decide +kernel
theorem dL_list_379 : decode cL_list 379 = .ok (.bipush (-7), 2) := by decide +kernel
theorem dL_list_381 : decode cL_list 381 = .ok (.if_icmp .ne 7, 3) := by decide +kernel
theorem dL_list_384 : decode cL_list 384 = .ok (.iconst 1, 1) := by decide +kernel
theorem dL_list_385 : decode cL_list 385 = .ok (.goto 4, 3) := by decide +kernel
theorem dL_list_388 : decode cL_list 388 = .ok (.iconst 0, 1) := by decide +kernel
theorem dL_list_389 : decode cL_list 389 = .ok (.ireturn, 1) := by decide +kernel
set_option maxRecDepth 20000 in
theorem ggL_plays_L_low : GoodIn wsL_plays wsL_low := goodIn_r _ [4, 5] (by decide +kernel) (by decide +kernel)
set_option maxRecDepth 20000 in
theorem gL_plays_L_low : GoodIn wsL_plays (va_wsS RL 97 yL_low wsL_low) := goodIn_app (goodIn_of _ (by decide +kernel)) ggL_plays_L_low
set_option maxRecDepth 20000 in
theorem ggL_plays_L_tick : GoodIn wsL_plays wsL_tick := goodIn_r _ [8, 9, 10, 3, 11, 12, 13, 14, 15, 16, 17, 18, 19, 20, 21] (by decide +kernel) (by decide +kernel)
set_option maxRecDepth 20000 in
theorem gL_plays_L_tick : GoodIn wsL_plays (va_wsS RL 123 yL_tick wsL_tick) := goodIn_app (goodIn_of _ (by decide +kernel)) ggL_plays_L_tick
set_option maxRecDepth 20000 in
theorem ggL_plays_L_calls : GoodIn wsL_plays wsL_calls := goodIn_ca (goodIn_ca (goodIn_ca (goodIn_r _ [24, 25, 26, 27, 28, 29, 30, 31, 32, 33, 34, 35, 36, 37, 38, 39, 40, 41, 42, 43, 44, 45, 46, 47, 48, 49, 50, 51, 52, 53, 54, 55, 56, 57, 58, 59, 60, 61, 62, 63, 64, 65, 66, 67, 68, 69, 70, 71, 72, 73, 74, 75, 76, 77, 78, 79, 80, 81, 82, 83, 84, 85, 86, 87, 88, 89, 90, 91, 92, 93, 94, 95, 96, 97, 98, 99, 100, 101, 102, 103, 104, 105, 106, 107, 108, 109, 110, 111, 112, 113, 114, 115, 116, 117, 118, 119, 120, 121, 122, 123, 124, 125, 126, 127, 128, 129, 130, 131, 132, 133, 134, 135, 136, 137, 138, 139, 140, 141, 142, 143, 144, 145, 146, 147, 148, 149, 150, 151, 152, 153, 154, 155, 156, 157, 158, 159, 160, 161, 162, 163, 164, 165, 166, 167, 168, 169, 170, 171, 172, 173, 174, 175, 176, 177, 178, 179, 180, 181, 182, 183, 184, 185, 186, 187, 188, 189, 190, 191, 192, 193, 194, 195, 196, 197, 198, 199, 200, 201, 202, 203, 204, 205, 206, 207, 208, 209, 210, 211, 212, 213, 214, 215, 216, 217, 218, 219, 220, 221, 222, 223, 224, 225, 226, 227, 228, 229, 230, 231, 232, 233, 234, 235, 236, 237, 238, 239, 240, 241, 242, 243, 244, 245, 246, 247, 248, 249, 250, 251, 252, 253, 254, 255, 256, 257, 258, 259, 260, 261, 262, 263, 264, 265, 266, 267, 268, 269, 270, 271, 272, 273, 274, 275, 276, 277, 278, 279, 280, 281, 282, 283, 284, 285, 286, 287, 288, 289, 290, 291, 292, 293, 294, 295, 296, 297, 298, 299, 300, 301, 302, 303, 304, 305, 306, 307, 308, 309, 310, 311, 312, 313, 314, 315, 316, 317, 318, 319, 320, 321, 322, 323, 324, 325, 326, 327, 328, 329, 330, 331, 332, 333, 334, 335, 336, 337, 338, 339, 340, 341, 342, 343, 344, 345, 346, 347, 348, 349, 350, 351, 352, 353, 354, 355, 356, 357, 358, 359, 360, 361, 362, 363, 364, 365, 366, 367, 368, 369, 370, 371, 372, 373, 374, 375, 376, 377, 378, 379, 380, 381, 382, 383, 384, 385, 386, 387, 388, 389, 390, 391, 392, 393, 394, 395, 396, 397, 398, 399, 400, 401, 402, 403, 404, 405, 406, 407, 408, 409, 410, 411, 412, 413, 414, 415, 416, 417, 418, 419, 420, 421, 422] (by decide +kernel) (by decide +kernel)) (goodIn_sub (fun _ h => List.mem_cons_of_mem _ (List.mem_append_left _ (List.mem_append_left _ (List.mem_append_right _ h)))) (by decide +kernel))) (goodIn_sub (fun _ h => List.mem_cons_of_mem _ (List.mem_append_left _ (List.mem_append_right _ h))) (by decide +kernel))) (goodIn_sub (fun _ h => List.mem_cons_of_mem _ (List.mem_append_right _ h)) (by decide +kernel))
set_option maxRecDepth 20000 in
theorem gL_plays_L_calls : GoodIn wsL_plays (va_wsS RL 112 yL_calls wsL_calls) := goodIn_app (goodIn_of _ (by decide +kernel)) ggL_plays_L_calls
theorem dL_plays_0 : decode cL_plays 0 = .ok (.iload_n 1, 1) := by decide +kernel
theorem dL_plays_1 : decode cL_plays 1 = .ok (.ifCond .ne 115, 3) := by decide +kernel
theorem dL_plays_4 : decode cL_plays 4 = .ok (.iconst 1, 1) := by decide +kernel
theorem dL_plays_5 : decode cL_plays 5 = .ok (.iload_n 2, 1) := by decide +kernel
theorem dL_plays_6 : decode cL_plays 6 = .ok (.iload_n 2, 1) := by decide +kernel
theorem dL_plays_7 : decode cL_plays 7 = .ok (.bipush 9, 2) := by decide +kernel
theorem dL_plays_9 : decode cL_plays 9 = .ok (.ishr, 1) := by decide +kernel
theorem dL_plays_10 : decode cL_plays 10 = .ok (.iconst 3, 1) := by decide +kernel
theorem dL_plays_11 : decode cL_plays 11 = .ok (.invokestatic 97, 3) := by decide +kernel
theorem dL_plays_14 : decode cL_plays 14 = .ok (.ifCond .ne 9, 3) := by decide +kernel
theorem dL_plays_17 : decode cL_plays 17 = .ok (.sipush 400, 3) := by decide +kernel
theorem dL_plays_20 : decode cL_plays 20 = .ok (.goto 5, 3) := by decide +kernel
theorem dL_plays_23 : decode cL_plays 23 = .ok (.bipush 40, 2) := by decide +kernel
theorem dL_plays_25 : decode cL_plays 25 = .ok (.invokestatic 97, 3) := by decide +kernel
theorem dL_plays_28 : decode cL_plays 28 = .ok (.iadd, 1) := by decide +kernel
theorem dL_plays_29 : decode cL_plays 29 = .ok (.istore 12, 2) := by decide +kernel
theorem dL_plays_31 : decode cL_plays 31 = .ok (.aload 9, 2) := by decide +kernel
theorem dL_plays_33 : decode cL_plays 33 = .ok (.iconst 1, 1) := by decide +kernel
theorem dL_plays_34 : decode cL_plays 34 = .ok (.iaload, 1) := by decide +kernel
theorem dL_plays_35 : decode cL_plays 35 = .ok (.ifCond .ne 8, 3) := by decide +kernel
theorem dL_plays_38 : decode cL_plays 38 = .ok (.bipush (-7), 2) := by decide +kernel
theorem dL_plays_40 : decode cL_plays 40 = .ok (.goto 4, 3) := by decide +kernel
theorem dL_plays_43 : decode cL_plays 43 = .ok (.iconst 0, 1) := by decide +kernel
theorem dL_plays_44 : decode cL_plays 44 = .ok (.istore 13, 2) := by decide +kernel
theorem dL_plays_46 : decode cL_plays 46 = .ok (.iconst 0, 1) := by decide +kernel
theorem dL_plays_47 : decode cL_plays 47 = .ok (.istore 14, 2) := by decide +kernel
theorem dL_plays_49 : decode cL_plays 49 = .ok (.iload 14, 2) := by decide +kernel
theorem dL_plays_51 : decode cL_plays 51 = .ok (.iload 12, 2) := by decide +kernel
theorem dL_plays_53 : decode cL_plays 53 = .ok (.if_icmp .ge 41, 3) := by decide +kernel
theorem dL_plays_56 : decode cL_plays 56 = .ok (.aload 9, 2) := by decide +kernel
theorem dL_plays_58 : decode cL_plays 58 = .ok (.iconst 1, 1) := by decide +kernel
theorem dL_plays_59 : decode cL_plays 59 = .ok (.iaload, 1) := by decide +kernel
theorem dL_plays_60 : decode cL_plays 60 = .ok (.ifCond .le 34, 3) := by decide +kernel
theorem dL_plays_63 : decode cL_plays 63 = .ok (.iload 13, 2) := by decide +kernel
theorem dL_plays_65 : decode cL_plays 65 = .ok (.aload_n 3, 1) := by decide +kernel
theorem dL_plays_66 : decode cL_plays 66 = .ok (.aload 4, 2) := by decide +kernel
theorem dL_plays_68 : decode cL_plays 68 = .ok (.aload 5, 2) := by decide +kernel
theorem dL_plays_70 : decode cL_plays 70 = .ok (.aload 6, 2) := by decide +kernel
theorem dL_plays_72 : decode cL_plays 72 = .ok (.aload 7, 2) := by decide +kernel
theorem dL_plays_74 : decode cL_plays 74 = .ok (.aload 8, 2) := by decide +kernel
theorem dL_plays_76 : decode cL_plays 76 = .ok (.aload 9, 2) := by decide +kernel
theorem dL_plays_78 : decode cL_plays 78 = .ok (.aload 10, 2) := by decide +kernel
theorem dL_plays_80 : decode cL_plays 80 = .ok (.aload 11, 2) := by decide +kernel
theorem dL_plays_82 : decode cL_plays 82 = .ok (.invokestatic 123, 3) := by decide +kernel
theorem dL_plays_85 : decode cL_plays 85 = .ok (.iadd, 1) := by decide +kernel
theorem dL_plays_86 : decode cL_plays 86 = .ok (.istore 13, 2) := by decide +kernel
theorem dL_plays_88 : decode cL_plays 88 = .ok (.iinc 14 1, 3) := by decide +kernel
theorem dL_plays_91 : decode cL_plays 91 = .ok (.goto (-42), 3) := by decide +kernel
theorem dL_plays_94 : decode cL_plays 94 = .ok (.aload_n 0, 1) := by decide +kernel
theorem dL_plays_95 : decode cL_plays 95 = .ok (.bipush 9, 2) := by decide +kernel
theorem dL_plays_97 : decode cL_plays 97 = .ok (.iload 12, 2) := by decide +kernel
theorem dL_plays_99 : decode cL_plays 99 = .ok (.iconst 0, 1) := by decide +kernel
theorem dL_plays_100 : decode cL_plays 100 = .ok (.iconst 0, 1) := by decide +kernel
theorem dL_plays_101 : decode cL_plays 101 = .ok (.iconst 0, 1) := by decide +kernel
theorem dL_plays_102 : decode cL_plays 102 = .ok (.invokestatic 112, 3) := by decide +kernel
theorem dL_plays_105 : decode cL_plays 105 = .ok (.iload 13, 2) := by decide +kernel
theorem dL_plays_107 : decode cL_plays 107 = .ok (.if_icmp .ne 7, 3) := by decide +kernel
theorem dL_plays_110 : decode cL_plays 110 = .ok (.iconst 1, 1) := by decide +kernel
theorem dL_plays_111 : decode cL_plays 111 = .ok (.goto 4, 3) := by decide +kernel
theorem dL_plays_114 : decode cL_plays 114 = .ok (.iconst 0, 1) := by decide +kernel
theorem dL_plays_115 : decode cL_plays 115 = .ok (.ireturn, 1) := by decide +kernel
theorem dL_plays_116 : decode cL_plays 116 = .ok (.bipush (-7), 2) := by decide +kernel
theorem dL_plays_118 : decode cL_plays 118 = .ok (.istore 12, 2) := by decide +kernel
theorem dL_plays_120 : decode cL_plays 120 = .ok (.aload 9, 2) := by decide +kernel
theorem dL_plays_122 : decode cL_plays 122 = .ok (.iconst 1, 1) := by decide +kernel
theorem dL_plays_123 : decode cL_plays 123 = .ok (.iaload, 1) := by decide +kernel
theorem dL_plays_124 : decode cL_plays 124 = .ok (.ifCond .le 95, 3) := by decide +kernel
theorem dL_plays_127 : decode cL_plays 127 = .ok (.aload 11, 2) := by decide +kernel
theorem dL_plays_129 : decode cL_plays 129 = .ok (.aload 9, 2) := by decide +kernel
theorem dL_plays_131 : decode cL_plays 131 = .ok (.iconst 2, 1) := by decide +kernel
theorem dL_plays_132 : decode cL_plays 132 = .ok (.iaload, 1) := by decide +kernel
theorem dL_plays_133 : decode cL_plays 133 = .ok (.iaload, 1) := by decide +kernel
theorem dL_plays_134 : decode cL_plays 134 = .ok (.bipush 8, 2) := by decide +kernel
theorem dL_plays_136 : decode cL_plays 136 = .ok (.idiv, 1) := by decide +kernel
theorem dL_plays_137 : decode cL_plays 137 = .ok (.istore 13, 2) := by decide +kernel
theorem dL_plays_139 : decode cL_plays 139 = .ok (.aload 9, 2) := by decide +kernel
theorem dL_plays_141 : decode cL_plays 141 = .ok (.iconst 2, 1) := by decide +kernel
theorem dL_plays_142 : decode cL_plays 142 = .ok (.iaload, 1) := by decide +kernel
theorem dL_plays_143 : decode cL_plays 143 = .ok (.aload 9, 2) := by decide +kernel
theorem dL_plays_145 : decode cL_plays 145 = .ok (.iconst 1, 1) := by decide +kernel
theorem dL_plays_146 : decode cL_plays 146 = .ok (.iaload, 1) := by decide +kernel
theorem dL_plays_147 : decode cL_plays 147 = .ok (.if_icmp .ge 29, 3) := by decide +kernel
theorem dL_plays_150 : decode cL_plays 150 = .ok (.aload 11, 2) := by decide +kernel
theorem dL_plays_152 : decode cL_plays 152 = .ok (.aload 9, 2) := by decide +kernel
theorem dL_plays_154 : decode cL_plays 154 = .ok (.iconst 2, 1) := by decide +kernel
theorem dL_plays_155 : decode cL_plays 155 = .ok (.iaload, 1) := by decide +kernel
theorem dL_plays_156 : decode cL_plays 156 = .ok (.iaload, 1) := by decide +kernel
theorem dL_plays_157 : decode cL_plays 157 = .ok (.bipush 8, 2) := by decide +kernel
theorem dL_plays_159 : decode cL_plays 159 = .ok (.idiv, 1) := by decide +kernel
theorem dL_plays_160 : decode cL_plays 160 = .ok (.iload 13, 2) := by decide +kernel
theorem dL_plays_162 : decode cL_plays 162 = .ok (.if_icmp .ne 14, 3) := by decide +kernel
theorem dL_plays_165 : decode cL_plays 165 = .ok (.aload 9, 2) := by decide +kernel
theorem dL_plays_167 : decode cL_plays 167 = .ok (.iconst 2, 1) := by decide +kernel
theorem dL_plays_168 : decode cL_plays 168 = .ok (.dup2, 1) := by decide +kernel
theorem dL_plays_169 : decode cL_plays 169 = .ok (.iaload, 1) := by decide +kernel
theorem dL_plays_170 : decode cL_plays 170 = .ok (.iconst 1, 1) := by decide +kernel
theorem dL_plays_171 : decode cL_plays 171 = .ok (.iadd, 1) := by decide +kernel
theorem dL_plays_172 : decode cL_plays 172 = .ok (.iastore, 1) := by decide +kernel
theorem dL_plays_173 : decode cL_plays 173 = .ok (.goto (-34), 3) := by decide +kernel
theorem dL_plays_176 : decode cL_plays 176 = .ok (.aload 9, 2) := by decide +kernel
theorem dL_plays_178 : decode cL_plays 178 = .ok (.iconst 3, 1) := by decide +kernel
theorem dL_plays_179 : decode cL_plays 179 = .ok (.iconst 0, 1) := by decide +kernel
theorem dL_plays_180 : decode cL_plays 180 = .ok (.iastore, 1) := by decide +kernel
theorem dL_plays_181 : decode cL_plays 181 = .ok (.aload 9, 2) := by decide +kernel
theorem dL_plays_183 : decode cL_plays 183 = .ok (.iconst 2, 1) := by decide +kernel
theorem dL_plays_184 : decode cL_plays 184 = .ok (.iaload, 1) := by decide +kernel
theorem dL_plays_185 : decode cL_plays 185 = .ok (.aload 9, 2) := by decide +kernel
theorem dL_plays_187 : decode cL_plays 187 = .ok (.iconst 1, 1) := by decide +kernel
theorem dL_plays_188 : decode cL_plays 188 = .ok (.iaload, 1) := by decide +kernel
theorem dL_plays_189 : decode cL_plays 189 = .ok (.if_icmp .ne 7, 3) := by decide +kernel
theorem dL_plays_192 : decode cL_plays 192 = .ok (.iconst (-1), 1) := by decide +kernel
theorem dL_plays_193 : decode cL_plays 193 = .ok (.goto 7, 3) := by decide +kernel
theorem dL_plays_196 : decode cL_plays 196 = .ok (.iload 13, 2) := by decide +kernel
theorem dL_plays_198 : decode cL_plays 198 = .ok (.iconst 1, 1) := by decide +kernel
theorem dL_plays_199 : decode cL_plays 199 = .ok (.iadd, 1) := by decide +kernel
theorem dL_plays_200 : decode cL_plays 200 = .ok (.istore 12, 2) := by decide +kernel
theorem dL_plays_202 : decode cL_plays 202 = .ok (.aload 9, 2) := by decide +kernel
theorem dL_plays_204 : decode cL_plays 204 = .ok (.iconst 1, 1) := by decide +kernel
theorem dL_plays_205 : decode cL_plays 205 = .ok (.iload 12, 2) := by decide +kernel
theorem dL_plays_207 : decode cL_plays 207 = .ok (.ifCond .ge 7, 3) := by decide +kernel
theorem dL_plays_210 : decode cL_plays 210 = .ok (.iconst 0, 1) := by decide +kernel
theorem dL_plays_211 : decode cL_plays 211 = .ok (.goto 7, 3) := by decide +kernel
theorem dL_plays_214 : decode cL_plays 214 = .ok (.aload 9, 2) := by decide +kernel
theorem dL_plays_216 : decode cL_plays 216 = .ok (.iconst 1, 1) := by decide +kernel
theorem dL_plays_217 : decode cL_plays 217 = .ok (.iaload, 1) := by decide +kernel
theorem dL_plays_218 : decode cL_plays 218 = .ok (.iastore, 1) := by decide +kernel
theorem dL_plays_219 : decode cL_plays 219 = .ok (.aload_n 0, 1) := by decide +kernel
theorem dL_plays_220 : decode cL_plays 220 = .ok (.bipush 10, 2) := by decide +kernel
theorem dL_plays_222 : decode cL_plays 222 = .ok (.iconst 0, 1) := by decide +kernel
theorem dL_plays_223 : decode cL_plays 223 = .ok (.iconst 0, 1) := by decide +kernel
theorem dL_plays_224 : decode cL_plays 224 = .ok (.iconst 0, 1) := by decide +kernel
theorem dL_plays_225 : decode cL_plays 225 = .ok (.iconst 0, 1) := by decide +kernel
theorem dL_plays_226 : decode cL_plays 226 = .ok (.invokestatic 112, 3) := by decide +kernel
theorem dL_plays_229 : decode cL_plays 229 = .ok (.iload 12, 2) := by decide +kernel
theorem dL_plays_231 : decode cL_plays 231 = .ok (.if_icmp .ne 7, 3) := by decide +kernel
theorem dL_plays_234 : decode cL_plays 234 = .ok (.iconst 1, 1) := by decide +kernel
theorem dL_plays_235 : decode cL_plays 235 = .ok (.goto 4, 3) := by decide +kernel
theorem dL_plays_238 : decode cL_plays 238 = .ok (.iconst 0, 1) := by decide +kernel
theorem dL_plays_239 : decode cL_plays 239 = .ok (.ireturn, 1) := by decide +kernel
set_option maxRecDepth 20000 in
theorem ggL_law_X6_init : GoodIn wsL_law wsX6_init := goodIn_r _ [6, 7, 8, 9, 10, 11, 12, 13, 14, 15, 16, 17, 18, 19, 20, 21, 22, 23, 24, 25, 26, 27, 28, 29, 30, 31, 32, 33, 34, 35, 36, 37, 38, 39, 40, 41, 42, 43, 44, 45, 46, 3, 47, 48, 49, 50, 51, 52, 53, 54, 55, 56, 57, 58, 59, 60, 61, 62, 63, 64, 65, 66, 67, 68, 69, 70, 71, 72, 73, 74, 75, 76, 77, 78, 79, 80, 81, 82, 83, 84, 85, 86, 87, 88, 89, 90, 91, 92, 93, 94, 95, 96, 97, 98, 99, 100, 101, 102, 103, 104, 105, 106, 107, 108, 109, 110, 111, 112, 113, 561, 550, 551, 552, 553, 554, 555, 556, 557, 558, 559, 560, 562, 563, 564, 565, 566, 567, 568, 569, 570, 571, 572, 573, 574, 575, 576, 577, 578, 579, 580, 581, 582, 583, 584, 585, 586, 587, 588, 589, 590, 591, 592, 593, 594] (by decide +kernel) (by decide +kernel)
set_option maxRecDepth 20000 in
theorem gL_law_X6_init : GoodIn wsL_law (wsX6_init) := ggL_law_X6_init
set_option maxRecDepth 20000 in
theorem ggL_law_L_cell : GoodIn wsL_law wsL_cell := goodIn_r _ [117, 118, 119] (by decide +kernel) (by decide +kernel)
set_option maxRecDepth 20000 in
theorem gL_law_L_cell : GoodIn wsL_law (va_wsS RL 127 yL_cell wsL_cell) := goodIn_app (goodIn_of _ (by decide +kernel)) ggL_law_L_cell
set_option maxRecDepth 20000 in
theorem ggL_law_L_low : GoodIn wsL_law wsL_low := goodIn_r _ [122, 123] (by decide +kernel) (by decide +kernel)
set_option maxRecDepth 20000 in
theorem gL_law_L_low : GoodIn wsL_law (va_wsS RL 97 yL_low wsL_low) := goodIn_app (goodIn_of _ (by decide +kernel)) ggL_law_L_low

/-! names of the law -/
set_option maxRecDepth 20000 in
theorem gL_performs_X4_count : GoodIn wsL_performs (wsV RL 13 RX4 yX4_count wsX4_count) := goodIn_app (goodIn_of _ (by decide +kernel)) ggL_performs_X4_count
set_option maxRecDepth 20000 in
theorem ggL_performs_X4_perform : GoodIn wsL_performs wsX4_perform := goodIn_r _ [85, 86, 6, 70, 26, 87, 88, 89, 90, 91, 92, 93, 94, 95, 96, 97, 98, 99, 100, 101, 102, 103, 104, 105, 10, 106, 12, 21, 107, 108, 109, 110, 111, 112, 113, 114, 115, 116, 117, 118, 119, 120, 121, 122, 123, 124, 125, 126, 127, 128, 129, 130, 131, 132, 133, 134, 135, 136, 137, 138, 139, 140, 141, 142, 143, 144, 145, 146, 147, 148, 149, 150, 151, 152, 153, 154, 155, 156, 157, 158, 159, 160, 161, 162, 163, 164, 165, 166, 167, 168, 169, 170, 171, 172, 173, 174, 175, 176, 177, 178, 179, 180, 181, 182, 183, 184, 185, 186, 187, 188, 189, 190, 191, 192, 193, 194, 195, 196, 36, 197, 198, 199, 200, 201, 202, 203, 57, 204, 205, 206, 207, 38, 208, 209, 77, 210, 211, 212, 213, 214, 65, 66, 67, 215, 216, 217, 218, 219, 220, 221, 222, 223, 224, 225, 226, 31, 4, 32, 227, 228, 229, 230, 231, 232, 233, 39, 40, 234, 235, 236, 237, 48, 49, 51, 52, 238, 239, 240, 241, 242, 243, 244, 245, 246, 54, 55, 56, 247, 248, 249, 250, 251, 252, 253, 254, 255, 256, 257, 258, 259, 260, 261, 262, 263, 74, 75, 76, 264, 265, 266, 267, 268, 269, 270, 271, 272, 273, 274, 275, 276, 277, 278, 279, 280, 281, 282, 283, 284, 285, 286, 287, 288, 289, 290, 291, 292, 293, 294, 295, 296, 297, 298, 299, 300, 301, 302, 303, 304, 305, 306, 307, 308, 309, 310, 311, 312, 313, 314, 315, 316, 317, 318, 319, 320, 321, 322, 323, 324, 325, 326, 327, 328, 329, 330, 331, 388, 389, 390, 391, 392, 393, 394, 395, 396, 397, 419, 420, 421, 422, 423, 424, 398, 399, 416, 417, 418, 400, 401, 402, 403, 404, 405, 406, 407, 408, 409, 410, 411, 412, 413, 414, 415] (by decide +kernel) (by decide +kernel)
set_option maxRecDepth 20000 in
theorem gL_performs_X4_perform : GoodIn wsL_performs (wsV RL 77 RX4 yX4_perform wsX4_perform) := goodIn_app (goodIn_of _ (by decide +kernel)) ggL_performs_X4_perform
set_option maxRecDepth 20000 in
theorem ggL_performs_X4_refusal : GoodIn wsL_performs wsX4_refusal := goodIn_r _ [335, 314, 315, 316, 317, 388, 389, 390, 391, 392, 393, 394, 395, 396, 397] (by decide +kernel) (by decide +kernel)
set_option maxRecDepth 20000 in
theorem gL_performs_X4_refusal : GoodIn wsL_performs (wsV RL 80 RX4 yX4_refusal wsX4_refusal) := goodIn_app (goodIn_of _ (by decide +kernel)) ggL_performs_X4_refusal
set_option maxRecDepth 20000 in
theorem ggL_performs_L_digest : GoodIn wsL_performs wsL_digest := goodIn_r _ [339, 340, 341, 342, 58, 59, 60, 4, 61, 26, 62, 63, 45, 64, 65, 66, 67, 68, 69, 70, 71, 6, 72, 73, 74, 75, 36, 76, 77, 78, 79, 80, 81, 41, 42, 43, 44, 46, 47, 48, 49, 50, 51, 52, 53, 54, 55, 56, 57, 39, 40, 343, 344, 345, 346, 347, 348, 349, 251, 252, 350, 22, 23, 24, 25, 27, 28, 29, 30, 31, 32, 33, 34, 35, 37, 38, 351, 352, 353, 354, 355, 356, 357, 358, 359, 260, 261, 262, 263, 360, 288, 289, 290, 207, 208, 209, 268, 269, 270, 271, 361, 265, 266, 267, 231, 232, 233, 272, 273, 274, 275, 276, 277, 278, 279, 280, 281, 282, 283, 284, 285, 286, 199, 214, 362, 363, 364, 365, 366, 367, 368, 369, 370, 388, 389, 390, 391, 392, 393, 394, 395, 396, 397, 400, 401, 402, 403, 404, 405, 406, 407, 408, 409, 410, 411, 412, 413, 414, 415, 416, 417, 418, 398, 399] (by decide +kernel) (by decide +kernel)
set_option maxRecDepth 20000 in
theorem gL_performs_L_digest : GoodIn wsL_performs (va_wsS RL 83 yL_digest wsL_digest) := goodIn_app (goodIn_of _ (by decide +kernel)) ggL_performs_L_digest
set_option maxRecDepth 20000 in
theorem ggL_performs_X4_undo : GoodIn wsL_performs wsX4_undo := goodIn_r _ [374, 70, 26, 375, 376, 377, 190, 378, 330, 193, 192, 194, 195, 196, 36, 197, 198, 199, 200, 201, 202, 203, 57, 204, 205, 206, 207, 38, 208, 209, 77, 210, 211, 212, 213, 214, 65, 66, 67, 215, 216, 217, 218, 388, 389, 390, 391, 392, 393, 394, 395, 396, 397, 416, 417, 418, 400, 401, 402, 403, 404, 405, 406, 407, 408, 409, 410, 411, 412, 413, 414, 415] (by decide +kernel) (by decide +kernel)
set_option maxRecDepth 20000 in
theorem gL_performs_X4_undo : GoodIn wsL_performs (wsV RL 87 RX4 yX4_undo wsX4_undo) := goodIn_app (goodIn_of _ (by decide +kernel)) ggL_performs_X4_undo
set_option maxRecDepth 20000 in
theorem ggL_performs_X4_promise : GoodIn wsL_performs wsX4_promise := goodIn_r _ [382, 70, 26, 187, 188, 189, 190, 191, 192, 193, 194, 195, 196, 36, 197, 198, 199, 200, 201, 202, 203, 57, 204, 205, 206, 207, 38, 208, 209, 77, 210, 211, 212, 213, 214, 65, 66, 67, 215, 216, 217, 218, 383, 235, 236, 237, 31, 4, 32, 48, 49, 51, 52, 238, 239, 240, 241, 231, 232, 233, 242, 243, 244, 245, 39, 40, 246, 54, 55, 56, 384, 385, 386, 387, 326, 327, 328, 329, 330, 331, 388, 389, 390, 391, 392, 393, 394, 395, 396, 397, 416, 417, 418, 400, 401, 402, 403, 404, 405, 406, 407, 408, 409, 410, 411, 412, 413, 414, 415] (by decide +kernel) (by decide +kernel)
set_option maxRecDepth 20000 in
theorem gL_performs_X4_promise : GoodIn wsL_performs (wsV RL 46 RX4 yX4_promise wsX4_promise) := goodIn_app (goodIn_of _ (by decide +kernel)) ggL_performs_X4_promise
theorem dL_performs_0 : decode cL_performs 0 = .ok (.aload_n 0, 1) := by decide +kernel
theorem dL_performs_1 : decode cL_performs 1 = .ok (.invokevirtual 69, 3) := by decide +kernel
theorem dL_performs_4 : decode cL_performs 4 = .ok (.pop, 1) := by decide +kernel
theorem dL_performs_5 : decode cL_performs 5 = .ok (.aload_n 0, 1) := by decide +kernel
theorem dL_performs_6 : decode cL_performs 6 = .ok (.bipush 121, 2) := by decide +kernel
theorem dL_performs_8 : decode cL_performs 8 = .ok (.invokevirtual 73, 3) := by decide +kernel
theorem dL_performs_11 : decode cL_performs 11 = .ok (.pop, 1) := by decide +kernel
theorem dL_performs_12 : decode cL_performs 12 = .ok (.aload_n 0, 1) := by decide +kernel
theorem dL_performs_13 : decode cL_performs 13 = .ok (.bipush 48, 2) := by decide +kernel
theorem dL_performs_15 : decode cL_performs 15 = .ok (.iload_n 1, 1) := by decide +kernel
theorem dL_performs_16 : decode cL_performs 16 = .ok (.iadd, 1) := by decide +kernel
theorem dL_performs_17 : decode cL_performs 17 = .ok (.i2c, 1) := by decide +kernel
theorem dL_performs_18 : decode cL_performs 18 = .ok (.invokevirtual 73, 3) := by decide +kernel
theorem dL_performs_21 : decode cL_performs 21 = .ok (.pop, 1) := by decide +kernel
theorem dL_performs_22 : decode cL_performs 22 = .ok (.aload_n 0, 1) := by decide +kernel
theorem dL_performs_23 : decode cL_performs 23 = .ok (.bipush 44, 2) := by decide +kernel
theorem dL_performs_25 : decode cL_performs 25 = .ok (.invokevirtual 73, 3) := by decide +kernel
theorem dL_performs_28 : decode cL_performs 28 = .ok (.pop, 1) := by decide +kernel
theorem dL_performs_29 : decode cL_performs 29 = .ok (.aload_n 0, 1) := by decide +kernel
theorem dL_performs_30 : decode cL_performs 30 = .ok (.bipush 48, 2) := by decide +kernel
theorem dL_performs_32 : decode cL_performs 32 = .ok (.iload_n 2, 1) := by decide +kernel
theorem dL_performs_33 : decode cL_performs 33 = .ok (.iadd, 1) := by decide +kernel
theorem dL_performs_34 : decode cL_performs 34 = .ok (.i2c, 1) := by decide +kernel
theorem dL_performs_35 : decode cL_performs 35 = .ok (.invokevirtual 73, 3) := by decide +kernel
theorem dL_performs_38 : decode cL_performs 38 = .ok (.pop, 1) := by decide +kernel
theorem dL_performs_39 : decode cL_performs 39 = .ok (.aload_n 0, 1) := by decide +kernel
theorem dL_performs_40 : decode cL_performs 40 = .ok (.iload_n 1, 1) := by decide +kernel
theorem dL_performs_41 : decode cL_performs 41 = .ok (.iconst 0, 1) := by decide +kernel
theorem dL_performs_42 : decode cL_performs 42 = .ok (.invokevirtual 29, 3) := by decide +kernel
theorem dL_performs_45 : decode cL_performs 45 = .ok (.istore_n 3, 1) := by decide +kernel
theorem dL_performs_46 : decode cL_performs 46 = .ok (.iload_n 3, 1) := by decide +kernel
theorem dL_performs_47 : decode cL_performs 47 = .ok (.ifCond .le 17, 3) := by decide +kernel
theorem dL_performs_50 : decode cL_performs 50 = .ok (.aload_n 0, 1) := by decide +kernel
theorem dL_performs_51 : decode cL_performs 51 = .ok (.iload_n 2, 1) := by decide +kernel
theorem dL_performs_52 : decode cL_performs 52 = .ok (.iconst 0, 1) := by decide +kernel
theorem dL_performs_53 : decode cL_performs 53 = .ok (.invokevirtual 19, 3) := by decide +kernel
theorem dL_performs_56 : decode cL_performs 56 = .ok (.iconst 1, 1) := by decide +kernel
theorem dL_performs_57 : decode cL_performs 57 = .ok (.if_icmp .ne 7, 3) := by decide +kernel
theorem dL_performs_60 : decode cL_performs 60 = .ok (.iconst 1, 1) := by decide +kernel
theorem dL_performs_61 : decode cL_performs 61 = .ok (.goto 4, 3) := by decide +kernel
theorem dL_performs_64 : decode cL_performs 64 = .ok (.iconst 0, 1) := by decide +kernel
theorem dL_performs_65 : decode cL_performs 65 = .ok (.istore 4, 2) := by decide +kernel
theorem dL_performs_67 : decode cL_performs 67 = .ok (.aload_n 0, 1) := by decide +kernel
theorem dL_performs_68 : decode cL_performs 68 = .ok (.bipush 9, 2) := by decide +kernel
theorem dL_performs_70 : decode cL_performs 70 = .ok (.invokevirtual 13, 3) := by decide +kernel
theorem dL_performs_73 : decode cL_performs 73 = .ok (.istore 5, 2) := by decide +kernel
theorem dL_performs_75 : decode cL_performs 75 = .ok (.aload_n 0, 1) := by decide +kernel
theorem dL_performs_76 : decode cL_performs 76 = .ok (.invokevirtual 77, 3) := by decide +kernel
theorem dL_performs_79 : decode cL_performs 79 = .ok (.istore 6, 2) := by decide +kernel
theorem dL_performs_81 : decode cL_performs 81 = .ok (.iload 4, 2) := by decide +kernel
theorem dL_performs_83 : decode cL_performs 83 = .ok (.ifCond .ne 53, 3) := by decide +kernel
theorem dL_performs_86 : decode cL_performs 86 = .ok (.iload 6, 2) := by decide +kernel
theorem dL_performs_88 : decode cL_performs 88 = .ok (.bipush (-4), 2) := by decide +kernel
theorem dL_performs_90 : decode cL_performs 90 = .ok (.if_icmp .ne 44, 3) := by decide +kernel
theorem dL_performs_93 : decode cL_performs 93 = .ok (.aload_n 0, 1) := by decide +kernel
theorem dL_performs_94 : decode cL_performs 94 = .ok (.iconst 0, 1) := by decide +kernel
theorem dL_performs_95 : decode cL_performs 95 = .ok (.invokevirtual 80, 3) := by decide +kernel
theorem dL_performs_98 : decode cL_performs 98 = .ok (.ifCond .ne 36, 3) := by decide +kernel
theorem dL_performs_101 : decode cL_performs 101 = .ok (.aload_n 0, 1) := by decide +kernel
theorem dL_performs_102 : decode cL_performs 102 = .ok (.iconst 1, 1) := by decide +kernel
theorem dL_performs_103 : decode cL_performs 103 = .ok (.invokevirtual 80, 3) := by decide +kernel
theorem dL_performs_106 : decode cL_performs 106 = .ok (.bipush (-4), 2) := by decide +kernel
theorem dL_performs_108 : decode cL_performs 108 = .ok (.if_icmp .ne 26, 3) := by decide +kernel
theorem dL_performs_111 : decode cL_performs 111 = .ok (.aload_n 0, 1) := by decide +kernel

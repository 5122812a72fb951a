set_option maxRecDepth 20000 in
theorem ggL_law_L_two_6 : GoodIn wsL_law wsL_two_r6 := goodIn_r _ [215, 216, 217, 218, 219, 220, 221, 222, 223, 224, 225, 226, 227, 228, 229, 230, 231, 232, 233, 234, 235, 236, 237, 238] (by decide +kernel) (by decide +kernel)
set_option maxRecDepth 20000 in
theorem ggL_law_L_two_7 : GoodIn wsL_law wsL_two_r7 := goodIn_r _ [239, 240, 241, 242, 243, 244, 245, 246, 247, 248, 249, 250, 251, 252, 253, 254, 255, 256, 257, 258, 259, 260, 261, 262] (by decide +kernel) (by decide +kernel)
set_option maxRecDepth 20000 in
theorem ggL_law_L_two_8 : GoodIn wsL_law wsL_two_r8 := goodIn_r _ [263, 264, 265, 266, 267, 268, 269, 270, 271, 272, 273, 274, 275, 276, 277, 278, 279, 280, 281, 282, 283, 284, 285, 286] (by decide +kernel) (by decide +kernel)
set_option maxRecDepth 20000 in
theorem ggL_law_L_two_9 : GoodIn wsL_law wsL_two_r9 := goodIn_r _ [287, 288, 289, 290, 291, 292, 293, 294, 295, 296, 297, 298, 299, 300, 301, 302, 303, 304, 305, 306, 307, 308, 309, 310] (by decide +kernel) (by decide +kernel)
set_option maxRecDepth 20000 in
theorem ggL_law_L_two_10 : GoodIn wsL_law wsL_two_r10 := goodIn_r _ [311, 312, 313, 314, 315, 316, 317, 318, 319, 320, 321, 322, 323, 324, 325, 326, 327, 328, 329, 330, 331, 332, 81, 82] (by decide +kernel) (by decide +kernel)
set_option maxRecDepth 20000 in
theorem ggL_law_L_two_11 : GoodIn wsL_law wsL_two_r11 := goodIn_r _ [83, 333, 334, 335, 336, 170, 171, 172, 173, 98, 337, 338, 339, 340, 341, 342, 343, 344, 345, 346, 347, 348, 349, 103] (by decide +kernel) (by decide +kernel)
set_option maxRecDepth 20000 in
theorem ggL_law_L_two_12 : GoodIn wsL_law wsL_two_r12 := goodIn_r _ [104, 105, 106, 350, 351, 352, 353, 354, 147, 148, 149, 355, 356, 357, 358, 80, 359, 360, 361, 362, 363, 89, 90, 91] (by decide +kernel) (by decide +kernel)
set_option maxRecDepth 20000 in
theorem ggL_law_L_two_13 : GoodIn wsL_law wsL_two_r13 := goodIn_r _ [92, 93, 146, 364, 365, 366, 367, 111, 112, 113, 114, 115, 116, 117, 118, 99, 100, 101, 102, 368, 369, 370, 371, 372] (by decide +kernel) (by decide +kernel)
set_option maxRecDepth 20000 in
theorem ggL_law_L_two_14 : GoodIn wsL_law wsL_two_r14 := goodIn_r _ [373, 374, 375, 376, 377, 378, 379, 380, 381, 382, 383, 384, 385, 386, 387, 388, 389, 390, 391, 392, 393, 394, 395, 396] (by decide +kernel) (by decide +kernel)
set_option maxRecDepth 20000 in
theorem ggL_law_L_two_15 : GoodIn wsL_law wsL_two_r15 := goodIn_r _ [397, 398, 399, 167, 168, 169, 400, 401, 402, 403, 133, 404, 405, 406, 407, 408, 409, 410, 411, 412, 413, 414, 415, 416] (by decide +kernel) (by decide +kernel)
set_option maxRecDepth 20000 in
theorem ggL_law_L_two_16 : GoodIn wsL_law wsL_two_r16 := goodIn_r _ [417, 418, 419, 420, 421, 422, 423, 424, 425, 426, 427, 428, 429, 430, 431, 432, 433, 434, 435, 436, 437, 438, 439, 440] (by decide +kernel) (by decide +kernel)
set_option maxRecDepth 20000 in
theorem ggL_law_L_two_17 : GoodIn wsL_law wsL_two_r17 := goodIn_r _ [441, 442, 443, 444, 445, 446, 447, 448, 449, 128, 450, 451, 452, 453, 454, 455, 456, 457, 458, 459, 460, 461, 462, 178] (by decide +kernel) (by decide +kernel)
set_option maxRecDepth 20000 in
theorem ggL_law_L_two_18 : GoodIn wsL_law wsL_two_r18 := goodIn_r _ [463, 464, 465, 466, 467, 468, 469, 470, 471, 472, 473, 474, 475, 476, 477, 478, 479, 480, 481, 482, 483, 484, 485, 486] (by decide +kernel) (by decide +kernel)
set_option maxRecDepth 20000 in
theorem ggL_law_L_two_19 : GoodIn wsL_law wsL_two_r19 := goodIn_r _ [487, 488, 489, 490, 491, 492, 493, 494, 495, 496, 497, 498, 499, 500, 501, 502, 503, 504, 505, 506, 507, 508, 509, 510] (by decide +kernel) (by decide +kernel)
set_option maxRecDepth 20000 in
theorem ggL_law_L_two_20 : GoodIn wsL_law wsL_two_r20 := goodIn_r _ [511, 512, 513, 514, 515, 516, 517, 518, 519, 520, 521, 522, 523, 524, 525, 526, 527, 528, 529, 530, 531, 532, 533, 144] (by decide +kernel) (by decide +kernel)
set_option maxRecDepth 20000 in
theorem ggL_law_L_two_21 : GoodIn wsL_law wsL_two_r21 := goodIn_r _ [534, 535, 536, 537, 538, 539, 540, 541, 542, 543, 544, 545, 546, 547, 548, 549, 550, 551, 145, 552, 553, 554, 555, 556] (by decide +kernel) (by decide +kernel)
set_option maxRecDepth 20000 in
theorem ggL_law_L_two_22 : GoodIn wsL_law wsL_two_r22 := goodIn_r _ [557, 558, 559, 560, 561, 562, 563, 564, 565, 566, 567, 568, 569, 570, 571, 572, 573, 574, 575, 576, 577, 578, 579, 580] (by decide +kernel) (by decide +kernel)
set_option maxRecDepth 20000 in
theorem ggL_law_L_two_23 : GoodIn wsL_law wsL_two_r23 := goodIn_r _ [581, 582, 583, 584, 585, 586, 587, 588, 589, 590, 591, 592, 593, 594, 595, 596, 134, 135, 136, 137, 150, 151, 152, 153] (by decide +kernel) (by decide +kernel)
set_option maxRecDepth 20000 in
theorem ggL_law_L_two_24 : GoodIn wsL_law wsL_two_r24 := goodIn_r _ [154, 155, 156, 157, 158, 159, 160, 161, 162, 163, 164, 165, 166, 174, 175, 176, 177] (by decide +kernel) (by decide +kernel)
set_option maxRecDepth 20000 in
theorem ggL_law_L_two_xwsX70 : GoodIn wsL_law wsX70 := goodIn_r _ [660, 661, 662, 663, 664, 665, 666, 667] (by decide +kernel) (by decide +kernel)
set_option maxRecDepth 20000 in
theorem ggL_law_L_two_xwsX60 : GoodIn wsL_law wsX60 := goodIn_r _ [668, 669, 670, 671, 672, 673] (by decide +kernel) (by decide +kernel)
set_option maxRecDepth 20000 in
theorem ggL_law_L_two_xwsX00 : GoodIn wsL_law wsX00 := goodIn_r _ [674, 675] (by decide +kernel) (by decide +kernel)
set_option maxRecDepth 20000 in
theorem ggL_law_L_two_xwsX40 : GoodIn wsL_law wsX40 := goodIn_r _ [676, 677, 678, 679] (by decide +kernel) (by decide +kernel)
set_option maxRecDepth 20000 in
theorem ggL_law_L_two_xwsX30 : GoodIn wsL_law wsX30 := goodIn_r _ [680, 681, 682, 683, 684, 685] (by decide +kernel) (by decide +kernel)
set_option maxRecDepth 20000 in
theorem ggL_law_L_two_xwsX10 : GoodIn wsL_law wsX10 := goodIn_r _ [686] (by decide +kernel) (by decide +kernel)
set_option maxRecDepth 20000 in
theorem ggL_law_L_two_xwsX50 : GoodIn wsL_law wsX50 := goodIn_r _ [687, 688, 689, 690, 691, 692, 693, 694, 695, 696] (by decide +kernel) (by decide +kernel)
set_option maxRecDepth 20000 in
theorem ggL_law_L_two_xwsX20 : GoodIn wsL_law wsX20 := goodIn_r _ [697, 698, 699, 700] (by decide +kernel) (by decide +kernel)
set_option maxRecDepth 20000 in
theorem ggL_law_L_two : GoodIn wsL_law wsL_two := goodIn_ca (goodIn_ca (goodIn_ca (goodIn_ca (goodIn_ca (goodIn_app (a := [_]) ggL_law_L_two_c (goodIn_app (goodIn_app (goodIn_app (goodIn_app (goodIn_app (goodIn_app (goodIn_app (goodIn_app (goodIn_app ggL_law_L_two_1 (goodIn_app ggL_law_L_two_2 (goodIn_app ggL_law_L_two_3 (goodIn_app ggL_law_L_two_4 (goodIn_app ggL_law_L_two_5 (goodIn_app ggL_law_L_two_6 (goodIn_app ggL_law_L_two_7 (goodIn_app ggL_law_L_two_8 (goodIn_app ggL_law_L_two_9 (goodIn_app ggL_law_L_two_10 (goodIn_app ggL_law_L_two_11 (goodIn_app ggL_law_L_two_12 (goodIn_app ggL_law_L_two_13 (goodIn_app ggL_law_L_two_14 (goodIn_app ggL_law_L_two_15 (goodIn_app ggL_law_L_two_16 (goodIn_app ggL_law_L_two_17 (goodIn_app ggL_law_L_two_18 (goodIn_app ggL_law_L_two_19 (goodIn_app ggL_law_L_two_20 (goodIn_app ggL_law_L_two_21 (goodIn_app ggL_law_L_two_22 (goodIn_app ggL_law_L_two_23 (ggL_law_L_two_24)))))))))))))))))))))))) ggL_law_L_two_xwsX70) ggL_law_L_two_xwsX60) ggL_law_L_two_xwsX00) ggL_law_L_two_xwsX40) ggL_law_L_two_xwsX30) ggL_law_L_two_xwsX10) ggL_law_L_two_xwsX50) ggL_law_L_two_xwsX20)) (goodIn_sub (fun _ h => List.mem_append_left _ (List.mem_append_left _ (List.mem_append_left _ (List.mem_append_left _ (List.mem_append_right _ h))))) (by decide +kernel))) (goodIn_sub (fun _ h => List.mem_append_left _ (List.mem_append_left _ (List.mem_append_right _ h))) (by decide +kernel))) (goodIn_sub (fun _ h => List.mem_append_left _ (List.mem_append_right _ h)) (by decide +kernel))) (goodIn_sub (fun _ h => List.mem_append_left _ (List.mem_append_left _ (List.mem_append_left _ (List.mem_append_right _ h)))) (by decide +kernel))) (goodIn_sub (fun _ h => List.mem_append_right _ h) (by decide +kernel))
set_option maxRecDepth 20000 in
theorem gL_law_L_two : GoodIn wsL_law (va_wsS RL 180 yL_two wsL_two) := goodIn_app (goodIn_of _ (by decide +kernel)) ggL_law_L_two
set_option maxRecDepth 20000 in
theorem ggL_law_L_four_c : GoodIn wsL_law (.code yL_four cL_four 8 (some .boolean) :: []) := by
  intro w hw
  rw [List.mem_singleton.mp hw]
  refine ⟨inlr28 _ (by first | exact List.mem_of_getElem? (i := 8) rfl | simp [wsL_law0_r28]), ?_⟩
  first | exact Or.inl rfl | exact good_of_word (by decide +kernel)
set_option maxRecDepth 20000 in
theorem ggL_law_L_four_1 : GoodIn wsL_law wsL_four_r1 := goodIn_r _ [0, 1, 2, 4, 10, 11, 12, 13, 14, 15, 16, 17, 18, 19, 20, 21, 22, 23, 24, 25, 26, 27, 28, 29] (by decide +kernel) (by decide +kernel)
set_option maxRecDepth 20000 in
theorem ggL_law_L_four_2 : GoodIn wsL_law wsL_four_r2 := goodIn_r _ [30, 31, 32, 33, 34, 35, 36, 37, 38, 39, 40, 41, 42, 43, 44, 45, 46, 47, 48, 49, 50, 51, 52, 53] (by decide +kernel) (by decide +kernel)
set_option maxRecDepth 20000 in
theorem ggL_law_L_four_3 : GoodIn wsL_law wsL_four_r3 := goodIn_r _ [54, 55, 56, 57, 58, 59, 60, 61, 62, 63, 64, 65, 66, 67, 68, 69, 70, 604, 605, 73, 606, 607, 608, 609] (by decide +kernel) (by decide +kernel)
set_option maxRecDepth 20000 in
theorem ggL_law_L_four_4 : GoodIn wsL_law wsL_four_r4 := goodIn_r _ [179, 180, 181, 182, 183, 184, 185, 75, 5, 6, 7, 9, 8, 186, 187, 188, 189, 190, 86, 87, 88, 84, 85, 191] (by decide +kernel) (by decide +kernel)
set_option maxRecDepth 20000 in
theorem ggL_law_L_four_5 : GoodIn wsL_law wsL_four_r5 := goodIn_r _ [192, 193, 194, 123, 195, 196, 197, 198, 199, 200, 201, 202, 203, 204, 205, 206, 207, 208, 209, 210, 211, 212, 213, 214] (by decide +kernel) (by decide +kernel)
set_option maxRecDepth 20000 in
theorem ggL_law_L_four_6 : GoodIn wsL_law wsL_four_r6 := goodIn_r _ [215, 216, 217, 218, 219, 220, 221, 222, 223, 224, 225, 226, 227, 228, 229, 230, 231, 232, 233, 234, 235, 236, 237, 238] (by decide +kernel) (by decide +kernel)
set_option maxRecDepth 20000 in
theorem ggL_law_L_four_7 : GoodIn wsL_law wsL_four_r7 := goodIn_r _ [239, 240, 241, 242, 243, 244, 245, 246, 247, 248, 249, 250, 251, 252, 253, 254, 255, 256, 257, 258, 259, 260, 261, 262] (by decide +kernel) (by decide +kernel)
set_option maxRecDepth 20000 in
theorem ggL_law_L_four_8 : GoodIn wsL_law wsL_four_r8 := goodIn_r _ [263, 264, 265, 266, 267, 268, 269, 270, 271, 272, 273, 274, 275, 276, 277, 278, 279, 280, 281, 282, 283, 284, 285, 286] (by decide +kernel) (by decide +kernel)
set_option maxRecDepth 20000 in
theorem ggL_law_L_four_9 : GoodIn wsL_law wsL_four_r9 := goodIn_r _ [287, 288, 289, 290, 291, 292, 293, 294, 295, 296, 297, 298, 299, 300, 301, 302, 303, 304, 305, 306, 307, 308, 309, 310] (by decide +kernel) (by decide +kernel)
set_option maxRecDepth 20000 in
theorem ggL_law_L_four_10 : GoodIn wsL_law wsL_four_r10 := goodIn_r _ [311, 312, 313, 314, 315, 316, 317, 318, 319, 320, 321, 322, 323, 324, 325, 326, 327, 328, 329, 330, 331, 332, 81, 82] (by decide +kernel) (by decide +kernel)
set_option maxRecDepth 20000 in
theorem ggL_law_L_four_11 : GoodIn wsL_law wsL_four_r11 := goodIn_r _ [83, 333, 334, 335, 336, 170, 171, 172, 173, 98, 337, 338, 339, 340, 341, 342, 343, 344, 345, 346, 347, 348, 349, 103] (by decide +kernel) (by decide +kernel)
set_option maxRecDepth 20000 in
theorem ggL_law_L_four_12 : GoodIn wsL_law wsL_four_r12 := goodIn_r _ [104, 105, 106, 350, 351, 352, 353, 354, 147, 148, 149, 355, 356, 357, 358, 80, 359, 360, 361, 362, 363, 89, 90, 91] (by decide +kernel) (by decide +kernel)
set_option maxRecDepth 20000 in
theorem ggL_law_L_four_13 : GoodIn wsL_law wsL_four_r13 := goodIn_r _ [92, 93, 146, 364, 365, 366, 367, 111, 112, 113, 114, 115, 116, 117, 118, 99, 100, 101, 102, 368, 369, 370, 371, 372] (by decide +kernel) (by decide +kernel)
set_option maxRecDepth 20000 in
theorem ggL_law_L_four_14 : GoodIn wsL_law wsL_four_r14 := goodIn_r _ [373, 374, 375, 376, 377, 378, 379, 380, 381, 382, 383, 384, 385, 386, 387, 388, 389, 390, 391, 392, 393, 394, 395, 396] (by decide +kernel) (by decide +kernel)
set_option maxRecDepth 20000 in
theorem ggL_law_L_four_15 : GoodIn wsL_law wsL_four_r15 := goodIn_r _ [397, 398, 399, 167, 168, 169, 400, 401, 402, 403, 133, 404, 405, 406, 407, 408, 409, 410, 411, 412, 413, 414, 415, 416] (by decide +kernel) (by decide +kernel)
set_option maxRecDepth 20000 in
theorem ggL_law_L_four_16 : GoodIn wsL_law wsL_four_r16 := goodIn_r _ [417, 418, 419, 420, 421, 422, 423, 424, 425, 426, 427, 428, 429, 430, 431, 432, 433, 434, 435, 436, 437, 438, 439, 440] (by decide +kernel) (by decide +kernel)
set_option maxRecDepth 20000 in
theorem ggL_law_L_four_17 : GoodIn wsL_law wsL_four_r17 := goodIn_r _ [441, 442, 443, 444, 445, 446, 447, 448, 449, 128, 450, 451, 452, 453, 454, 455, 456, 457, 458, 459, 460, 461, 462, 178] (by decide +kernel) (by decide +kernel)
set_option maxRecDepth 20000 in
theorem ggL_law_L_four_18 : GoodIn wsL_law wsL_four_r18 := goodIn_r _ [463, 464, 465, 466, 467, 468, 469, 470, 471, 472, 473, 474, 475, 476, 477, 478, 479, 480, 481, 482, 483, 484, 485, 486] (by decide +kernel) (by decide +kernel)
set_option maxRecDepth 20000 in
theorem ggL_law_L_four_19 : GoodIn wsL_law wsL_four_r19 := goodIn_r _ [487, 488, 489, 490, 491, 492, 493, 494, 495, 496, 497, 498, 499, 500, 501, 502, 503, 504, 505, 506, 507, 508, 509, 510] (by decide +kernel) (by decide +kernel)
set_option maxRecDepth 20000 in
theorem ggL_law_L_four_20 : GoodIn wsL_law wsL_four_r20 := goodIn_r _ [511, 512, 513, 514, 515, 516, 517, 518, 519, 520, 521, 522, 523, 524, 525, 526, 527, 528, 529, 530, 531, 532, 533, 144] (by decide +kernel) (by decide +kernel)
set_option maxRecDepth 20000 in
theorem ggL_law_L_four_21 : GoodIn wsL_law wsL_four_r21 := goodIn_r _ [534, 535, 536, 537, 538, 539, 540, 541, 542, 543, 544, 545, 546, 547, 548, 549, 550, 551, 145, 552, 553, 554, 555, 556] (by decide +kernel) (by decide +kernel)
set_option maxRecDepth 20000 in
theorem ggL_law_L_four_22 : GoodIn wsL_law wsL_four_r22 := goodIn_r _ [557, 558, 559, 560, 561, 562, 563, 564, 565, 566, 567, 568, 569, 570, 571, 572, 573, 574, 575, 576, 577, 578, 579, 580] (by decide +kernel) (by decide +kernel)
set_option maxRecDepth 20000 in
theorem ggL_law_L_four_23 : GoodIn wsL_law wsL_four_r23 := goodIn_r _ [581, 582, 583, 584, 585, 586, 587, 588, 589, 590, 591, 592, 593, 594, 595, 596, 150, 151, 152, 153, 154, 155, 156, 157] (by decide +kernel) (by decide +kernel)
set_option maxRecDepth 20000 in
theorem ggL_law_L_four_24 : GoodIn wsL_law wsL_four_r24 := goodIn_r _ [158, 159, 160, 161, 162, 163, 164, 165, 166, 174, 175, 176, 177] (by decide +kernel) (by decide +kernel)
set_option maxRecDepth 20000 in
theorem ggL_law_L_four_xwsX70 : GoodIn wsL_law wsX70 := goodIn_r _ [660, 661, 662, 663, 664, 665, 666, 667] (by decide +kernel) (by decide +kernel)
set_option maxRecDepth 20000 in
theorem ggL_law_L_four_xwsX60 : GoodIn wsL_law wsX60 := goodIn_r _ [668, 669, 670, 671, 672, 673] (by decide +kernel) (by decide +kernel)
set_option maxRecDepth 20000 in
theorem ggL_law_L_four_xwsX00 : GoodIn wsL_law wsX00 := goodIn_r _ [674, 675] (by decide +kernel) (by decide +kernel)
set_option maxRecDepth 20000 in
theorem ggL_law_L_four_xwsX40 : GoodIn wsL_law wsX40 := goodIn_r _ [676, 677, 678, 679] (by decide +kernel) (by decide +kernel)
set_option maxRecDepth 20000 in
theorem ggL_law_L_four_xwsX30 : GoodIn wsL_law wsX30 := goodIn_r _ [680, 681, 682, 683, 684, 685] (by decide +kernel) (by decide +kernel)
set_option maxRecDepth 20000 in
theorem ggL_law_L_four_xwsX10 : GoodIn wsL_law wsX10 := goodIn_r _ [686] (by decide +kernel) (by decide +kernel)
set_option maxRecDepth 20000 in
theorem ggL_law_L_four_xwsX50 : GoodIn wsL_law wsX50 := goodIn_r _ [687, 688, 689, 690, 691, 692, 693, 694, 695, 696] (by decide +kernel) (by decide +kernel)
set_option maxRecDepth 20000 in
theorem ggL_law_L_four_xwsX20 : GoodIn wsL_law wsX20 := goodIn_r _ [697, 698, 699, 700] (by decide +kernel) (by decide +kernel)
set_option maxRecDepth 20000 in
theorem ggL_law_L_four : GoodIn wsL_law wsL_four := goodIn_ca (goodIn_ca (goodIn_ca (goodIn_ca (goodIn_ca (goodIn_app (a := [_]) ggL_law_L_four_c (goodIn_app (goodIn_app (goodIn_app (goodIn_app (goodIn_app (goodIn_app (goodIn_app (goodIn_app (goodIn_app ggL_law_L_four_1 (goodIn_app ggL_law_L_four_2 (goodIn_app ggL_law_L_four_3 (goodIn_app ggL_law_L_four_4 (goodIn_app ggL_law_L_four_5 (goodIn_app ggL_law_L_four_6 (goodIn_app ggL_law_L_four_7 (goodIn_app ggL_law_L_four_8 (goodIn_app ggL_law_L_four_9 (goodIn_app ggL_law_L_four_10 (goodIn_app ggL_law_L_four_11 (goodIn_app ggL_law_L_four_12 (goodIn_app ggL_law_L_four_13 (goodIn_app ggL_law_L_four_14 (goodIn_app ggL_law_L_four_15 (goodIn_app ggL_law_L_four_16 (goodIn_app ggL_law_L_four_17 (goodIn_app ggL_law_L_four_18 (goodIn_app ggL_law_L_four_19 (goodIn_app ggL_law_L_four_20 (goodIn_app ggL_law_L_four_21 (goodIn_app ggL_law_L_four_22 (goodIn_app ggL_law_L_four_23 (ggL_law_L_four_24)))))))))))))))))))))))) ggL_law_L_four_xwsX70) ggL_law_L_four_xwsX60) ggL_law_L_four_xwsX00) ggL_law_L_four_xwsX40) ggL_law_L_four_xwsX30) ggL_law_L_four_xwsX10) ggL_law_L_four_xwsX50) ggL_law_L_four_xwsX20)) (goodIn_sub (fun _ h => List.mem_append_left _ (List.mem_append_left _ (List.mem_append_left _ (List.mem_append_left _ (List.mem_append_right _ h))))) (by decide +kernel))) (goodIn_sub (fun _ h => List.mem_append_left _ (List.mem_append_left _ (List.mem_append_right _ h))) (by decide +kernel))) (goodIn_sub (fun _ h => List.mem_append_left _ (List.mem_append_right _ h)) (by decide +kernel))) (goodIn_sub (fun _ h => List.mem_append_left _ (List.mem_append_left _ (List.mem_append_left _ (List.mem_append_right _ h)))) (by decide +kernel))) (goodIn_sub (fun _ h => List.mem_append_right _ h) (by decide +kernel))
set_option maxRecDepth 20000 in
theorem gL_law_L_four : GoodIn wsL_law (va_wsS RL 183 yL_four wsL_four) := goodIn_app (goodIn_of _ (by decide +kernel)) ggL_law_L_four
set_option maxRecDepth 20000 in
theorem ggL_law_L_full_c : GoodIn wsL_law (.code yL_full cL_full 2 (some .boolean) :: []) := by
  intro w hw
  rw [List.mem_singleton.mp hw]
  refine ⟨inlr28 _ (by first | exact List.mem_of_getElem? (i := 11) rfl | simp [wsL_law0_r28]), ?_⟩
  first | exact Or.inl rfl | exact good_of_word (by decide +kernel)
set_option maxRecDepth 20000 in
theorem ggL_law_L_full_1 : GoodIn wsL_law wsL_full_r1 := goodIn_r _ [0, 1, 2, 4, 7, 8, 10, 11, 12, 13, 14, 15, 16, 17, 18, 19, 20, 21, 22, 23, 24, 25, 26, 27] (by decide +kernel) (by decide +kernel)
set_option maxRecDepth 20000 in
theorem ggL_law_L_full_2 : GoodIn wsL_law wsL_full_r2 := goodIn_r _ [28, 29, 30, 31, 32, 33, 34, 35, 36, 37, 38, 39, 40, 41, 42, 43, 44, 45, 46, 47, 48, 49, 50, 51] (by decide +kernel) (by decide +kernel)
set_option maxRecDepth 20000 in
theorem ggL_law_L_full_3 : GoodIn wsL_law wsL_full_r3 := goodIn_r _ [52, 53, 54, 55, 56, 57, 58, 59, 60, 61, 62, 63, 64, 65, 66, 67, 68, 69, 70, 179, 180, 73, 181, 182] (by decide +kernel) (by decide +kernel)
set_option maxRecDepth 20000 in
theorem ggL_law_L_full_4 : GoodIn wsL_law wsL_full_r4 := goodIn_r _ [183, 184, 185, 75, 5, 6, 9, 186, 187, 188, 189, 190, 86, 87, 88, 84, 85, 191, 192, 193, 194, 123, 195, 196] (by decide +kernel) (by decide +kernel)
set_option maxRecDepth 20000 in
theorem ggL_law_L_full_5 : GoodIn wsL_law wsL_full_r5 := goodIn_r _ [197, 198, 199, 200, 201, 202, 203, 204, 205, 206, 207, 208, 209, 210, 211, 212, 213, 214, 215, 216, 217, 218, 219, 220] (by decide +kernel) (by decide +kernel)
set_option maxRecDepth 20000 in
theorem ggL_law_L_full_6 : GoodIn wsL_law wsL_full_r6 := goodIn_r _ [221, 222, 223, 224, 225, 226, 227, 228, 229, 230, 231, 232, 233, 234, 235, 236, 237, 238, 239, 240, 241, 242, 243, 244] (by decide +kernel) (by decide +kernel)
set_option maxRecDepth 20000 in
theorem ggL_law_L_full_7 : GoodIn wsL_law wsL_full_r7 := goodIn_r _ [245, 246, 247, 248, 249, 250, 251, 252, 253, 254, 255, 256, 257, 258, 259, 260, 261, 262, 263, 264, 265, 266, 267, 268] (by decide +kernel) (by decide +kernel)
set_option maxRecDepth 20000 in
theorem ggL_law_L_full_8 : GoodIn wsL_law wsL_full_r8 := goodIn_r _ [269, 270, 271, 272, 273, 274, 275, 276, 277, 278, 279, 280, 281, 282, 283, 284, 285, 286, 287, 288, 289, 290, 291, 292] (by decide +kernel) (by decide +kernel)
set_option maxRecDepth 20000 in
theorem ggL_law_L_full_9 : GoodIn wsL_law wsL_full_r9 := goodIn_r _ [293, 294, 295, 296, 297, 298, 299, 300, 301, 302, 303, 304, 305, 306, 307, 308, 309, 310, 311, 312, 313, 314, 315, 316] (by decide +kernel) (by decide +kernel)
set_option maxRecDepth 20000 in
theorem ggL_law_L_full_10 : GoodIn wsL_law wsL_full_r10 := goodIn_r _ [317, 318, 319, 320, 321, 322, 323, 324, 325, 326, 327, 328, 329, 330, 331, 332, 81, 82, 83, 333, 334, 335, 336, 170] (by decide +kernel) (by decide +kernel)
set_option maxRecDepth 20000 in
theorem ggL_law_L_full_11 : GoodIn wsL_law wsL_full_r11 := goodIn_r _ [171, 172, 173, 98, 337, 338, 339, 340, 341, 342, 343, 344, 345, 346, 347, 348, 349, 103, 104, 105, 106, 350, 351, 352] (by decide +kernel) (by decide +kernel)
set_option maxRecDepth 20000 in
theorem ggL_law_L_full_12 : GoodIn wsL_law wsL_full_r12 := goodIn_r _ [353, 354, 147, 148, 149, 355, 356, 357, 358, 80, 359, 360, 361, 362, 363, 89, 90, 91, 92, 93, 146, 364, 365, 366] (by decide +kernel) (by decide +kernel)
set_option maxRecDepth 20000 in
theorem ggL_law_L_full_13 : GoodIn wsL_law wsL_full_r13 := goodIn_r _ [367, 111, 112, 113, 114, 115, 116, 117, 118, 99, 100, 101, 102, 368, 369, 370, 371, 372, 373, 374, 375, 376, 377, 378] (by decide +kernel) (by decide +kernel)
set_option maxRecDepth 20000 in
theorem ggL_law_L_full_14 : GoodIn wsL_law wsL_full_r14 := goodIn_r _ [379, 380, 381, 382, 383, 384, 385, 386, 387, 388, 389, 390, 391, 392, 393, 394, 395, 396, 397, 398, 399, 167, 168, 169] (by decide +kernel) (by decide +kernel)
set_option maxRecDepth 20000 in
theorem ggL_law_L_full_15 : GoodIn wsL_law wsL_full_r15 := goodIn_r _ [400, 401, 402, 403, 133, 404, 405, 406, 407, 408, 409, 410, 411, 412, 413, 414, 415, 416, 417, 418, 419, 420, 421, 422] (by decide +kernel) (by decide +kernel)
set_option maxRecDepth 20000 in
theorem ggL_law_L_full_16 : GoodIn wsL_law wsL_full_r16 := goodIn_r _ [423, 424, 425, 426, 427, 428, 429, 430, 431, 432, 433, 434, 435, 436, 437, 438, 439, 440, 441, 442, 443, 444, 445, 446] (by decide +kernel) (by decide +kernel)
set_option maxRecDepth 20000 in
theorem ggL_law_L_full_17 : GoodIn wsL_law wsL_full_r17 := goodIn_r _ [447, 448, 449, 128, 450, 451, 452, 453, 454, 455, 456, 457, 458, 459, 460, 461, 462, 178, 463, 464, 465, 466, 467, 468] (by decide +kernel) (by decide +kernel)
set_option maxRecDepth 20000 in
theorem ggL_law_L_full_18 : GoodIn wsL_law wsL_full_r18 := goodIn_r _ [469, 470, 471, 472, 473, 474, 475, 476, 477, 478, 479, 480, 481, 482, 483, 484, 485, 486, 487, 488, 489, 490, 491, 492] (by decide +kernel) (by decide +kernel)
set_option maxRecDepth 20000 in
theorem ggL_law_L_full_19 : GoodIn wsL_law wsL_full_r19 := goodIn_r _ [493, 494, 495, 496, 497, 498, 499, 500, 501, 502, 503, 504, 505, 506, 507, 508, 509, 510, 511, 512, 513, 514, 515, 516] (by decide +kernel) (by decide +kernel)
set_option maxRecDepth 20000 in
theorem ggL_law_L_full_20 : GoodIn wsL_law wsL_full_r20 := goodIn_r _ [517, 518, 519, 520, 521, 522, 523, 524, 525, 526, 527, 528, 529, 530, 531, 532, 533, 144, 534, 535, 536, 537, 538, 539] (by decide +kernel) (by decide +kernel)
set_option maxRecDepth 20000 in
theorem ggL_law_L_full_21 : GoodIn wsL_law wsL_full_r21 := goodIn_r _ [540, 541, 542, 543, 544, 545, 546, 547, 548, 549, 550, 551, 145, 552, 553, 554, 555, 556, 557, 558, 559, 560, 561, 562] (by decide +kernel) (by decide +kernel)
set_option maxRecDepth 20000 in
theorem ggL_law_L_full_22 : GoodIn wsL_law wsL_full_r22 := goodIn_r _ [563, 564, 565, 566, 567, 568, 569, 570, 571, 572, 573, 574, 575, 576, 577, 578, 579, 580, 581, 582, 583, 584, 585, 586] (by decide +kernel) (by decide +kernel)
set_option maxRecDepth 20000 in
theorem ggL_law_L_full_23 : GoodIn wsL_law wsL_full_r23 := goodIn_r _ [587, 588, 589, 590, 591, 592, 593, 594, 595, 596, 129, 130, 131, 132, 119, 120, 121, 122, 150, 151, 152, 153, 154, 155] (by decide +kernel) (by decide +kernel)
set_option maxRecDepth 20000 in
theorem ggL_law_L_full_24 : GoodIn wsL_law wsL_full_r24 := goodIn_r _ [156, 157, 158, 159, 160, 161, 162, 163, 164, 165, 166, 174, 175, 176, 177] (by decide +kernel) (by decide +kernel)
set_option maxRecDepth 20000 in
theorem ggL_law_L_full_xwsX70 : GoodIn wsL_law wsX70 := goodIn_r _ [660, 661, 662, 663, 664, 665, 666, 667] (by decide +kernel) (by decide +kernel)

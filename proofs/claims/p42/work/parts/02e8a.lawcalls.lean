theorem inlr25 : ∀ w ∈ wsL_law0_r25, w ∈ wsL_law := fun _ h => List.mem_append_left _ (List.mem_append_left _ (List.mem_append_left _ (List.mem_append_left _ (List.mem_append_left _ (List.mem_append_left _ (List.mem_append_left _ (List.mem_append_left _ (List.mem_append_left _ (List.mem_append_left _ (List.mem_append_left _ (List.mem_append_left _ (List.mem_append_left _ (List.mem_append_left _ (List.mem_append_right _ (List.mem_append_right _ (List.mem_append_right _ (List.mem_append_right _ (List.mem_append_right _ (List.mem_append_right _ (List.mem_append_right _ (List.mem_append_right _ (List.mem_append_right _ (List.mem_append_right _ (List.mem_append_right _ (List.mem_append_right _ (List.mem_append_right _ (List.mem_append_right _ (List.mem_append_right _ (List.mem_append_right _ (List.mem_append_right _ (List.mem_append_right _ (List.mem_append_right _ (List.mem_append_right _ (List.mem_append_right _ (List.mem_append_right _ (List.mem_append_right _ (List.mem_append_right _ (List.mem_append_left _ h))))))))))))))))))))))))))))))))))))))
theorem inlr28 : ∀ w ∈ wsL_law0_r28, w ∈ wsL_law := fun _ h => List.mem_append_left _ (List.mem_append_left _ (List.mem_append_left _ (List.mem_append_left _ (List.mem_append_left _ (List.mem_append_left _ (List.mem_append_left _ (List.mem_append_left _ (List.mem_append_left _ (List.mem_append_left _ (List.mem_append_left _ (List.mem_append_left _ (List.mem_append_left _ (List.mem_append_left _ (List.mem_append_right _ (List.mem_append_right _ (List.mem_append_right _ (List.mem_append_right _ (List.mem_append_right _ (List.mem_append_right _ (List.mem_append_right _ (List.mem_append_right _ (List.mem_append_right _ (List.mem_append_right _ (List.mem_append_right _ (List.mem_append_right _ (List.mem_append_right _ (List.mem_append_right _ (List.mem_append_right _ (List.mem_append_right _ (List.mem_append_right _ (List.mem_append_right _ (List.mem_append_right _ (List.mem_append_right _ (List.mem_append_right _ (List.mem_append_right _ (List.mem_append_right _ (List.mem_append_right _ (List.mem_append_right _ (List.mem_append_right _ (List.mem_append_right _ (h)))))))))))))))))))))))))))))))))))))))))
set_option maxRecDepth 20000 in
theorem ggL_law_X7_init : GoodIn wsL_law wsX7_init := goodIn_r _ [12, 13, 14, 15, 16, 17, 18, 19, 20, 21, 22, 23, 24, 25, 26, 27, 28, 29, 30, 31, 32, 33, 34, 35, 36, 37, 38, 39, 40, 41, 4, 42, 43, 44, 45, 46, 47, 48, 49, 50, 51, 52, 53, 54, 55, 56, 57, 58, 59, 60, 61, 62, 63, 64, 65, 66, 67, 68, 69, 70, 660, 661, 662, 663, 664, 665, 666, 667, 668, 669, 670, 671, 672, 673, 674, 675, 676, 677, 678, 679, 680, 681, 682, 683, 684, 685, 686] (by decide +kernel) (by decide +kernel)
set_option maxRecDepth 20000 in
theorem gL_law_X7_init : GoodIn wsL_law (wsX7_init) := ggL_law_X7_init
set_option maxRecDepth 20000 in
theorem ggL_law_L_hasNone : GoodIn wsL_law wsL_hasNone := goodIn_ca (goodIn_ca (goodIn_r _ [74, 75, 76, 77, 78, 2, 79, 21, 80, 81, 82, 83, 84, 85, 86, 87, 88, 89, 90, 91, 92, 93, 94, 95, 96, 23, 97, 98, 99, 100, 101, 102, 48, 103, 104, 105, 106, 107, 108, 109, 110, 111, 112, 113, 114, 115, 116, 117, 118, 660, 661, 662, 663, 664, 665, 666, 667, 674, 675] (by decide +kernel) (by decide +kernel)) (goodIn_sub (fun _ h => List.mem_append_left _ (List.mem_append_left _ (List.mem_append_left _ (List.mem_append_left _ (List.mem_append_right _ h))))) (by decide +kernel))) (goodIn_sub (fun _ h => List.mem_append_left _ (List.mem_append_left _ (List.mem_append_left _ (List.mem_append_right _ h)))) (by decide +kernel))
set_option maxRecDepth 20000 in
theorem gL_law_L_hasNone : GoodIn wsL_law (va_wsS RL 146 yL_hasNone wsL_hasNone) := goodIn_app (goodIn_of _ (by decide +kernel)) ggL_law_L_hasNone
set_option maxRecDepth 20000 in
theorem ggL_law_X7_flips : GoodIn wsL_law wsX7_flips := goodIn_r _ [122, 17, 123, 660, 661, 662, 663, 664, 665, 666, 667, 668, 669, 670, 671, 672, 673] (by decide +kernel) (by decide +kernel)
set_option maxRecDepth 20000 in
theorem gL_law_X7_flips : GoodIn wsL_law (wsV RL 150 RX7 yX7_flips wsX7_flips) := goodIn_app (goodIn_of _ (by decide +kernel)) ggL_law_X7_flips
set_option maxRecDepth 20000 in
theorem ggL_law_X7_notes : GoodIn wsL_law wsX7_notes := goodIn_r _ [127, 31, 128, 660, 661, 662, 663, 664, 665, 666, 667, 680, 681, 682, 683, 684, 685] (by decide +kernel) (by decide +kernel)
set_option maxRecDepth 20000 in
theorem gL_law_X7_notes : GoodIn wsL_law (wsV RL 154 RX7 yX7_notes wsX7_notes) := goodIn_app (goodIn_of _ (by decide +kernel)) ggL_law_X7_notes
set_option maxRecDepth 20000 in
theorem ggL_law_X7_reset : GoodIn wsL_law wsX7_reset := goodIn_r _ [132, 27, 133, 660, 661, 662, 663, 664, 665, 666, 667, 676, 677, 678, 679] (by decide +kernel) (by decide +kernel)
set_option maxRecDepth 20000 in
theorem gL_law_X7_reset : GoodIn wsL_law (wsV RL 157 RX7 yX7_reset wsX7_reset) := goodIn_app (goodIn_of _ (by decide +kernel)) ggL_law_X7_reset
set_option maxRecDepth 20000 in
theorem ggL_law_X7_answers : GoodIn wsL_law wsX7_answers := goodIn_r _ [137, 36, 37, 660, 661, 662, 663, 664, 665, 666, 667] (by decide +kernel) (by decide +kernel)
set_option maxRecDepth 20000 in
theorem gL_law_X7_answers : GoodIn wsL_law (wsV RL 160 RX7 yX7_answers wsX7_answers) := goodIn_app (goodIn_of _ (by decide +kernel)) ggL_law_X7_answers
set_option maxRecDepth 20000 in
theorem ggL_law_X7_checksum : GoodIn wsL_law wsX7_checksum := goodIn_r _ [141, 142, 21, 80, 143, 31, 128, 144, 145, 146, 147, 148, 23, 149, 48, 103, 104, 105, 106, 98, 660, 661, 662, 663, 664, 665, 666, 667, 674, 675, 680, 681, 682, 683, 684, 685] (by decide +kernel) (by decide +kernel)
set_option maxRecDepth 20000 in
theorem gL_law_X7_checksum : GoodIn wsL_law (wsV RL 164 RX7 yX7_checksum wsX7_checksum) := goodIn_app (goodIn_of _ (by decide +kernel)) ggL_law_X7_checksum
set_option maxRecDepth 20000 in
theorem ggL_law_X7_isSound : GoodIn wsL_law wsX7_isSound := goodIn_r _ [153, 21, 31, 154, 155, 156, 23, 157, 98, 115, 116, 117, 118, 99, 100, 101, 102, 48, 103, 104, 105, 106, 158, 159, 160, 161, 162, 163, 164, 165, 166, 167, 168, 169, 170, 171, 172, 173, 174, 175, 176, 30, 177, 178, 62, 63, 660, 661, 662, 663, 664, 665, 666, 667, 674, 675, 680, 681, 682, 683, 684, 685] (by decide +kernel) (by decide +kernel)
set_option maxRecDepth 20000 in
theorem gL_law_X7_isSound : GoodIn wsL_law (wsV RL 170 RX7 yX7_isSound wsX7_isSound) := goodIn_app (goodIn_of _ (by decide +kernel)) ggL_law_X7_isSound
set_option maxRecDepth 20000 in
theorem ggL_law_L_ask_c : GoodIn wsL_law (.codeWith yL_ask cL_ask 4 (some .int) [(0, 243, 463, 66), (244, 254, 463, 66), (255, 273, 463, 66), (274, 287, 463, 66), (288, 295, 463, 66), (296, 316, 463, 66), (317, 356, 463, 66), (357, 383, 463, 66), (384, 400, 463, 66), (401, 408, 463, 66), (409, 419, 463, 66), (420, 430, 463, 66), (431, 444, 463, 66), (445, 455, 463, 66), (456, 462, 463, 66), (0, 243, 467, 69), (244, 254, 467, 69), (255, 273, 467, 69), (274, 287, 467, 69), (288, 295, 467, 69), (296, 316, 467, 69), (317, 356, 467, 69), (357, 383, 467, 69), (384, 400, 467, 69), (401, 408, 467, 69), (409, 419, 467, 69), (420, 430, 467, 69), (431, 444, 467, 69), (445, 455, 467, 69), (456, 462, 467, 69), (0, 243, 471, 72), (244, 254, 471, 72), (255, 273, 471, 72), (274, 287, 471, 72), (288, 295, 471, 72), (296, 316, 471, 72), (317, 356, 471, 72), (357, 383, 471, 72), (384, 400, 471, 72), (401, 408, 471, 72), (409, 419, 471, 72), (420, 430, 471, 72), (431, 444, 471, 72), (445, 455, 471, 72), (456, 462, 471, 72), (0, 243, 475, 75), (244, 254, 475, 75), (255, 273, 475, 75), (274, 287, 475, 75), (288, 295, 475, 75), (296, 316, 475, 75), (317, 356, 475, 75), (357, 383, 475, 75), (384, 400, 475, 75), (401, 408, 475, 75), (409, 419, 475, 75), (420, 430, 475, 75), (431, 444, 475, 75), (445, 455, 475, 75), (456, 462, 475, 75), (0, 243, 479, 78), (244, 254, 479, 78), (255, 273, 479, 78), (274, 287, 479, 78), (288, 295, 479, 78), (296, 316, 479, 78), (317, 356, 479, 78), (357, 383, 479, 78), (384, 400, 479, 78), (401, 408, 479, 78), (409, 419, 479, 78), (420, 430, 479, 78), (431, 444, 479, 78), (445, 455, 479, 78), (456, 462, 479, 78)] :: []) := goodIn_r _ [181] (by decide +kernel) (by decide +kernel)
set_option maxRecDepth 20000 in
theorem ggL_law_L_ask_1 : GoodIn wsL_law wsL_ask_r1 := goodIn_r _ [182, 183, 184, 185, 75, 5, 6, 7, 9, 8, 186, 187, 188, 2, 189, 17, 190, 86, 87, 88, 84, 85, 191, 192] (by decide +kernel) (by decide +kernel)
set_option maxRecDepth 20000 in
theorem ggL_law_L_ask_2 : GoodIn wsL_law wsL_ask_r2 := goodIn_r _ [193, 194, 123, 195, 196, 197, 198, 199, 200, 201, 202, 19, 203, 204, 205, 206, 207, 208, 209, 43, 210, 211, 212, 213] (by decide +kernel) (by decide +kernel)
set_option maxRecDepth 20000 in
theorem ggL_law_L_ask_3 : GoodIn wsL_law wsL_ask_r3 := goodIn_r _ [214, 215, 216, 217, 218, 42, 219, 220, 221, 222, 223, 224, 225, 226, 227, 228, 229, 230, 231, 232, 233, 234, 235, 236] (by decide +kernel) (by decide +kernel)
set_option maxRecDepth 20000 in
theorem ggL_law_L_ask_4 : GoodIn wsL_law wsL_ask_r4 := goodIn_r _ [237, 238, 239, 240, 241, 242, 243, 244, 245, 246, 247, 248, 249, 250, 251, 252, 253, 254, 255, 256, 257, 258, 259, 260] (by decide +kernel) (by decide +kernel)
set_option maxRecDepth 20000 in
theorem ggL_law_L_ask_5 : GoodIn wsL_law wsL_ask_r5 := goodIn_r _ [261, 262, 263, 264, 265, 266, 267, 268, 269, 270, 271, 272, 273, 274, 275, 276, 277, 278, 279, 280, 281, 282, 283, 284] (by decide +kernel) (by decide +kernel)
set_option maxRecDepth 20000 in
theorem ggL_law_L_ask_6 : GoodIn wsL_law wsL_ask_r6 := goodIn_r _ [285, 286, 287, 288, 289, 290, 291, 292, 293, 294, 295, 296, 297, 298, 299, 300, 36, 37, 301, 302, 303, 304, 305, 306] (by decide +kernel) (by decide +kernel)
set_option maxRecDepth 20000 in
theorem ggL_law_L_ask_7 : GoodIn wsL_law wsL_ask_r7 := goodIn_r _ [307, 308, 309, 310, 311, 312, 313, 314, 315, 316, 317, 318, 319, 320, 321, 322, 323, 324, 325, 326, 327, 328, 329, 330] (by decide +kernel) (by decide +kernel)
set_option maxRecDepth 20000 in
theorem ggL_law_L_ask_8 : GoodIn wsL_law wsL_ask_r8 := goodIn_r _ [331, 332, 21, 81, 82, 83, 333, 334, 335, 23, 336, 48, 170, 171, 172, 173, 98, 337, 338, 339, 340, 341, 342, 343] (by decide +kernel) (by decide +kernel)
set_option maxRecDepth 20000 in
theorem ggL_law_L_ask_9 : GoodIn wsL_law wsL_ask_r9 := goodIn_r _ [344, 345, 346, 347, 348, 349, 103, 104, 105, 106, 350, 351, 352, 353, 354, 147, 148, 149, 355, 356, 357, 358, 80, 359] (by decide +kernel) (by decide +kernel)
set_option maxRecDepth 20000 in
theorem ggL_law_L_ask_10 : GoodIn wsL_law wsL_ask_r10 := goodIn_r _ [360, 361, 362, 363, 89, 90, 91, 92, 93, 146, 364, 365, 366, 367, 111, 112, 113, 114, 115, 116, 117, 118, 99, 100] (by decide +kernel) (by decide +kernel)
set_option maxRecDepth 20000 in
theorem ggL_law_L_ask_11 : GoodIn wsL_law wsL_ask_r11 := goodIn_r _ [101, 102, 368, 369, 370, 371, 372, 373, 374, 375, 376, 377, 378, 379, 380, 381, 382, 383, 384, 385, 386, 387, 388, 389] (by decide +kernel) (by decide +kernel)
set_option maxRecDepth 20000 in
theorem ggL_law_L_ask_12 : GoodIn wsL_law wsL_ask_r12 := goodIn_r _ [73, 390, 391, 392, 393, 394, 395, 396, 397, 398, 399, 167, 168, 169, 400, 401, 402, 403, 27, 133, 404, 405, 406, 407] (by decide +kernel) (by decide +kernel)
set_option maxRecDepth 20000 in
theorem ggL_law_L_ask_13 : GoodIn wsL_law wsL_ask_r13 := goodIn_r _ [408, 409, 410, 411, 412, 413, 26, 414, 415, 54, 55, 56, 416, 417, 418, 419, 420, 421, 422, 423, 424, 425, 426, 427] (by decide +kernel) (by decide +kernel)
set_option maxRecDepth 20000 in
theorem ggL_law_L_ask_14 : GoodIn wsL_law wsL_ask_r14 := goodIn_r _ [428, 429, 430, 431, 432, 433, 434, 435, 436, 437, 438, 439, 440, 441, 442, 443, 444, 445, 446, 447, 448, 449, 31, 128] (by decide +kernel) (by decide +kernel)
set_option maxRecDepth 20000 in
theorem ggL_law_L_ask_15 : GoodIn wsL_law wsL_ask_r15 := goodIn_r _ [450, 451, 452, 453, 454, 455, 456, 457, 458, 459, 460, 461, 30, 462, 178, 61, 62, 63, 64, 65, 463, 464, 465, 466] (by decide +kernel) (by decide +kernel)
set_option maxRecDepth 20000 in
theorem ggL_law_L_ask_16 : GoodIn wsL_law wsL_ask_r16 := goodIn_r _ [467, 468, 469, 35, 470, 471, 472, 473, 14, 15, 474, 475, 476, 477, 478, 479, 480, 481, 482, 483, 484, 485, 486, 487] (by decide +kernel) (by decide +kernel)
set_option maxRecDepth 20000 in
theorem ggL_law_L_ask_17 : GoodIn wsL_law wsL_ask_r17 := goodIn_r _ [488, 489, 490, 491, 492, 493, 494, 495, 496, 34, 497, 70, 498, 499, 500, 501, 502, 503, 504, 505, 506, 507, 508, 509] (by decide +kernel) (by decide +kernel)
set_option maxRecDepth 20000 in
theorem ggL_law_L_ask_18 : GoodIn wsL_law wsL_ask_r18 := goodIn_r _ [510, 511, 512, 513, 514, 515, 516, 517, 518, 519, 520, 521, 522, 523, 524, 525, 526, 527, 528, 529, 530, 531, 532, 533] (by decide +kernel) (by decide +kernel)
set_option maxRecDepth 20000 in
theorem ggL_law_L_ask_19 : GoodIn wsL_law wsL_ask_r19 := goodIn_r _ [144, 534, 535, 536, 537, 538, 539, 540, 541, 542, 543, 544, 545, 546, 547, 548, 549, 550, 551, 145, 552, 553, 554, 555] (by decide +kernel) (by decide +kernel)
set_option maxRecDepth 20000 in
theorem ggL_law_L_ask_20 : GoodIn wsL_law wsL_ask_r20 := goodIn_r _ [556, 557, 558, 559, 560, 561, 562, 563, 564, 565, 566, 567, 568, 569, 570, 571, 572, 573, 574, 575, 576, 577, 578, 579] (by decide +kernel) (by decide +kernel)
set_option maxRecDepth 20000 in
theorem ggL_law_L_ask_21 : GoodIn wsL_law wsL_ask_r21 := goodIn_r _ [580, 581, 582, 583, 584, 585, 586, 587, 588, 589, 590, 591, 592, 593, 594, 595, 596] (by decide +kernel) (by decide +kernel)
set_option maxRecDepth 20000 in
theorem ggL_law_L_ask_xwsX70 : GoodIn wsL_law wsX70 := goodIn_r _ [660, 661, 662, 663, 664, 665, 666, 667] (by decide +kernel) (by decide +kernel)
set_option maxRecDepth 20000 in
theorem ggL_law_L_ask_xwsX60 : GoodIn wsL_law wsX60 := goodIn_r _ [668, 669, 670, 671, 672, 673] (by decide +kernel) (by decide +kernel)
set_option maxRecDepth 20000 in
theorem ggL_law_L_ask_xwsX00 : GoodIn wsL_law wsX00 := goodIn_r _ [674, 675] (by decide +kernel) (by decide +kernel)
set_option maxRecDepth 20000 in
theorem ggL_law_L_ask_xwsX40 : GoodIn wsL_law wsX40 := goodIn_r _ [676, 677, 678, 679] (by decide +kernel) (by decide +kernel)
set_option maxRecDepth 20000 in
theorem ggL_law_L_ask_xwsX30 : GoodIn wsL_law wsX30 := goodIn_r _ [680, 681, 682, 683, 684, 685] (by decide +kernel) (by decide +kernel)
set_option maxRecDepth 20000 in
theorem ggL_law_L_ask_xwsX50 : GoodIn wsL_law wsX50 := goodIn_r _ [687, 688, 689, 690, 691, 692, 693, 694, 695, 696] (by decide +kernel) (by decide +kernel)
set_option maxRecDepth 20000 in
theorem ggL_law_L_ask_xwsX10 : GoodIn wsL_law wsX10 := goodIn_r _ [686] (by decide +kernel) (by decide +kernel)
set_option maxRecDepth 20000 in
theorem ggL_law_L_ask_xwsX20 : GoodIn wsL_law wsX20 := goodIn_r _ [697, 698, 699, 700] (by decide +kernel) (by decide +kernel)
set_option maxRecDepth 20000 in
theorem ggL_law_L_ask : GoodIn wsL_law wsL_ask := goodIn_ca (goodIn_ca (goodIn_ca (goodIn_ca (goodIn_ca (goodIn_app (a := [_]) ggL_law_L_ask_c (goodIn_app (goodIn_app (goodIn_app (goodIn_app (goodIn_app (goodIn_app (goodIn_app (goodIn_app (goodIn_app ggL_law_L_ask_1 (goodIn_app ggL_law_L_ask_2 (goodIn_app ggL_law_L_ask_3 (goodIn_app ggL_law_L_ask_4 (goodIn_app ggL_law_L_ask_5 (goodIn_app ggL_law_L_ask_6 (goodIn_app ggL_law_L_ask_7 (goodIn_app ggL_law_L_ask_8 (goodIn_app ggL_law_L_ask_9 (goodIn_app ggL_law_L_ask_10 (goodIn_app ggL_law_L_ask_11 (goodIn_app ggL_law_L_ask_12 (goodIn_app ggL_law_L_ask_13 (goodIn_app ggL_law_L_ask_14 (goodIn_app ggL_law_L_ask_15 (goodIn_app ggL_law_L_ask_16 (goodIn_app ggL_law_L_ask_17 (goodIn_app ggL_law_L_ask_18 (goodIn_app ggL_law_L_ask_19 (goodIn_app ggL_law_L_ask_20 (ggL_law_L_ask_21))))))))))))))))))))) ggL_law_L_ask_xwsX70) ggL_law_L_ask_xwsX60) ggL_law_L_ask_xwsX00) ggL_law_L_ask_xwsX40) ggL_law_L_ask_xwsX30) ggL_law_L_ask_xwsX50) ggL_law_L_ask_xwsX10) ggL_law_L_ask_xwsX20)) (goodIn_sub (fun _ h => List.mem_append_left _ (List.mem_append_left _ (List.mem_append_left _ (List.mem_append_left _ (List.mem_append_right _ h))))) (by decide +kernel))) (goodIn_sub (fun _ h => List.mem_append_left _ (List.mem_append_left _ (List.mem_append_right _ h))) (by decide +kernel))) (goodIn_sub (fun _ h => List.mem_append_left _ (List.mem_append_right _ h)) (by decide +kernel))) (goodIn_sub (fun _ h => List.mem_append_left _ (List.mem_append_left _ (List.mem_append_left _ (List.mem_append_right _ h)))) (by decide +kernel))) (goodIn_sub (fun _ h => List.mem_append_right _ h) (by decide +kernel))
set_option maxRecDepth 20000 in
theorem gL_law_L_ask : GoodIn wsL_law (va_wsS RL 174 yL_ask wsL_ask) := goodIn_app (goodIn_of _ (by decide +kernel)) ggL_law_L_ask
set_option maxRecDepth 20000 in
theorem ggL_law_L_serial_c : GoodIn wsL_law (.code yL_serial cL_serial 13 (some .boolean) :: []) := by
  intro w hw
  rw [List.mem_singleton.mp hw]
  refine ⟨inlr25 _ (by first | exact List.mem_of_getElem? (i := 23) rfl | simp [wsL_law0_r25]), ?_⟩
  first | exact Or.inl rfl | exact good_of_word (by decide +kernel)
set_option maxRecDepth 20000 in
theorem ggL_law_L_serial_1 : GoodIn wsL_law wsL_serial_r1 := goodIn_r _ [0, 1, 2, 4, 600, 601, 172, 602, 603, 171, 173, 10, 11, 12, 13, 14, 15, 16, 17, 18, 19, 20, 21, 22] (by decide +kernel) (by decide +kernel)
set_option maxRecDepth 20000 in
theorem ggL_law_L_serial_2 : GoodIn wsL_law wsL_serial_r2 := goodIn_r _ [23, 24, 25, 26, 27, 28, 29, 30, 31, 32, 33, 34, 35, 36, 37, 38, 39, 40, 41, 42, 43, 44, 45, 46] (by decide +kernel) (by decide +kernel)
set_option maxRecDepth 20000 in
theorem ggL_law_L_serial_3 : GoodIn wsL_law wsL_serial_r3 := goodIn_r _ [47, 48, 49, 50, 51, 52, 53, 54, 55, 56, 57, 58, 59, 60, 61, 62, 63, 64, 65, 66, 67, 68, 69, 70] (by decide +kernel) (by decide +kernel)
set_option maxRecDepth 20000 in
theorem ggL_law_L_serial_4 : GoodIn wsL_law wsL_serial_r4 := goodIn_r _ [604, 605, 73, 606, 607, 608, 609, 610, 611, 612, 613, 614, 615, 616, 617, 618, 619, 620, 621, 622, 623, 624, 625, 626] (by decide +kernel) (by decide +kernel)
set_option maxRecDepth 20000 in
theorem ggL_law_L_serial_5 : GoodIn wsL_law wsL_serial_r5 := goodIn_r _ [627, 628, 629, 630, 631, 632, 633, 634, 635, 636, 637, 638, 639, 640, 641, 642, 643, 644, 645, 646, 647, 648, 649, 650] (by decide +kernel) (by decide +kernel)
set_option maxRecDepth 20000 in
theorem ggL_law_L_serial_6 : GoodIn wsL_law wsL_serial_r6 := goodIn_r _ [179, 180, 181, 182, 183, 184, 185, 75, 5, 6, 7, 9, 8, 186, 187, 188, 189, 190, 86, 87, 88, 84, 85, 191] (by decide +kernel) (by decide +kernel)
set_option maxRecDepth 20000 in
theorem ggL_law_L_serial_7 : GoodIn wsL_law wsL_serial_r7 := goodIn_r _ [192, 193, 194, 123, 195, 196, 197, 198, 199, 200, 201, 202, 203, 204, 205, 206, 207, 208, 209, 210, 211, 212, 213, 214] (by decide +kernel) (by decide +kernel)
set_option maxRecDepth 20000 in
theorem ggL_law_L_serial_8 : GoodIn wsL_law wsL_serial_r8 := goodIn_r _ [215, 216, 217, 218, 219, 220, 221, 222, 223, 224, 225, 226, 227, 228, 229, 230, 231, 232, 233, 234, 235, 236, 237, 238] (by decide +kernel) (by decide +kernel)
set_option maxRecDepth 20000 in
theorem ggL_law_L_serial_9 : GoodIn wsL_law wsL_serial_r9 := goodIn_r _ [239, 240, 241, 242, 243, 244, 245, 246, 247, 248, 249, 250, 251, 252, 253, 254, 255, 256, 257, 258, 259, 260, 261, 262] (by decide +kernel) (by decide +kernel)
set_option maxRecDepth 20000 in
theorem ggL_law_L_serial_10 : GoodIn wsL_law wsL_serial_r10 := goodIn_r _ [263, 264, 265, 266, 267, 268, 269, 270, 271, 272, 273, 274, 275, 276, 277, 278, 279, 280, 281, 282, 283, 284, 285, 286] (by decide +kernel) (by decide +kernel)
set_option maxRecDepth 20000 in
theorem ggL_law_L_serial_11 : GoodIn wsL_law wsL_serial_r11 := goodIn_r _ [287, 288, 289, 290, 291, 292, 293, 294, 295, 296, 297, 298, 299, 300, 301, 302, 303, 304, 305, 306, 307, 308, 309, 310] (by decide +kernel) (by decide +kernel)
set_option maxRecDepth 20000 in
theorem ggL_law_L_serial_12 : GoodIn wsL_law wsL_serial_r12 := goodIn_r _ [311, 312, 313, 314, 315, 316, 317, 318, 319, 320, 321, 322, 323, 324, 325, 326, 327, 328, 329, 330, 331, 332, 81, 82] (by decide +kernel) (by decide +kernel)
set_option maxRecDepth 20000 in
theorem ggL_law_L_serial_13 : GoodIn wsL_law wsL_serial_r13 := goodIn_r _ [83, 333, 334, 335, 336, 170, 98, 337, 338, 339, 340, 341, 342, 343, 344, 345, 346, 347, 348, 349, 103, 104, 105, 106] (by decide +kernel) (by decide +kernel)
set_option maxRecDepth 20000 in
theorem ggL_law_L_serial_14 : GoodIn wsL_law wsL_serial_r14 := goodIn_r _ [350, 351, 352, 353, 354, 147, 148, 149, 355, 356, 357, 358, 80, 359, 360, 361, 362, 363, 89, 90, 91, 92, 93, 146] (by decide +kernel) (by decide +kernel)
set_option maxRecDepth 20000 in
theorem ggL_law_L_serial_15 : GoodIn wsL_law wsL_serial_r15 := goodIn_r _ [364, 365, 366, 367, 111, 112, 113, 114, 115, 116, 117, 118, 99, 100, 101, 102, 368, 369, 370, 371, 372, 373, 374, 375] (by decide +kernel) (by decide +kernel)
set_option maxRecDepth 20000 in
theorem ggL_law_L_serial_16 : GoodIn wsL_law wsL_serial_r16 := goodIn_r _ [376, 377, 378, 379, 380, 381, 382, 383, 384, 385, 386, 387, 388, 389, 390, 391, 392, 393, 394, 395, 396, 397, 398, 399] (by decide +kernel) (by decide +kernel)
set_option maxRecDepth 20000 in
theorem ggL_law_L_serial_17 : GoodIn wsL_law wsL_serial_r17 := goodIn_r _ [167, 168, 169, 400, 401, 402, 403, 133, 404, 405, 406, 407, 408, 409, 410, 411, 412, 413, 414, 415, 416, 417, 418, 419] (by decide +kernel) (by decide +kernel)
set_option maxRecDepth 20000 in
theorem ggL_law_L_serial_18 : GoodIn wsL_law wsL_serial_r18 := goodIn_r _ [420, 421, 422, 423, 424, 425, 426, 427, 428, 429, 430, 431, 432, 433, 434, 435, 436, 437, 438, 439, 440, 441, 442, 443] (by decide +kernel) (by decide +kernel)
set_option maxRecDepth 20000 in
theorem ggL_law_L_serial_19 : GoodIn wsL_law wsL_serial_r19 := goodIn_r _ [444, 445, 446, 447, 448, 449, 128, 450, 451, 452, 453, 454, 455, 456, 457, 458, 459, 460, 461, 462, 178, 463, 464, 465] (by decide +kernel) (by decide +kernel)
set_option maxRecDepth 20000 in
theorem ggL_law_L_serial_20 : GoodIn wsL_law wsL_serial_r20 := goodIn_r _ [466, 467, 468, 469, 470, 471, 472, 473, 474, 475, 476, 477, 478, 479, 480, 481, 482, 483, 484, 485, 486, 487, 488, 489] (by decide +kernel) (by decide +kernel)
set_option maxRecDepth 20000 in
theorem ggL_law_L_serial_21 : GoodIn wsL_law wsL_serial_r21 := goodIn_r _ [490, 491, 492, 493, 494, 495, 496, 497, 498, 499, 500, 501, 502, 503, 504, 505, 506, 507, 508, 509, 510, 511, 512, 513] (by decide +kernel) (by decide +kernel)
set_option maxRecDepth 20000 in
theorem ggL_law_L_serial_22 : GoodIn wsL_law wsL_serial_r22 := goodIn_r _ [514, 515, 516, 517, 518, 519, 520, 521, 522, 523, 524, 525, 526, 527, 528, 529, 530, 531, 532, 533, 144, 534, 535, 536] (by decide +kernel) (by decide +kernel)
set_option maxRecDepth 20000 in
theorem ggL_law_L_serial_23 : GoodIn wsL_law wsL_serial_r23 := goodIn_r _ [537, 538, 539, 540, 541, 542, 543, 544, 545, 546, 547, 548, 549, 550, 551, 145, 552, 553, 554, 555, 556, 557, 558, 559] (by decide +kernel) (by decide +kernel)
set_option maxRecDepth 20000 in
theorem ggL_law_L_serial_24 : GoodIn wsL_law wsL_serial_r24 := goodIn_r _ [560, 561, 562, 563, 564, 565, 566, 567, 568, 569, 570, 571, 572, 573, 574, 575, 576, 577, 578, 579, 580, 581, 582, 583] (by decide +kernel) (by decide +kernel)
set_option maxRecDepth 20000 in
theorem ggL_law_L_serial_25 : GoodIn wsL_law wsL_serial_r25 := goodIn_r _ [584, 585, 586, 587, 588, 589, 590, 591, 592, 593, 594, 595, 596] (by decide +kernel) (by decide +kernel)
set_option maxRecDepth 20000 in
theorem ggL_law_L_serial_xwsX70 : GoodIn wsL_law wsX70 := goodIn_r _ [660, 661, 662, 663, 664, 665, 666, 667] (by decide +kernel) (by decide +kernel)
set_option maxRecDepth 20000 in
theorem ggL_law_L_serial_xwsX60 : GoodIn wsL_law wsX60 := goodIn_r _ [668, 669, 670, 671, 672, 673] (by decide +kernel) (by decide +kernel)
set_option maxRecDepth 20000 in
theorem ggL_law_L_serial_xwsX00 : GoodIn wsL_law wsX00 := goodIn_r _ [674, 675] (by decide +kernel) (by decide +kernel)
set_option maxRecDepth 20000 in
theorem ggL_law_L_serial_xwsX40 : GoodIn wsL_law wsX40 := goodIn_r _ [676, 677, 678, 679] (by decide +kernel) (by decide +kernel)
set_option maxRecDepth 20000 in
theorem ggL_law_L_serial_xwsX30 : GoodIn wsL_law wsX30 := goodIn_r _ [680, 681, 682, 683, 684, 685] (by decide +kernel) (by decide +kernel)
set_option maxRecDepth 20000 in
theorem ggL_law_L_serial_xwsX10 : GoodIn wsL_law wsX10 := goodIn_r _ [686] (by decide +kernel) (by decide +kernel)
set_option maxRecDepth 20000 in
theorem ggL_law_L_serial_xwsX50 : GoodIn wsL_law wsX50 := goodIn_r _ [687, 688, 689, 690, 691, 692, 693, 694, 695, 696] (by decide +kernel) (by decide +kernel)
set_option maxRecDepth 20000 in
theorem ggL_law_L_serial_xwsX20 : GoodIn wsL_law wsX20 := goodIn_r _ [697, 698, 699, 700] (by decide +kernel) (by decide +kernel)
set_option maxRecDepth 20000 in
theorem ggL_law_L_serial : GoodIn wsL_law wsL_serial := goodIn_ca (goodIn_ca (goodIn_ca (goodIn_ca (goodIn_ca (goodIn_app (a := [_]) ggL_law_L_serial_c (goodIn_app (goodIn_app (goodIn_app (goodIn_app (goodIn_app (goodIn_app (goodIn_app (goodIn_app (goodIn_app ggL_law_L_serial_1 (goodIn_app ggL_law_L_serial_2 (goodIn_app ggL_law_L_serial_3 (goodIn_app ggL_law_L_serial_4 (goodIn_app ggL_law_L_serial_5 (goodIn_app ggL_law_L_serial_6 (goodIn_app ggL_law_L_serial_7 (goodIn_app ggL_law_L_serial_8 (goodIn_app ggL_law_L_serial_9 (goodIn_app ggL_law_L_serial_10 (goodIn_app ggL_law_L_serial_11 (goodIn_app ggL_law_L_serial_12 (goodIn_app ggL_law_L_serial_13 (goodIn_app ggL_law_L_serial_14 (goodIn_app ggL_law_L_serial_15 (goodIn_app ggL_law_L_serial_16 (goodIn_app ggL_law_L_serial_17 (goodIn_app ggL_law_L_serial_18 (goodIn_app ggL_law_L_serial_19 (goodIn_app ggL_law_L_serial_20 (goodIn_app ggL_law_L_serial_21 (goodIn_app ggL_law_L_serial_22 (goodIn_app ggL_law_L_serial_23 (goodIn_app ggL_law_L_serial_24 (ggL_law_L_serial_25))))))))))))))))))))))))) ggL_law_L_serial_xwsX70) ggL_law_L_serial_xwsX60) ggL_law_L_serial_xwsX00) ggL_law_L_serial_xwsX40) ggL_law_L_serial_xwsX30) ggL_law_L_serial_xwsX10) ggL_law_L_serial_xwsX50) ggL_law_L_serial_xwsX20)) (goodIn_sub (fun _ h => List.mem_append_left _ (List.mem_append_left _ (List.mem_append_left _ (List.mem_append_left _ (List.mem_append_right _ h))))) (by decide +kernel))) (goodIn_sub (fun _ h => List.mem_append_left _ (List.mem_append_left _ (List.mem_append_right _ h))) (by decide +kernel))) (goodIn_sub (fun _ h => List.mem_append_left _ (List.mem_append_right _ h)) (by decide +kernel))) (goodIn_sub (fun _ h => List.mem_append_left _ (List.mem_append_left _ (List.mem_append_left _ (List.mem_append_right _ h)))) (by decide +kernel))) (goodIn_sub (fun _ h => List.mem_append_right _ h) (by decide +kernel))
set_option maxRecDepth 20000 in
theorem gL_law_L_serial : GoodIn wsL_law (va_wsS RL 177 yL_serial wsL_serial) := goodIn_app (goodIn_of _ (by decide +kernel)) ggL_law_L_serial
set_option maxRecDepth 20000 in
theorem ggL_law_L_two_c : GoodIn wsL_law (.code yL_two cL_two 12 (some .boolean) :: []) := by
  intro w hw
  rw [List.mem_singleton.mp hw]
  refine ⟨inlr28 _ (by first | exact List.mem_of_getElem? (i := 5) rfl | simp [wsL_law0_r28]), ?_⟩
  first | exact Or.inl rfl | exact good_of_word (by decide +kernel)
set_option maxRecDepth 20000 in
theorem ggL_law_L_two_1 : GoodIn wsL_law wsL_two_r1 := goodIn_r _ [0, 1, 2, 4, 10, 11, 12, 13, 14, 15, 16, 17, 18, 19, 20, 21, 22, 23, 24, 25, 26, 27, 28, 29] (by decide +kernel) (by decide +kernel)
set_option maxRecDepth 20000 in
theorem ggL_law_L_two_2 : GoodIn wsL_law wsL_two_r2 := goodIn_r _ [30, 31, 32, 33, 34, 35, 36, 37, 38, 39, 40, 41, 42, 43, 44, 45, 46, 47, 48, 49, 50, 51, 52, 53] (by decide +kernel) (by decide +kernel)
set_option maxRecDepth 20000 in
theorem ggL_law_L_two_3 : GoodIn wsL_law wsL_two_r3 := goodIn_r _ [54, 55, 56, 57, 58, 59, 60, 61, 62, 63, 64, 65, 66, 67, 68, 69, 70, 604, 605, 73, 606, 607, 608, 609] (by decide +kernel) (by decide +kernel)
set_option maxRecDepth 20000 in
theorem ggL_law_L_two_4 : GoodIn wsL_law wsL_two_r4 := goodIn_r _ [179, 180, 181, 182, 183, 184, 185, 75, 5, 6, 7, 9, 8, 186, 187, 188, 189, 190, 86, 87, 88, 84, 85, 191] (by decide +kernel) (by decide +kernel)
set_option maxRecDepth 20000 in
theorem ggL_law_L_two_5 : GoodIn wsL_law wsL_two_r5 := goodIn_r _ [192, 193, 194, 123, 195, 196, 197, 198, 199, 200, 201, 202, 203, 204, 205, 206, 207, 208, 209, 210, 211, 212, 213, 214] (by decide +kernel) (by decide +kernel)

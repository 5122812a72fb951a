set_option maxRecDepth 20000 in
theorem ggL_serial_X7_init : GoodIn wsL_serial wsX7_init := goodIn_r _ [14, 15, 16, 17, 18, 19, 20, 21, 22, 23, 24, 25, 26, 27, 28, 29, 30, 31, 32, 33, 34, 35, 36, 37, 38, 39, 40, 41, 42, 43, 4, 44, 45, 46, 47, 48, 49, 50, 51, 52, 53, 54, 55, 56, 57, 58, 59, 60, 61, 62, 63, 64, 65, 66, 67, 68, 69, 70, 71, 72, 590, 591, 592, 593, 594, 595, 596, 597, 598, 599, 600, 601, 602, 603, 604, 605, 606, 607, 608, 609, 610, 611, 612, 613, 614, 615, 616] (by decide +kernel) (by decide +kernel)
set_option maxRecDepth 20000 in
theorem gL_serial_X7_init : GoodIn wsL_serial (wsX7_init) := ggL_serial_X7_init
set_option maxRecDepth 20000 in
theorem ggL_serial_L_at : GoodIn wsL_serial wsL_at := goodIn_r _ [76] (by decide +kernel) (by decide +kernel)
set_option maxRecDepth 20000 in
theorem gL_serial_L_at : GoodIn wsL_serial (va_wsS RL 189 yL_at wsL_at) := goodIn_app (goodIn_of _ (by decide +kernel)) ggL_serial_L_at
set_option maxRecDepth 20000 in
theorem ggL_serial_L_some : GoodIn wsL_serial wsL_some := goodIn_r _ [79] (by decide +kernel) (by decide +kernel)
set_option maxRecDepth 20000 in
theorem gL_serial_L_some : GoodIn wsL_serial (va_wsS RL 193 yL_some wsL_some) := goodIn_app (goodIn_of _ (by decide +kernel)) ggL_serial_L_some
set_option maxRecDepth 20000 in
theorem ggL_serial_J0_charAt_5068e : GoodIn wsL_serial wsJ0_charAt_5068e := goodIn_r _ [84, 85, 86, 87, 88, 83, 89, 90, 91, 92, 93, 94, 95, 96, 97, 98, 99, 100, 101, 102, 103, 104, 105, 106, 107, 108, 109, 110, 111, 112, 113, 114, 115, 116, 117, 118, 119, 120] (by decide +kernel) (by decide +kernel)
set_option maxRecDepth 20000 in
theorem gL_serial_J0_charAt_5068e : GoodIn wsL_serial (wsV RL 198 RJ0 yJ0_charAt_5068e wsJ0_charAt_5068e) := goodIn_app (goodIn_of _ (by decide +kernel)) ggL_serial_J0_charAt_5068e
set_option maxRecDepth 20000 in
theorem ggL_serial_L_ask_c : GoodIn wsL_serial (.codeWith yL_ask cL_ask 4 (some .int) [(0, 243, 463, 66), (244, 254, 463, 66), (255, 273, 463, 66), (274, 287, 463, 66), (288, 295, 463, 66), (296, 316, 463, 66), (317, 356, 463, 66), (357, 383, 463, 66), (384, 400, 463, 66), (401, 408, 463, 66), (409, 419, 463, 66), (420, 430, 463, 66), (431, 444, 463, 66), (445, 455, 463, 66), (456, 462, 463, 66), (0, 243, 467, 69), (244, 254, 467, 69), (255, 273, 467, 69), (274, 287, 467, 69), (288, 295, 467, 69), (296, 316, 467, 69), (317, 356, 467, 69), (357, 383, 467, 69), (384, 400, 467, 69), (401, 408, 467, 69), (409, 419, 467, 69), (420, 430, 467, 69), (431, 444, 467, 69), (445, 455, 467, 69), (456, 462, 467, 69), (0, 243, 471, 72), (244, 254, 471, 72), (255, 273, 471, 72), (274, 287, 471, 72), (288, 295, 471, 72), (296, 316, 471, 72), (317, 356, 471, 72), (357, 383, 471, 72), (384, 400, 471, 72), (401, 408, 471, 72), (409, 419, 471, 72), (420, 430, 471, 72), (431, 444, 471, 72), (445, 455, 471, 72), (456, 462, 471, 72), (0, 243, 475, 75), (244, 254, 475, 75), (255, 273, 475, 75), (274, 287, 475, 75), (288, 295, 475, 75), (296, 316, 475, 75), (317, 356, 475, 75), (357, 383, 475, 75), (384, 400, 475, 75), (401, 408, 475, 75), (409, 419, 475, 75), (420, 430, 475, 75), (431, 444, 475, 75), (445, 455, 475, 75), (456, 462, 475, 75), (0, 243, 479, 78), (244, 254, 479, 78), (255, 273, 479, 78), (274, 287, 479, 78), (288, 295, 479, 78), (296, 316, 479, 78), (317, 356, 479, 78), (357, 383, 479, 78), (384, 400, 479, 78), (401, 408, 479, 78), (409, 419, 479, 78), (420, 430, 479, 78), (431, 444, 479, 78), (445, 455, 479, 78), (456, 462, 479, 78)] :: []) := goodIn_r _ [123] (by decide +kernel) (by decide +kernel)
set_option maxRecDepth 20000 in
theorem ggL_serial_L_ask_1 : GoodIn wsL_serial wsL_ask_r1 := goodIn_r _ [124, 125, 126, 127, 128, 129, 130, 131, 132, 133, 134, 135, 136, 3, 137, 19, 138, 139, 140, 141, 142, 143, 144, 145] (by decide +kernel) (by decide +kernel)
set_option maxRecDepth 20000 in
theorem ggL_serial_L_ask_2 : GoodIn wsL_serial wsL_ask_r2 := goodIn_r _ [146, 147, 148, 149, 150, 151, 152, 153, 154, 155, 156, 21, 157, 158, 159, 160, 161, 162, 163, 45, 164, 165, 166, 167] (by decide +kernel) (by decide +kernel)
set_option maxRecDepth 20000 in
theorem ggL_serial_L_ask_3 : GoodIn wsL_serial wsL_ask_r3 := goodIn_r _ [168, 169, 170, 171, 172, 44, 173, 174, 175, 176, 177, 178, 179, 180, 181, 182, 183, 184, 185, 186, 187, 188, 189, 190] (by decide +kernel) (by decide +kernel)
set_option maxRecDepth 20000 in
theorem ggL_serial_L_ask_4 : GoodIn wsL_serial wsL_ask_r4 := goodIn_r _ [191, 192, 193, 194, 195, 196, 197, 198, 199, 200, 201, 202, 203, 204, 205, 206, 207, 208, 209, 210, 211, 212, 213, 214] (by decide +kernel) (by decide +kernel)
set_option maxRecDepth 20000 in
theorem ggL_serial_L_ask_5 : GoodIn wsL_serial wsL_ask_r5 := goodIn_r _ [215, 216, 217, 218, 219, 220, 221, 222, 223, 224, 225, 226, 227, 228, 229, 230, 231, 232, 233, 234, 235, 236, 237, 238] (by decide +kernel) (by decide +kernel)
set_option maxRecDepth 20000 in
theorem ggL_serial_L_ask_6 : GoodIn wsL_serial wsL_ask_r6 := goodIn_r _ [239, 240, 241, 242, 243, 244, 245, 246, 247, 248, 249, 250, 251, 252, 253, 254, 38, 39, 255, 256, 257, 258, 259, 260] (by decide +kernel) (by decide +kernel)
set_option maxRecDepth 20000 in
theorem ggL_serial_L_ask_7 : GoodIn wsL_serial wsL_ask_r7 := goodIn_r _ [261, 262, 263, 264, 265, 266, 267, 268, 269, 270, 271, 272, 273, 274, 275, 276, 277, 278, 279, 280, 281, 282, 283, 284] (by decide +kernel) (by decide +kernel)
set_option maxRecDepth 20000 in
theorem ggL_serial_L_ask_8 : GoodIn wsL_serial wsL_ask_r8 := goodIn_r _ [285, 286, 23, 287, 288, 289, 290, 291, 292, 25, 293, 50, 294, 10, 7, 11, 295, 296, 297, 298, 299, 300, 301, 302] (by decide +kernel) (by decide +kernel)
set_option maxRecDepth 20000 in
theorem ggL_serial_L_ask_9 : GoodIn wsL_serial wsL_ask_r9 := goodIn_r _ [303, 304, 305, 306, 307, 308, 309, 310, 311, 312, 313, 314, 315, 316, 317, 318, 319, 320, 321, 322, 323, 324, 325, 326] (by decide +kernel) (by decide +kernel)
set_option maxRecDepth 20000 in
theorem ggL_serial_L_ask_10 : GoodIn wsL_serial wsL_ask_r10 := goodIn_r _ [327, 328, 329, 330, 331, 332, 333, 334, 335, 336, 337, 338, 339, 340, 341, 342, 343, 344, 345, 346, 347, 348, 349, 350] (by decide +kernel) (by decide +kernel)
set_option maxRecDepth 20000 in
theorem ggL_serial_L_ask_11 : GoodIn wsL_serial wsL_ask_r11 := goodIn_r _ [351, 352, 353, 354, 355, 356, 357, 358, 359, 360, 361, 362, 363, 364, 365, 366, 367, 368, 369, 370, 371, 372, 373, 374] (by decide +kernel) (by decide +kernel)
set_option maxRecDepth 20000 in
theorem ggL_serial_L_ask_12 : GoodIn wsL_serial wsL_ask_r12 := goodIn_r _ [75, 375, 376, 377, 378, 379, 380, 381, 382, 383, 384, 385, 386, 387, 388, 389, 390, 391, 29, 392, 393, 394, 395, 396] (by decide +kernel) (by decide +kernel)
set_option maxRecDepth 20000 in
theorem ggL_serial_L_ask_13 : GoodIn wsL_serial wsL_ask_r13 := goodIn_r _ [397, 398, 399, 400, 401, 402, 28, 403, 404, 56, 57, 58, 405, 406, 407, 408, 409, 410, 411, 412, 413, 414, 415, 416] (by decide +kernel) (by decide +kernel)
set_option maxRecDepth 20000 in
theorem ggL_serial_L_ask_14 : GoodIn wsL_serial wsL_ask_r14 := goodIn_r _ [417, 418, 419, 420, 421, 422, 423, 424, 425, 426, 427, 428, 429, 430, 431, 432, 433, 434, 435, 436, 437, 438, 33, 439] (by decide +kernel) (by decide +kernel)
set_option maxRecDepth 20000 in
theorem ggL_serial_L_ask_15 : GoodIn wsL_serial wsL_ask_r15 := goodIn_r _ [440, 441, 442, 443, 444, 445, 446, 447, 448, 449, 450, 451, 32, 452, 453, 63, 64, 65, 66, 67, 454, 455, 456, 457] (by decide +kernel) (by decide +kernel)
set_option maxRecDepth 20000 in
theorem ggL_serial_L_ask_16 : GoodIn wsL_serial wsL_ask_r16 := goodIn_r _ [458, 459, 460, 37, 461, 462, 463, 464, 16, 17, 465, 466, 467, 468, 469, 470, 471, 472, 473, 474, 475, 476, 477, 478] (by decide +kernel) (by decide +kernel)
set_option maxRecDepth 20000 in
theorem ggL_serial_L_ask_17 : GoodIn wsL_serial wsL_ask_r17 := goodIn_r _ [479, 480, 481, 482, 483, 484, 485, 486, 487, 36, 488, 72, 489, 490, 491, 492, 493, 494, 495, 496, 497, 498, 499, 500] (by decide +kernel) (by decide +kernel)
set_option maxRecDepth 20000 in
theorem ggL_serial_L_ask_18 : GoodIn wsL_serial wsL_ask_r18 := goodIn_r _ [501, 502, 503, 504, 505, 506, 507, 508, 509, 510, 511, 512, 513, 514, 515, 516, 517, 518, 519, 520, 521, 522, 523, 524] (by decide +kernel) (by decide +kernel)
set_option maxRecDepth 20000 in
theorem ggL_serial_L_ask_19 : GoodIn wsL_serial wsL_ask_r19 := goodIn_r _ [525, 526, 527, 528, 529, 530, 531, 532, 533, 534, 535, 536, 537, 538, 539, 540, 541, 542, 543, 544, 545, 546, 547, 548] (by decide +kernel) (by decide +kernel)
set_option maxRecDepth 20000 in
theorem ggL_serial_L_ask_20 : GoodIn wsL_serial wsL_ask_r20 := goodIn_r _ [549, 550, 551, 552, 553, 554, 555, 556, 557, 558, 559, 560, 561, 562, 563, 564, 565, 566, 567, 568, 569, 570, 571, 572] (by decide +kernel) (by decide +kernel)
set_option maxRecDepth 20000 in
theorem ggL_serial_L_ask_21 : GoodIn wsL_serial wsL_ask_r21 := goodIn_r _ [573, 574, 575, 576, 577, 578, 579, 580, 581, 582, 583, 584, 585, 586, 587, 588, 589] (by decide +kernel) (by decide +kernel)
set_option maxRecDepth 20000 in
theorem ggL_serial_L_ask_xwsX70 : GoodIn wsL_serial wsX70 := goodIn_r _ [590, 591, 592, 593, 594, 595, 596, 597] (by decide +kernel) (by decide +kernel)
set_option maxRecDepth 20000 in
theorem ggL_serial_L_ask_xwsX60 : GoodIn wsL_serial wsX60 := goodIn_r _ [598, 599, 600, 601, 602, 603] (by decide +kernel) (by decide +kernel)
set_option maxRecDepth 20000 in
theorem ggL_serial_L_ask_xwsX00 : GoodIn wsL_serial wsX00 := goodIn_r _ [604, 605] (by decide +kernel) (by decide +kernel)
set_option maxRecDepth 20000 in
theorem ggL_serial_L_ask_xwsX40 : GoodIn wsL_serial wsX40 := goodIn_r _ [606, 607, 608, 609] (by decide +kernel) (by decide +kernel)
set_option maxRecDepth 20000 in
theorem ggL_serial_L_ask_xwsX30 : GoodIn wsL_serial wsX30 := goodIn_r _ [610, 611, 612, 613, 614, 615] (by decide +kernel) (by decide +kernel)
set_option maxRecDepth 20000 in
theorem ggL_serial_L_ask_xwsX50 : GoodIn wsL_serial wsX50 := goodIn_r _ [617, 618, 619, 620, 621, 622, 623, 624, 625, 626] (by decide +kernel) (by decide +kernel)
set_option maxRecDepth 20000 in
theorem ggL_serial_L_ask_xwsX10 : GoodIn wsL_serial wsX10 := goodIn_r _ [616] (by decide +kernel) (by decide +kernel)
set_option maxRecDepth 20000 in
theorem ggL_serial_L_ask_xwsX20 : GoodIn wsL_serial wsX20 := goodIn_r _ [627, 628, 629, 630] (by decide +kernel) (by decide +kernel)
set_option maxRecDepth 20000 in
theorem ggL_serial_L_ask : GoodIn wsL_serial wsL_ask := goodIn_ca (goodIn_ca (goodIn_ca (goodIn_ca (goodIn_ca (goodIn_app (a := [_]) ggL_serial_L_ask_c (goodIn_app (goodIn_app (goodIn_app (goodIn_app (goodIn_app (goodIn_app (goodIn_app (goodIn_app (goodIn_app ggL_serial_L_ask_1 (goodIn_app ggL_serial_L_ask_2 (goodIn_app ggL_serial_L_ask_3 (goodIn_app ggL_serial_L_ask_4 (goodIn_app ggL_serial_L_ask_5 (goodIn_app ggL_serial_L_ask_6 (goodIn_app ggL_serial_L_ask_7 (goodIn_app ggL_serial_L_ask_8 (goodIn_app ggL_serial_L_ask_9 (goodIn_app ggL_serial_L_ask_10 (goodIn_app ggL_serial_L_ask_11 (goodIn_app ggL_serial_L_ask_12 (goodIn_app ggL_serial_L_ask_13 (goodIn_app ggL_serial_L_ask_14 (goodIn_app ggL_serial_L_ask_15 (goodIn_app ggL_serial_L_ask_16 (goodIn_app ggL_serial_L_ask_17 (goodIn_app ggL_serial_L_ask_18 (goodIn_app ggL_serial_L_ask_19 (goodIn_app ggL_serial_L_ask_20 (ggL_serial_L_ask_21))))))))))))))))))))) ggL_serial_L_ask_xwsX70) ggL_serial_L_ask_xwsX60) ggL_serial_L_ask_xwsX00) ggL_serial_L_ask_xwsX40) ggL_serial_L_ask_xwsX30) ggL_serial_L_ask_xwsX50) ggL_serial_L_ask_xwsX10) ggL_serial_L_ask_xwsX20)) (goodIn_sub (fun _ h => List.mem_cons_of_mem _ (List.mem_append_left _ (List.mem_append_left _ (List.mem_append_left _ (List.mem_append_left _ (List.mem_append_right _ h)))))) (by decide +kernel))) (goodIn_sub (fun _ h => List.mem_cons_of_mem _ (List.mem_append_left _ (List.mem_append_left _ (List.mem_append_left _ (List.mem_append_right _ h))))) (by decide +kernel))) (goodIn_sub (fun _ h => List.mem_cons_of_mem _ (List.mem_append_left _ (List.mem_append_left _ (List.mem_append_right _ h)))) (by decide +kernel))) (goodIn_sub (fun _ h => List.mem_cons_of_mem _ (List.mem_append_left _ (List.mem_append_right _ h))) (by decide +kernel))) (goodIn_sub (fun _ h => List.mem_cons_of_mem _ (List.mem_append_right _ h)) (by decide +kernel))
set_option maxRecDepth 20000 in
theorem gL_serial_L_ask : GoodIn wsL_serial (va_wsS RL 174 yL_ask wsL_ask) := goodIn_app (goodIn_of _ (by decide +kernel)) ggL_serial_L_ask
set_option maxRecDepth 20000 in
theorem ggL_two_X7_init : GoodIn wsL_two wsX7_init := goodIn_r _ [7, 8, 9, 10, 11, 12, 13, 14, 15, 16, 17, 18, 19, 20, 21, 22, 23, 24, 25, 26, 27, 28, 29, 30, 31, 32, 33, 34, 35, 36, 4, 37, 38, 39, 40, 41, 42, 43, 44, 45, 46, 47, 48, 49, 50, 51, 52, 53, 54, 55, 56, 57, 58, 59, 60, 61, 62, 63, 64, 65, 570, 571, 572, 573, 574, 575, 576, 577, 578, 579, 580, 581, 582, 583, 584, 585, 586, 587, 588, 589, 590, 591, 592, 593, 594, 595, 596] (by decide +kernel) (by decide +kernel)
set_option maxRecDepth 20000 in
theorem gL_two_X7_init : GoodIn wsL_two (wsX7_init) := ggL_two_X7_init
set_option maxRecDepth 20000 in
theorem ggL_two_L_at : GoodIn wsL_two wsL_at := goodIn_r _ [69] (by decide +kernel) (by decide +kernel)
set_option maxRecDepth 20000 in
theorem gL_two_L_at : GoodIn wsL_two (va_wsS RL 189 yL_at wsL_at) := goodIn_app (goodIn_of _ (by decide +kernel)) ggL_two_L_at
set_option maxRecDepth 20000 in
theorem ggL_two_L_some : GoodIn wsL_two wsL_some := goodIn_r _ [72] (by decide +kernel) (by decide +kernel)
set_option maxRecDepth 20000 in
theorem gL_two_L_some : GoodIn wsL_two (va_wsS RL 193 yL_some wsL_some) := goodIn_app (goodIn_of _ (by decide +kernel)) ggL_two_L_some
set_option maxRecDepth 20000 in
theorem ggL_two_L_ask_c : GoodIn wsL_two (.codeWith yL_ask cL_ask 4 (some .int) [(0, 243, 463, 66), (244, 254, 463, 66), (255, 273, 463, 66), (274, 287, 463, 66), (288, 295, 463, 66), (296, 316, 463, 66), (317, 356, 463, 66), (357, 383, 463, 66), (384, 400, 463, 66), (401, 408, 463, 66), (409, 419, 463, 66), (420, 430, 463, 66), (431, 444, 463, 66), (445, 455, 463, 66), (456, 462, 463, 66), (0, 243, 467, 69), (244, 254, 467, 69), (255, 273, 467, 69), (274, 287, 467, 69), (288, 295, 467, 69), (296, 316, 467, 69), (317, 356, 467, 69), (357, 383, 467, 69), (384, 400, 467, 69), (401, 408, 467, 69), (409, 419, 467, 69), (420, 430, 467, 69), (431, 444, 467, 69), (445, 455, 467, 69), (456, 462, 467, 69), (0, 243, 471, 72), (244, 254, 471, 72), (255, 273, 471, 72), (274, 287, 471, 72), (288, 295, 471, 72), (296, 316, 471, 72), (317, 356, 471, 72), (357, 383, 471, 72), (384, 400, 471, 72), (401, 408, 471, 72), (409, 419, 471, 72), (420, 430, 471, 72), (431, 444, 471, 72), (445, 455, 471, 72), (456, 462, 471, 72), (0, 243, 475, 75), (244, 254, 475, 75), (255, 273, 475, 75), (274, 287, 475, 75), (288, 295, 475, 75), (296, 316, 475, 75), (317, 356, 475, 75), (357, 383, 475, 75), (384, 400, 475, 75), (401, 408, 475, 75), (409, 419, 475, 75), (420, 430, 475, 75), (431, 444, 475, 75), (445, 455, 475, 75), (456, 462, 475, 75), (0, 243, 479, 78), (244, 254, 479, 78), (255, 273, 479, 78), (274, 287, 479, 78), (288, 295, 479, 78), (296, 316, 479, 78), (317, 356, 479, 78), (357, 383, 479, 78), (384, 400, 479, 78), (401, 408, 479, 78), (409, 419, 479, 78), (420, 430, 479, 78), (431, 444, 479, 78), (445, 455, 479, 78), (456, 462, 479, 78)] :: []) := goodIn_r _ [75] (by decide +kernel) (by decide +kernel)
set_option maxRecDepth 20000 in
theorem ggL_two_L_ask_1 : GoodIn wsL_two wsL_ask_r1 := goodIn_r _ [76, 77, 78, 79, 80, 81, 82, 83, 84, 85, 86, 87, 88, 3, 89, 12, 90, 91, 92, 93, 94, 95, 96, 97] (by decide +kernel) (by decide +kernel)
set_option maxRecDepth 20000 in
theorem ggL_two_L_ask_2 : GoodIn wsL_two wsL_ask_r2 := goodIn_r _ [98, 99, 100, 101, 102, 103, 104, 105, 106, 107, 108, 14, 109, 110, 111, 112, 113, 114, 115, 38, 116, 117, 118, 119] (by decide +kernel) (by decide +kernel)
set_option maxRecDepth 20000 in
theorem ggL_two_L_ask_3 : GoodIn wsL_two wsL_ask_r3 := goodIn_r _ [120, 121, 122, 123, 124, 37, 125, 126, 127, 128, 129, 130, 131, 132, 133, 134, 135, 136, 137, 138, 139, 140, 141, 142] (by decide +kernel) (by decide +kernel)
set_option maxRecDepth 20000 in
theorem ggL_two_L_ask_4 : GoodIn wsL_two wsL_ask_r4 := goodIn_r _ [143, 144, 145, 146, 147, 148, 149, 150, 151, 152, 153, 154, 155, 156, 157, 158, 159, 160, 161, 162, 163, 164, 165, 166] (by decide +kernel) (by decide +kernel)
set_option maxRecDepth 20000 in
theorem ggL_two_L_ask_5 : GoodIn wsL_two wsL_ask_r5 := goodIn_r _ [167, 168, 169, 170, 171, 172, 173, 174, 175, 176, 177, 178, 179, 180, 181, 182, 183, 184, 185, 186, 187, 188, 189, 190] (by decide +kernel) (by decide +kernel)
set_option maxRecDepth 20000 in
theorem ggL_two_L_ask_6 : GoodIn wsL_two wsL_ask_r6 := goodIn_r _ [191, 192, 193, 194, 195, 196, 197, 198, 199, 200, 201, 202, 203, 204, 205, 206, 31, 32, 207, 208, 209, 210, 211, 212] (by decide +kernel) (by decide +kernel)
set_option maxRecDepth 20000 in
theorem ggL_two_L_ask_7 : GoodIn wsL_two wsL_ask_r7 := goodIn_r _ [213, 214, 215, 216, 217, 218, 219, 220, 221, 222, 223, 224, 225, 226, 227, 228, 229, 230, 231, 232, 233, 234, 235, 236] (by decide +kernel) (by decide +kernel)
set_option maxRecDepth 20000 in
theorem ggL_two_L_ask_8 : GoodIn wsL_two wsL_ask_r8 := goodIn_r _ [237, 238, 16, 239, 240, 241, 242, 243, 244, 18, 245, 43, 246, 247, 248, 249, 250, 251, 252, 253, 254, 255, 256, 257] (by decide +kernel) (by decide +kernel)
set_option maxRecDepth 20000 in
theorem ggL_two_L_ask_9 : GoodIn wsL_two wsL_ask_r9 := goodIn_r _ [258, 259, 260, 261, 262, 263, 264, 265, 266, 267, 268, 269, 270, 271, 272, 273, 274, 275, 276, 277, 278, 279, 280, 281] (by decide +kernel) (by decide +kernel)
set_option maxRecDepth 20000 in
theorem ggL_two_L_ask_10 : GoodIn wsL_two wsL_ask_r10 := goodIn_r _ [282, 283, 284, 285, 286, 287, 288, 289, 290, 291, 292, 293, 294, 295, 296, 297, 298, 299, 300, 301, 302, 303, 304, 305] (by decide +kernel) (by decide +kernel)
set_option maxRecDepth 20000 in
theorem ggL_two_L_ask_11 : GoodIn wsL_two wsL_ask_r11 := goodIn_r _ [306, 307, 308, 309, 310, 311, 312, 313, 314, 315, 316, 317, 318, 319, 320, 321, 322, 323, 324, 325, 326, 327, 328, 329] (by decide +kernel) (by decide +kernel)
set_option maxRecDepth 20000 in
theorem ggL_two_L_ask_12 : GoodIn wsL_two wsL_ask_r12 := goodIn_r _ [68, 330, 331, 332, 333, 334, 335, 336, 337, 338, 339, 340, 341, 342, 343, 344, 345, 346, 22, 347, 348, 349, 350, 351] (by decide +kernel) (by decide +kernel)
set_option maxRecDepth 20000 in
theorem ggL_two_L_ask_13 : GoodIn wsL_two wsL_ask_r13 := goodIn_r _ [352, 353, 354, 355, 356, 357, 21, 358, 359, 49, 50, 51, 360, 361, 362, 363, 364, 365, 366, 367, 368, 369, 370, 371] (by decide +kernel) (by decide +kernel)
set_option maxRecDepth 20000 in
theorem ggL_two_L_ask_14 : GoodIn wsL_two wsL_ask_r14 := goodIn_r _ [372, 373, 374, 375, 376, 377, 378, 379, 380, 381, 382, 383, 384, 385, 386, 387, 388, 389, 390, 391, 392, 393, 26, 394] (by decide +kernel) (by decide +kernel)
set_option maxRecDepth 20000 in
theorem ggL_two_L_ask_15 : GoodIn wsL_two wsL_ask_r15 := goodIn_r _ [395, 396, 397, 398, 399, 400, 401, 402, 403, 404, 405, 406, 25, 407, 408, 56, 57, 58, 59, 60, 409, 410, 411, 412] (by decide +kernel) (by decide +kernel)
set_option maxRecDepth 20000 in
theorem ggL_two_L_ask_16 : GoodIn wsL_two wsL_ask_r16 := goodIn_r _ [413, 414, 415, 30, 416, 417, 418, 419, 9, 10, 420, 421, 422, 423, 424, 425, 426, 427, 428, 429, 430, 431, 432, 433] (by decide +kernel) (by decide +kernel)
set_option maxRecDepth 20000 in
theorem ggL_two_L_ask_17 : GoodIn wsL_two wsL_ask_r17 := goodIn_r _ [434, 435, 436, 437, 438, 439, 440, 441, 442, 29, 443, 65, 444, 445, 446, 447, 448, 449, 450, 451, 452, 453, 454, 455] (by decide +kernel) (by decide +kernel)
set_option maxRecDepth 20000 in
theorem ggL_two_L_ask_18 : GoodIn wsL_two wsL_ask_r18 := goodIn_r _ [456, 457, 458, 459, 460, 461, 462, 463, 464, 465, 466, 467, 468, 469, 470, 471, 472, 473, 474, 475, 476, 477, 478, 479] (by decide +kernel) (by decide +kernel)
set_option maxRecDepth 20000 in
theorem ggL_two_L_ask_19 : GoodIn wsL_two wsL_ask_r19 := goodIn_r _ [480, 481, 482, 483, 484, 485, 486, 487, 488, 489, 490, 491, 492, 493, 494, 495, 496, 497, 498, 499, 500, 501, 502, 503] (by decide +kernel) (by decide +kernel)
set_option maxRecDepth 20000 in
theorem ggL_two_L_ask_20 : GoodIn wsL_two wsL_ask_r20 := goodIn_r _ [504, 505, 506, 507, 508, 509, 510, 511, 512, 513, 514, 515, 516, 517, 518, 519, 520, 521, 522, 523, 524, 525, 526, 527] (by decide +kernel) (by decide +kernel)
set_option maxRecDepth 20000 in
theorem ggL_two_L_ask_21 : GoodIn wsL_two wsL_ask_r21 := goodIn_r _ [528, 529, 530, 531, 532, 533, 534, 535, 536, 537, 538, 539, 540, 541, 542, 543, 544] (by decide +kernel) (by decide +kernel)
set_option maxRecDepth 20000 in
theorem ggL_two_L_ask_xwsX70 : GoodIn wsL_two wsX70 := goodIn_r _ [570, 571, 572, 573, 574, 575, 576, 577] (by decide +kernel) (by decide +kernel)
set_option maxRecDepth 20000 in
theorem ggL_two_L_ask_xwsX60 : GoodIn wsL_two wsX60 := goodIn_r _ [578, 579, 580, 581, 582, 583] (by decide +kernel) (by decide +kernel)
set_option maxRecDepth 20000 in
theorem ggL_two_L_ask_xwsX00 : GoodIn wsL_two wsX00 := goodIn_r _ [584, 585] (by decide +kernel) (by decide +kernel)
set_option maxRecDepth 20000 in
theorem ggL_two_L_ask_xwsX40 : GoodIn wsL_two wsX40 := goodIn_r _ [586, 587, 588, 589] (by decide +kernel) (by decide +kernel)
set_option maxRecDepth 20000 in
theorem ggL_two_L_ask_xwsX30 : GoodIn wsL_two wsX30 := goodIn_r _ [590, 591, 592, 593, 594, 595] (by decide +kernel) (by decide +kernel)
set_option maxRecDepth 20000 in
theorem ggL_two_L_ask_xwsX50 : GoodIn wsL_two wsX50 := goodIn_r _ [597, 598, 599, 600, 601, 602, 603, 604, 605, 606] (by decide +kernel) (by decide +kernel)
set_option maxRecDepth 20000 in
theorem ggL_two_L_ask_xwsX10 : GoodIn wsL_two wsX10 := goodIn_r _ [596] (by decide +kernel) (by decide +kernel)
set_option maxRecDepth 20000 in
theorem ggL_two_L_ask_xwsX20 : GoodIn wsL_two wsX20 := goodIn_r _ [607, 608, 609, 610] (by decide +kernel) (by decide +kernel)
set_option maxRecDepth 20000 in
theorem ggL_two_L_ask : GoodIn wsL_two wsL_ask := goodIn_ca (goodIn_ca (goodIn_ca (goodIn_ca (goodIn_ca (goodIn_app (a := [_]) ggL_two_L_ask_c (goodIn_app (goodIn_app (goodIn_app (goodIn_app (goodIn_app (goodIn_app (goodIn_app (goodIn_app (goodIn_app ggL_two_L_ask_1 (goodIn_app ggL_two_L_ask_2 (goodIn_app ggL_two_L_ask_3 (goodIn_app ggL_two_L_ask_4 (goodIn_app ggL_two_L_ask_5 (goodIn_app ggL_two_L_ask_6 (goodIn_app ggL_two_L_ask_7 (goodIn_app ggL_two_L_ask_8 (goodIn_app ggL_two_L_ask_9 (goodIn_app ggL_two_L_ask_10 (goodIn_app ggL_two_L_ask_11 (goodIn_app ggL_two_L_ask_12 (goodIn_app ggL_two_L_ask_13 (goodIn_app ggL_two_L_ask_14 (goodIn_app ggL_two_L_ask_15 (goodIn_app ggL_two_L_ask_16 (goodIn_app ggL_two_L_ask_17 (goodIn_app ggL_two_L_ask_18 (goodIn_app ggL_two_L_ask_19 (goodIn_app ggL_two_L_ask_20 (ggL_two_L_ask_21))))))))))))))))))))) ggL_two_L_ask_xwsX70) ggL_two_L_ask_xwsX60) ggL_two_L_ask_xwsX00) ggL_two_L_ask_xwsX40) ggL_two_L_ask_xwsX30) ggL_two_L_ask_xwsX50) ggL_two_L_ask_xwsX10) ggL_two_L_ask_xwsX20)) (goodIn_sub (fun _ h => List.mem_cons_of_mem _ (List.mem_append_left _ (List.mem_append_left _ (List.mem_append_left _ (List.mem_append_left _ (List.mem_append_right _ h)))))) (by decide +kernel))) (goodIn_sub (fun _ h => List.mem_cons_of_mem _ (List.mem_append_left _ (List.mem_append_left _ (List.mem_append_left _ (List.mem_append_right _ h))))) (by decide +kernel))) (goodIn_sub (fun _ h => List.mem_cons_of_mem _ (List.mem_append_left _ (List.mem_append_left _ (List.mem_append_right _ h)))) (by decide +kernel))) (goodIn_sub (fun _ h => List.mem_cons_of_mem _ (List.mem_append_left _ (List.mem_append_right _ h))) (by decide +kernel))) (goodIn_sub (fun _ h => List.mem_cons_of_mem _ (List.mem_append_right _ h)) (by decide +kernel))
set_option maxRecDepth 20000 in
theorem gL_two_L_ask : GoodIn wsL_two (va_wsS RL 174 yL_ask wsL_ask) := goodIn_app (goodIn_of _ (by decide +kernel)) ggL_two_L_ask
set_option maxRecDepth 20000 in
theorem ggL_two_X7_answers : GoodIn wsL_two wsX7_answers := goodIn_r _ [548, 31, 32, 570, 571, 572, 573, 574, 575, 576, 577] (by decide +kernel) (by decide +kernel)
set_option maxRecDepth 20000 in
theorem gL_two_X7_answers : GoodIn wsL_two (wsV RL 160 RX7 yX7_answers wsX7_answers) := goodIn_app (goodIn_of _ (by decide +kernel)) ggL_two_X7_answers
set_option maxRecDepth 20000 in
theorem ggL_two_X7_isSound : GoodIn wsL_two wsX7_isSound := goodIn_r _ [552, 16, 26, 553, 554, 555, 18, 556, 250, 300, 301, 302, 303, 304, 305, 306, 307, 43, 264, 265, 266, 267, 557, 558, 559, 560, 561, 562, 563, 564, 565, 340, 341, 342, 246, 247, 248, 249, 566, 567, 568, 25, 569, 408, 57, 58, 570, 571, 572, 573, 574, 575, 576, 577, 584, 585, 590, 591, 592, 593, 594, 595] (by decide +kernel) (by decide +kernel)
set_option maxRecDepth 20000 in
theorem gL_two_X7_isSound : GoodIn wsL_two (wsV RL 170 RX7 yX7_isSound wsX7_isSound) := goodIn_app (goodIn_of _ (by decide +kernel)) ggL_two_X7_isSound
set_option maxRecDepth 20000 in
theorem ggL_four_X7_init : GoodIn wsL_four wsX7_init := goodIn_r _ [7, 8, 9, 10, 11, 12, 13, 14, 15, 16, 17, 18, 19, 20, 21, 22, 23, 24, 25, 26, 27, 28, 29, 30, 31, 32, 33, 34, 35, 36, 4, 37, 38, 39, 40, 41, 42, 43, 44, 45, 46, 47, 48, 49, 50, 51, 52, 53, 54, 55, 56, 57, 58, 59, 60, 61, 62, 63, 64, 65, 566, 567, 568, 569, 570, 571, 572, 573, 574, 575, 576, 577, 578, 579, 580, 581, 582, 583, 584, 585, 586, 587, 588, 589, 590, 591, 592] (by decide +kernel) (by decide +kernel)
set_option maxRecDepth 20000 in
theorem gL_four_X7_init : GoodIn wsL_four (wsX7_init) := ggL_four_X7_init
set_option maxRecDepth 20000 in
theorem ggL_four_L_at : GoodIn wsL_four wsL_at := goodIn_r _ [69] (by decide +kernel) (by decide +kernel)
set_option maxRecDepth 20000 in
theorem gL_four_L_at : GoodIn wsL_four (va_wsS RL 189 yL_at wsL_at) := goodIn_app (goodIn_of _ (by decide +kernel)) ggL_four_L_at
set_option maxRecDepth 20000 in
theorem ggL_four_L_some : GoodIn wsL_four wsL_some := goodIn_r _ [72] (by decide +kernel) (by decide +kernel)
set_option maxRecDepth 20000 in
theorem gL_four_L_some : GoodIn wsL_four (va_wsS RL 193 yL_some wsL_some) := goodIn_app (goodIn_of _ (by decide +kernel)) ggL_four_L_some
set_option maxRecDepth 20000 in
theorem ggL_four_L_ask_c : GoodIn wsL_four (.codeWith yL_ask cL_ask 4 (some .int) [(0, 243, 463, 66), (244, 254, 463, 66), (255, 273, 463, 66), (274, 287, 463, 66), (288, 295, 463, 66), (296, 316, 463, 66), (317, 356, 463, 66), (357, 383, 463, 66), (384, 400, 463, 66), (401, 408, 463, 66), (409, 419, 463, 66), (420, 430, 463, 66), (431, 444, 463, 66), (445, 455, 463, 66), (456, 462, 463, 66), (0, 243, 467, 69), (244, 254, 467, 69), (255, 273, 467, 69), (274, 287, 467, 69), (288, 295, 467, 69), (296, 316, 467, 69), (317, 356, 467, 69), (357, 383, 467, 69), (384, 400, 467, 69), (401, 408, 467, 69), (409, 419, 467, 69), (420, 430, 467, 69), (431, 444, 467, 69), (445, 455, 467, 69), (456, 462, 467, 69), (0, 243, 471, 72), (244, 254, 471, 72), (255, 273, 471, 72), (274, 287, 471, 72), (288, 295, 471, 72), (296, 316, 471, 72), (317, 356, 471, 72), (357, 383, 471, 72), (384, 400, 471, 72), (401, 408, 471, 72), (409, 419, 471, 72), (420, 430, 471, 72), (431, 444, 471, 72), (445, 455, 471, 72), (456, 462, 471, 72), (0, 243, 475, 75), (244, 254, 475, 75), (255, 273, 475, 75), (274, 287, 475, 75), (288, 295, 475, 75), (296, 316, 475, 75), (317, 356, 475, 75), (357, 383, 475, 75), (384, 400, 475, 75), (401, 408, 475, 75), (409, 419, 475, 75), (420, 430, 475, 75), (431, 444, 475, 75), (445, 455, 475, 75), (456, 462, 475, 75), (0, 243, 479, 78), (244, 254, 479, 78), (255, 273, 479, 78), (274, 287, 479, 78), (288, 295, 479, 78), (296, 316, 479, 78), (317, 356, 479, 78), (357, 383, 479, 78), (384, 400, 479, 78), (401, 408, 479, 78), (409, 419, 479, 78), (420, 430, 479, 78), (431, 444, 479, 78), (445, 455, 479, 78), (456, 462, 479, 78)] :: []) := goodIn_r _ [75] (by decide +kernel) (by decide +kernel)
set_option maxRecDepth 20000 in
theorem ggL_four_L_ask_1 : GoodIn wsL_four wsL_ask_r1 := goodIn_r _ [76, 77, 78, 79, 80, 81, 82, 83, 84, 85, 86, 87, 88, 3, 89, 12, 90, 91, 92, 93, 94, 95, 96, 97] (by decide +kernel) (by decide +kernel)
set_option maxRecDepth 20000 in
theorem ggL_four_L_ask_2 : GoodIn wsL_four wsL_ask_r2 := goodIn_r _ [98, 99, 100, 101, 102, 103, 104, 105, 106, 107, 108, 14, 109, 110, 111, 112, 113, 114, 115, 38, 116, 117, 118, 119] (by decide +kernel) (by decide +kernel)
set_option maxRecDepth 20000 in
theorem ggL_four_L_ask_3 : GoodIn wsL_four wsL_ask_r3 := goodIn_r _ [120, 121, 122, 123, 124, 37, 125, 126, 127, 128, 129, 130, 131, 132, 133, 134, 135, 136, 137, 138, 139, 140, 141, 142] (by decide +kernel) (by decide +kernel)
set_option maxRecDepth 20000 in
theorem ggL_four_L_ask_4 : GoodIn wsL_four wsL_ask_r4 := goodIn_r _ [143, 144, 145, 146, 147, 148, 149, 150, 151, 152, 153, 154, 155, 156, 157, 158, 159, 160, 161, 162, 163, 164, 165, 166] (by decide +kernel) (by decide +kernel)
set_option maxRecDepth 20000 in
theorem ggL_four_L_ask_5 : GoodIn wsL_four wsL_ask_r5 := goodIn_r _ [167, 168, 169, 170, 171, 172, 173, 174, 175, 176, 177, 178, 179, 180, 181, 182, 183, 184, 185, 186, 187, 188, 189, 190] (by decide +kernel) (by decide +kernel)
set_option maxRecDepth 20000 in
theorem ggL_four_L_ask_6 : GoodIn wsL_four wsL_ask_r6 := goodIn_r _ [191, 192, 193, 194, 195, 196, 197, 198, 199, 200, 201, 202, 203, 204, 205, 206, 31, 32, 207, 208, 209, 210, 211, 212] (by decide +kernel) (by decide +kernel)
set_option maxRecDepth 20000 in
theorem ggL_four_L_ask_7 : GoodIn wsL_four wsL_ask_r7 := goodIn_r _ [213, 214, 215, 216, 217, 218, 219, 220, 221, 222, 223, 224, 225, 226, 227, 228, 229, 230, 231, 232, 233, 234, 235, 236] (by decide +kernel) (by decide +kernel)
set_option maxRecDepth 20000 in
theorem ggL_four_L_ask_8 : GoodIn wsL_four wsL_ask_r8 := goodIn_r _ [237, 238, 16, 239, 240, 241, 242, 243, 244, 18, 245, 43, 246, 247, 248, 249, 250, 251, 252, 253, 254, 255, 256, 257] (by decide +kernel) (by decide +kernel)
set_option maxRecDepth 20000 in
theorem ggL_four_L_ask_9 : GoodIn wsL_four wsL_ask_r9 := goodIn_r _ [258, 259, 260, 261, 262, 263, 264, 265, 266, 267, 268, 269, 270, 271, 272, 273, 274, 275, 276, 277, 278, 279, 280, 281] (by decide +kernel) (by decide +kernel)
set_option maxRecDepth 20000 in
theorem ggL_four_L_ask_10 : GoodIn wsL_four wsL_ask_r10 := goodIn_r _ [282, 283, 284, 285, 286, 287, 288, 289, 290, 291, 292, 293, 294, 295, 296, 297, 298, 299, 300, 301, 302, 303, 304, 305] (by decide +kernel) (by decide +kernel)
set_option maxRecDepth 20000 in
theorem ggL_four_L_ask_11 : GoodIn wsL_four wsL_ask_r11 := goodIn_r _ [306, 307, 308, 309, 310, 311, 312, 313, 314, 315, 316, 317, 318, 319, 320, 321, 322, 323, 324, 325, 326, 327, 328, 329] (by decide +kernel) (by decide +kernel)
set_option maxRecDepth 20000 in
theorem ggL_four_L_ask_12 : GoodIn wsL_four wsL_ask_r12 := goodIn_r _ [68, 330, 331, 332, 333, 334, 335, 336, 337, 338, 339, 340, 341, 342, 343, 344, 345, 346, 22, 347, 348, 349, 350, 351] (by decide +kernel) (by decide +kernel)
set_option maxRecDepth 20000 in
theorem ggL_four_L_ask_13 : GoodIn wsL_four wsL_ask_r13 := goodIn_r _ [352, 353, 354, 355, 356, 357, 21, 358, 359, 49, 50, 51, 360, 361, 362, 363, 364, 365, 366, 367, 368, 369, 370, 371] (by decide +kernel) (by decide +kernel)
set_option maxRecDepth 20000 in
theorem ggL_four_L_ask_14 : GoodIn wsL_four wsL_ask_r14 := goodIn_r _ [372, 373, 374, 375, 376, 377, 378, 379, 380, 381, 382, 383, 384, 385, 386, 387, 388, 389, 390, 391, 392, 393, 26, 394] (by decide +kernel) (by decide +kernel)
set_option maxRecDepth 20000 in
theorem ggL_four_L_ask_15 : GoodIn wsL_four wsL_ask_r15 := goodIn_r _ [395, 396, 397, 398, 399, 400, 401, 402, 403, 404, 405, 406, 25, 407, 408, 56, 57, 58, 59, 60, 409, 410, 411, 412] (by decide +kernel) (by decide +kernel)
set_option maxRecDepth 20000 in
theorem ggL_four_L_ask_16 : GoodIn wsL_four wsL_ask_r16 := goodIn_r _ [413, 414, 415, 30, 416, 417, 418, 419, 9, 10, 420, 421, 422, 423, 424, 425, 426, 427, 428, 429, 430, 431, 432, 433] (by decide +kernel) (by decide +kernel)
set_option maxRecDepth 20000 in
theorem ggL_four_L_ask_17 : GoodIn wsL_four wsL_ask_r17 := goodIn_r _ [434, 435, 436, 437, 438, 439, 440, 441, 442, 29, 443, 65, 444, 445, 446, 447, 448, 449, 450, 451, 452, 453, 454, 455] (by decide +kernel) (by decide +kernel)
set_option maxRecDepth 20000 in
theorem ggL_four_L_ask_18 : GoodIn wsL_four wsL_ask_r18 := goodIn_r _ [456, 457, 458, 459, 460, 461, 462, 463, 464, 465, 466, 467, 468, 469, 470, 471, 472, 473, 474, 475, 476, 477, 478, 479] (by decide +kernel) (by decide +kernel)
set_option maxRecDepth 20000 in
theorem ggL_four_L_ask_19 : GoodIn wsL_four wsL_ask_r19 := goodIn_r _ [480, 481, 482, 483, 484, 485, 486, 487, 488, 489, 490, 491, 492, 493, 494, 495, 496, 497, 498, 499, 500, 501, 502, 503] (by decide +kernel) (by decide +kernel)
set_option maxRecDepth 20000 in
theorem ggL_four_L_ask_20 : GoodIn wsL_four wsL_ask_r20 := goodIn_r _ [504, 505, 506, 507, 508, 509, 510, 511, 512, 513, 514, 515, 516, 517, 518, 519, 520, 521, 522, 523, 524, 525, 526, 527] (by decide +kernel) (by decide +kernel)
set_option maxRecDepth 20000 in
theorem ggL_four_L_ask_21 : GoodIn wsL_four wsL_ask_r21 := goodIn_r _ [528, 529, 530, 531, 532, 533, 534, 535, 536, 537, 538, 539, 540, 541, 542, 543, 544] (by decide +kernel) (by decide +kernel)
set_option maxRecDepth 20000 in
theorem ggL_four_L_ask_xwsX70 : GoodIn wsL_four wsX70 := goodIn_r _ [566, 567, 568, 569, 570, 571, 572, 573] (by decide +kernel) (by decide +kernel)
set_option maxRecDepth 20000 in
theorem ggL_four_L_ask_xwsX60 : GoodIn wsL_four wsX60 := goodIn_r _ [574, 575, 576, 577, 578, 579] (by decide +kernel) (by decide +kernel)
set_option maxRecDepth 20000 in
theorem ggL_four_L_ask_xwsX00 : GoodIn wsL_four wsX00 := goodIn_r _ [580, 581] (by decide +kernel) (by decide +kernel)
set_option maxRecDepth 20000 in
theorem ggL_four_L_ask_xwsX40 : GoodIn wsL_four wsX40 := goodIn_r _ [582, 583, 584, 585] (by decide +kernel) (by decide +kernel)
set_option maxRecDepth 20000 in
theorem ggL_four_L_ask_xwsX30 : GoodIn wsL_four wsX30 := goodIn_r _ [586, 587, 588, 589, 590, 591] (by decide +kernel) (by decide +kernel)
set_option maxRecDepth 20000 in
theorem ggL_four_L_ask_xwsX50 : GoodIn wsL_four wsX50 := goodIn_r _ [593, 594, 595, 596, 597, 598, 599, 600, 601, 602] (by decide +kernel) (by decide +kernel)
set_option maxRecDepth 20000 in
theorem ggL_four_L_ask_xwsX10 : GoodIn wsL_four wsX10 := goodIn_r _ [592] (by decide +kernel) (by decide +kernel)
set_option maxRecDepth 20000 in
theorem ggL_four_L_ask_xwsX20 : GoodIn wsL_four wsX20 := goodIn_r _ [603, 604, 605, 606] (by decide +kernel) (by decide +kernel)
set_option maxRecDepth 20000 in
theorem ggL_four_L_ask : GoodIn wsL_four wsL_ask := goodIn_ca (goodIn_ca (goodIn_ca (goodIn_ca (goodIn_ca (goodIn_app (a := [_]) ggL_four_L_ask_c (goodIn_app (goodIn_app (goodIn_app (goodIn_app (goodIn_app (goodIn_app (goodIn_app (goodIn_app (goodIn_app ggL_four_L_ask_1 (goodIn_app ggL_four_L_ask_2 (goodIn_app ggL_four_L_ask_3 (goodIn_app ggL_four_L_ask_4 (goodIn_app ggL_four_L_ask_5 (goodIn_app ggL_four_L_ask_6 (goodIn_app ggL_four_L_ask_7 (goodIn_app ggL_four_L_ask_8 (goodIn_app ggL_four_L_ask_9 (goodIn_app ggL_four_L_ask_10 (goodIn_app ggL_four_L_ask_11 (goodIn_app ggL_four_L_ask_12 (goodIn_app ggL_four_L_ask_13 (goodIn_app ggL_four_L_ask_14 (goodIn_app ggL_four_L_ask_15 (goodIn_app ggL_four_L_ask_16 (goodIn_app ggL_four_L_ask_17 (goodIn_app ggL_four_L_ask_18 (goodIn_app ggL_four_L_ask_19 (goodIn_app ggL_four_L_ask_20 (ggL_four_L_ask_21))))))))))))))))))))) ggL_four_L_ask_xwsX70) ggL_four_L_ask_xwsX60) ggL_four_L_ask_xwsX00) ggL_four_L_ask_xwsX40) ggL_four_L_ask_xwsX30) ggL_four_L_ask_xwsX50) ggL_four_L_ask_xwsX10) ggL_four_L_ask_xwsX20)) (goodIn_sub (fun _ h => List.mem_cons_of_mem _ (List.mem_append_left _ (List.mem_append_left _ (List.mem_append_left _ (List.mem_append_left _ (List.mem_append_right _ h)))))) (by decide +kernel))) (goodIn_sub (fun _ h => List.mem_cons_of_mem _ (List.mem_append_left _ (List.mem_append_left _ (List.mem_append_left _ (List.mem_append_right _ h))))) (by decide +kernel))) (goodIn_sub (fun _ h => List.mem_cons_of_mem _ (List.mem_append_left _ (List.mem_append_left _ (List.mem_append_right _ h)))) (by decide +kernel))) (goodIn_sub (fun _ h => List.mem_cons_of_mem _ (List.mem_append_left _ (List.mem_append_right _ h))) (by decide +kernel))) (goodIn_sub (fun _ h => List.mem_cons_of_mem _ (List.mem_append_right _ h)) (by decide +kernel))
set_option maxRecDepth 20000 in
theorem gL_four_L_ask : GoodIn wsL_four (va_wsS RL 174 yL_ask wsL_ask) := goodIn_app (goodIn_of _ (by decide +kernel)) ggL_four_L_ask
set_option maxRecDepth 20000 in
theorem ggL_four_X7_isSound : GoodIn wsL_four wsX7_isSound := goodIn_r _ [548, 16, 26, 549, 550, 551, 18, 552, 250, 300, 301, 302, 303, 304, 305, 306, 307, 43, 264, 265, 266, 267, 553, 554, 555, 556, 557, 558, 559, 560, 561, 340, 341, 342, 246, 247, 248, 249, 562, 563, 564, 25, 565, 408, 57, 58, 566, 567, 568, 569, 570, 571, 572, 573, 580, 581, 586, 587, 588, 589, 590, 591] (by decide +kernel) (by decide +kernel)
set_option maxRecDepth 20000 in
theorem gL_four_X7_isSound : GoodIn wsL_four (wsV RL 170 RX7 yX7_isSound wsX7_isSound) := goodIn_app (goodIn_of _ (by decide +kernel)) ggL_four_X7_isSound
set_option maxRecDepth 20000 in
theorem ggL_full_X7_init : GoodIn wsL_full wsX7_init := goodIn_r _ [9, 10, 11, 12, 13, 14, 15, 16, 17, 18, 19, 20, 21, 22, 23, 24, 25, 26, 27, 28, 29, 30, 31, 32, 33, 34, 35, 36, 37, 38, 4, 39, 40, 41, 42, 43, 44, 45, 46, 47, 48, 49, 50, 51, 52, 53, 54, 55, 56, 57, 58, 59, 60, 61, 62, 63, 64, 65, 66, 67, 568, 569, 570, 571, 572, 573, 574, 575, 576, 577, 578, 579, 580, 581, 582, 583, 584, 585, 586, 587, 588, 589, 590, 591, 592, 593, 594] (by decide +kernel) (by decide +kernel)
set_option maxRecDepth 20000 in
theorem gL_full_X7_init : GoodIn wsL_full (wsX7_init) := ggL_full_X7_init
set_option maxRecDepth 20000 in
theorem ggL_full_L_ask_c : GoodIn wsL_full (.codeWith yL_ask cL_ask 4 (some .int) [(0, 243, 463, 66), (244, 254, 463, 66), (255, 273, 463, 66), (274, 287, 463, 66), (288, 295, 463, 66), (296, 316, 463, 66), (317, 356, 463, 66), (357, 383, 463, 66), (384, 400, 463, 66), (401, 408, 463, 66), (409, 419, 463, 66), (420, 430, 463, 66), (431, 444, 463, 66), (445, 455, 463, 66), (456, 462, 463, 66), (0, 243, 467, 69), (244, 254, 467, 69), (255, 273, 467, 69), (274, 287, 467, 69), (288, 295, 467, 69), (296, 316, 467, 69), (317, 356, 467, 69), (357, 383, 467, 69), (384, 400, 467, 69), (401, 408, 467, 69), (409, 419, 467, 69), (420, 430, 467, 69), (431, 444, 467, 69), (445, 455, 467, 69), (456, 462, 467, 69), (0, 243, 471, 72), (244, 254, 471, 72), (255, 273, 471, 72), (274, 287, 471, 72), (288, 295, 471, 72), (296, 316, 471, 72), (317, 356, 471, 72), (357, 383, 471, 72), (384, 400, 471, 72), (401, 408, 471, 72), (409, 419, 471, 72), (420, 430, 471, 72), (431, 444, 471, 72), (445, 455, 471, 72), (456, 462, 471, 72), (0, 243, 475, 75), (244, 254, 475, 75), (255, 273, 475, 75), (274, 287, 475, 75), (288, 295, 475, 75), (296, 316, 475, 75), (317, 356, 475, 75), (357, 383, 475, 75), (384, 400, 475, 75), (401, 408, 475, 75), (409, 419, 475, 75), (420, 430, 475, 75), (431, 444, 475, 75), (445, 455, 475, 75), (456, 462, 475, 75), (0, 243, 479, 78), (244, 254, 479, 78), (255, 273, 479, 78), (274, 287, 479, 78), (288, 295, 479, 78), (296, 316, 479, 78), (317, 356, 479, 78), (357, 383, 479, 78), (384, 400, 479, 78), (401, 408, 479, 78), (409, 419, 479, 78), (420, 430, 479, 78), (431, 444, 479, 78), (445, 455, 479, 78), (456, 462, 479, 78)] :: []) := goodIn_r _ [71] (by decide +kernel) (by decide +kernel)
set_option maxRecDepth 20000 in
theorem ggL_full_L_ask_1 : GoodIn wsL_full wsL_ask_r1 := goodIn_r _ [72, 73, 74, 75, 76, 77, 78, 5, 79, 6, 80, 81, 82, 3, 83, 14, 84, 85, 86, 87, 88, 89, 90, 91] (by decide +kernel) (by decide +kernel)
set_option maxRecDepth 20000 in
theorem ggL_full_L_ask_2 : GoodIn wsL_full wsL_ask_r2 := goodIn_r _ [92, 93, 94, 95, 96, 97, 98, 99, 100, 101, 102, 16, 103, 104, 105, 106, 107, 108, 109, 40, 110, 111, 112, 113] (by decide +kernel) (by decide +kernel)
set_option maxRecDepth 20000 in
theorem ggL_full_L_ask_3 : GoodIn wsL_full wsL_ask_r3 := goodIn_r _ [114, 115, 116, 117, 118, 39, 119, 120, 121, 122, 123, 124, 125, 126, 127, 128, 129, 130, 131, 132, 133, 134, 135, 136] (by decide +kernel) (by decide +kernel)
set_option maxRecDepth 20000 in
theorem ggL_full_L_ask_4 : GoodIn wsL_full wsL_ask_r4 := goodIn_r _ [137, 138, 139, 140, 141, 142, 143, 144, 145, 146, 147, 148, 149, 150, 151, 152, 153, 154, 155, 156, 157, 158, 159, 160] (by decide +kernel) (by decide +kernel)
set_option maxRecDepth 20000 in
theorem ggL_full_L_ask_5 : GoodIn wsL_full wsL_ask_r5 := goodIn_r _ [161, 162, 163, 164, 165, 166, 167, 168, 169, 170, 171, 172, 173, 174, 175, 176, 177, 178, 179, 180, 181, 182, 183, 184] (by decide +kernel) (by decide +kernel)
set_option maxRecDepth 20000 in
theorem ggL_full_L_ask_6 : GoodIn wsL_full wsL_ask_r6 := goodIn_r _ [185, 186, 187, 188, 189, 190, 191, 192, 193, 194, 195, 196, 197, 198, 199, 200, 33, 34, 201, 202, 203, 204, 205, 206] (by decide +kernel) (by decide +kernel)
set_option maxRecDepth 20000 in
theorem ggL_full_L_ask_7 : GoodIn wsL_full wsL_ask_r7 := goodIn_r _ [207, 208, 209, 210, 211, 212, 213, 214, 215, 216, 217, 218, 219, 220, 221, 222, 223, 224, 225, 226, 227, 228, 229, 230] (by decide +kernel) (by decide +kernel)
set_option maxRecDepth 20000 in
theorem ggL_full_L_ask_8 : GoodIn wsL_full wsL_ask_r8 := goodIn_r _ [231, 232, 18, 233, 234, 235, 236, 237, 238, 20, 239, 45, 240, 241, 242, 243, 244, 245, 246, 247, 248, 249, 250, 251] (by decide +kernel) (by decide +kernel)
set_option maxRecDepth 20000 in
theorem ggL_full_L_ask_9 : GoodIn wsL_full wsL_ask_r9 := goodIn_r _ [252, 253, 254, 255, 256, 257, 258, 259, 260, 261, 262, 263, 264, 265, 266, 267, 268, 269, 270, 271, 272, 273, 274, 275] (by decide +kernel) (by decide +kernel)
set_option maxRecDepth 20000 in
theorem ggL_full_L_ask_10 : GoodIn wsL_full wsL_ask_r10 := goodIn_r _ [276, 277, 278, 279, 280, 281, 282, 283, 284, 285, 286, 287, 288, 289, 290, 291, 292, 293, 294, 295, 296, 297, 298, 299] (by decide +kernel) (by decide +kernel)
set_option maxRecDepth 20000 in
theorem ggL_full_L_ask_11 : GoodIn wsL_full wsL_ask_r11 := goodIn_r _ [300, 301, 302, 303, 304, 305, 306, 307, 308, 309, 310, 311, 312, 313, 314, 315, 316, 317, 318, 319, 320, 321, 322, 323] (by decide +kernel) (by decide +kernel)
set_option maxRecDepth 20000 in
theorem ggL_full_L_ask_12 : GoodIn wsL_full wsL_ask_r12 := goodIn_r _ [70, 324, 325, 326, 327, 328, 329, 330, 331, 332, 333, 334, 335, 336, 337, 338, 339, 340, 24, 341, 342, 343, 344, 345] (by decide +kernel) (by decide +kernel)
set_option maxRecDepth 20000 in
theorem ggL_full_L_ask_13 : GoodIn wsL_full wsL_ask_r13 := goodIn_r _ [346, 347, 348, 349, 350, 351, 23, 352, 353, 51, 52, 53, 354, 355, 356, 357, 358, 359, 360, 361, 362, 363, 364, 365] (by decide +kernel) (by decide +kernel)
set_option maxRecDepth 20000 in
theorem ggL_full_L_ask_14 : GoodIn wsL_full wsL_ask_r14 := goodIn_r _ [366, 367, 368, 369, 370, 371, 372, 373, 374, 375, 376, 377, 378, 379, 380, 381, 382, 383, 384, 385, 386, 387, 28, 388] (by decide +kernel) (by decide +kernel)
set_option maxRecDepth 20000 in
theorem ggL_full_L_ask_15 : GoodIn wsL_full wsL_ask_r15 := goodIn_r _ [389, 390, 391, 392, 393, 394, 395, 396, 397, 398, 399, 400, 27, 401, 402, 58, 59, 60, 61, 62, 403, 404, 405, 406] (by decide +kernel) (by decide +kernel)
set_option maxRecDepth 20000 in
theorem ggL_full_L_ask_16 : GoodIn wsL_full wsL_ask_r16 := goodIn_r _ [407, 408, 409, 32, 410, 411, 412, 413, 11, 12, 414, 415, 416, 417, 418, 419, 420, 421, 422, 423, 424, 425, 426, 427] (by decide +kernel) (by decide +kernel)
set_option maxRecDepth 20000 in
theorem ggL_full_L_ask_17 : GoodIn wsL_full wsL_ask_r17 := goodIn_r _ [428, 429, 430, 431, 432, 433, 434, 435, 436, 31, 437, 67, 438, 439, 440, 441, 442, 443, 444, 445, 446, 447, 448, 449] (by decide +kernel) (by decide +kernel)
set_option maxRecDepth 20000 in
theorem ggL_full_L_ask_18 : GoodIn wsL_full wsL_ask_r18 := goodIn_r _ [450, 451, 452, 453, 454, 455, 456, 457, 458, 459, 460, 461, 462, 463, 464, 465, 466, 467, 468, 469, 470, 471, 472, 473] (by decide +kernel) (by decide +kernel)
set_option maxRecDepth 20000 in
theorem ggL_full_L_ask_19 : GoodIn wsL_full wsL_ask_r19 := goodIn_r _ [474, 475, 476, 477, 478, 479, 480, 481, 482, 483, 484, 485, 486, 487, 488, 489, 490, 491, 492, 493, 494, 495, 496, 497] (by decide +kernel) (by decide +kernel)
set_option maxRecDepth 20000 in
theorem ggL_full_L_ask_20 : GoodIn wsL_full wsL_ask_r20 := goodIn_r _ [498, 499, 500, 501, 502, 503, 504, 505, 506, 507, 508, 509, 510, 511, 512, 513, 514, 515, 516, 517, 518, 519, 520, 521] (by decide +kernel) (by decide +kernel)
set_option maxRecDepth 20000 in
theorem ggL_full_L_ask_21 : GoodIn wsL_full wsL_ask_r21 := goodIn_r _ [522, 523, 524, 525, 526, 527, 528, 529, 530, 531, 532, 533, 534, 535, 536, 537, 538] (by decide +kernel) (by decide +kernel)
set_option maxRecDepth 20000 in
theorem ggL_full_L_ask_xwsX70 : GoodIn wsL_full wsX70 := goodIn_r _ [568, 569, 570, 571, 572, 573, 574, 575] (by decide +kernel) (by decide +kernel)
set_option maxRecDepth 20000 in
theorem ggL_full_L_ask_xwsX60 : GoodIn wsL_full wsX60 := goodIn_r _ [576, 577, 578, 579, 580, 581] (by decide +kernel) (by decide +kernel)
set_option maxRecDepth 20000 in
theorem ggL_full_L_ask_xwsX00 : GoodIn wsL_full wsX00 := goodIn_r _ [582, 583] (by decide +kernel) (by decide +kernel)
set_option maxRecDepth 20000 in
theorem ggL_full_L_ask_xwsX40 : GoodIn wsL_full wsX40 := goodIn_r _ [584, 585, 586, 587] (by decide +kernel) (by decide +kernel)
set_option maxRecDepth 20000 in
theorem ggL_full_L_ask_xwsX30 : GoodIn wsL_full wsX30 := goodIn_r _ [588, 589, 590, 591, 592, 593] (by decide +kernel) (by decide +kernel)
set_option maxRecDepth 20000 in
theorem ggL_full_L_ask_xwsX50 : GoodIn wsL_full wsX50 := goodIn_r _ [595, 596, 597, 598, 599, 600, 601, 602, 603, 604] (by decide +kernel) (by decide +kernel)
set_option maxRecDepth 20000 in
theorem ggL_full_L_ask_xwsX10 : GoodIn wsL_full wsX10 := goodIn_r _ [594] (by decide +kernel) (by decide +kernel)
set_option maxRecDepth 20000 in
theorem ggL_full_L_ask_xwsX20 : GoodIn wsL_full wsX20 := goodIn_r _ [605, 606, 607, 608] (by decide +kernel) (by decide +kernel)
set_option maxRecDepth 20000 in
theorem ggL_full_L_ask : GoodIn wsL_full wsL_ask := goodIn_ca (goodIn_ca (goodIn_ca (goodIn_ca (goodIn_ca (goodIn_app (a := [_]) ggL_full_L_ask_c (goodIn_app (goodIn_app (goodIn_app (goodIn_app (goodIn_app (goodIn_app (goodIn_app (goodIn_app (goodIn_app ggL_full_L_ask_1 (goodIn_app ggL_full_L_ask_2 (goodIn_app ggL_full_L_ask_3 (goodIn_app ggL_full_L_ask_4 (goodIn_app ggL_full_L_ask_5 (goodIn_app ggL_full_L_ask_6 (goodIn_app ggL_full_L_ask_7 (goodIn_app ggL_full_L_ask_8 (goodIn_app ggL_full_L_ask_9 (goodIn_app ggL_full_L_ask_10 (goodIn_app ggL_full_L_ask_11 (goodIn_app ggL_full_L_ask_12 (goodIn_app ggL_full_L_ask_13 (goodIn_app ggL_full_L_ask_14 (goodIn_app ggL_full_L_ask_15 (goodIn_app ggL_full_L_ask_16 (goodIn_app ggL_full_L_ask_17 (goodIn_app ggL_full_L_ask_18 (goodIn_app ggL_full_L_ask_19 (goodIn_app ggL_full_L_ask_20 (ggL_full_L_ask_21))))))))))))))))))))) ggL_full_L_ask_xwsX70) ggL_full_L_ask_xwsX60) ggL_full_L_ask_xwsX00) ggL_full_L_ask_xwsX40) ggL_full_L_ask_xwsX30) ggL_full_L_ask_xwsX50) ggL_full_L_ask_xwsX10) ggL_full_L_ask_xwsX20)) (goodIn_sub (fun _ h => List.mem_cons_of_mem _ (List.mem_append_left _ (List.mem_append_left _ (List.mem_append_left _ (List.mem_append_left _ (List.mem_append_right _ h)))))) (by decide +kernel))) (goodIn_sub (fun _ h => List.mem_cons_of_mem _ (List.mem_append_left _ (List.mem_append_left _ (List.mem_append_left _ (List.mem_append_right _ h))))) (by decide +kernel))) (goodIn_sub (fun _ h => List.mem_cons_of_mem _ (List.mem_append_left _ (List.mem_append_left _ (List.mem_append_right _ h)))) (by decide +kernel))) (goodIn_sub (fun _ h => List.mem_cons_of_mem _ (List.mem_append_left _ (List.mem_append_right _ h))) (by decide +kernel))) (goodIn_sub (fun _ h => List.mem_cons_of_mem _ (List.mem_append_right _ h)) (by decide +kernel))
set_option maxRecDepth 20000 in
theorem gL_full_L_ask : GoodIn wsL_full (va_wsS RL 174 yL_ask wsL_ask) := goodIn_app (goodIn_of _ (by decide +kernel)) ggL_full_L_ask
set_option maxRecDepth 20000 in
theorem ggL_full_X7_reset : GoodIn wsL_full wsX7_reset := goodIn_r _ [542, 24, 341, 568, 569, 570, 571, 572, 573, 574, 575, 584, 585, 586, 587] (by decide +kernel) (by decide +kernel)
set_option maxRecDepth 20000 in
theorem gL_full_X7_reset : GoodIn wsL_full (wsV RL 157 RX7 yX7_reset wsX7_reset) := goodIn_app (goodIn_of _ (by decide +kernel)) ggL_full_X7_reset
set_option maxRecDepth 20000 in
theorem ggL_full_X7_flips : GoodIn wsL_full wsX7_flips := goodIn_r _ [546, 14, 94, 568, 569, 570, 571, 572, 573, 574, 575, 576, 577, 578, 579, 580, 581] (by decide +kernel) (by decide +kernel)
set_option maxRecDepth 20000 in
theorem gL_full_X7_flips : GoodIn wsL_full (wsV RL 150 RX7 yX7_flips wsX7_flips) := goodIn_app (goodIn_of _ (by decide +kernel)) ggL_full_X7_flips
set_option maxRecDepth 20000 in
theorem ggL_full_X7_isSound : GoodIn wsL_full wsX7_isSound := goodIn_r _ [550, 18, 28, 551, 552, 553, 20, 554, 244, 294, 295, 296, 297, 298, 299, 300, 301, 45, 258, 259, 260, 261, 555, 556, 557, 558, 559, 560, 561, 562, 563, 334, 335, 336, 240, 241, 242, 243, 564, 565, 566, 27, 567, 402, 59, 60, 568, 569, 570, 571, 572, 573, 574, 575, 582, 583, 588, 589, 590, 591, 592, 593] (by decide +kernel) (by decide +kernel)
set_option maxRecDepth 20000 in
theorem gL_full_X7_isSound : GoodIn wsL_full (wsV RL 170 RX7 yX7_isSound wsX7_isSound) := goodIn_app (goodIn_of _ (by decide +kernel)) ggL_full_X7_isSound

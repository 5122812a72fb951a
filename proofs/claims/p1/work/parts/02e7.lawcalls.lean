set_option maxRecDepth 20000 in
theorem ggL_law_X7_init : GoodIn wsL_law wsX7_init := goodIn_r _ [10, 11, 12, 13, 14, 15, 16, 17, 18, 19, 20, 21, 22, 23, 24, 25, 26, 27, 28, 29, 30, 31, 32, 33, 34, 35, 36, 37, 38, 39, 40, 41, 42, 43, 44, 45, 46, 47, 48, 49, 50, 51, 52, 53, 54, 55, 56, 57, 58, 59, 60, 61, 62, 63, 64, 65, 66, 67, 68, 69, 1256, 1257, 1258, 1259, 1260, 1261, 1262, 1263, 1274, 1275, 1276, 1277, 1278, 1279, 1280, 1281, 1282, 1283, 1284, 1285, 1286, 1287, 1288, 1289, 1290, 1291, 1292] (by decide +kernel) (by decide +kernel)
set_option maxRecDepth 20000 in
theorem gL_law_X7_init : GoodIn wsL_law (wsX7_init) := ggL_law_X7_init
set_option maxRecDepth 20000 in
theorem ggL_law_X11_init : GoodIn wsL_law wsX11_init := goodIn_r _ [72, 73, 12, 13, 74, 75, 76, 77, 78, 79, 80, 40, 81, 82, 83, 84, 85, 86, 87, 88, 89, 90, 91, 92, 93, 94, 95, 96, 97, 98, 99, 100, 101, 102, 103, 1264, 1265, 1266, 1267, 1268, 1269, 1270, 1271, 1272, 1273, 1293, 1294, 1295] (by decide +kernel) (by decide +kernel)
set_option maxRecDepth 20000 in
theorem gL_law_X11_init : GoodIn wsL_law (wsX11_init) := ggL_law_X11_init
set_option maxRecDepth 20000 in
theorem ggL_law_L_idle : GoodIn wsL_law wsL_idle := goodIn_ca (goodIn_r _ [107, 108, 109, 110, 111, 2, 112, 15, 113, 114, 115, 116, 117, 118, 1256, 1257, 1258, 1259, 1260, 1261, 1262, 1263, 1274, 1275, 1276, 1277, 1278, 1279] (by decide +kernel) (by decide +kernel)) (goodIn_sub (fun _ h => List.mem_append_left _ (List.mem_append_left _ (List.mem_append_left _ (List.mem_append_left _ (List.mem_append_right _ h))))) (by decide +kernel))
set_option maxRecDepth 20000 in
theorem gL_law_L_idle : GoodIn wsL_law (va_wsS RL 138 yL_idle wsL_idle) := goodIn_app (goodIn_of _ (by decide +kernel)) ggL_law_L_idle
set_option maxRecDepth 20000 in
theorem ggL_law_X11_idle : GoodIn wsL_law wsX11_idle := goodIn_r _ [122, 75, 123, 124, 125, 5, 126, 88, 127, 128, 129, 130, 131, 132, 133, 1264, 1265, 1266, 1267, 1268, 1269, 1270, 1271, 1272, 1273] (by decide +kernel) (by decide +kernel)
set_option maxRecDepth 20000 in
theorem gL_law_X11_idle : GoodIn wsL_law (wsV RL 143 RX11 yX11_idle wsX11_idle) := goodIn_app (goodIn_of _ (by decide +kernel)) ggL_law_X11_idle
set_option maxRecDepth 20000 in
theorem ggL_law_X11_thrown : GoodIn wsL_law wsX11_thrown := goodIn_r _ [137, 88, 1264, 1265, 1266, 1267, 1268, 1269, 1270, 1271, 1272, 1273] (by decide +kernel) (by decide +kernel)
set_option maxRecDepth 20000 in
theorem gL_law_X11_thrown : GoodIn wsL_law (wsV RL 144 RX11 yX11_thrown wsX11_thrown) := goodIn_app (goodIn_of _ (by decide +kernel)) ggL_law_X11_thrown
set_option maxRecDepth 20000 in
theorem ggL_law_L_flip : GoodIn wsL_law wsL_flip := goodIn_ca (goodIn_ca (goodIn_ca (goodIn_r _ [140, 108, 141, 142, 143, 144, 145, 2, 146, 15, 147, 114, 115, 116, 117, 118, 148, 149, 150, 151, 152, 153, 154, 155, 17, 156, 157, 158, 159, 160, 161, 162, 42, 163, 164, 165, 166, 167, 168, 169, 170, 171, 41, 172, 173, 174, 175, 176, 177, 178, 179, 180, 181, 182, 183, 184, 185, 186, 187, 188, 189, 190, 191, 192, 193, 194, 195, 196, 1256, 1257, 1258, 1259, 1260, 1261, 1262, 1263, 1274, 1275, 1276, 1277, 1278, 1279] (by decide +kernel) (by decide +kernel)) (goodIn_sub (fun _ h => List.mem_append_left _ (List.mem_append_left _ (List.mem_append_left _ (List.mem_append_left _ (List.mem_append_right _ h))))) (by decide +kernel))) (goodIn_sub (fun _ h => List.mem_append_left _ (List.mem_append_left _ (List.mem_append_left _ (List.mem_append_right _ h)))) (by decide +kernel))) (goodIn_sub (fun _ h => List.mem_append_left _ (List.mem_append_left _ (List.mem_append_right _ h))) (by decide +kernel))
set_option maxRecDepth 20000 in
theorem gL_law_L_flip : GoodIn wsL_law (va_wsS RL 148 yL_flip wsL_flip) := goodIn_app (goodIn_of _ (by decide +kernel)) ggL_law_L_flip
set_option maxRecDepth 20000 in
theorem ggL_law_X11_flip : GoodIn wsL_law wsX11_flip := goodIn_r _ [200, 201, 77, 88, 123, 124, 125, 5, 126, 127, 128, 129, 130, 131, 132, 133, 202, 203, 204, 205, 1264, 1265, 1266, 1267, 1268, 1269, 1270, 1271, 1272, 1273] (by decide +kernel) (by decide +kernel)
set_option maxRecDepth 20000 in
theorem gL_law_X11_flip : GoodIn wsL_law (wsV RL 151 RX11 yX11_flip wsX11_flip) := goodIn_app (goodIn_of _ (by decide +kernel)) ggL_law_X11_flip
set_option maxRecDepth 20000 in
theorem ggL_law_L_level : GoodIn wsL_law wsL_level := goodIn_ca (goodIn_ca (goodIn_r _ [208, 108, 141, 209, 210, 211, 2, 212, 15, 114, 115, 116, 117, 118, 148, 149, 150, 151, 152, 213, 214, 215, 17, 216, 217, 172, 173, 174, 175, 167, 41, 1256, 1257, 1258, 1259, 1260, 1261, 1262, 1263, 1274, 1275, 1276, 1277, 1278, 1279] (by decide +kernel) (by decide +kernel)) (goodIn_sub (fun _ h => List.mem_append_left _ (List.mem_append_left _ (List.mem_append_left _ (List.mem_append_left _ (List.mem_append_right _ h))))) (by decide +kernel))) (goodIn_sub (fun _ h => List.mem_append_left _ (List.mem_append_left _ (List.mem_append_left _ (List.mem_append_right _ h)))) (by decide +kernel))
set_option maxRecDepth 20000 in
theorem gL_law_L_level : GoodIn wsL_law (va_wsS RL 152 yL_level wsL_level) := goodIn_app (goodIn_of _ (by decide +kernel)) ggL_law_L_level
set_option maxRecDepth 20000 in
theorem ggL_law_X11_level : GoodIn wsL_law wsX11_level := goodIn_r _ [221, 201, 88, 123, 124, 125, 5, 126, 127, 128, 129, 130, 131, 132, 133, 222, 223, 224, 225, 75, 77, 1264, 1265, 1266, 1267, 1268, 1269, 1270, 1271, 1272, 1273] (by decide +kernel) (by decide +kernel)
set_option maxRecDepth 20000 in
theorem gL_law_X11_level : GoodIn wsL_law (wsV RL 154 RX11 yX11_level wsX11_level) := goodIn_app (goodIn_of _ (by decide +kernel)) ggL_law_X11_level
set_option maxRecDepth 20000 in
theorem ggL_law_L_glitch : GoodIn wsL_law wsL_glitch := goodIn_ca (goodIn_ca (goodIn_ca (goodIn_r _ [228, 108, 141, 142, 229, 230, 231, 2, 232, 15, 147, 114, 115, 116, 117, 118, 148, 149, 150, 151, 152, 153, 154, 155, 17, 156, 157, 158, 159, 160, 161, 162, 42, 163, 164, 165, 166, 167, 168, 169, 170, 171, 41, 172, 173, 174, 175, 176, 177, 178, 179, 180, 181, 182, 183, 184, 185, 186, 187, 188, 189, 190, 191, 192, 193, 194, 195, 196, 1256, 1257, 1258, 1259, 1260, 1261, 1262, 1263, 1274, 1275, 1276, 1277, 1278, 1279] (by decide +kernel) (by decide +kernel)) (goodIn_sub (fun _ h => List.mem_append_left _ (List.mem_append_left _ (List.mem_append_left _ (List.mem_append_left _ (List.mem_append_right _ h))))) (by decide +kernel))) (goodIn_sub (fun _ h => List.mem_append_left _ (List.mem_append_left _ (List.mem_append_left _ (List.mem_append_right _ h)))) (by decide +kernel))) (goodIn_sub (fun _ h => List.mem_append_left _ (List.mem_append_left _ (List.mem_append_right _ h))) (by decide +kernel))
set_option maxRecDepth 20000 in
theorem gL_law_L_glitch : GoodIn wsL_law (va_wsS RL 155 yL_glitch wsL_glitch) := goodIn_app (goodIn_of _ (by decide +kernel)) ggL_law_L_glitch
set_option maxRecDepth 20000 in
theorem ggL_law_X11_glitch : GoodIn wsL_law wsX11_glitch := goodIn_r _ [236, 201, 237, 88, 77, 123, 124, 125, 5, 126, 127, 128, 129, 130, 131, 132, 133, 238, 239, 240, 241, 242, 243, 244, 245, 246, 247, 248, 249, 250, 251, 252, 253, 202, 203, 204, 205, 1264, 1265, 1266, 1267, 1268, 1269, 1270, 1271, 1272, 1273] (by decide +kernel) (by decide +kernel)
set_option maxRecDepth 20000 in
theorem gL_law_X11_glitch : GoodIn wsL_law (wsV RL 158 RX11 yX11_glitch wsX11_glitch) := goodIn_app (goodIn_of _ (by decide +kernel)) ggL_law_X11_glitch
set_option maxRecDepth 20000 in
theorem ggL_law_L_drift : GoodIn wsL_law wsL_drift := goodIn_ca (goodIn_r _ [256, 141, 257, 258, 259, 2, 260, 261, 148, 149, 150, 151, 152, 1256, 1257, 1258, 1259, 1260, 1261, 1262, 1263] (by decide +kernel) (by decide +kernel)) (goodIn_sub (fun _ h => List.mem_append_left _ (List.mem_append_left _ (List.mem_append_left _ (List.mem_append_right _ h)))) (by decide +kernel))
set_option maxRecDepth 20000 in
theorem gL_law_L_drift : GoodIn wsL_law (va_wsS RL 159 yL_drift wsL_drift) := goodIn_app (goodIn_of _ (by decide +kernel)) ggL_law_L_drift
set_option maxRecDepth 20000 in
theorem ggL_law_X11_drift : GoodIn wsL_law wsX11_drift := goodIn_r _ [265, 266, 267, 88, 268, 131, 132, 5, 133, 1264, 1265, 1266, 1267, 1268, 1269, 1270, 1271, 1272, 1273] (by decide +kernel) (by decide +kernel)
set_option maxRecDepth 20000 in
theorem gL_law_X11_drift : GoodIn wsL_law (wsV RL 162 RX11 yX11_drift wsX11_drift) := goodIn_app (goodIn_of _ (by decide +kernel)) ggL_law_X11_drift
set_option maxRecDepth 20000 in
theorem ggL_law_L_serial : GoodIn wsL_law wsL_serial := goodIn_ca (goodIn_ca (goodIn_ca (goodIn_r _ [271, 108, 141, 142, 272, 273, 274, 2, 275, 15, 114, 115, 116, 117, 118, 148, 149, 150, 151, 152, 276, 277, 278, 279, 280, 281, 282, 283, 284, 285, 286, 287, 288, 289, 290, 291, 292, 293, 294, 153, 154, 155, 17, 156, 157, 158, 295, 296, 297, 298, 299, 300, 301, 261, 302, 303, 304, 305, 306, 160, 161, 162, 42, 163, 164, 165, 166, 167, 168, 169, 170, 171, 41, 172, 173, 174, 175, 176, 177, 178, 179, 180, 181, 182, 183, 184, 185, 186, 187, 188, 189, 190, 191, 192, 193, 194, 195, 196, 1256, 1257, 1258, 1259, 1260, 1261, 1262, 1263, 1274, 1275, 1276, 1277, 1278, 1279] (by decide +kernel) (by decide +kernel)) (goodIn_sub (fun _ h => List.mem_append_left _ (List.mem_append_left _ (List.mem_append_left _ (List.mem_append_left _ (List.mem_append_right _ h))))) (by decide +kernel))) (goodIn_sub (fun _ h => List.mem_append_left _ (List.mem_append_left _ (List.mem_append_left _ (List.mem_append_right _ h)))) (by decide +kernel))) (goodIn_sub (fun _ h => List.mem_append_left _ (List.mem_append_left _ (List.mem_append_right _ h))) (by decide +kernel))
set_option maxRecDepth 20000 in
theorem gL_law_L_serial : GoodIn wsL_law (va_wsS RL 163 yL_serial wsL_serial) := goodIn_app (goodIn_of _ (by decide +kernel)) ggL_law_L_serial
set_option maxRecDepth 20000 in
theorem ggL_law_X11_serial : GoodIn wsL_law wsX11_serial := goodIn_r _ [310, 311, 201, 312, 267, 88, 313, 314, 315, 123, 124, 125, 5, 126, 127, 128, 129, 130, 131, 132, 133, 316, 317, 318, 319, 320, 321, 322, 323, 12, 13, 324, 74, 325, 326, 327, 239, 240, 241, 242, 77, 243, 244, 245, 246, 247, 328, 329, 330, 331, 332, 333, 334, 268, 249, 250, 335, 289, 290, 291, 292, 293, 294, 336, 337, 338, 339, 252, 253, 1264, 1265, 1266, 1267, 1268, 1269, 1270, 1271, 1272, 1273, 1296, 1297, 1298, 1299, 1300] (by decide +kernel) (by decide +kernel)
set_option maxRecDepth 20000 in
theorem gL_law_X11_serial : GoodIn wsL_law (wsV RL 166 RX11 yX11_serial wsX11_serial) := goodIn_app (goodIn_of _ (by decide +kernel)) ggL_law_X11_serial
set_option maxRecDepth 20000 in
theorem ggL_law_X7_answers : GoodIn wsL_law wsX7_answers := goodIn_r _ [343, 34, 35, 1256, 1257, 1258, 1259, 1260, 1261, 1262, 1263] (by decide +kernel) (by decide +kernel)
set_option maxRecDepth 20000 in
theorem gL_law_X7_answers : GoodIn wsL_law (wsV RL 167 RX7 yX7_answers wsX7_answers) := goodIn_app (goodIn_of _ (by decide +kernel)) ggL_law_X7_answers
set_option maxRecDepth 20000 in
theorem ggL_law_X11_answers : GoodIn wsL_law wsX11_answers := goodIn_r _ [347, 88, 78, 79, 1264, 1265, 1266, 1267, 1268, 1269, 1270, 1271, 1272, 1273] (by decide +kernel) (by decide +kernel)
set_option maxRecDepth 20000 in
theorem gL_law_X11_answers : GoodIn wsL_law (wsV RL 171 RX11 yX11_answers wsX11_answers) := goodIn_app (goodIn_of _ (by decide +kernel)) ggL_law_X11_answers
set_option maxRecDepth 20000 in
theorem ggL_law_L_twoWires : GoodIn wsL_law wsL_twoWires := goodIn_ca (goodIn_ca (goodIn_ca (goodIn_r _ [350, 108, 141, 142, 351, 352, 353, 2, 354, 34, 35, 15, 114, 115, 116, 117, 118, 148, 149, 150, 151, 152, 355, 356, 357, 358, 359, 360, 361, 362, 363, 364, 153, 154, 155, 17, 156, 157, 158, 302, 303, 304, 305, 306, 160, 161, 162, 42, 298, 299, 300, 301, 261, 295, 296, 297, 163, 164, 165, 166, 167, 168, 169, 170, 171, 41, 172, 173, 174, 175, 176, 177, 178, 179, 180, 181, 182, 183, 184, 185, 186, 187, 188, 189, 190, 191, 192, 193, 194, 195, 196, 1256, 1257, 1258, 1259, 1260, 1261, 1262, 1263, 1274, 1275, 1276, 1277, 1278, 1279] (by decide +kernel) (by decide +kernel)) (goodIn_sub (fun _ h => List.mem_append_left _ (List.mem_append_left _ (List.mem_append_left _ (List.mem_append_left _ (List.mem_append_right _ h))))) (by decide +kernel))) (goodIn_sub (fun _ h => List.mem_append_left _ (List.mem_append_left _ (List.mem_append_left _ (List.mem_append_right _ h)))) (by decide +kernel))) (goodIn_sub (fun _ h => List.mem_append_left _ (List.mem_append_left _ (List.mem_append_right _ h))) (by decide +kernel))
set_option maxRecDepth 20000 in
theorem gL_law_L_twoWires : GoodIn wsL_law (va_wsS RL 172 yL_twoWires wsL_twoWires) := goodIn_app (goodIn_of _ (by decide +kernel)) ggL_law_L_twoWires
set_option maxRecDepth 20000 in
theorem ggL_law_X11_twoWires : GoodIn wsL_law wsX11_twoWires := goodIn_r _ [368, 88, 369, 370, 311, 201, 267, 313, 314, 315, 40, 78, 79, 127, 128, 5, 129, 130, 131, 132, 133, 319, 320, 321, 322, 323, 12, 13, 324, 74, 325, 326, 327, 239, 240, 241, 242, 77, 243, 244, 245, 246, 247, 328, 329, 330, 331, 332, 333, 334, 268, 249, 250, 336, 337, 338, 339, 252, 253, 1264, 1265, 1266, 1267, 1268, 1269, 1270, 1271, 1272, 1273, 1296, 1297, 1298, 1299, 1300] (by decide +kernel) (by decide +kernel)
set_option maxRecDepth 20000 in
theorem gL_law_X11_twoWires : GoodIn wsL_law (wsV RL 175 RX11 yX11_twoWires wsX11_twoWires) := goodIn_app (goodIn_of _ (by decide +kernel)) ggL_law_X11_twoWires
set_option maxRecDepth 20000 in
theorem ggL_law_L_fourWires : GoodIn wsL_law wsL_fourWires := goodIn_ca (goodIn_ca (goodIn_ca (goodIn_r _ [373, 108, 141, 142, 374, 375, 376, 2, 377, 15, 114, 115, 116, 117, 118, 148, 149, 150, 151, 152, 378, 379, 380, 355, 356, 357, 298, 299, 300, 301, 261, 381, 382, 383, 153, 154, 155, 17, 156, 157, 158, 302, 303, 304, 305, 306, 160, 161, 162, 42, 384, 385, 386, 387, 388, 389, 390, 391, 295, 296, 297, 163, 164, 165, 166, 167, 168, 169, 170, 171, 41, 172, 173, 174, 175, 176, 177, 178, 179, 180, 181, 182, 183, 184, 185, 186, 187, 188, 189, 190, 191, 192, 193, 194, 195, 196, 1256, 1257, 1258, 1259, 1260, 1261, 1262, 1263, 1274, 1275, 1276, 1277, 1278, 1279] (by decide +kernel) (by decide +kernel)) (goodIn_sub (fun _ h => List.mem_append_left _ (List.mem_append_left _ (List.mem_append_left _ (List.mem_append_left _ (List.mem_append_right _ h))))) (by decide +kernel))) (goodIn_sub (fun _ h => List.mem_append_left _ (List.mem_append_left _ (List.mem_append_left _ (List.mem_append_right _ h)))) (by decide +kernel))) (goodIn_sub (fun _ h => List.mem_append_left _ (List.mem_append_left _ (List.mem_append_right _ h))) (by decide +kernel))
set_option maxRecDepth 20000 in
theorem gL_law_L_fourWires : GoodIn wsL_law (va_wsS RL 176 yL_fourWires wsL_fourWires) := goodIn_app (goodIn_of _ (by decide +kernel)) ggL_law_L_fourWires
set_option maxRecDepth 20000 in
theorem ggL_law_X11_fourWires : GoodIn wsL_law wsX11_fourWires := goodIn_r _ [395, 88, 311, 201, 267, 130, 313, 314, 315, 127, 128, 5, 129, 131, 132, 133, 319, 320, 321, 322, 323, 12, 13, 324, 74, 325, 326, 327, 239, 240, 241, 242, 77, 243, 244, 245, 246, 247, 328, 329, 330, 331, 332, 333, 334, 268, 249, 250, 336, 337, 338, 339, 252, 253, 1264, 1265, 1266, 1267, 1268, 1269, 1270, 1271, 1272, 1273, 1296, 1297, 1298, 1299, 1300] (by decide +kernel) (by decide +kernel)
set_option maxRecDepth 20000 in
theorem gL_law_X11_fourWires : GoodIn wsL_law (wsV RL 179 RX11 yX11_fourWires wsX11_fourWires) := goodIn_app (goodIn_of _ (by decide +kernel)) ggL_law_X11_fourWires
set_option maxRecDepth 20000 in
theorem ggL_law_L_capture : GoodIn wsL_law wsL_capture := goodIn_ca (goodIn_ca (goodIn_r _ [398, 108, 141, 399, 400, 401, 2, 402, 19, 15, 403, 404, 405, 117, 118, 148, 149, 150, 151, 152, 406, 407, 408, 21, 409, 47, 410, 411, 412, 413, 414, 415, 416, 417, 418, 419, 420, 421, 17, 422, 217, 423, 167, 41, 424, 425, 426, 427, 428, 429, 430, 431, 432, 433, 434, 435, 436, 437, 438, 439, 1256, 1257, 1258, 1259, 1260, 1261, 1262, 1263, 1280, 1281, 1274, 1275, 1276, 1277, 1278, 1279] (by decide +kernel) (by decide +kernel)) (goodIn_sub (fun _ h => List.mem_append_left _ (List.mem_append_left _ (List.mem_append_left _ (List.mem_append_left _ (List.mem_append_right _ h))))) (by decide +kernel))) (goodIn_sub (fun _ h => List.mem_append_left _ (List.mem_append_left _ (List.mem_append_left _ (List.mem_append_right _ h)))) (by decide +kernel))
set_option maxRecDepth 20000 in
theorem gL_law_L_capture : GoodIn wsL_law (va_wsS RL 180 yL_capture wsL_capture) := goodIn_app (goodIn_of _ (by decide +kernel)) ggL_law_L_capture
set_option maxRecDepth 20000 in
theorem ggL_law_X11_capture : GoodIn wsL_law wsX11_capture := goodIn_r _ [443, 201, 237, 444, 88, 40, 75, 243, 244, 245, 246, 247, 242, 77, 81, 445, 446, 447, 5, 448, 131, 132, 133, 1264, 1265, 1266, 1267, 1268, 1269, 1270, 1271, 1272, 1273] (by decide +kernel) (by decide +kernel)
set_option maxRecDepth 20000 in
theorem gL_law_X11_capture : GoodIn wsL_law (wsV RL 183 RX11 yX11_capture wsX11_capture) := goodIn_app (goodIn_of _ (by decide +kernel)) ggL_law_X11_capture
set_option maxRecDepth 20000 in
theorem ggL_law_L_samples : GoodIn wsL_law wsL_samples := goodIn_ca (goodIn_r _ [451, 108, 452, 453, 454, 2, 455, 19, 456, 403, 404, 405, 117, 118, 1256, 1257, 1258, 1259, 1260, 1261, 1262, 1263, 1280, 1281] (by decide +kernel) (by decide +kernel)) (goodIn_sub (fun _ h => List.mem_append_left _ (List.mem_append_left _ (List.mem_append_left _ (List.mem_append_left _ (List.mem_append_right _ h))))) (by decide +kernel))
set_option maxRecDepth 20000 in
theorem gL_law_L_samples : GoodIn wsL_law (va_wsS RL 184 yL_samples wsL_samples) := goodIn_app (goodIn_of _ (by decide +kernel)) ggL_law_L_samples
set_option maxRecDepth 20000 in
theorem ggL_law_X11_samples : GoodIn wsL_law wsX11_samples := goodIn_r _ [460, 81, 445, 446, 447, 5, 448, 88, 131, 132, 133, 1264, 1265, 1266, 1267, 1268, 1269, 1270, 1271, 1272, 1273] (by decide +kernel) (by decide +kernel)
set_option maxRecDepth 20000 in
theorem gL_law_X11_samples : GoodIn wsL_law (wsV RL 186 RX11 yX11_samples wsX11_samples) := goodIn_app (goodIn_of _ (by decide +kernel)) ggL_law_X11_samples
set_option maxRecDepth 20000 in
theorem ggL_law_L_sample : GoodIn wsL_law wsL_sample := goodIn_ca (goodIn_ca (goodIn_r _ [463, 108, 464, 465, 466, 467, 2, 468, 19, 403, 404, 405, 117, 118, 469, 429, 430, 21, 431, 414, 47, 470, 471, 472, 473, 474, 475, 437, 438, 439, 428, 1256, 1257, 1258, 1259, 1260, 1261, 1262, 1263, 1280, 1281] (by decide +kernel) (by decide +kernel)) (goodIn_sub (fun _ h => List.mem_append_left _ (List.mem_append_left _ (List.mem_append_left _ (List.mem_append_left _ (List.mem_append_right _ h))))) (by decide +kernel))) (goodIn_sub (fun _ h => List.mem_append_left _ (List.mem_append_right _ h)) (by decide +kernel))
set_option maxRecDepth 20000 in
theorem gL_law_L_sample : GoodIn wsL_law (va_wsS RL 187 yL_sample wsL_sample) := goodIn_app (goodIn_of _ (by decide +kernel)) ggL_law_L_sample
set_option maxRecDepth 20000 in
theorem ggL_law_X11_sample : GoodIn wsL_law wsX11_sample := goodIn_r _ [479, 81, 88, 445, 446, 447, 5, 448, 131, 132, 133, 1264, 1265, 1266, 1267, 1268, 1269, 1270, 1271, 1272, 1273] (by decide +kernel) (by decide +kernel)
set_option maxRecDepth 20000 in
theorem gL_law_X11_sample : GoodIn wsL_law (wsV RL 189 RX11 yX11_sample wsX11_sample) := goodIn_app (goodIn_of _ (by decide +kernel)) ggL_law_X11_sample
set_option maxRecDepth 20000 in
theorem ggL_law_L_runs : GoodIn wsL_law wsL_runs := goodIn_ca (goodIn_r _ [482, 108, 483, 484, 485, 2, 486, 19, 403, 404, 405, 117, 118, 114, 115, 116, 487, 488, 489, 21, 490, 414, 491, 492, 493, 494, 495, 496, 497, 498, 47, 428, 429, 430, 431, 1256, 1257, 1258, 1259, 1260, 1261, 1262, 1263, 1280, 1281] (by decide +kernel) (by decide +kernel)) (goodIn_sub (fun _ h => List.mem_append_left _ (List.mem_append_left _ (List.mem_append_left _ (List.mem_append_left _ (List.mem_append_right _ h))))) (by decide +kernel))
set_option maxRecDepth 20000 in
theorem gL_law_L_runs : GoodIn wsL_law (va_wsS RL 190 yL_runs wsL_runs) := goodIn_app (goodIn_of _ (by decide +kernel)) ggL_law_L_runs
set_option maxRecDepth 20000 in
theorem ggL_law_X11_runs : GoodIn wsL_law wsX11_runs := goodIn_r _ [502, 503, 504, 505, 5, 506, 88, 131, 132, 133, 127, 128, 129, 130, 507, 508, 509, 510, 82, 83, 84, 81, 511, 89, 90, 91, 92, 93, 94, 95, 96, 97, 98, 99, 100, 101, 102, 103, 12, 13, 512, 513, 514, 515, 516, 517, 518, 519, 520, 521, 290, 522, 523, 524, 525, 526, 527, 528, 529, 530, 531, 532, 533, 534, 535, 536, 537, 538, 539, 540, 541, 542, 543, 544, 545, 546, 547, 548, 549, 550, 551, 552, 553, 554, 555, 556, 412, 557, 558, 559, 560, 561, 562, 563, 564, 565, 566, 567, 568, 569, 417, 570, 571, 572, 573, 574, 575, 576, 577, 578, 579, 580, 411, 413, 581, 582, 583, 584, 585, 586, 587, 588, 589, 590, 591, 592, 593, 594, 595, 596, 597, 598, 599, 600, 601, 602, 603, 604, 605, 606, 607, 608, 609, 610, 611, 612, 1264, 1265, 1266, 1267, 1268, 1269, 1270, 1271, 1272, 1273, 1293, 1294, 1295, 1301] (by decide +kernel) (by decide +kernel)
set_option maxRecDepth 20000 in
theorem gL_law_X11_runs : GoodIn wsL_law (wsV RL 192 RX11 yX11_runs wsX11_runs) := goodIn_app (goodIn_of _ (by decide +kernel)) ggL_law_X11_runs
set_option maxRecDepth 20000 in
theorem ggL_law_L_run : GoodIn wsL_law wsL_run := goodIn_ca (goodIn_ca (goodIn_r _ [615, 108, 464, 616, 617, 618, 2, 619, 19, 403, 404, 405, 117, 118, 114, 115, 116, 620, 621, 622, 21, 623, 414, 491, 492, 493, 494, 495, 496, 497, 498, 47, 428, 429, 430, 431, 470, 471, 472, 473, 474, 1256, 1257, 1258, 1259, 1260, 1261, 1262, 1263, 1280, 1281] (by decide +kernel) (by decide +kernel)) (goodIn_sub (fun _ h => List.mem_append_left _ (List.mem_append_left _ (List.mem_append_left _ (List.mem_append_left _ (List.mem_append_right _ h))))) (by decide +kernel))) (goodIn_sub (fun _ h => List.mem_append_left _ (List.mem_append_right _ h)) (by decide +kernel))
set_option maxRecDepth 20000 in
theorem gL_law_L_run : GoodIn wsL_law (va_wsS RL 193 yL_run wsL_run) := goodIn_app (goodIn_of _ (by decide +kernel)) ggL_law_L_run
set_option maxRecDepth 20000 in
theorem ggL_law_X11_run : GoodIn wsL_law wsX11_run := goodIn_r _ [627, 88, 511, 503, 504, 505, 5, 506, 131, 132, 133, 127, 128, 129, 130, 507, 508, 509, 510, 82, 83, 84, 81, 89, 90, 91, 92, 93, 94, 95, 96, 97, 98, 99, 100, 101, 102, 103, 12, 13, 512, 513, 514, 515, 516, 517, 518, 519, 520, 521, 290, 522, 523, 524, 525, 526, 527, 528, 529, 530, 531, 532, 533, 534, 535, 536, 537, 538, 539, 540, 541, 542, 543, 544, 545, 546, 547, 548, 549, 550, 551, 552, 553, 554, 555, 556, 412, 557, 558, 559, 560, 561, 562, 563, 564, 565, 566, 567, 568, 569, 417, 570, 571, 572, 573, 574, 575, 576, 577, 578, 579, 580, 411, 413, 581, 582, 583, 584, 585, 586, 587, 588, 589, 590, 591, 592, 593, 594, 595, 596, 597, 598, 599, 600, 601, 602, 603, 604, 605, 606, 607, 608, 609, 610, 611, 612, 1264, 1265, 1266, 1267, 1268, 1269, 1270, 1271, 1272, 1273, 1293, 1294, 1295, 1301] (by decide +kernel) (by decide +kernel)
set_option maxRecDepth 20000 in
theorem gL_law_X11_run : GoodIn wsL_law (wsV RL 195 RX11 yX11_run wsX11_run) := goodIn_app (goodIn_of _ (by decide +kernel)) ggL_law_X11_run
set_option maxRecDepth 20000 in
theorem ggL_law_L_shortest : GoodIn wsL_law wsL_shortest := goodIn_ca (goodIn_ca (goodIn_r _ [630, 108, 464, 631, 632, 633, 2, 634, 635, 636, 637, 638, 19, 403, 404, 405, 117, 118, 114, 115, 116, 639, 640, 641, 21, 642, 414, 491, 492, 493, 494, 495, 496, 497, 498, 47, 428, 429, 430, 431, 470, 471, 472, 473, 474, 1256, 1257, 1258, 1259, 1260, 1261, 1262, 1263, 1280, 1281] (by decide +kernel) (by decide +kernel)) (goodIn_sub (fun _ h => List.mem_append_left _ (List.mem_append_left _ (List.mem_append_left _ (List.mem_append_left _ (List.mem_append_right _ h))))) (by decide +kernel))) (goodIn_sub (fun _ h => List.mem_append_left _ (List.mem_append_right _ h)) (by decide +kernel))
set_option maxRecDepth 20000 in
theorem gL_law_L_shortest : GoodIn wsL_law (va_wsS RL 196 yL_shortest wsL_shortest) := goodIn_app (goodIn_of _ (by decide +kernel)) ggL_law_L_shortest
set_option maxRecDepth 20000 in
theorem ggL_law_X11_shortest : GoodIn wsL_law wsX11_shortest := goodIn_r _ [646, 511, 647, 411, 412, 413, 88, 503, 504, 505, 5, 506, 131, 132, 133, 127, 128, 129, 130, 507, 508, 509, 510, 82, 83, 84, 81, 89, 90, 91, 92, 93, 94, 95, 96, 97, 98, 99, 100, 101, 102, 103, 12, 13, 512, 513, 514, 515, 516, 517, 518, 519, 520, 521, 290, 522, 523, 524, 525, 526, 527, 528, 529, 530, 531, 532, 533, 534, 535, 536, 537, 538, 539, 540, 541, 542, 543, 544, 545, 546, 547, 548, 549, 550, 551, 552, 553, 554, 555, 556, 557, 558, 559, 560, 561, 562, 563, 564, 565, 566, 567, 568, 569, 417, 570, 571, 572, 573, 574, 575, 576, 577, 578, 579, 580, 581, 582, 583, 584, 585, 586, 587, 588, 589, 590, 591, 592, 593, 594, 595, 596, 597, 598, 599, 600, 601, 602, 603, 604, 605, 606, 607, 608, 609, 610, 611, 612, 1264, 1265, 1266, 1267, 1268, 1269, 1270, 1271, 1272, 1273, 1293, 1294, 1295, 1301] (by decide +kernel) (by decide +kernel)
set_option maxRecDepth 20000 in
theorem gL_law_X11_shortest : GoodIn wsL_law (wsV RL 198 RX11 yX11_shortest wsX11_shortest) := goodIn_app (goodIn_of _ (by decide +kernel)) ggL_law_X11_shortest
set_option maxRecDepth 20000 in
theorem ggL_law_L_block : GoodIn wsL_law wsL_block := goodIn_ca (goodIn_ca (goodIn_ca (goodIn_r _ [650, 108, 141, 464, 651, 652, 653, 2, 654, 19, 403, 404, 405, 117, 118, 114, 115, 116, 148, 149, 150, 151, 152, 655, 656, 657, 21, 658, 414, 470, 471, 472, 473, 474, 659, 660, 661, 662, 410, 411, 412, 413, 491, 492, 493, 494, 495, 496, 497, 498, 47, 428, 429, 430, 431, 1256, 1257, 1258, 1259, 1260, 1261, 1262, 1263, 1280, 1281] (by decide +kernel) (by decide +kernel)) (goodIn_sub (fun _ h => List.mem_append_left _ (List.mem_append_left _ (List.mem_append_left _ (List.mem_append_left _ (List.mem_append_right _ h))))) (by decide +kernel))) (goodIn_sub (fun _ h => List.mem_append_left _ (List.mem_append_left _ (List.mem_append_left _ (List.mem_append_right _ h)))) (by decide +kernel))) (goodIn_sub (fun _ h => List.mem_append_left _ (List.mem_append_right _ h)) (by decide +kernel))
set_option maxRecDepth 20000 in
theorem gL_law_L_block : GoodIn wsL_law (va_wsS RL 199 yL_block wsL_block) := goodIn_app (goodIn_of _ (by decide +kernel)) ggL_law_L_block
set_option maxRecDepth 20000 in
theorem ggL_law_X11_block : GoodIn wsL_law wsX11_block := goodIn_r _ [666, 667, 88, 81, 668, 556, 412, 557, 647, 411, 413, 503, 504, 505, 5, 506, 131, 132, 133, 127, 128, 129, 130, 516, 517, 518, 519, 1264, 1265, 1266, 1267, 1268, 1269, 1270, 1271, 1272, 1273] (by decide +kernel) (by decide +kernel)
set_option maxRecDepth 20000 in
theorem gL_law_X11_block : GoodIn wsL_law (wsV RL 201 RX11 yX11_block wsX11_block) := goodIn_app (goodIn_of _ (by decide +kernel)) ggL_law_X11_block
set_option maxRecDepth 20000 in
theorem ggL_law_L_step : GoodIn wsL_law wsL_step := goodIn_ca (goodIn_ca (goodIn_ca (goodIn_r _ [671, 108, 141, 142, 672, 673, 674, 2, 675, 25, 676, 114, 115, 116, 117, 118, 677, 678, 679, 151, 152, 148, 149, 150, 680, 681, 682, 683, 179, 180, 684, 685, 686, 24, 687, 688, 53, 54, 55, 1256, 1257, 1258, 1259, 1260, 1261, 1262, 1263, 1282, 1283, 1284, 1285] (by decide +kernel) (by decide +kernel)) (goodIn_sub (fun _ h => List.mem_append_left _ (List.mem_append_left _ (List.mem_append_left _ (List.mem_append_left _ (List.mem_append_right _ h))))) (by decide +kernel))) (goodIn_sub (fun _ h => List.mem_append_left _ (List.mem_append_left _ (List.mem_append_left _ (List.mem_append_right _ h)))) (by decide +kernel))) (goodIn_sub (fun _ h => List.mem_append_left _ (List.mem_append_left _ (List.mem_append_right _ h))) (by decide +kernel))
set_option maxRecDepth 20000 in
theorem gL_law_L_step : GoodIn wsL_law (va_wsS RL 202 yL_step wsL_step) := goodIn_app (goodIn_of _ (by decide +kernel)) ggL_law_L_step
set_option maxRecDepth 20000 in
theorem ggL_law_X11_step : GoodIn wsL_law wsX11_step := goodIn_r _ [692, 88, 444, 370, 85, 693, 694, 695, 127, 128, 5, 129, 130, 131, 132, 133, 696, 697, 698, 699, 700, 701, 702, 703, 704, 705, 706, 707, 708, 709, 710, 711, 712, 713, 714, 715, 716, 717, 718, 719, 720, 721, 722, 723, 724, 556, 412, 557, 725, 411, 413, 726, 727, 728, 729, 730, 731, 732, 733, 734, 735, 736, 737, 738, 739, 740, 741, 742, 743, 744, 745, 746, 747, 748, 749, 750, 751, 752, 753, 599, 754, 755, 756, 757, 758, 759, 760, 761, 762, 763, 764, 765, 766, 767, 768, 769, 770, 771, 772, 773, 774, 775, 776, 777, 778, 585, 586, 587, 84, 588, 542, 779, 780, 781, 782, 12, 13, 783, 784, 785, 536, 537, 538, 539, 540, 541, 93, 543, 544, 545, 546, 547, 548, 549, 550, 551, 552, 553, 554, 92, 555, 558, 559, 560, 561, 562, 563, 564, 565, 566, 567, 568, 569, 417, 570, 571, 572, 573, 574, 575, 576, 577, 578, 579, 580, 581, 582, 583, 584, 1264, 1265, 1266, 1267, 1268, 1269, 1270, 1271, 1272, 1273, 1302, 1303, 1304, 1293, 1294, 1295] (by decide +kernel) (by decide +kernel)
set_option maxRecDepth 20000 in
theorem gL_law_X11_step : GoodIn wsL_law (wsV RL 205 RX11 yX11_step wsX11_step) := goodIn_app (goodIn_of _ (by decide +kernel)) ggL_law_X11_step
set_option maxRecDepth 20000 in
theorem ggL_law_X7_reset : GoodIn wsL_law wsX7_reset := goodIn_r _ [789, 25, 676, 1256, 1257, 1258, 1259, 1260, 1261, 1262, 1263, 1282, 1283, 1284, 1285] (by decide +kernel) (by decide +kernel)
set_option maxRecDepth 20000 in
theorem gL_law_X7_reset : GoodIn wsL_law (wsV RL 206 RX7 yX7_reset wsX7_reset) := goodIn_app (goodIn_of _ (by decide +kernel)) ggL_law_X7_reset
set_option maxRecDepth 20000 in
theorem ggL_law_X11_reset : GoodIn wsL_law wsX11_reset := goodIn_r _ [793, 88, 85, 585, 586, 587, 84, 588, 542, 794, 795, 796, 797, 540, 541, 93, 1264, 1265, 1266, 1267, 1268, 1269, 1270, 1271, 1272, 1273, 1293, 1294, 1295] (by decide +kernel) (by decide +kernel)
set_option maxRecDepth 20000 in
theorem gL_law_X11_reset : GoodIn wsL_law (wsV RL 209 RX11 yX11_reset wsX11_reset) := goodIn_app (goodIn_of _ (by decide +kernel)) ggL_law_X11_reset
set_option maxRecDepth 20000 in
theorem ggL_law_L_trigger : GoodIn wsL_law wsL_trigger := goodIn_ca (goodIn_ca (goodIn_ca (goodIn_r _ [800, 108, 801, 464, 802, 803, 804, 2, 805, 25, 676, 19, 403, 404, 405, 117, 118, 806, 807, 808, 809, 810, 811, 812, 813, 24, 814, 688, 53, 54, 55, 815, 816, 817, 818, 819, 820, 821, 822, 823, 824, 21, 825, 495, 496, 497, 498, 47, 428, 429, 430, 431, 414, 826, 827, 828, 829, 830, 831, 437, 438, 439, 470, 471, 472, 473, 474, 1256, 1257, 1258, 1259, 1260, 1261, 1262, 1263, 1282, 1283, 1284, 1285, 1280, 1281] (by decide +kernel) (by decide +kernel)) (goodIn_sub (fun _ h => List.mem_append_left _ (List.mem_append_left _ (List.mem_append_left _ (List.mem_append_left _ (List.mem_append_right _ h))))) (by decide +kernel))) (goodIn_sub (fun _ h => List.mem_append_right _ h) (by decide +kernel))) (goodIn_sub (fun _ h => List.mem_append_left _ (List.mem_append_right _ h)) (by decide +kernel))
set_option maxRecDepth 20000 in
theorem gL_law_L_trigger : GoodIn wsL_law (va_wsS RL 210 yL_trigger wsL_trigger) := goodIn_app (goodIn_of _ (by decide +kernel)) ggL_law_L_trigger
set_option maxRecDepth 20000 in
theorem ggL_law_X11_trigger : GoodIn wsL_law wsX11_trigger := goodIn_r _ [835, 85, 88, 836, 445, 446, 447, 5, 448, 131, 132, 133, 837, 838, 839, 84, 840, 542, 841, 842, 843, 844, 845, 846, 847, 848, 849, 850, 851, 852, 12, 13, 853, 854, 541, 855, 856, 857, 858, 859, 860, 861, 862, 863, 864, 865, 866, 867, 868, 869, 870, 871, 872, 873, 81, 874, 875, 876, 877, 512, 513, 514, 515, 516, 517, 518, 519, 878, 879, 880, 881, 1264, 1265, 1266, 1267, 1268, 1269, 1270, 1271, 1272, 1273, 1293, 1294, 1295, 1305, 1306, 1307, 1308, 1302, 1303, 1304] (by decide +kernel) (by decide +kernel)
set_option maxRecDepth 20000 in
theorem gL_law_X11_trigger : GoodIn wsL_law (wsV RL 212 RX11 yX11_trigger wsX11_trigger) := goodIn_app (goodIn_of _ (by decide +kernel)) ggL_law_X11_trigger
set_option maxRecDepth 20000 in
theorem ggL_law_L_decodeSerial : GoodIn wsL_law wsL_decodeSerial := goodIn_ca (goodIn_ca (goodIn_r _ [884, 108, 141, 885, 886, 887, 2, 888, 29, 889, 19, 456, 403, 404, 405, 117, 118, 114, 115, 116, 148, 149, 150, 151, 152, 276, 277, 278, 890, 827, 828, 21, 829, 495, 496, 497, 498, 47, 428, 429, 430, 431, 414, 891, 892, 893, 894, 279, 280, 281, 895, 896, 897, 898, 285, 286, 287, 288, 289, 290, 291, 292, 293, 294, 899, 900, 901, 28, 902, 903, 60, 61, 62, 63, 64, 1256, 1257, 1258, 1259, 1260, 1261, 1262, 1263, 1286, 1287, 1288, 1289, 1290, 1291, 1280, 1281] (by decide +kernel) (by decide +kernel)) (goodIn_sub (fun _ h => List.mem_append_left _ (List.mem_append_left _ (List.mem_append_left _ (List.mem_append_left _ (List.mem_append_right _ h))))) (by decide +kernel))) (goodIn_sub (fun _ h => List.mem_append_left _ (List.mem_append_left _ (List.mem_append_left _ (List.mem_append_right _ h)))) (by decide +kernel))
set_option maxRecDepth 20000 in
theorem gL_law_L_decodeSerial : GoodIn wsL_law (va_wsS RL 213 yL_decodeSerial wsL_decodeSerial) := goodIn_app (goodIn_of _ (by decide +kernel)) ggL_law_L_decodeSerial
set_option maxRecDepth 20000 in
theorem ggL_law_X11_decodeSerial : GoodIn wsL_law wsX11_decodeSerial := goodIn_r _ [907, 908, 909, 88, 86, 81, 503, 504, 505, 5, 506, 131, 132, 133, 127, 128, 129, 130, 316, 317, 318, 794, 795, 796, 84, 797, 540, 541, 93, 542, 878, 879, 880, 881, 512, 513, 514, 515, 516, 517, 518, 519, 910, 911, 912, 913, 914, 915, 916, 585, 586, 587, 588, 917, 918, 919, 920, 12, 13, 921, 922, 923, 924, 925, 536, 537, 538, 539, 543, 544, 545, 546, 547, 548, 549, 550, 551, 552, 553, 554, 92, 555, 556, 412, 557, 558, 559, 560, 561, 562, 563, 564, 565, 566, 567, 568, 569, 417, 570, 571, 572, 573, 574, 575, 576, 577, 578, 579, 580, 411, 413, 581, 582, 583, 584, 1264, 1265, 1266, 1267, 1268, 1269, 1270, 1271, 1272, 1273, 1293, 1294, 1295, 1309, 1310, 1311, 1312, 1313] (by decide +kernel) (by decide +kernel)
set_option maxRecDepth 20000 in
theorem gL_law_X11_decodeSerial : GoodIn wsL_law (wsV RL 216 RX11 yX11_decodeSerial wsX11_decodeSerial) := goodIn_app (goodIn_of _ (by decide +kernel)) ggL_law_X11_decodeSerial
set_option maxRecDepth 20000 in
theorem ggL_law_L_decodeTwo : GoodIn wsL_law wsL_decodeTwo := goodIn_ca (goodIn_ca (goodIn_r _ [928, 108, 141, 929, 930, 931, 2, 932, 29, 889, 19, 933, 934, 935, 33, 456, 403, 404, 405, 117, 118, 114, 115, 116, 355, 356, 357, 151, 152, 936, 937, 938, 939, 12, 13, 940, 941, 942, 823, 824, 21, 825, 495, 496, 497, 498, 47, 428, 429, 430, 431, 414, 898, 943, 944, 945, 946, 947, 948, 949, 950, 951, 952, 953, 954, 955, 956, 957, 958, 959, 900, 901, 28, 902, 903, 60, 61, 62, 63, 64, 960, 961, 962, 32, 963, 69, 890, 827, 828, 829, 964, 965, 966, 967, 968, 969, 970, 971, 1256, 1257, 1258, 1259, 1260, 1261, 1262, 1263, 1286, 1287, 1288, 1289, 1290, 1291, 1314, 1315, 1316, 1317, 1318, 1319, 1320, 1321, 1322, 1323, 1280, 1281, 1292] (by decide +kernel) (by decide +kernel)) (goodIn_sub (fun _ h => List.mem_append_left _ (List.mem_append_left _ (List.mem_append_left _ (List.mem_append_left _ (List.mem_append_right _ h))))) (by decide +kernel))) (goodIn_sub (fun _ h => List.mem_append_left _ (List.mem_append_left _ (List.mem_append_left _ (List.mem_append_right _ h)))) (by decide +kernel))
set_option maxRecDepth 20000 in
theorem gL_law_L_decodeTwo : GoodIn wsL_law (va_wsS RL 217 yL_decodeTwo wsL_decodeTwo) := goodIn_app (goodIn_of _ (by decide +kernel)) ggL_law_L_decodeTwo
set_option maxRecDepth 20000 in
theorem ggL_law_X11_decodeTwo : GoodIn wsL_law wsX11_decodeTwo := goodIn_r _ [975, 88, 86, 81, 87, 131, 132, 5, 133, 127, 128, 129, 130, 794, 795, 796, 84, 797, 540, 541, 93, 542, 516, 517, 518, 519, 512, 513, 514, 515, 878, 879, 880, 881, 910, 911, 912, 913, 914, 915, 916, 585, 586, 587, 588, 917, 918, 919, 920, 12, 13, 921, 922, 923, 924, 925, 536, 537, 538, 539, 543, 544, 545, 546, 547, 548, 549, 550, 551, 552, 553, 554, 92, 555, 556, 412, 557, 558, 559, 560, 561, 562, 563, 564, 565, 566, 567, 568, 569, 417, 570, 571, 572, 573, 574, 575, 576, 577, 578, 579, 580, 411, 413, 581, 582, 583, 584, 874, 875, 876, 877, 1264, 1265, 1266, 1267, 1268, 1269, 1270, 1271, 1272, 1273, 1293, 1294, 1295, 1309, 1310, 1311, 1312, 1313] (by decide +kernel) (by decide +kernel)
set_option maxRecDepth 20000 in
theorem gL_law_X11_decodeTwo : GoodIn wsL_law (wsV RL 219 RX11 yX11_decodeTwo wsX11_decodeTwo) := goodIn_app (goodIn_of _ (by decide +kernel)) ggL_law_X11_decodeTwo
set_option maxRecDepth 20000 in
theorem ggL_law_L_decodeFour : GoodIn wsL_law wsL_decodeFour := goodIn_ca (goodIn_ca (goodIn_r _ [978, 108, 141, 979, 980, 981, 2, 982, 29, 889, 19, 983, 984, 985, 456, 403, 404, 405, 117, 118, 114, 115, 116, 378, 379, 380, 355, 356, 357, 151, 152, 148, 149, 150, 986, 987, 988, 989, 12, 13, 990, 942, 823, 824, 21, 825, 495, 496, 497, 498, 47, 428, 429, 430, 431, 414, 991, 992, 993, 994, 995, 996, 997, 998, 900, 901, 28, 902, 903, 60, 61, 62, 63, 64, 898, 890, 827, 828, 829, 999, 1000, 1001, 1002, 1256, 1257, 1258, 1259, 1260, 1261, 1262, 1263, 1286, 1287, 1288, 1289, 1290, 1291, 1324, 1325, 1326, 1327, 1280, 1281] (by decide +kernel) (by decide +kernel)) (goodIn_sub (fun _ h => List.mem_append_left _ (List.mem_append_left _ (List.mem_append_left _ (List.mem_append_left _ (List.mem_append_right _ h))))) (by decide +kernel))) (goodIn_sub (fun _ h => List.mem_append_left _ (List.mem_append_left _ (List.mem_append_left _ (List.mem_append_right _ h)))) (by decide +kernel))
set_option maxRecDepth 20000 in
theorem gL_law_L_decodeFour : GoodIn wsL_law (va_wsS RL 220 yL_decodeFour wsL_decodeFour) := goodIn_app (goodIn_of _ (by decide +kernel)) ggL_law_L_decodeFour
set_option maxRecDepth 20000 in
theorem ggL_law_X11_decodeFour : GoodIn wsL_law wsX11_decodeFour := goodIn_r _ [1006, 88, 130, 86, 81, 131, 132, 5, 133, 127, 128, 129, 794, 795, 796, 84, 797, 540, 541, 93, 542, 516, 517, 518, 519, 874, 875, 876, 877, 512, 513, 514, 515, 878, 879, 880, 881, 910, 911, 912, 913, 914, 915, 916, 585, 586, 587, 588, 917, 918, 919, 920, 12, 13, 921, 922, 923, 924, 925, 536, 537, 538, 539, 543, 544, 545, 546, 547, 548, 549, 550, 551, 552, 553, 554, 92, 555, 556, 412, 557, 558, 559, 560, 561, 562, 563, 564, 565, 566, 567, 568, 569, 417, 570, 571, 572, 573, 574, 575, 576, 577, 578, 579, 580, 411, 413, 581, 582, 583, 584, 1264, 1265, 1266, 1267, 1268, 1269, 1270, 1271, 1272, 1273, 1293, 1294, 1295, 1309, 1310, 1311, 1312, 1313] (by decide +kernel) (by decide +kernel)
set_option maxRecDepth 20000 in
theorem gL_law_X11_decodeFour : GoodIn wsL_law (wsV RL 223 RX11 yX11_decodeFour wsX11_decodeFour) := goodIn_app (goodIn_of _ (by decide +kernel)) ggL_law_X11_decodeFour
set_option maxRecDepth 20000 in
theorem ggL_law_X7_notes : GoodIn wsL_law wsX7_notes := goodIn_r _ [1010, 29, 889, 1256, 1257, 1258, 1259, 1260, 1261, 1262, 1263, 1286, 1287, 1288, 1289, 1290, 1291] (by decide +kernel) (by decide +kernel)
set_option maxRecDepth 20000 in
theorem gL_law_X7_notes : GoodIn wsL_law (wsV RL 224 RX7 yX7_notes wsX7_notes) := goodIn_app (goodIn_of _ (by decide +kernel)) ggL_law_X7_notes
set_option maxRecDepth 20000 in
theorem ggL_law_X11_notes_ : GoodIn wsL_law wsX11_notes_ := goodIn_r _ [1014, 88, 86, 585, 586, 587, 84, 588, 542, 1264, 1265, 1266, 1267, 1268, 1269, 1270, 1271, 1272, 1273, 1293, 1294, 1295] (by decide +kernel) (by decide +kernel)
set_option maxRecDepth 20000 in
theorem gL_law_X11_notes_ : GoodIn wsL_law (wsV RL 227 RX11 yX11_notes_ wsX11_notes_) := goodIn_app (goodIn_of _ (by decide +kernel)) ggL_law_X11_notes_
set_option maxRecDepth 20000 in
theorem ggL_law_L_kind : GoodIn wsL_law wsL_kind := goodIn_ca (goodIn_r _ [1017, 108, 1018, 1019, 1020, 2, 1021, 29, 1022, 1023, 1024, 1025, 1026, 117, 118, 889, 1256, 1257, 1258, 1259, 1260, 1261, 1262, 1263, 1286, 1287, 1288, 1289, 1290, 1291] (by decide +kernel) (by decide +kernel)) (goodIn_sub (fun _ h => List.mem_append_left _ (List.mem_append_left _ (List.mem_append_left _ (List.mem_append_left _ (List.mem_append_right _ h))))) (by decide +kernel))
set_option maxRecDepth 20000 in
theorem gL_law_L_kind : GoodIn wsL_law (va_wsS RL 228 yL_kind wsL_kind) := goodIn_app (goodIn_of _ (by decide +kernel)) ggL_law_L_kind
set_option maxRecDepth 20000 in
theorem ggL_law_X11_kind : GoodIn wsL_law wsX11_kind := goodIn_r _ [1030, 86, 1031, 1032, 1033, 1034, 5, 1035, 88, 585, 586, 587, 84, 588, 542, 131, 132, 133, 589, 590, 591, 592, 593, 594, 595, 596, 597, 598, 599, 600, 601, 602, 603, 604, 93, 1264, 1265, 1266, 1267, 1268, 1269, 1270, 1271, 1272, 1273, 1309, 1310, 1311, 1312, 1313, 1293, 1294, 1295] (by decide +kernel) (by decide +kernel)
set_option maxRecDepth 20000 in
theorem gL_law_X11_kind : GoodIn wsL_law (wsV RL 230 RX11 yX11_kind wsX11_kind) := goodIn_app (goodIn_of _ (by decide +kernel)) ggL_law_X11_kind
set_option maxRecDepth 20000 in
theorem ggL_law_L_begin : GoodIn wsL_law wsL_begin := goodIn_ca (goodIn_r _ [1038, 108, 1039, 1040, 1041, 2, 1042, 29, 1043, 1023, 1024, 1025, 1026, 117, 118, 889, 1256, 1257, 1258, 1259, 1260, 1261, 1262, 1263, 1286, 1287, 1288, 1289, 1290, 1291] (by decide +kernel) (by decide +kernel)) (goodIn_sub (fun _ h => List.mem_append_left _ (List.mem_append_left _ (List.mem_append_left _ (List.mem_append_left _ (List.mem_append_right _ h))))) (by decide +kernel))
set_option maxRecDepth 20000 in
theorem gL_law_L_begin : GoodIn wsL_law (va_wsS RL 231 yL_begin wsL_begin) := goodIn_app (goodIn_of _ (by decide +kernel)) ggL_law_L_begin
set_option maxRecDepth 20000 in
theorem ggL_law_X11_begin : GoodIn wsL_law wsX11_begin := goodIn_r _ [1047, 86, 1031, 1032, 1033, 1034, 5, 1035, 88, 585, 586, 587, 84, 588, 542, 131, 132, 133, 589, 590, 591, 592, 593, 594, 595, 596, 597, 598, 599, 600, 601, 602, 603, 604, 93, 1264, 1265, 1266, 1267, 1268, 1269, 1270, 1271, 1272, 1273, 1309, 1310, 1311, 1312, 1313, 1293, 1294, 1295] (by decide +kernel) (by decide +kernel)
set_option maxRecDepth 20000 in
theorem gL_law_X11_begin : GoodIn wsL_law (wsV RL 233 RX11 yX11_begin wsX11_begin) := goodIn_app (goodIn_of _ (by decide +kernel)) ggL_law_X11_begin
set_option maxRecDepth 20000 in
theorem ggL_law_L_end : GoodIn wsL_law wsL_end := goodIn_ca (goodIn_r _ [1050, 108, 1051, 1052, 1053, 2, 1054, 29, 1055, 1023, 1024, 1025, 1026, 117, 118, 889, 1256, 1257, 1258, 1259, 1260, 1261, 1262, 1263, 1286, 1287, 1288, 1289, 1290, 1291] (by decide +kernel) (by decide +kernel)) (goodIn_sub (fun _ h => List.mem_append_left _ (List.mem_append_left _ (List.mem_append_left _ (List.mem_append_left _ (List.mem_append_right _ h))))) (by decide +kernel))
set_option maxRecDepth 20000 in
theorem gL_law_L_end : GoodIn wsL_law (va_wsS RL 234 yL_end wsL_end) := goodIn_app (goodIn_of _ (by decide +kernel)) ggL_law_L_end
set_option maxRecDepth 20000 in
theorem ggL_law_X11_end : GoodIn wsL_law wsX11_end := goodIn_r _ [1059, 86, 1031, 1032, 1033, 1034, 5, 1035, 88, 585, 586, 587, 84, 588, 542, 131, 132, 133, 589, 590, 591, 592, 593, 594, 595, 596, 597, 598, 599, 600, 601, 602, 603, 604, 93, 1264, 1265, 1266, 1267, 1268, 1269, 1270, 1271, 1272, 1273, 1309, 1310, 1311, 1312, 1313, 1293, 1294, 1295] (by decide +kernel) (by decide +kernel)
set_option maxRecDepth 20000 in
theorem gL_law_X11_end : GoodIn wsL_law (wsV RL 236 RX11 yX11_end wsX11_end) := goodIn_app (goodIn_of _ (by decide +kernel)) ggL_law_X11_end
set_option maxRecDepth 20000 in
theorem ggL_law_L_value : GoodIn wsL_law wsL_value := goodIn_ca (goodIn_r _ [1062, 108, 1063, 1064, 1065, 2, 1066, 29, 1067, 1023, 1024, 1025, 1026, 117, 118, 889, 1256, 1257, 1258, 1259, 1260, 1261, 1262, 1263, 1286, 1287, 1288, 1289, 1290, 1291] (by decide +kernel) (by decide +kernel)) (goodIn_sub (fun _ h => List.mem_append_left _ (List.mem_append_left _ (List.mem_append_left _ (List.mem_append_left _ (List.mem_append_right _ h))))) (by decide +kernel))
set_option maxRecDepth 20000 in
theorem gL_law_L_value : GoodIn wsL_law (va_wsS RL 237 yL_value wsL_value) := goodIn_app (goodIn_of _ (by decide +kernel)) ggL_law_L_value
set_option maxRecDepth 20000 in
theorem ggL_law_X11_value : GoodIn wsL_law wsX11_value := goodIn_r _ [1071, 86, 1031, 1032, 1033, 1034, 5, 1035, 88, 585, 586, 587, 84, 588, 542, 131, 132, 133, 589, 590, 591, 592, 593, 594, 595, 596, 597, 598, 599, 600, 601, 602, 603, 604, 93, 1264, 1265, 1266, 1267, 1268, 1269, 1270, 1271, 1272, 1273, 1309, 1310, 1311, 1312, 1313, 1293, 1294, 1295] (by decide +kernel) (by decide +kernel)
set_option maxRecDepth 20000 in
theorem gL_law_X11_value : GoodIn wsL_law (wsV RL 239 RX11 yX11_value wsX11_value) := goodIn_app (goodIn_of _ (by decide +kernel)) ggL_law_X11_value
set_option maxRecDepth 20000 in
theorem ggL_law_L_fault : GoodIn wsL_law wsL_fault := goodIn_ca (goodIn_r _ [1074, 108, 1075, 1076, 1077, 2, 1078, 29, 1079, 1023, 1024, 1025, 1026, 117, 118, 889, 1256, 1257, 1258, 1259, 1260, 1261, 1262, 1263, 1286, 1287, 1288, 1289, 1290, 1291] (by decide +kernel) (by decide +kernel)) (goodIn_sub (fun _ h => List.mem_append_left _ (List.mem_append_left _ (List.mem_append_left _ (List.mem_append_left _ (List.mem_append_right _ h))))) (by decide +kernel))
set_option maxRecDepth 20000 in
theorem gL_law_L_fault : GoodIn wsL_law (va_wsS RL 240 yL_fault wsL_fault) := goodIn_app (goodIn_of _ (by decide +kernel)) ggL_law_L_fault
set_option maxRecDepth 20000 in
theorem ggL_law_X11_fault : GoodIn wsL_law wsX11_fault := goodIn_r _ [1083, 86, 1031, 1032, 1033, 1034, 5, 1035, 88, 585, 586, 587, 84, 588, 542, 131, 132, 133, 589, 590, 591, 592, 593, 594, 595, 596, 597, 598, 599, 600, 601, 602, 603, 604, 93, 1264, 1265, 1266, 1267, 1268, 1269, 1270, 1271, 1272, 1273, 1309, 1310, 1311, 1312, 1313, 1293, 1294, 1295] (by decide +kernel) (by decide +kernel)
set_option maxRecDepth 20000 in
theorem gL_law_X11_fault : GoodIn wsL_law (wsV RL 242 RX11 yX11_fault wsX11_fault) := goodIn_app (goodIn_of _ (by decide +kernel)) ggL_law_X11_fault
set_option maxRecDepth 20000 in
theorem ggL_law_L_rate : GoodIn wsL_law wsL_rate := goodIn_ca (goodIn_ca (goodIn_r _ [1086, 108, 464, 1087, 1088, 1089, 2, 1090, 635, 636, 637, 638, 19, 403, 404, 405, 117, 118, 114, 115, 116, 639, 640, 641, 21, 642, 414, 491, 492, 493, 494, 495, 496, 497, 498, 47, 428, 429, 430, 431, 470, 471, 472, 473, 474, 1256, 1257, 1258, 1259, 1260, 1261, 1262, 1263, 1280, 1281] (by decide +kernel) (by decide +kernel)) (goodIn_sub (fun _ h => List.mem_append_left _ (List.mem_append_left _ (List.mem_append_left _ (List.mem_append_left _ (List.mem_append_right _ h))))) (by decide +kernel))) (goodIn_sub (fun _ h => List.mem_append_left _ (List.mem_append_right _ h)) (by decide +kernel))
set_option maxRecDepth 20000 in
theorem gL_law_L_rate : GoodIn wsL_law (va_wsS RL 243 yL_rate wsL_rate) := goodIn_app (goodIn_of _ (by decide +kernel)) ggL_law_L_rate
set_option maxRecDepth 20000 in
theorem ggL_law_X11_rate : GoodIn wsL_law wsX11_rate := goodIn_r _ [1094, 1095, 644, 645, 5, 646, 511, 647, 411, 412, 413, 88, 503, 504, 505, 506, 131, 132, 133, 127, 128, 129, 130, 507, 508, 509, 510, 82, 83, 84, 81, 89, 90, 91, 92, 93, 94, 95, 96, 97, 98, 99, 100, 101, 102, 103, 12, 13, 512, 513, 514, 515, 516, 517, 518, 519, 520, 521, 290, 522, 523, 524, 525, 526, 527, 528, 529, 530, 531, 532, 533, 534, 535, 536, 537, 538, 539, 540, 541, 542, 543, 544, 545, 546, 547, 548, 549, 550, 551, 552, 553, 554, 555, 556, 557, 558, 559, 560, 561, 562, 563, 564, 565, 566, 567, 568, 569, 417, 570, 571, 572, 573, 574, 575, 576, 577, 578, 579, 580, 581, 582, 583, 584, 585, 586, 587, 588, 589, 590, 591, 592, 593, 594, 595, 596, 597, 598, 599, 600, 601, 602, 603, 604, 605, 606, 607, 608, 609, 610, 611, 612, 1264, 1265, 1266, 1267, 1268, 1269, 1270, 1271, 1272, 1273, 1293, 1294, 1295, 1301] (by decide +kernel) (by decide +kernel)
set_option maxRecDepth 20000 in
theorem gL_law_X11_rate : GoodIn wsL_law (wsV RL 245 RX11 yX11_rate wsX11_rate) := goodIn_app (goodIn_of _ (by decide +kernel)) ggL_law_X11_rate
set_option maxRecDepth 20000 in
theorem ggL_law_L_register : GoodIn wsL_law wsL_register := goodIn_ca (goodIn_r _ [1098, 141, 1099, 1100, 1101, 2, 1102, 33, 148, 149, 150, 151, 152, 1103, 1104, 1105, 32, 1106, 69, 1256, 1257, 1258, 1259, 1260, 1261, 1262, 1263, 1292] (by decide +kernel) (by decide +kernel)) (goodIn_sub (fun _ h => List.mem_append_left _ (List.mem_append_left _ (List.mem_append_left _ (List.mem_append_right _ h)))) (by decide +kernel))
set_option maxRecDepth 20000 in
theorem gL_law_L_register : GoodIn wsL_law (va_wsS RL 246 yL_register wsL_register) := goodIn_app (goodIn_of _ (by decide +kernel)) ggL_law_L_register
set_option maxRecDepth 20000 in
theorem ggL_law_X11_register : GoodIn wsL_law wsX11_register := goodIn_r _ [1110, 369, 370, 88, 87, 131, 132, 5, 133, 1264, 1265, 1266, 1267, 1268, 1269, 1270, 1271, 1272, 1273] (by decide +kernel) (by decide +kernel)
set_option maxRecDepth 20000 in
theorem gL_law_X11_register : GoodIn wsL_law (wsV RL 248 RX11 yX11_register wsX11_register) := goodIn_app (goodIn_of _ (by decide +kernel)) ggL_law_X11_register
set_option maxRecDepth 20000 in
theorem ggL_law_L_follows : GoodIn wsL_law wsL_follows := goodIn_ca (goodIn_r _ [1113, 141, 1114, 1115, 1116, 2, 1117, 29, 148, 149, 150, 151, 152, 1118, 1119, 1120, 28, 1121, 903, 60, 63, 1256, 1257, 1258, 1259, 1260, 1261, 1262, 1263, 1286, 1287, 1288, 1289, 1290, 1291] (by decide +kernel) (by decide +kernel)) (goodIn_sub (fun _ h => List.mem_append_left _ (List.mem_append_left _ (List.mem_append_left _ (List.mem_append_right _ h)))) (by decide +kernel))
set_option maxRecDepth 20000 in
theorem gL_law_L_follows : GoodIn wsL_law (va_wsS RL 249 yL_follows wsL_follows) := goodIn_app (goodIn_of _ (by decide +kernel)) ggL_law_L_follows
set_option maxRecDepth 20000 in
theorem ggL_law_X11_follows : GoodIn wsL_law wsX11_follows := goodIn_r _ [1125, 311, 88, 86, 1031, 131, 132, 5, 133, 841, 842, 843, 84, 844, 845, 846, 847, 848, 849, 850, 851, 852, 12, 13, 853, 854, 541, 855, 856, 857, 858, 859, 860, 861, 862, 863, 864, 865, 866, 867, 868, 869, 1126, 1127, 1128, 916, 1129, 921, 1264, 1265, 1266, 1267, 1268, 1269, 1270, 1271, 1272, 1273, 1309, 1310, 1311, 1312, 1313, 1305, 1306, 1307, 1308, 1293, 1294, 1295] (by decide +kernel) (by decide +kernel)
set_option maxRecDepth 20000 in
theorem gL_law_X11_follows : GoodIn wsL_law (wsV RL 251 RX11 yX11_follows wsX11_follows) := goodIn_app (goodIn_of _ (by decide +kernel)) ggL_law_X11_follows
set_option maxRecDepth 20000 in
theorem ggL_law_L_alike : GoodIn wsL_law wsL_alike := goodIn_ca (goodIn_r _ [1132, 141, 1133, 1134, 1135, 2, 1136, 148, 149, 150, 151, 152, 1137, 1138, 1139, 1140, 19, 456, 469, 429, 430, 21, 431, 414, 47, 475, 437, 438, 439, 428, 1256, 1257, 1258, 1259, 1260, 1261, 1262, 1263, 1280, 1281] (by decide +kernel) (by decide +kernel)) (goodIn_sub (fun _ h => List.mem_append_left _ (List.mem_append_left _ (List.mem_append_left _ (List.mem_append_right _ h)))) (by decide +kernel))
set_option maxRecDepth 20000 in
theorem gL_law_L_alike : GoodIn wsL_law (va_wsS RL 252 yL_alike wsL_alike) := goodIn_app (goodIn_of _ (by decide +kernel)) ggL_law_L_alike
set_option maxRecDepth 20000 in
theorem ggL_law_X11_alike : GoodIn wsL_law wsX11_alike := goodIn_r _ [1144, 1145, 1146, 1147, 5, 1148, 1149, 1150, 88, 131, 132, 133, 1151, 1152, 1153, 1154, 81, 1264, 1265, 1266, 1267, 1268, 1269, 1270, 1271, 1272, 1273] (by decide +kernel) (by decide +kernel)
set_option maxRecDepth 20000 in
theorem gL_law_X11_alike : GoodIn wsL_law (wsV RL 254 RX11 yX11_alike wsX11_alike) := goodIn_app (goodIn_of _ (by decide +kernel)) ggL_law_X11_alike
set_option maxRecDepth 20000 in
theorem ggL_law_L_differs : GoodIn wsL_law wsL_differs := goodIn_ca (goodIn_ca (goodIn_r _ [1157, 141, 464, 1158, 1159, 1160, 2, 1161, 148, 149, 150, 151, 152, 1162, 1163, 1164, 1165, 19, 456, 469, 429, 430, 21, 431, 414, 47, 475, 437, 438, 439, 428, 470, 471, 472, 473, 474, 1256, 1257, 1258, 1259, 1260, 1261, 1262, 1263, 1280, 1281] (by decide +kernel) (by decide +kernel)) (goodIn_sub (fun _ h => List.mem_append_left _ (List.mem_append_left _ (List.mem_append_left _ (List.mem_append_right _ h)))) (by decide +kernel))) (goodIn_sub (fun _ h => List.mem_append_left _ (List.mem_append_right _ h)) (by decide +kernel))
set_option maxRecDepth 20000 in
theorem gL_law_L_differs : GoodIn wsL_law (va_wsS RL 255 yL_differs wsL_differs) := goodIn_app (goodIn_of _ (by decide +kernel)) ggL_law_L_differs
set_option maxRecDepth 20000 in
theorem ggL_law_X11_differs : GoodIn wsL_law wsX11_differs := goodIn_r _ [1169, 88, 1145, 1146, 1147, 5, 1148, 1149, 1150, 131, 132, 133, 1151, 1152, 1153, 1154, 81, 1264, 1265, 1266, 1267, 1268, 1269, 1270, 1271, 1272, 1273] (by decide +kernel) (by decide +kernel)
set_option maxRecDepth 20000 in
theorem gL_law_X11_differs : GoodIn wsL_law (wsV RL 257 RX11 yX11_differs wsX11_differs) := goodIn_app (goodIn_of _ (by decide +kernel)) ggL_law_X11_differs
set_option maxRecDepth 20000 in
theorem ggL_law_L_best : GoodIn wsL_law wsL_best := goodIn_ca (goodIn_ca (goodIn_r _ [1172, 141, 801, 1173, 1174, 1175, 2, 1176, 19, 456, 148, 149, 150, 151, 152, 806, 807, 808, 809, 810, 1137, 1138, 1139, 1140, 469, 429, 430, 21, 431, 414, 47, 475, 437, 438, 439, 428, 1256, 1257, 1258, 1259, 1260, 1261, 1262, 1263, 1280, 1281] (by decide +kernel) (by decide +kernel)) (goodIn_sub (fun _ h => List.mem_append_left _ (List.mem_append_left _ (List.mem_append_left _ (List.mem_append_right _ h)))) (by decide +kernel))) (goodIn_sub (fun _ h => List.mem_append_right _ h) (by decide +kernel))
set_option maxRecDepth 20000 in
theorem gL_law_L_best : GoodIn wsL_law (va_wsS RL 258 yL_best wsL_best) := goodIn_app (goodIn_of _ (by decide +kernel)) ggL_law_L_best
set_option maxRecDepth 20000 in
theorem ggL_law_X11_best : GoodIn wsL_law wsX11_best := goodIn_r _ [1180, 237, 81, 88, 131, 132, 5, 133, 1151, 1152, 1153, 1154, 1264, 1265, 1266, 1267, 1268, 1269, 1270, 1271, 1272, 1273] (by decide +kernel) (by decide +kernel)
set_option maxRecDepth 20000 in
theorem gL_law_X11_best : GoodIn wsL_law (wsV RL 260 RX11 yX11_best wsX11_best) := goodIn_app (goodIn_of _ (by decide +kernel)) ggL_law_X11_best
set_option maxRecDepth 20000 in
theorem ggL_law_X7_flips : GoodIn wsL_law wsX7_flips := goodIn_r _ [1184, 15, 147, 1256, 1257, 1258, 1259, 1260, 1261, 1262, 1263, 1274, 1275, 1276, 1277, 1278, 1279] (by decide +kernel) (by decide +kernel)
set_option maxRecDepth 20000 in
theorem gL_law_X7_flips : GoodIn wsL_law (wsV RL 261 RX7 yX7_flips wsX7_flips) := goodIn_app (goodIn_of _ (by decide +kernel)) ggL_law_X7_flips
set_option maxRecDepth 20000 in
theorem ggL_law_X11_flips : GoodIn wsL_law wsX11_flips := goodIn_r _ [1188, 88, 202, 203, 204, 5, 205, 77, 1264, 1265, 1266, 1267, 1268, 1269, 1270, 1271, 1272, 1273] (by decide +kernel) (by decide +kernel)
set_option maxRecDepth 20000 in
theorem gL_law_X11_flips : GoodIn wsL_law (wsV RL 264 RX11 yX11_flips wsX11_flips) := goodIn_app (goodIn_of _ (by decide +kernel)) ggL_law_X11_flips
set_option maxRecDepth 20000 in
theorem ggL_law_X7_checksum : GoodIn wsL_law wsX7_checksum := goodIn_r _ [1192, 1193, 19, 456, 1194, 29, 889, 1022, 1067, 475, 437, 438, 21, 439, 47, 428, 429, 430, 431, 414, 1256, 1257, 1258, 1259, 1260, 1261, 1262, 1263, 1280, 1281, 1286, 1287, 1288, 1289, 1290, 1291] (by decide +kernel) (by decide +kernel)
set_option maxRecDepth 20000 in
theorem gL_law_X7_checksum : GoodIn wsL_law (wsV RL 265 RX7 yX7_checksum wsX7_checksum) := goodIn_app (goodIn_of _ (by decide +kernel)) ggL_law_X7_checksum
set_option maxRecDepth 20000 in
theorem ggL_law_X11_checksum : GoodIn wsL_law wsX11_checksum := goodIn_r _ [1198, 88, 1199, 81, 1200, 86, 1031, 841, 842, 843, 84, 844, 845, 846, 847, 848, 849, 850, 851, 852, 12, 13, 853, 854, 541, 855, 856, 857, 858, 859, 860, 861, 862, 863, 864, 865, 866, 867, 868, 869, 1264, 1265, 1266, 1267, 1268, 1269, 1270, 1271, 1272, 1273, 1309, 1310, 1311, 1312, 1313, 1305, 1306, 1307, 1308, 1293, 1294, 1295] (by decide +kernel) (by decide +kernel)
set_option maxRecDepth 20000 in
theorem gL_law_X11_checksum : GoodIn wsL_law (wsV RL 269 RX11 yX11_checksum wsX11_checksum) := goodIn_app (goodIn_of _ (by decide +kernel)) ggL_law_X11_checksum
set_option maxRecDepth 20000 in
theorem ggL_law_L_highShare : GoodIn wsL_law wsL_highShare := goodIn_ca (goodIn_ca (goodIn_r _ [1203, 108, 464, 1204, 1205, 1206, 2, 1207, 19, 456, 403, 404, 405, 117, 118, 114, 115, 116, 470, 471, 472, 473, 474, 1208, 1209, 1210, 21, 1211, 414, 495, 496, 497, 498, 47, 428, 429, 430, 431, 1256, 1257, 1258, 1259, 1260, 1261, 1262, 1263, 1280, 1281] (by decide +kernel) (by decide +kernel)) (goodIn_sub (fun _ h => List.mem_append_left _ (List.mem_append_left _ (List.mem_append_left _ (List.mem_append_left _ (List.mem_append_right _ h))))) (by decide +kernel))) (goodIn_sub (fun _ h => List.mem_append_left _ (List.mem_append_right _ h)) (by decide +kernel))
set_option maxRecDepth 20000 in
theorem gL_law_L_highShare : GoodIn wsL_law (va_wsS RL 270 yL_highShare wsL_highShare) := goodIn_app (goodIn_of _ (by decide +kernel)) ggL_law_L_highShare
set_option maxRecDepth 20000 in
theorem ggL_law_X11_highShare : GoodIn wsL_law wsX11_highShare := goodIn_r _ [1215, 81, 1216, 1217, 1218, 5, 1219, 88, 503, 504, 505, 506, 131, 132, 133, 127, 128, 129, 130, 516, 517, 518, 519, 1264, 1265, 1266, 1267, 1268, 1269, 1270, 1271, 1272, 1273] (by decide +kernel) (by decide +kernel)
set_option maxRecDepth 20000 in
theorem gL_law_X11_highShare : GoodIn wsL_law (wsV RL 273 RX11 yX11_highShare wsX11_highShare) := goodIn_app (goodIn_of _ (by decide +kernel)) ggL_law_X11_highShare
set_option maxRecDepth 20000 in
theorem ggL_law_L_meanRun : GoodIn wsL_law wsL_meanRun := goodIn_ca (goodIn_ca (goodIn_r _ [1222, 108, 464, 1223, 1224, 1225, 2, 1226, 19, 456, 403, 404, 405, 117, 118, 114, 115, 116, 487, 488, 489, 21, 490, 414, 491, 492, 493, 494, 495, 496, 497, 498, 47, 428, 429, 430, 431, 470, 471, 472, 473, 474, 1256, 1257, 1258, 1259, 1260, 1261, 1262, 1263, 1280, 1281] (by decide +kernel) (by decide +kernel)) (goodIn_sub (fun _ h => List.mem_append_left _ (List.mem_append_left _ (List.mem_append_left _ (List.mem_append_left _ (List.mem_append_right _ h))))) (by decide +kernel))) (goodIn_sub (fun _ h => List.mem_append_left _ (List.mem_append_right _ h)) (by decide +kernel))
set_option maxRecDepth 20000 in
theorem gL_law_L_meanRun : GoodIn wsL_law (va_wsS RL 274 yL_meanRun wsL_meanRun) := goodIn_app (goodIn_of _ (by decide +kernel)) ggL_law_L_meanRun
set_option maxRecDepth 20000 in
theorem ggL_law_X11_meanRun : GoodIn wsL_law wsX11_meanRun := goodIn_r _ [1230, 81, 1216, 1217, 1218, 5, 1219, 88, 503, 504, 505, 506, 131, 132, 133, 127, 128, 129, 130, 507, 508, 509, 510, 82, 83, 84, 511, 89, 90, 91, 92, 93, 94, 95, 96, 97, 98, 99, 100, 101, 102, 103, 12, 13, 512, 513, 514, 515, 516, 517, 518, 519, 520, 521, 290, 522, 523, 524, 525, 526, 527, 528, 529, 530, 531, 532, 533, 534, 535, 536, 537, 538, 539, 540, 541, 542, 543, 544, 545, 546, 547, 548, 549, 550, 551, 552, 553, 554, 555, 556, 412, 557, 558, 559, 560, 561, 562, 563, 564, 565, 566, 567, 568, 569, 417, 570, 571, 572, 573, 574, 575, 576, 577, 578, 579, 580, 411, 413, 581, 582, 583, 584, 585, 586, 587, 588, 589, 590, 591, 592, 593, 594, 595, 596, 597, 598, 599, 600, 601, 602, 603, 604, 605, 606, 607, 608, 609, 610, 611, 612, 1264, 1265, 1266, 1267, 1268, 1269, 1270, 1271, 1272, 1273, 1293, 1294, 1295, 1301] (by decide +kernel) (by decide +kernel)
set_option maxRecDepth 20000 in
theorem gL_law_X11_meanRun : GoodIn wsL_law (wsV RL 276 RX11 yX11_meanRun wsX11_meanRun) := goodIn_app (goodIn_of _ (by decide +kernel)) ggL_law_X11_meanRun
set_option maxRecDepth 20000 in
theorem ggL_law_X7_isSound : GoodIn wsL_law wsX7_isSound := goodIn_r _ [1234, 19, 29, 1235, 1236, 1237, 21, 1238, 414, 491, 492, 493, 494, 495, 496, 497, 498, 47, 428, 429, 430, 431, 1239, 1240, 1241, 1242, 1243, 1244, 1245, 1246, 1247, 660, 661, 662, 410, 411, 412, 413, 1248, 1249, 1250, 28, 1251, 903, 61, 62, 1256, 1257, 1258, 1259, 1260, 1261, 1262, 1263, 1280, 1281, 1286, 1287, 1288, 1289, 1290, 1291] (by decide +kernel) (by decide +kernel)
set_option maxRecDepth 20000 in
theorem gL_law_X7_isSound : GoodIn wsL_law (wsV RL 277 RX7 yX7_isSound wsX7_isSound) := goodIn_app (goodIn_of _ (by decide +kernel)) ggL_law_X7_isSound
set_option maxRecDepth 20000 in
theorem ggL_law_X11_isSound : GoodIn wsL_law wsX11_isSound := goodIn_r _ [1255, 88, 1264, 1265, 1266, 1267, 1268, 1269, 1270, 1271, 1272, 1273] (by decide +kernel) (by decide +kernel)
set_option maxRecDepth 20000 in
theorem gL_law_X11_isSound : GoodIn wsL_law (wsV RL 281 RX11 yX11_isSound wsX11_isSound) := goodIn_app (goodIn_of _ (by decide +kernel)) ggL_law_X11_isSound

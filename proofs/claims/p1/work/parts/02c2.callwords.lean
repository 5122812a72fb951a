set_option maxRecDepth 20000 in
theorem ggX9_init_X11_copies : GoodIn wsX9_init wsX11_copies := goodIn_r _ [13, 14, 15, 16, 17, 18, 19, 20, 26, 27, 28, 29, 30, 31, 32, 33, 34, 35] (by decide +kernel) (by decide +kernel)
set_option maxRecDepth 20000 in
theorem gX9_init_X11_copies_n15 : GoodIn wsX9_init (wsX11_copies) := ggX9_init_X11_copies
set_option maxRecDepth 20000 in
theorem ggX9_tells_X11_drifted : GoodIn wsX9_tells wsX11_drifted := goodIn_r _ [9, 10, 18, 19, 20, 21, 22, 23, 24, 25, 26, 27] (by decide +kernel) (by decide +kernel)
set_option maxRecDepth 20000 in
theorem gX9_tells_X11_drifted_n35 : GoodIn wsX9_tells (wsX11_drifted) := ggX9_tells_X11_drifted
set_option maxRecDepth 20000 in
theorem ggX9_tells_X11_turns : GoodIn wsX9_tells wsX11_turns := goodIn_r _ [12] (by decide +kernel) (by decide +kernel)
set_option maxRecDepth 20000 in
theorem gX9_tells_X11_turns_n39 : GoodIn wsX9_tells (wsX11_turns) := ggX9_tells_X11_turns
set_option maxRecDepth 20000 in
theorem ggX9_ends_X11_areFew : GoodIn wsX9_ends wsX11_areFew := goodIn_r _ [7] (by decide +kernel) (by decide +kernel)
set_option maxRecDepth 20000 in
theorem gX9_ends_X11_areFew_n43 : GoodIn wsX9_ends (wsX11_areFew) := ggX9_ends_X11_areFew
set_option maxRecDepth 20000 in
theorem ggX9_ends_X11_drifted : GoodIn wsX9_ends wsX11_drifted := goodIn_r _ [10, 11, 17, 18, 19, 20, 21, 22, 23, 24, 25, 26] (by decide +kernel) (by decide +kernel)
set_option maxRecDepth 20000 in
theorem gX9_ends_X11_drifted_n35 : GoodIn wsX9_ends (wsX11_drifted) := ggX9_ends_X11_drifted
set_option maxRecDepth 20000 in
theorem ggX11_init_Jx4a65c_init_da8c8 : GoodIn wsX11_init wsJx4a65c_init_da8c8 := goodIn_r _ [22, 23, 24, 25, 26, 27, 28, 29, 30, 31, 32, 33, 34, 2, 3, 45, 46, 47] (by decide +kernel) (by decide +kernel)
set_option maxRecDepth 20000 in
theorem gX11_init_Jx4a65c_init_da8c8 : GoodIn wsX11_init (wsJx4a65c_init_da8c8) := ggX11_init_Jx4a65c_init_da8c8
set_option maxRecDepth 20000 in
theorem ggX11_isWire_X11_in : GoodIn wsX11_isWire wsX11_in := goodIn_r _ [5] (by decide +kernel) (by decide +kernel)
set_option maxRecDepth 20000 in
theorem gX11_isWire_X11_in : GoodIn wsX11_isWire (va_wsS RX11 49 yX11_in wsX11_in) := goodIn_app (goodIn_of _ (by decide +kernel)) ggX11_isWire_X11_in
set_option maxRecDepth 20000 in
theorem ggX11_noWire_X11_isWire : GoodIn wsX11_noWire wsX11_isWire := goodIn_r _ [5, 6, 7, 8, 4, 9] (by decide +kernel) (by decide +kernel)
set_option maxRecDepth 20000 in
theorem gX11_noWire_X11_isWire : GoodIn wsX11_noWire (va_wsS RX11 53 yX11_isWire wsX11_isWire) := goodIn_app (goodIn_of _ (by decide +kernel)) ggX11_noWire_X11_isWire
set_option maxRecDepth 20000 in
theorem ggX11_idle_X11_noWire : GoodIn wsX11_idle wsX11_noWire := goodIn_r _ [6, 7, 8, 9, 5, 10, 11, 12, 13, 14, 15, 16, 17, 18, 19, 20, 21, 22, 23, 24] (by decide +kernel) (by decide +kernel)
set_option maxRecDepth 20000 in
theorem gX11_idle_X11_noWire : GoodIn wsX11_idle (wsV RX11 57 RX11 yX11_noWire wsX11_noWire) := goodIn_app (goodIn_of _ (by decide +kernel)) ggX11_idle_X11_noWire
set_option maxRecDepth 20000 in
theorem ggX11_flip_X11_noWire : GoodIn wsX11_flip wsX11_noWire := goodIn_r _ [8, 3, 9, 10, 7, 11, 12, 13, 14, 15, 20, 21, 22, 23, 24, 25, 26, 27, 28, 29] (by decide +kernel) (by decide +kernel)
set_option maxRecDepth 20000 in
theorem gX11_flip_X11_noWire : GoodIn wsX11_flip (wsV RX11 57 RX11 yX11_noWire wsX11_noWire) := goodIn_app (goodIn_of _ (by decide +kernel)) ggX11_flip_X11_noWire
set_option maxRecDepth 20000 in
theorem ggX11_flip_X11_in : GoodIn wsX11_flip wsX11_in := goodIn_r _ [15] (by decide +kernel) (by decide +kernel)
set_option maxRecDepth 20000 in
theorem gX11_flip_X11_in : GoodIn wsX11_flip (va_wsS RX11 49 yX11_in wsX11_in) := goodIn_app (goodIn_of _ (by decide +kernel)) ggX11_flip_X11_in
set_option maxRecDepth 20000 in
theorem ggX11_flip_X11_many : GoodIn wsX11_flip wsX11_many := goodIn_r _ [19, 2, 20, 21, 22, 23, 24, 25, 26, 27, 28, 29] (by decide +kernel) (by decide +kernel)
set_option maxRecDepth 20000 in
theorem gX11_flip_X11_many : GoodIn wsX11_flip (wsV RX11 62 RX11 yX11_many wsX11_many) := goodIn_app (goodIn_of _ (by decide +kernel)) ggX11_flip_X11_many
set_option maxRecDepth 20000 in
theorem ggX11_level_X11_noWire : GoodIn wsX11_level wsX11_noWire := goodIn_r _ [7, 2, 8, 9, 6, 10, 11, 12, 13, 14, 21, 22, 23, 24, 25, 26, 27, 28, 29, 30] (by decide +kernel) (by decide +kernel)
set_option maxRecDepth 20000 in
theorem gX11_level_X11_noWire : GoodIn wsX11_level (wsV RX11 57 RX11 yX11_noWire wsX11_noWire) := goodIn_app (goodIn_of _ (by decide +kernel)) ggX11_level_X11_noWire
set_option maxRecDepth 20000 in
theorem ggX11_level_X11_in : GoodIn wsX11_level wsX11_in := goodIn_r _ [14] (by decide +kernel) (by decide +kernel)
set_option maxRecDepth 20000 in
theorem gX11_level_X11_in : GoodIn wsX11_level (va_wsS RX11 49 yX11_in wsX11_in) := goodIn_app (goodIn_of _ (by decide +kernel)) ggX11_level_X11_in
set_option maxRecDepth 20000 in
theorem ggX11_level_X11_levelOf : GoodIn wsX11_level wsX11_levelOf := goodIn_r _ [18, 19, 20, 21, 22, 23, 24, 25, 26, 27, 28, 29, 30] (by decide +kernel) (by decide +kernel)
set_option maxRecDepth 20000 in
theorem gX11_level_X11_levelOf : GoodIn wsX11_level (wsV RX11 66 RX11 yX11_levelOf wsX11_levelOf) := goodIn_app (goodIn_of _ (by decide +kernel)) ggX11_level_X11_levelOf
set_option maxRecDepth 20000 in
theorem ggX11_glitch_X11_noWire : GoodIn wsX11_glitch wsX11_noWire := goodIn_r _ [9, 3, 10, 11, 8, 12, 13, 14, 15, 16, 37, 38, 39, 40, 41, 42, 43, 44, 45, 46] (by decide +kernel) (by decide +kernel)
set_option maxRecDepth 20000 in
theorem gX11_glitch_X11_noWire : GoodIn wsX11_glitch (wsV RX11 57 RX11 yX11_noWire wsX11_noWire) := goodIn_app (goodIn_of _ (by decide +kernel)) ggX11_glitch_X11_noWire
set_option maxRecDepth 20000 in
theorem ggX11_glitch_X11_in : GoodIn wsX11_glitch wsX11_in := goodIn_r _ [16] (by decide +kernel) (by decide +kernel)
set_option maxRecDepth 20000 in
theorem gX11_glitch_X11_in : GoodIn wsX11_glitch (va_wsS RX11 49 yX11_in wsX11_in) := goodIn_app (goodIn_of _ (by decide +kernel)) ggX11_glitch_X11_in
set_option maxRecDepth 20000 in
theorem ggX11_glitch_X11_copies : GoodIn wsX11_glitch wsX11_copies := goodIn_r _ [20, 21, 4, 22, 23, 24, 25, 26, 37, 38, 39, 40, 41, 42, 43, 44, 45, 46] (by decide +kernel) (by decide +kernel)
set_option maxRecDepth 20000 in
theorem gX11_glitch_X11_copies : GoodIn wsX11_glitch (wsV RX11 77 RX11 yX11_copies wsX11_copies) := goodIn_app (goodIn_of _ (by decide +kernel)) ggX11_glitch_X11_copies
set_option maxRecDepth 20000 in
theorem ggX11_glitch_X11_turns : GoodIn wsX11_glitch wsX11_turns := goodIn_r _ [29] (by decide +kernel) (by decide +kernel)
set_option maxRecDepth 20000 in
theorem gX11_glitch_X11_turns : GoodIn wsX11_glitch (va_wsS RX11 81 yX11_turns wsX11_turns) := goodIn_app (goodIn_of _ (by decide +kernel)) ggX11_glitch_X11_turns
set_option maxRecDepth 20000 in
theorem ggX11_glitch_X11_areFew : GoodIn wsX11_glitch wsX11_areFew := goodIn_r _ [32] (by decide +kernel) (by decide +kernel)
set_option maxRecDepth 20000 in
theorem gX11_glitch_X11_areFew : GoodIn wsX11_glitch (va_wsS RX11 85 yX11_areFew wsX11_areFew) := goodIn_app (goodIn_of _ (by decide +kernel)) ggX11_glitch_X11_areFew
set_option maxRecDepth 20000 in
theorem ggX11_glitch_X11_many : GoodIn wsX11_glitch wsX11_many := goodIn_r _ [36, 4, 37, 38, 39, 40, 41, 42, 43, 44, 45, 46] (by decide +kernel) (by decide +kernel)
set_option maxRecDepth 20000 in
theorem gX11_glitch_X11_many : GoodIn wsX11_glitch (wsV RX11 62 RX11 yX11_many wsX11_many) := goodIn_app (goodIn_of _ (by decide +kernel)) ggX11_glitch_X11_many
set_option maxRecDepth 20000 in
theorem ggX11_drift_X11_in : GoodIn wsX11_drift wsX11_in := goodIn_r _ [8] (by decide +kernel) (by decide +kernel)
set_option maxRecDepth 20000 in
theorem gX11_drift_X11_in : GoodIn wsX11_drift (va_wsS RX11 49 yX11_in wsX11_in) := goodIn_app (goodIn_of _ (by decide +kernel)) ggX11_drift_X11_in
set_option maxRecDepth 20000 in
theorem ggX11_serial_X11_noWire : GoodIn wsX11_serial wsX11_noWire := goodIn_r _ [13, 5, 14, 15, 12, 16, 17, 18, 19, 20, 69, 70, 71, 72, 73, 74, 75, 76, 77, 78] (by decide +kernel) (by decide +kernel)
set_option maxRecDepth 20000 in
theorem gX11_serial_X11_noWire : GoodIn wsX11_serial (wsV RX11 57 RX11 yX11_noWire wsX11_noWire) := goodIn_app (goodIn_of _ (by decide +kernel)) ggX11_serial_X11_noWire
set_option maxRecDepth 20000 in
theorem ggX11_serial_X11_in : GoodIn wsX11_serial wsX11_in := goodIn_r _ [20] (by decide +kernel) (by decide +kernel)
set_option maxRecDepth 20000 in
theorem gX11_serial_X11_in : GoodIn wsX11_serial (va_wsS RX11 49 yX11_in wsX11_in) := goodIn_app (goodIn_of _ (by decide +kernel)) ggX11_serial_X11_in
set_option maxRecDepth 20000 in
theorem ggX11_serial_X11_isParity : GoodIn wsX11_serial wsX11_isParity := goodIn_r _ [23] (by decide +kernel) (by decide +kernel)
set_option maxRecDepth 20000 in
theorem gX11_serial_X11_isParity : GoodIn wsX11_serial (va_wsS RX11 100 yX11_isParity wsX11_isParity) := goodIn_app (goodIn_of _ (by decide +kernel)) ggX11_serial_X11_isParity
set_option maxRecDepth 20000 in
theorem ggX11_serial_X9_init : GoodIn wsX11_serial wsX9_init := goodIn_r _ [26, 27, 28, 29, 30, 31, 32, 33, 34, 35, 36, 12, 37, 38, 39, 40, 41, 42, 43, 44, 45, 79, 80, 81, 82, 83, 69, 70, 71, 72, 73, 74, 75, 76, 77, 78] (by decide +kernel) (by decide +kernel)
set_option maxRecDepth 20000 in
theorem gX11_serial_X9_init : GoodIn wsX11_serial (wsX9_init) := ggX11_serial_X9_init
set_option maxRecDepth 20000 in
theorem ggX11_serial_X9_tells : GoodIn wsX11_serial wsX9_tells := goodIn_r _ [49, 33, 31, 27, 35, 34, 50, 12, 51, 52, 53, 54, 55, 79, 80, 81, 82, 83, 69, 70, 71, 72, 73, 74, 75, 76, 77, 78] (by decide +kernel) (by decide +kernel)
set_option maxRecDepth 20000 in
theorem gX11_serial_X9_tells : GoodIn wsX11_serial (wsV RX11 112 RX9 yX9_tells wsX9_tells) := goodIn_app (goodIn_of _ (by decide +kernel)) ggX11_serial_X9_tells
set_option maxRecDepth 20000 in
theorem ggX11_serial_J6_bitCount_0f7a4 : GoodIn wsX11_serial wsJ6_bitCount_0f7a4 := goodIn_r _ [59, 60, 61, 62] (by decide +kernel) (by decide +kernel)
set_option maxRecDepth 20000 in
theorem gX11_serial_J6_bitCount_0f7a4 : GoodIn wsX11_serial (va_wsS RX11 116 yJ6_bitCount_0f7a4 wsJ6_bitCount_0f7a4) := goodIn_app (goodIn_of _ (by decide +kernel)) ggX11_serial_J6_bitCount_0f7a4
set_option maxRecDepth 20000 in
theorem ggX11_serial_X9_ends : GoodIn wsX11_serial wsX9_ends := goodIn_r _ [66, 27, 34, 31, 35, 67, 12, 68, 50, 51, 52, 53, 79, 80, 81, 82, 83, 69, 70, 71, 72, 73, 74, 75, 76, 77, 78] (by decide +kernel) (by decide +kernel)
set_option maxRecDepth 20000 in
theorem gX11_serial_X9_ends : GoodIn wsX11_serial (wsV RX11 121 RX9 yX9_ends wsX9_ends) := goodIn_app (goodIn_of _ (by decide +kernel)) ggX11_serial_X9_ends
set_option maxRecDepth 20000 in
theorem ggX11_twoWires_X11_isWire : GoodIn wsX11_twoWires wsX11_isWire := goodIn_r _ [16, 17, 18, 19, 15, 20] (by decide +kernel) (by decide +kernel)
set_option maxRecDepth 20000 in
theorem gX11_twoWires_X11_isWire : GoodIn wsX11_twoWires (va_wsS RX11 53 yX11_isWire wsX11_isWire) := goodIn_app (goodIn_of _ (by decide +kernel)) ggX11_twoWires_X11_isWire
set_option maxRecDepth 20000 in
theorem ggX11_twoWires_X11_in : GoodIn wsX11_twoWires wsX11_in := goodIn_r _ [20] (by decide +kernel) (by decide +kernel)
set_option maxRecDepth 20000 in
theorem gX11_twoWires_X11_in : GoodIn wsX11_twoWires (va_wsS RX11 49 yX11_in wsX11_in) := goodIn_app (goodIn_of _ (by decide +kernel)) ggX11_twoWires_X11_in
set_option maxRecDepth 20000 in
theorem ggX11_twoWires_X9_init : GoodIn wsX11_twoWires wsX9_init := goodIn_r _ [23, 24, 25, 26, 27, 28, 29, 30, 31, 32, 33, 15, 34, 35, 36, 37, 38, 39, 40, 41, 42, 69, 70, 71, 72, 73, 59, 60, 61, 62, 63, 64, 65, 66, 67, 68] (by decide +kernel) (by decide +kernel)
set_option maxRecDepth 20000 in
theorem gX11_twoWires_X9_init : GoodIn wsX11_twoWires (wsX9_init) := ggX11_twoWires_X9_init
set_option maxRecDepth 20000 in
theorem ggX11_twoWires_X9_tells : GoodIn wsX11_twoWires wsX9_tells := goodIn_r _ [46, 30, 28, 24, 32, 31, 47, 15, 48, 49, 50, 51, 52, 69, 70, 71, 72, 73, 59, 60, 61, 62, 63, 64, 65, 66, 67, 68] (by decide +kernel) (by decide +kernel)
set_option maxRecDepth 20000 in
theorem gX11_twoWires_X9_tells : GoodIn wsX11_twoWires (wsV RX11 112 RX9 yX9_tells wsX9_tells) := goodIn_app (goodIn_of _ (by decide +kernel)) ggX11_twoWires_X9_tells
set_option maxRecDepth 20000 in
theorem ggX11_twoWires_X9_ends : GoodIn wsX11_twoWires wsX9_ends := goodIn_r _ [56, 24, 31, 28, 32, 57, 15, 58, 47, 48, 49, 50, 69, 70, 71, 72, 73, 59, 60, 61, 62, 63, 64, 65, 66, 67, 68] (by decide +kernel) (by decide +kernel)
set_option maxRecDepth 20000 in
theorem gX11_twoWires_X9_ends : GoodIn wsX11_twoWires (wsV RX11 121 RX9 yX9_ends wsX9_ends) := goodIn_app (goodIn_of _ (by decide +kernel)) ggX11_twoWires_X9_ends
set_option maxRecDepth 20000 in
theorem ggX11_fourWires_X11_isWire : GoodIn wsX11_fourWires wsX11_isWire := goodIn_r _ [12, 5, 13, 14, 11, 15] (by decide +kernel) (by decide +kernel)
set_option maxRecDepth 20000 in
theorem gX11_fourWires_X11_isWire : GoodIn wsX11_fourWires (va_wsS RX11 53 yX11_isWire wsX11_isWire) := goodIn_app (goodIn_of _ (by decide +kernel)) ggX11_fourWires_X11_isWire
set_option maxRecDepth 20000 in
theorem ggX11_fourWires_X11_in : GoodIn wsX11_fourWires wsX11_in := goodIn_r _ [15] (by decide +kernel) (by decide +kernel)
set_option maxRecDepth 20000 in
theorem gX11_fourWires_X11_in : GoodIn wsX11_fourWires (va_wsS RX11 49 yX11_in wsX11_in) := goodIn_app (goodIn_of _ (by decide +kernel)) ggX11_fourWires_X11_in
set_option maxRecDepth 20000 in
theorem ggX11_fourWires_X9_init : GoodIn wsX11_fourWires wsX9_init := goodIn_r _ [18, 19, 20, 21, 22, 23, 24, 25, 26, 27, 28, 11, 29, 30, 31, 32, 33, 34, 35, 36, 37, 64, 65, 66, 67, 68, 54, 55, 56, 57, 58, 59, 60, 61, 62, 63] (by decide +kernel) (by decide +kernel)
set_option maxRecDepth 20000 in
theorem gX11_fourWires_X9_init : GoodIn wsX11_fourWires (wsX9_init) := ggX11_fourWires_X9_init
set_option maxRecDepth 20000 in
theorem ggX11_fourWires_X9_tells : GoodIn wsX11_fourWires wsX9_tells := goodIn_r _ [41, 25, 23, 19, 27, 26, 42, 11, 43, 44, 45, 46, 47, 64, 65, 66, 67, 68, 54, 55, 56, 57, 58, 59, 60, 61, 62, 63] (by decide +kernel) (by decide +kernel)
set_option maxRecDepth 20000 in
theorem gX11_fourWires_X9_tells : GoodIn wsX11_fourWires (wsV RX11 112 RX9 yX9_tells wsX9_tells) := goodIn_app (goodIn_of _ (by decide +kernel)) ggX11_fourWires_X9_tells
set_option maxRecDepth 20000 in
theorem ggX11_fourWires_X9_ends : GoodIn wsX11_fourWires wsX9_ends := goodIn_r _ [51, 19, 26, 23, 27, 52, 11, 53, 42, 43, 44, 45, 64, 65, 66, 67, 68, 54, 55, 56, 57, 58, 59, 60, 61, 62, 63] (by decide +kernel) (by decide +kernel)
set_option maxRecDepth 20000 in
theorem gX11_fourWires_X9_ends : GoodIn wsX11_fourWires (wsV RX11 121 RX9 yX9_ends wsX9_ends) := goodIn_app (goodIn_of _ (by decide +kernel)) ggX11_fourWires_X9_ends
set_option maxRecDepth 20000 in
theorem ggX11_noCapture_X11_in : GoodIn wsX11_noCapture wsX11_in := goodIn_r _ [5] (by decide +kernel) (by decide +kernel)
set_option maxRecDepth 20000 in
theorem gX11_noCapture_X11_in : GoodIn wsX11_noCapture (va_wsS RX11 49 yX11_in wsX11_in) := goodIn_app (goodIn_of _ (by decide +kernel)) ggX11_noCapture_X11_in
set_option maxRecDepth 20000 in
theorem ggX11_noRow_X11_in : GoodIn wsX11_noRow wsX11_in := goodIn_r _ [5] (by decide +kernel) (by decide +kernel)
set_option maxRecDepth 20000 in
theorem gX11_noRow_X11_in : GoodIn wsX11_noRow (va_wsS RX11 49 yX11_in wsX11_in) := goodIn_app (goodIn_of _ (by decide +kernel)) ggX11_noRow_X11_in
set_option maxRecDepth 20000 in
theorem ggX11_noRow_X11_isWire : GoodIn wsX11_noRow wsX11_isWire := goodIn_r _ [8, 9, 2, 3, 4, 5] (by decide +kernel) (by decide +kernel)
set_option maxRecDepth 20000 in
theorem gX11_noRow_X11_isWire : GoodIn wsX11_noRow (va_wsS RX11 53 yX11_isWire wsX11_isWire) := goodIn_app (goodIn_of _ (by decide +kernel)) ggX11_noRow_X11_isWire
set_option maxRecDepth 20000 in
theorem ggX11_capture_X11_noCapture : GoodIn wsX11_capture wsX11_noCapture := goodIn_r _ [19, 4, 20, 21, 18, 22, 23, 24, 25, 26, 27, 28, 29, 30, 31, 32] (by decide +kernel) (by decide +kernel)
set_option maxRecDepth 20000 in
theorem gX11_capture_X11_noCapture : GoodIn wsX11_capture (wsV RX11 128 RX11 yX11_noCapture wsX11_noCapture) := goodIn_app (goodIn_of _ (by decide +kernel)) ggX11_capture_X11_noCapture
set_option maxRecDepth 20000 in
theorem ggX11_capture_X11_in : GoodIn wsX11_capture wsX11_in := goodIn_r _ [22] (by decide +kernel) (by decide +kernel)
set_option maxRecDepth 20000 in
theorem gX11_capture_X11_in : GoodIn wsX11_capture (va_wsS RX11 49 yX11_in wsX11_in) := goodIn_app (goodIn_of _ (by decide +kernel)) ggX11_capture_X11_in
set_option maxRecDepth 20000 in
theorem ggX11_samples_X11_noCapture : GoodIn wsX11_samples wsX11_noCapture := goodIn_r _ [6, 7, 8, 9, 5, 10, 11, 12, 13, 14, 15, 16, 17, 18, 19, 20] (by decide +kernel) (by decide +kernel)
set_option maxRecDepth 20000 in
theorem gX11_samples_X11_noCapture : GoodIn wsX11_samples (wsV RX11 128 RX11 yX11_noCapture wsX11_noCapture) := goodIn_app (goodIn_of _ (by decide +kernel)) ggX11_samples_X11_noCapture
set_option maxRecDepth 20000 in
theorem ggX11_sample_X11_noCapture : GoodIn wsX11_sample wsX11_noCapture := goodIn_r _ [7, 2, 8, 9, 6, 10, 11, 12, 13, 14, 15, 16, 17, 18, 19, 20] (by decide +kernel) (by decide +kernel)
set_option maxRecDepth 20000 in
theorem gX11_sample_X11_noCapture : GoodIn wsX11_sample (wsV RX11 128 RX11 yX11_noCapture wsX11_noCapture) := goodIn_app (goodIn_of _ (by decide +kernel)) ggX11_sample_X11_noCapture
set_option maxRecDepth 20000 in
theorem ggX11_sample_X11_in : GoodIn wsX11_sample wsX11_in := goodIn_r _ [10] (by decide +kernel) (by decide +kernel)
set_option maxRecDepth 20000 in
theorem gX11_sample_X11_in : GoodIn wsX11_sample (va_wsS RX11 49 yX11_in wsX11_in) := goodIn_app (goodIn_of _ (by decide +kernel)) ggX11_sample_X11_in
set_option maxRecDepth 20000 in
theorem ggX11_isEdge_X11_isHigh : GoodIn wsX11_isEdge wsX11_isHigh := goodIn_r _ [5, 6, 7, 8, 9, 10, 11, 12, 13, 14, 15, 16] (by decide +kernel) (by decide +kernel)
set_option maxRecDepth 20000 in
theorem gX11_isEdge_X11_isHigh : GoodIn wsX11_isEdge (wsV RX11 133 RX11 yX11_isHigh wsX11_isHigh) := goodIn_app (goodIn_of _ (by decide +kernel)) ggX11_isEdge_X11_isHigh
set_option maxRecDepth 20000 in
theorem ggX11_falls_X11_isEdge : GoodIn wsX11_falls wsX11_isEdge := goodIn_r _ [5, 6, 7, 8, 4, 9, 10, 11, 12, 13, 14, 15, 16, 17, 18, 19, 20] (by decide +kernel) (by decide +kernel)
set_option maxRecDepth 20000 in
theorem gX11_falls_X11_isEdge : GoodIn wsX11_falls (wsV RX11 137 RX11 yX11_isEdge wsX11_isEdge) := goodIn_app (goodIn_of _ (by decide +kernel)) ggX11_falls_X11_isEdge
set_option maxRecDepth 20000 in
theorem ggX11_falls_X11_isHigh : GoodIn wsX11_falls wsX11_isHigh := goodIn_r _ [9, 10, 11, 12, 13, 14, 15, 16, 17, 18, 19, 20] (by decide +kernel) (by decide +kernel)
set_option maxRecDepth 20000 in
theorem gX11_falls_X11_isHigh : GoodIn wsX11_falls (wsV RX11 133 RX11 yX11_isHigh wsX11_isHigh) := goodIn_app (goodIn_of _ (by decide +kernel)) ggX11_falls_X11_isHigh
set_option maxRecDepth 20000 in
theorem ggX11_rises_X11_isEdge : GoodIn wsX11_rises wsX11_isEdge := goodIn_r _ [5, 6, 7, 8, 4, 9, 10, 11, 12, 13, 14, 15, 16, 17, 18, 19, 20] (by decide +kernel) (by decide +kernel)
set_option maxRecDepth 20000 in
theorem gX11_rises_X11_isEdge : GoodIn wsX11_rises (wsV RX11 137 RX11 yX11_isEdge wsX11_isEdge) := goodIn_app (goodIn_of _ (by decide +kernel)) ggX11_rises_X11_isEdge
set_option maxRecDepth 20000 in
theorem ggX11_rises_X11_isHigh : GoodIn wsX11_rises wsX11_isHigh := goodIn_r _ [9, 10, 11, 12, 13, 14, 15, 16, 17, 18, 19, 20] (by decide +kernel) (by decide +kernel)
set_option maxRecDepth 20000 in
theorem gX11_rises_X11_isHigh : GoodIn wsX11_rises (wsV RX11 133 RX11 yX11_isHigh wsX11_isHigh) := goodIn_app (goodIn_of _ (by decide +kernel)) ggX11_rises_X11_isHigh
set_option maxRecDepth 20000 in
theorem ggX11_runsOf_Jx4a65c_init_da8c8 : GoodIn wsX11_runsOf wsJx4a65c_init_da8c8 := goodIn_r _ [8, 9, 10, 11, 12, 13, 14, 15, 16, 17, 18, 19, 20, 21, 22, 130, 131, 132] (by decide +kernel) (by decide +kernel)
set_option maxRecDepth 20000 in
theorem gX11_runsOf_Jx4a65c_init_da8c8 : GoodIn wsX11_runsOf (wsJx4a65c_init_da8c8) := ggX11_runsOf_Jx4a65c_init_da8c8
set_option maxRecDepth 20000 in
theorem ggX11_runsOf_X11_isEdge : GoodIn wsX11_runsOf wsX11_isEdge := goodIn_r _ [27, 28, 29, 30, 26, 31, 4, 133, 134, 135, 136, 137, 138, 139, 140, 141, 142] (by decide +kernel) (by decide +kernel)
set_option maxRecDepth 20000 in
theorem gX11_runsOf_X11_isEdge : GoodIn wsX11_runsOf (wsV RX11 137 RX11 yX11_isEdge wsX11_isEdge) := goodIn_app (goodIn_of _ (by decide +kernel)) ggX11_runsOf_X11_isEdge
set_option maxRecDepth 20000 in
theorem ggX11_runsOf_J6_valueOf_2dffe : GoodIn wsX11_runsOf wsJ6_valueOf_2dffe := goodIn_r _ [35, 36, 37, 38, 39, 34, 40, 41, 42, 43, 44, 45, 46, 47, 48, 21, 22, 143] (by decide +kernel) (by decide +kernel)
set_option maxRecDepth 20000 in
theorem gX11_runsOf_J6_valueOf_2dffe : GoodIn wsX11_runsOf (va_wsS RX11 140 yJ6_valueOf_2dffe wsJ6_valueOf_2dffe) := goodIn_app (goodIn_of _ (by decide +kernel)) ggX11_runsOf_J6_valueOf_2dffe
set_option maxRecDepth 20000 in
theorem ggX11_runsOf_Jx4a65c_add_9ea2d : GoodIn wsX11_runsOf wsJx4a65c_add_9ea2d := goodIn_r _ [52, 53, 54, 10, 55, 56, 57, 58, 3, 59, 60, 61, 62, 63, 64, 65, 66, 67, 9, 68, 69, 70, 71, 72, 73, 74, 75, 76, 77, 78, 79, 80, 81, 82, 83, 84, 85, 86, 87, 88, 89, 90, 91, 92, 93, 94, 95, 96, 97, 98, 99, 100, 101, 130, 131, 132] (by decide +kernel) (by decide +kernel)
set_option maxRecDepth 20000 in
theorem gX11_runsOf_Jx4a65c_add_9ea2d : GoodIn wsX11_runsOf (wsV RX11 144 RJx4a65c yJx4a65c_add_9ea2d wsJx4a65c_add_9ea2d) := goodIn_app (goodIn_of _ (by decide +kernel)) ggX11_runsOf_Jx4a65c_add_9ea2d
set_option maxRecDepth 20000 in
theorem ggX11_runsOf_Jx4a65c_size_8abf5 : GoodIn wsX11_runsOf wsJx4a65c_size_8abf5 := goodIn_r _ [105, 55, 130, 131, 132] (by decide +kernel) (by decide +kernel)
set_option maxRecDepth 20000 in
theorem gX11_runsOf_Jx4a65c_size_8abf5 : GoodIn wsX11_runsOf (wsV RX11 148 RJx4a65c yJx4a65c_size_8abf5 wsJx4a65c_size_8abf5) := goodIn_app (goodIn_of _ (by decide +kernel)) ggX11_runsOf_Jx4a65c_size_8abf5
set_option maxRecDepth 20000 in
theorem ggX11_runsOf_Jx4a65c_get_915e3 : GoodIn wsX11_runsOf wsJx4a65c_get_915e3 := goodIn_r _ [109, 55, 110, 111, 112, 113, 114, 115, 116, 117, 118, 119, 120, 3, 121, 10, 130, 131, 132] (by decide +kernel) (by decide +kernel)
set_option maxRecDepth 20000 in
theorem gX11_runsOf_Jx4a65c_get_915e3 : GoodIn wsX11_runsOf (wsV RX11 152 RJx4a65c yJx4a65c_get_915e3 wsJx4a65c_get_915e3) := goodIn_app (goodIn_of _ (by decide +kernel)) ggX11_runsOf_Jx4a65c_get_915e3
set_option maxRecDepth 20000 in
theorem ggX11_runsOf_J6_intValue_8abf5 : GoodIn wsX11_runsOf wsJ6_intValue_8abf5 := goodIn_r _ [125, 43, 143] (by decide +kernel) (by decide +kernel)
set_option maxRecDepth 20000 in
theorem gX11_runsOf_J6_intValue_8abf5 : GoodIn wsX11_runsOf (wsV RX11 156 RJ6 yJ6_intValue_8abf5 wsJ6_intValue_8abf5) := goodIn_app (goodIn_of _ (by decide +kernel)) ggX11_runsOf_J6_intValue_8abf5
set_option maxRecDepth 20000 in
theorem ggX11_runsOf_Jx4a65c_set_bcc79 : GoodIn wsX11_runsOf wsJx4a65c_set_bcc79 := goodIn_r _ [129, 55, 10, 110, 111, 112, 113, 114, 115, 116, 117, 118, 119, 120, 3, 121, 130, 131, 132] (by decide +kernel) (by decide +kernel)
set_option maxRecDepth 20000 in
theorem gX11_runsOf_Jx4a65c_set_bcc79 : GoodIn wsX11_runsOf (wsV RX11 159 RJx4a65c yJx4a65c_set_bcc79 wsJx4a65c_set_bcc79) := goodIn_app (goodIn_of _ (by decide +kernel)) ggX11_runsOf_Jx4a65c_set_bcc79
set_option maxRecDepth 20000 in
theorem ggX11_runs_X11_noRow : GoodIn wsX11_runs wsX11_noRow := goodIn_r _ [5, 6, 7, 8, 4, 9, 10, 11, 12, 13, 146, 147, 148, 149, 150, 151, 152, 153, 154, 155] (by decide +kernel) (by decide +kernel)
set_option maxRecDepth 20000 in
theorem gX11_runs_X11_noRow : GoodIn wsX11_runs (wsV RX11 163 RX11 yX11_noRow wsX11_noRow) := goodIn_app (goodIn_of _ (by decide +kernel)) ggX11_runs_X11_noRow
set_option maxRecDepth 20000 in
theorem ggX11_runs_X11_runsOf : GoodIn wsX11_runs wsX11_runsOf := goodIn_r _ [17, 18, 19, 20, 21, 22, 23, 24, 25, 26, 27, 28, 29, 30, 31, 32, 33, 34, 35, 36, 37, 38, 39, 40, 41, 42, 4, 43, 44, 45, 46, 47, 48, 49, 50, 51, 52, 53, 54, 55, 56, 57, 58, 59, 60, 61, 62, 63, 64, 65, 66, 67, 68, 69, 70, 71, 72, 73, 74, 75, 76, 77, 78, 79, 80, 81, 82, 83, 84, 85, 86, 87, 88, 89, 90, 91, 92, 93, 94, 95, 96, 97, 98, 99, 100, 101, 102, 103, 104, 105, 106, 107, 108, 109, 110, 111, 112, 113, 114, 115, 116, 117, 118, 119, 120, 121, 122, 123, 124, 125, 126, 127, 128, 129, 130, 131, 132, 133, 134, 135, 136, 137, 138, 139, 140, 141, 142, 143, 144, 145, 156, 157, 158, 146, 147, 148, 149, 150, 151, 152, 153, 154, 155, 159] (by decide +kernel) (by decide +kernel)
set_option maxRecDepth 20000 in
theorem gX11_runs_X11_runsOf : GoodIn wsX11_runs (wsV RX11 166 RX11 yX11_runsOf wsX11_runsOf) := goodIn_app (goodIn_of _ (by decide +kernel)) ggX11_runs_X11_runsOf
set_option maxRecDepth 20000 in
theorem ggX11_runs_Jx4a65c_size_8abf5 : GoodIn wsX11_runs wsJx4a65c_size_8abf5 := goodIn_r _ [121, 71, 156, 157, 158] (by decide +kernel) (by decide +kernel)
set_option maxRecDepth 20000 in
theorem gX11_runs_Jx4a65c_size_8abf5 : GoodIn wsX11_runs (wsV RX11 148 RJx4a65c yJx4a65c_size_8abf5 wsJx4a65c_size_8abf5) := goodIn_app (goodIn_of _ (by decide +kernel)) ggX11_runs_Jx4a65c_size_8abf5
set_option maxRecDepth 20000 in
theorem ggX11_run_X11_noRow : GoodIn wsX11_run wsX11_noRow := goodIn_r _ [7, 1, 8, 9, 6, 10, 11, 12, 13, 14, 146, 147, 148, 149, 150, 151, 152, 153, 154, 155] (by decide +kernel) (by decide +kernel)
set_option maxRecDepth 20000 in
theorem gX11_run_X11_noRow : GoodIn wsX11_run (wsV RX11 163 RX11 yX11_noRow wsX11_noRow) := goodIn_app (goodIn_of _ (by decide +kernel)) ggX11_run_X11_noRow
set_option maxRecDepth 20000 in
theorem ggX11_run_X11_runsOf : GoodIn wsX11_run wsX11_runsOf := goodIn_r _ [18, 19, 20, 21, 22, 2, 23, 24, 25, 26, 27, 28, 29, 30, 31, 32, 33, 34, 35, 36, 37, 38, 39, 40, 41, 42, 6, 43, 44, 45, 46, 47, 48, 49, 50, 51, 52, 53, 54, 55, 56, 57, 58, 59, 60, 61, 62, 63, 64, 65, 66, 67, 68, 69, 70, 71, 72, 73, 74, 75, 76, 77, 78, 79, 80, 81, 82, 83, 84, 85, 86, 87, 88, 89, 90, 91, 92, 93, 94, 95, 96, 97, 98, 99, 100, 101, 102, 103, 104, 105, 106, 107, 108, 109, 110, 111, 112, 113, 114, 115, 116, 117, 118, 119, 120, 121, 122, 123, 124, 125, 126, 127, 128, 129, 130, 131, 132, 133, 134, 135, 136, 137, 138, 139, 140, 141, 142, 143, 144, 145, 156, 157, 158, 146, 147, 148, 149, 150, 151, 152, 153, 154, 155, 159] (by decide +kernel) (by decide +kernel)
set_option maxRecDepth 20000 in
theorem gX11_run_X11_runsOf : GoodIn wsX11_run (wsV RX11 166 RX11 yX11_runsOf wsX11_runsOf) := goodIn_app (goodIn_of _ (by decide +kernel)) ggX11_run_X11_runsOf
set_option maxRecDepth 20000 in
theorem ggX11_run_Jx4a65c_size_8abf5 : GoodIn wsX11_run wsJx4a65c_size_8abf5 := goodIn_r _ [121, 71, 156, 157, 158] (by decide +kernel) (by decide +kernel)
set_option maxRecDepth 20000 in
theorem gX11_run_Jx4a65c_size_8abf5 : GoodIn wsX11_run (wsV RX11 148 RJx4a65c yJx4a65c_size_8abf5 wsJx4a65c_size_8abf5) := goodIn_app (goodIn_of _ (by decide +kernel)) ggX11_run_Jx4a65c_size_8abf5
set_option maxRecDepth 20000 in
theorem ggX11_run_X11_in : GoodIn wsX11_run wsX11_in := goodIn_r _ [10] (by decide +kernel) (by decide +kernel)
set_option maxRecDepth 20000 in
theorem gX11_run_X11_in : GoodIn wsX11_run (va_wsS RX11 49 yX11_in wsX11_in) := goodIn_app (goodIn_of _ (by decide +kernel)) ggX11_run_X11_in
set_option maxRecDepth 20000 in
theorem ggX11_run_Jx4a65c_get_915e3 : GoodIn wsX11_run wsJx4a65c_get_915e3 := goodIn_r _ [125, 71, 126, 127, 128, 129, 130, 131, 132, 133, 134, 135, 136, 21, 137, 27, 156, 157, 158] (by decide +kernel) (by decide +kernel)
set_option maxRecDepth 20000 in
theorem gX11_run_Jx4a65c_get_915e3 : GoodIn wsX11_run (wsV RX11 152 RJx4a65c yJx4a65c_get_915e3 wsJx4a65c_get_915e3) := goodIn_app (goodIn_of _ (by decide +kernel)) ggX11_run_Jx4a65c_get_915e3
set_option maxRecDepth 20000 in
theorem ggX11_run_J6_intValue_8abf5 : GoodIn wsX11_run wsJ6_intValue_8abf5 := goodIn_r _ [141, 59, 159] (by decide +kernel) (by decide +kernel)
set_option maxRecDepth 20000 in
theorem gX11_run_J6_intValue_8abf5 : GoodIn wsX11_run (wsV RX11 156 RJ6 yJ6_intValue_8abf5 wsJ6_intValue_8abf5) := goodIn_app (goodIn_of _ (by decide +kernel)) ggX11_run_J6_intValue_8abf5
set_option maxRecDepth 20000 in
theorem ggX11_shortest_X11_noRow : GoodIn wsX11_shortest wsX11_noRow := goodIn_r _ [11, 6, 12, 13, 10, 14, 15, 16, 17, 18, 147, 148, 149, 150, 151, 152, 153, 154, 155, 156] (by decide +kernel) (by decide +kernel)
set_option maxRecDepth 20000 in
theorem gX11_shortest_X11_noRow : GoodIn wsX11_shortest (wsV RX11 163 RX11 yX11_noRow wsX11_noRow) := goodIn_app (goodIn_of _ (by decide +kernel)) ggX11_shortest_X11_noRow
set_option maxRecDepth 20000 in
theorem ggX11_shortest_X11_runsOf : GoodIn wsX11_shortest wsX11_runsOf := goodIn_r _ [22, 23, 24, 25, 26, 1, 27, 28, 29, 30, 31, 32, 33, 34, 35, 36, 37, 38, 39, 40, 41, 42, 43, 44, 45, 46, 10, 47, 48, 49, 50, 51, 52, 53, 54, 55, 56, 57, 58, 59, 60, 61, 62, 63, 64, 65, 66, 67, 68, 69, 70, 71, 72, 73, 74, 75, 76, 77, 78, 79, 80, 81, 82, 83, 84, 85, 86, 87, 88, 89, 4, 90, 91, 92, 93, 94, 95, 96, 97, 98, 99, 100, 101, 102, 103, 104, 105, 106, 107, 108, 109, 110, 111, 112, 113, 114, 3, 5, 115, 116, 117, 118, 119, 120, 121, 122, 123, 124, 125, 126, 127, 128, 129, 130, 131, 132, 133, 134, 135, 136, 137, 138, 139, 140, 141, 142, 143, 144, 145, 146, 157, 158, 159, 147, 148, 149, 150, 151, 152, 153, 154, 155, 156, 160] (by decide +kernel) (by decide +kernel)
set_option maxRecDepth 20000 in
theorem gX11_shortest_X11_runsOf : GoodIn wsX11_shortest (wsV RX11 166 RX11 yX11_runsOf wsX11_runsOf) := goodIn_app (goodIn_of _ (by decide +kernel)) ggX11_shortest_X11_runsOf
set_option maxRecDepth 20000 in
theorem ggX11_shortest_Jx4a65c_size_8abf5 : GoodIn wsX11_shortest wsJx4a65c_size_8abf5 := goodIn_r _ [122, 75, 157, 158, 159] (by decide +kernel) (by decide +kernel)
set_option maxRecDepth 20000 in
theorem gX11_shortest_Jx4a65c_size_8abf5 : GoodIn wsX11_shortest (wsV RX11 148 RJx4a65c yJx4a65c_size_8abf5 wsJx4a65c_size_8abf5) := goodIn_app (goodIn_of _ (by decide +kernel)) ggX11_shortest_Jx4a65c_size_8abf5
set_option maxRecDepth 20000 in
theorem ggX11_shortest_Jx4a65c_get_915e3 : GoodIn wsX11_shortest wsJx4a65c_get_915e3 := goodIn_r _ [126, 75, 127, 128, 129, 130, 131, 132, 133, 134, 135, 136, 137, 25, 138, 31, 157, 158, 159] (by decide +kernel) (by decide +kernel)
set_option maxRecDepth 20000 in
theorem gX11_shortest_Jx4a65c_get_915e3 : GoodIn wsX11_shortest (wsV RX11 152 RJx4a65c yJx4a65c_get_915e3 wsJx4a65c_get_915e3) := goodIn_app (goodIn_of _ (by decide +kernel)) ggX11_shortest_Jx4a65c_get_915e3
set_option maxRecDepth 20000 in
theorem ggX11_shortest_J6_intValue_8abf5 : GoodIn wsX11_shortest wsJ6_intValue_8abf5 := goodIn_r _ [142, 63, 160] (by decide +kernel) (by decide +kernel)
set_option maxRecDepth 20000 in
theorem gX11_shortest_J6_intValue_8abf5 : GoodIn wsX11_shortest (wsV RX11 156 RJ6 yJ6_intValue_8abf5 wsJ6_intValue_8abf5) := goodIn_app (goodIn_of _ (by decide +kernel)) ggX11_shortest_J6_intValue_8abf5
set_option maxRecDepth 20000 in
theorem ggX11_block_X11_noRow : GoodIn wsX11_block wsX11_noRow := goodIn_r _ [15, 2, 16, 17, 14, 18, 19, 20, 21, 22, 27, 28, 29, 30, 31, 32, 33, 34, 35, 36] (by decide +kernel) (by decide +kernel)
set_option maxRecDepth 20000 in
theorem gX11_block_X11_noRow : GoodIn wsX11_block (wsV RX11 163 RX11 yX11_noRow wsX11_noRow) := goodIn_app (goodIn_of _ (by decide +kernel)) ggX11_block_X11_noRow
set_option maxRecDepth 20000 in
theorem ggX11_block_X11_in : GoodIn wsX11_block wsX11_in := goodIn_r _ [18] (by decide +kernel) (by decide +kernel)
set_option maxRecDepth 20000 in
theorem gX11_block_X11_in : GoodIn wsX11_block (va_wsS RX11 49 yX11_in wsX11_in) := goodIn_app (goodIn_of _ (by decide +kernel)) ggX11_block_X11_in
set_option maxRecDepth 20000 in
theorem ggX11_block_X11_isHigh : GoodIn wsX11_block wsX11_isHigh := goodIn_r _ [26, 3, 27, 28, 29, 30, 31, 32, 33, 34, 35, 36] (by decide +kernel) (by decide +kernel)
set_option maxRecDepth 20000 in
theorem gX11_block_X11_isHigh : GoodIn wsX11_block (wsV RX11 133 RX11 yX11_isHigh wsX11_isHigh) := goodIn_app (goodIn_of _ (by decide +kernel)) ggX11_block_X11_isHigh
set_option maxRecDepth 20000 in
theorem ggX11_step_X11_isWire : GoodIn wsX11_step wsX11_isWire := goodIn_r _ [11, 12, 13, 14, 10, 15] (by decide +kernel) (by decide +kernel)
set_option maxRecDepth 20000 in
theorem gX11_step_X11_isWire : GoodIn wsX11_step (va_wsS RX11 53 yX11_isWire wsX11_isWire) := goodIn_app (goodIn_of _ (by decide +kernel)) ggX11_step_X11_isWire
set_option maxRecDepth 20000 in
theorem ggX11_step_J0_indexOf_0f7a4 : GoodIn wsX11_step wsJ0_indexOf_0f7a4 := goodIn_r _ [20, 21, 22, 23, 19, 24, 25, 26, 27, 28, 29, 30, 31, 32, 33, 34, 35, 36, 37, 38, 39, 40, 41, 42, 43, 44, 45, 46, 47, 48, 49, 50, 51, 52, 53, 54, 55, 56, 57, 58, 59, 60, 61, 62, 63, 64, 65, 66, 67, 68, 69, 70, 71, 72, 73, 74, 75, 76, 77, 78, 79, 80, 81, 82, 83, 84, 85, 86, 87, 88, 89, 90, 91, 92, 93, 94, 95, 96, 97, 98, 99, 100, 101, 102, 103, 104] (by decide +kernel) (by decide +kernel)
set_option maxRecDepth 20000 in
theorem gX11_step_J0_indexOf_0f7a4 : GoodIn wsX11_step (wsV RX11 183 RJ0 yJ0_indexOf_0f7a4 wsJ0_indexOf_0f7a4) := goodIn_app (goodIn_of _ (by decide +kernel)) ggX11_step_J0_indexOf_0f7a4
set_option maxRecDepth 20000 in
theorem ggX11_step_X11_in : GoodIn wsX11_step wsX11_in := goodIn_r _ [15] (by decide +kernel) (by decide +kernel)
set_option maxRecDepth 20000 in
theorem gX11_step_X11_in : GoodIn wsX11_step (va_wsS RX11 49 yX11_in wsX11_in) := goodIn_app (goodIn_of _ (by decide +kernel)) ggX11_step_X11_in
set_option maxRecDepth 20000 in
theorem ggX11_step_Jx4a65c_size_8abf5 : GoodIn wsX11_step wsJx4a65c_size_8abf5 := goodIn_r _ [109, 110, 182, 183, 184] (by decide +kernel) (by decide +kernel)
set_option maxRecDepth 20000 in
theorem gX11_step_Jx4a65c_size_8abf5 : GoodIn wsX11_step (wsV RX11 148 RJx4a65c yJx4a65c_size_8abf5 wsJx4a65c_size_8abf5) := goodIn_app (goodIn_of _ (by decide +kernel)) ggX11_step_Jx4a65c_size_8abf5
set_option maxRecDepth 20000 in
theorem ggX11_step_X10_init : GoodIn wsX11_step wsX10_init := goodIn_r _ [113, 114, 115, 116, 117, 118, 119, 179, 180, 181] (by decide +kernel) (by decide +kernel)
set_option maxRecDepth 20000 in
theorem gX11_step_X10_init : GoodIn wsX11_step (wsX10_init) := ggX11_step_X10_init
set_option maxRecDepth 20000 in
theorem ggX11_step_Jx4a65c_add_9ea2d : GoodIn wsX11_step wsJx4a65c_add_9ea2d := goodIn_r _ [123, 124, 125, 126, 110, 127, 128, 129, 108, 130, 131, 132, 133, 134, 135, 136, 137, 138, 139, 140, 45, 46, 47, 141, 142, 143, 144, 145, 146, 147, 148, 149, 150, 151, 152, 153, 154, 155, 156, 157, 158, 159, 160, 161, 162, 163, 164, 49, 50, 165, 166, 167, 168, 182, 183, 184] (by decide +kernel) (by decide +kernel)
set_option maxRecDepth 20000 in
theorem gX11_step_Jx4a65c_add_9ea2d : GoodIn wsX11_step (wsV RX11 144 RJx4a65c yJx4a65c_add_9ea2d wsJx4a65c_add_9ea2d) := goodIn_app (goodIn_of _ (by decide +kernel)) ggX11_step_Jx4a65c_add_9ea2d
set_option maxRecDepth 20000 in
theorem ggX11_reset_Jx4a65c_size_8abf5 : GoodIn wsX11_reset wsJx4a65c_size_8abf5 := goodIn_r _ [7, 8, 26, 27, 28] (by decide +kernel) (by decide +kernel)
set_option maxRecDepth 20000 in
theorem gX11_reset_Jx4a65c_size_8abf5 : GoodIn wsX11_reset (wsV RX11 148 RJx4a65c yJx4a65c_size_8abf5 wsJx4a65c_size_8abf5) := goodIn_app (goodIn_of _ (by decide +kernel)) ggX11_reset_Jx4a65c_size_8abf5
set_option maxRecDepth 20000 in
theorem ggX11_reset_Jx4a65c_clear_da8c8 : GoodIn wsX11_reset wsJx4a65c_clear_da8c8 := goodIn_r _ [12, 13, 14, 15, 8, 26, 27, 28] (by decide +kernel) (by decide +kernel)
set_option maxRecDepth 20000 in
theorem gX11_reset_Jx4a65c_clear_da8c8 : GoodIn wsX11_reset (wsV RX11 193 RJx4a65c yJx4a65c_clear_da8c8 wsJx4a65c_clear_da8c8) := goodIn_app (goodIn_of _ (by decide +kernel)) ggX11_reset_Jx4a65c_clear_da8c8
set_option maxRecDepth 20000 in
theorem ggX11_meets_X11_rises : GoodIn wsX11_meets wsX11_rises := goodIn_r _ [6, 7, 8, 9, 5, 10, 11, 12, 13, 14, 1, 19, 20, 21, 22, 23, 24, 25, 26, 27, 28] (by decide +kernel) (by decide +kernel)
set_option maxRecDepth 20000 in
theorem gX11_meets_X11_rises : GoodIn wsX11_meets (wsV RX11 203 RX11 yX11_rises wsX11_rises) := goodIn_app (goodIn_of _ (by decide +kernel)) ggX11_meets_X11_rises
set_option maxRecDepth 20000 in
theorem ggX11_meets_X11_falls : GoodIn wsX11_meets wsX11_falls := goodIn_r _ [18, 7, 8, 9, 5, 10, 11, 12, 13, 14, 1, 19, 20, 21, 22, 23, 24, 25, 26, 27, 28] (by decide +kernel) (by decide +kernel)
set_option maxRecDepth 20000 in
theorem gX11_meets_X11_falls : GoodIn wsX11_meets (wsV RX11 206 RX11 yX11_falls wsX11_falls) := goodIn_app (goodIn_of _ (by decide +kernel)) ggX11_meets_X11_falls
set_option maxRecDepth 20000 in
theorem ggX11_meets_X11_isHigh : GoodIn wsX11_meets wsX11_isHigh := goodIn_r _ [14, 1, 19, 20, 21, 22, 23, 24, 25, 26, 27, 28] (by decide +kernel) (by decide +kernel)
set_option maxRecDepth 20000 in
theorem gX11_meets_X11_isHigh : GoodIn wsX11_meets (wsV RX11 133 RX11 yX11_isHigh wsX11_isHigh) := goodIn_app (goodIn_of _ (by decide +kernel)) ggX11_meets_X11_isHigh
set_option maxRecDepth 20000 in
theorem ggX11_trigger_X11_noCapture : GoodIn wsX11_trigger wsX11_noCapture := goodIn_r _ [8, 2, 9, 10, 7, 11, 71, 72, 73, 74, 75, 76, 77, 78, 79, 80] (by decide +kernel) (by decide +kernel)
set_option maxRecDepth 20000 in
theorem gX11_trigger_X11_noCapture : GoodIn wsX11_trigger (wsV RX11 128 RX11 yX11_noCapture wsX11_noCapture) := goodIn_app (goodIn_of _ (by decide +kernel)) ggX11_trigger_X11_noCapture
set_option maxRecDepth 20000 in
theorem ggX11_trigger_Jx4a65c_isEmpty_aae02 : GoodIn wsX11_trigger wsJx4a65c_isEmpty_aae02 := goodIn_r _ [16, 17, 81, 82, 83] (by decide +kernel) (by decide +kernel)
set_option maxRecDepth 20000 in
theorem gX11_trigger_Jx4a65c_isEmpty_aae02 : GoodIn wsX11_trigger (wsV RX11 212 RJx4a65c yJx4a65c_isEmpty_aae02 wsJx4a65c_isEmpty_aae02) := goodIn_app (goodIn_of _ (by decide +kernel)) ggX11_trigger_Jx4a65c_isEmpty_aae02
set_option maxRecDepth 20000 in
theorem ggX11_trigger_Jx4a65c_iterator_32c93 : GoodIn wsX11_trigger wsJx4a65c_iterator_32c93 := goodIn_r _ [21, 22, 23, 24, 25, 26, 27, 28, 29, 30, 31, 32, 33, 34, 35, 84, 85, 86, 87, 81, 82, 83] (by decide +kernel) (by decide +kernel)
set_option maxRecDepth 20000 in
theorem gX11_trigger_Jx4a65c_iterator_32c93 : GoodIn wsX11_trigger (wsV RX11 216 RJx4a65c yJx4a65c_iterator_32c93 wsJx4a65c_iterator_32c93) := goodIn_app (goodIn_of _ (by decide +kernel)) ggX11_trigger_Jx4a65c_iterator_32c93
set_option maxRecDepth 20000 in
theorem ggX11_trigger_Jx35411_hasNext_aae02 : GoodIn wsX11_trigger wsJx35411_hasNext_aae02 := goodIn_r _ [39, 40, 28, 84, 85, 86, 87, 81, 82, 83] (by decide +kernel) (by decide +kernel)
set_option maxRecDepth 20000 in
theorem gX11_trigger_Jx35411_hasNext_aae02_f220Jx35411 : GoodIn wsX11_trigger (va_wsF RX11 220 RJx35411 ⟨"java/util/Iterator", "hasNext", "()Z"⟩ yJx35411_hasNext_aae02 wsJx35411_hasNext_aae02) := goodIn_app (goodIn_of _ (by decide +kernel)) ggX11_trigger_Jx35411_hasNext_aae02
set_option maxRecDepth 20000 in
theorem ggX11_trigger_Jx35411_next_0502b : GoodIn wsX11_trigger wsJx35411_next_0502b := goodIn_r _ [44, 40, 28, 45, 32, 46, 47, 48, 24, 49, 33, 34, 35, 84, 85, 86, 87, 81, 82, 83] (by decide +kernel) (by decide +kernel)
set_option maxRecDepth 20000 in
theorem gX11_trigger_Jx35411_next_0502b_f225Jx35411 : GoodIn wsX11_trigger (va_wsF RX11 225 RJx35411 ⟨"java/util/Iterator", "next", "()Ljava/lang/Object;"⟩ yJx35411_next_0502b wsJx35411_next_0502b) := goodIn_app (goodIn_of _ (by decide +kernel)) ggX11_trigger_Jx35411_next_0502b
set_option maxRecDepth 20000 in
theorem ggX11_trigger_X11_meets : GoodIn wsX11_trigger wsX11_meets := goodIn_r _ [53, 54, 55, 56, 57, 7, 58, 59, 60, 61, 62, 63, 64, 65, 66, 67, 68, 69, 70, 71, 72, 73, 74, 75, 76, 77, 78, 79, 80, 88, 89, 90] (by decide +kernel) (by decide +kernel)
set_option maxRecDepth 20000 in
theorem gX11_trigger_X11_meets : GoodIn wsX11_trigger (wsV RX11 228 RX11 yX11_meets wsX11_meets) := goodIn_app (goodIn_of _ (by decide +kernel)) ggX11_trigger_X11_meets
set_option maxRecDepth 20000 in
theorem ggX11_notes_Jx4a65c_size_8abf5 : GoodIn wsX11_notes wsJx4a65c_size_8abf5 := goodIn_r _ [9, 10, 91, 92, 93] (by decide +kernel) (by decide +kernel)
set_option maxRecDepth 20000 in
theorem gX11_notes_Jx4a65c_size_8abf5 : GoodIn wsX11_notes (wsV RX11 148 RJx4a65c yJx4a65c_size_8abf5 wsJx4a65c_size_8abf5) := goodIn_app (goodIn_of _ (by decide +kernel)) ggX11_notes_Jx4a65c_size_8abf5
set_option maxRecDepth 20000 in
theorem ggX11_notes_X8_init : GoodIn wsX11_notes wsX8_init := goodIn_r _ [13, 14, 15, 16, 17, 18, 19, 20, 21, 86, 87, 88, 89, 90] (by decide +kernel) (by decide +kernel)
set_option maxRecDepth 20000 in
theorem gX11_notes_X8_init : GoodIn wsX11_notes (wsX8_init) := ggX11_notes_X8_init
set_option maxRecDepth 20000 in
theorem ggX11_notes_Jx4a65c_add_9ea2d : GoodIn wsX11_notes wsJx4a65c_add_9ea2d := goodIn_r _ [25, 26, 27, 28, 10, 29, 30, 31, 8, 32, 33, 34, 35, 36, 37, 38, 39, 40, 41, 42, 43, 44, 45, 46, 47, 48, 49, 50, 51, 52, 53, 54, 55, 56, 57, 58, 59, 60, 61, 62, 63, 64, 65, 66, 67, 68, 69, 70, 71, 72, 73, 74, 75, 91, 92, 93] (by decide +kernel) (by decide +kernel)
set_option maxRecDepth 20000 in
theorem gX11_notes_Jx4a65c_add_9ea2d : GoodIn wsX11_notes (wsV RX11 144 RJx4a65c yJx4a65c_add_9ea2d wsJx4a65c_add_9ea2d) := goodIn_app (goodIn_of _ (by decide +kernel)) ggX11_notes_Jx4a65c_add_9ea2d
set_option maxRecDepth 20000 in
theorem ggX11_decodeSerial_X11_noRow : GoodIn wsX11_decodeSerial wsX11_noRow := goodIn_r _ [10, 3, 11, 12, 9, 13, 14, 15, 16, 17, 115, 116, 117, 118, 119, 120, 121, 122, 123, 124] (by decide +kernel) (by decide +kernel)
set_option maxRecDepth 20000 in
theorem gX11_decodeSerial_X11_noRow : GoodIn wsX11_decodeSerial (wsV RX11 163 RX11 yX11_noRow wsX11_noRow) := goodIn_app (goodIn_of _ (by decide +kernel)) ggX11_decodeSerial_X11_noRow
set_option maxRecDepth 20000 in
theorem ggX11_decodeSerial_X11_in : GoodIn wsX11_decodeSerial wsX11_in := goodIn_r _ [13] (by decide +kernel) (by decide +kernel)
set_option maxRecDepth 20000 in
theorem gX11_decodeSerial_X11_in : GoodIn wsX11_decodeSerial (va_wsS RX11 49 yX11_in wsX11_in) := goodIn_app (goodIn_of _ (by decide +kernel)) ggX11_decodeSerial_X11_in
set_option maxRecDepth 20000 in
theorem ggX11_decodeSerial_X11_isParity : GoodIn wsX11_decodeSerial wsX11_isParity := goodIn_r _ [20] (by decide +kernel) (by decide +kernel)
set_option maxRecDepth 20000 in
theorem gX11_decodeSerial_X11_isParity : GoodIn wsX11_decodeSerial (va_wsS RX11 100 yX11_isParity wsX11_isParity) := goodIn_app (goodIn_of _ (by decide +kernel)) ggX11_decodeSerial_X11_isParity
set_option maxRecDepth 20000 in
theorem ggX11_decodeSerial_Jx4a65c_clear_da8c8 : GoodIn wsX11_decodeSerial wsJx4a65c_clear_da8c8 := goodIn_r _ [25, 26, 27, 28, 29, 125, 126, 127] (by decide +kernel) (by decide +kernel)
set_option maxRecDepth 20000 in
theorem gX11_decodeSerial_Jx4a65c_clear_da8c8 : GoodIn wsX11_decodeSerial (wsV RX11 193 RJx4a65c yJx4a65c_clear_da8c8 wsJx4a65c_clear_da8c8) := goodIn_app (goodIn_of _ (by decide +kernel)) ggX11_decodeSerial_Jx4a65c_clear_da8c8
set_option maxRecDepth 20000 in
theorem ggX11_decodeSerial_X11_falls : GoodIn wsX11_decodeSerial wsX11_falls := goodIn_r _ [33, 34, 35, 36, 9, 37, 38, 39, 40, 41, 5, 115, 116, 117, 118, 119, 120, 121, 122, 123, 124] (by decide +kernel) (by decide +kernel)
set_option maxRecDepth 20000 in
theorem gX11_decodeSerial_X11_falls : GoodIn wsX11_decodeSerial (wsV RX11 206 RX11 yX11_falls wsX11_falls) := goodIn_app (goodIn_of _ (by decide +kernel)) ggX11_decodeSerial_X11_falls
set_option maxRecDepth 20000 in
theorem ggX11_decodeSerial_X11_isHigh : GoodIn wsX11_decodeSerial wsX11_isHigh := goodIn_r _ [41, 5, 115, 116, 117, 118, 119, 120, 121, 122, 123, 124] (by decide +kernel) (by decide +kernel)
set_option maxRecDepth 20000 in
theorem gX11_decodeSerial_X11_isHigh : GoodIn wsX11_decodeSerial (wsV RX11 133 RX11 yX11_isHigh wsX11_isHigh) := goodIn_app (goodIn_of _ (by decide +kernel)) ggX11_decodeSerial_X11_isHigh
set_option maxRecDepth 20000 in
theorem ggX11_decodeSerial_X11_notes : GoodIn wsX11_decodeSerial wsX11_notes := goodIn_r _ [45, 4, 46, 47, 48, 49, 50, 51, 24, 52, 29, 53, 54, 55, 56, 57, 58, 59, 60, 61, 62, 63, 64, 65, 66, 67, 26, 27, 28, 68, 69, 70, 71, 72, 73, 74, 75, 76, 77, 78, 79, 80, 81, 82, 83, 84, 85, 86, 87, 88, 89, 90, 91, 92, 93, 94, 95, 96, 97, 98, 99, 100, 101, 102, 103, 104, 105, 106, 107, 108, 109, 110, 111, 112, 113, 114, 115, 116, 117, 118, 119, 120, 121, 122, 123, 124, 128, 129, 130, 131, 132, 125, 126, 127] (by decide +kernel) (by decide +kernel)
set_option maxRecDepth 20000 in
theorem gX11_decodeSerial_X11_notes : GoodIn wsX11_decodeSerial (wsV RX11 241 RX11 yX11_notes wsX11_notes) := goodIn_app (goodIn_of _ (by decide +kernel)) ggX11_decodeSerial_X11_notes
set_option maxRecDepth 20000 in
theorem ggX11_decodeSerial_Jx4a65c_size_8abf5 : GoodIn wsX11_decodeSerial wsJx4a65c_size_8abf5 := goodIn_r _ [52, 29, 125, 126, 127] (by decide +kernel) (by decide +kernel)
set_option maxRecDepth 20000 in
theorem gX11_decodeSerial_Jx4a65c_size_8abf5 : GoodIn wsX11_decodeSerial (wsV RX11 148 RJx4a65c yJx4a65c_size_8abf5 wsJx4a65c_size_8abf5) := goodIn_app (goodIn_of _ (by decide +kernel)) ggX11_decodeSerial_Jx4a65c_size_8abf5
set_option maxRecDepth 20000 in
theorem ggX11_decodeTwo_X11_in : GoodIn wsX11_decodeTwo wsX11_in := goodIn_r _ [8] (by decide +kernel) (by decide +kernel)
set_option maxRecDepth 20000 in
theorem gX11_decodeTwo_X11_in : GoodIn wsX11_decodeTwo (va_wsS RX11 49 yX11_in wsX11_in) := goodIn_app (goodIn_of _ (by decide +kernel)) ggX11_decodeTwo_X11_in
set_option maxRecDepth 20000 in
theorem ggX11_decodeTwo_X11_isWire : GoodIn wsX11_decodeTwo wsX11_isWire := goodIn_r _ [11, 12, 5, 6, 7, 8] (by decide +kernel) (by decide +kernel)
set_option maxRecDepth 20000 in
theorem gX11_decodeTwo_X11_isWire : GoodIn wsX11_decodeTwo (va_wsS RX11 53 yX11_isWire wsX11_isWire) := goodIn_app (goodIn_of _ (by decide +kernel)) ggX11_decodeTwo_X11_isWire
set_option maxRecDepth 20000 in
theorem ggX11_decodeTwo_Jx4a65c_clear_da8c8 : GoodIn wsX11_decodeTwo wsJx4a65c_clear_da8c8 := goodIn_r _ [17, 18, 19, 20, 21, 121, 122, 123] (by decide +kernel) (by decide +kernel)
set_option maxRecDepth 20000 in
theorem gX11_decodeTwo_Jx4a65c_clear_da8c8 : GoodIn wsX11_decodeTwo (wsV RX11 193 RJx4a65c yJx4a65c_clear_da8c8 wsJx4a65c_clear_da8c8) := goodIn_app (goodIn_of _ (by decide +kernel)) ggX11_decodeTwo_Jx4a65c_clear_da8c8
set_option maxRecDepth 20000 in
theorem ggX11_decodeTwo_X11_isHigh : GoodIn wsX11_decodeTwo wsX11_isHigh := goodIn_r _ [25, 3, 111, 112, 113, 114, 115, 116, 117, 118, 119, 120] (by decide +kernel) (by decide +kernel)
set_option maxRecDepth 20000 in
theorem gX11_decodeTwo_X11_isHigh : GoodIn wsX11_decodeTwo (wsV RX11 133 RX11 yX11_isHigh wsX11_isHigh) := goodIn_app (goodIn_of _ (by decide +kernel)) ggX11_decodeTwo_X11_isHigh
set_option maxRecDepth 20000 in
theorem ggX11_decodeTwo_X11_isEdge : GoodIn wsX11_decodeTwo wsX11_isEdge := goodIn_r _ [29, 22, 23, 24, 7, 25, 3, 111, 112, 113, 114, 115, 116, 117, 118, 119, 120] (by decide +kernel) (by decide +kernel)
set_option maxRecDepth 20000 in
theorem gX11_decodeTwo_X11_isEdge : GoodIn wsX11_decodeTwo (wsV RX11 137 RX11 yX11_isEdge wsX11_isEdge) := goodIn_app (goodIn_of _ (by decide +kernel)) ggX11_decodeTwo_X11_isEdge
set_option maxRecDepth 20000 in
theorem ggX11_decodeTwo_X11_falls : GoodIn wsX11_decodeTwo wsX11_falls := goodIn_r _ [33, 26, 27, 28, 7, 29, 22, 23, 24, 25, 3, 111, 112, 113, 114, 115, 116, 117, 118, 119, 120] (by decide +kernel) (by decide +kernel)
set_option maxRecDepth 20000 in
theorem gX11_decodeTwo_X11_falls : GoodIn wsX11_decodeTwo (wsV RX11 206 RX11 yX11_falls wsX11_falls) := goodIn_app (goodIn_of _ (by decide +kernel)) ggX11_decodeTwo_X11_falls
set_option maxRecDepth 20000 in
theorem ggX11_decodeTwo_X11_notes : GoodIn wsX11_decodeTwo wsX11_notes := goodIn_r _ [37, 2, 38, 39, 40, 41, 42, 43, 16, 44, 21, 45, 46, 47, 48, 49, 50, 51, 52, 53, 54, 55, 56, 57, 58, 59, 18, 19, 20, 60, 61, 62, 63, 64, 65, 66, 67, 68, 69, 70, 71, 72, 73, 74, 75, 76, 77, 78, 79, 80, 81, 82, 83, 84, 85, 86, 87, 88, 89, 90, 91, 92, 93, 94, 95, 96, 97, 98, 99, 100, 101, 102, 103, 104, 105, 106, 111, 112, 113, 114, 115, 116, 117, 118, 119, 120, 124, 125, 126, 127, 128, 121, 122, 123] (by decide +kernel) (by decide +kernel)
set_option maxRecDepth 20000 in
theorem gX11_decodeTwo_X11_notes : GoodIn wsX11_decodeTwo (wsV RX11 241 RX11 yX11_notes wsX11_notes) := goodIn_app (goodIn_of _ (by decide +kernel)) ggX11_decodeTwo_X11_notes
set_option maxRecDepth 20000 in
theorem ggX11_decodeTwo_X11_rises : GoodIn wsX11_decodeTwo wsX11_rises := goodIn_r _ [110, 26, 27, 28, 7, 29, 22, 23, 24, 25, 3, 111, 112, 113, 114, 115, 116, 117, 118, 119, 120] (by decide +kernel) (by decide +kernel)
set_option maxRecDepth 20000 in
theorem gX11_decodeTwo_X11_rises : GoodIn wsX11_decodeTwo (wsV RX11 203 RX11 yX11_rises wsX11_rises) := goodIn_app (goodIn_of _ (by decide +kernel)) ggX11_decodeTwo_X11_rises
set_option maxRecDepth 20000 in
theorem ggX11_decodeTwo_Jx4a65c_size_8abf5 : GoodIn wsX11_decodeTwo wsJx4a65c_size_8abf5 := goodIn_r _ [44, 21, 121, 122, 123] (by decide +kernel) (by decide +kernel)
set_option maxRecDepth 20000 in
theorem gX11_decodeTwo_Jx4a65c_size_8abf5 : GoodIn wsX11_decodeTwo (wsV RX11 148 RJx4a65c yJx4a65c_size_8abf5 wsJx4a65c_size_8abf5) := goodIn_app (goodIn_of _ (by decide +kernel)) ggX11_decodeTwo_Jx4a65c_size_8abf5
set_option maxRecDepth 20000 in
theorem ggX11_decodeFour_X11_in : GoodIn wsX11_decodeFour wsX11_in := goodIn_r _ [8] (by decide +kernel) (by decide +kernel)
set_option maxRecDepth 20000 in
theorem gX11_decodeFour_X11_in : GoodIn wsX11_decodeFour (va_wsS RX11 49 yX11_in wsX11_in) := goodIn_app (goodIn_of _ (by decide +kernel)) ggX11_decodeFour_X11_in
set_option maxRecDepth 20000 in
theorem ggX11_decodeFour_X11_isWire : GoodIn wsX11_decodeFour wsX11_isWire := goodIn_r _ [11, 2, 5, 6, 7, 8] (by decide +kernel) (by decide +kernel)
set_option maxRecDepth 20000 in
theorem gX11_decodeFour_X11_isWire : GoodIn wsX11_decodeFour (va_wsS RX11 53 yX11_isWire wsX11_isWire) := goodIn_app (goodIn_of _ (by decide +kernel)) ggX11_decodeFour_X11_isWire
set_option maxRecDepth 20000 in
theorem ggX11_decodeFour_Jx4a65c_clear_da8c8 : GoodIn wsX11_decodeFour wsJx4a65c_clear_da8c8 := goodIn_r _ [16, 17, 18, 19, 20, 120, 121, 122] (by decide +kernel) (by decide +kernel)
set_option maxRecDepth 20000 in
theorem gX11_decodeFour_Jx4a65c_clear_da8c8 : GoodIn wsX11_decodeFour (wsV RX11 193 RJx4a65c yJx4a65c_clear_da8c8 wsJx4a65c_clear_da8c8) := goodIn_app (goodIn_of _ (by decide +kernel)) ggX11_decodeFour_Jx4a65c_clear_da8c8
set_option maxRecDepth 20000 in
theorem ggX11_decodeFour_X11_isHigh : GoodIn wsX11_decodeFour wsX11_isHigh := goodIn_r _ [24, 4, 110, 111, 112, 113, 114, 115, 116, 117, 118, 119] (by decide +kernel) (by decide +kernel)
set_option maxRecDepth 20000 in
theorem gX11_decodeFour_X11_isHigh : GoodIn wsX11_decodeFour (wsV RX11 133 RX11 yX11_isHigh wsX11_isHigh) := goodIn_app (goodIn_of _ (by decide +kernel)) ggX11_decodeFour_X11_isHigh
set_option maxRecDepth 20000 in
theorem ggX11_decodeFour_X11_rises : GoodIn wsX11_decodeFour wsX11_rises := goodIn_r _ [28, 29, 30, 31, 7, 32, 21, 22, 23, 24, 4, 110, 111, 112, 113, 114, 115, 116, 117, 118, 119] (by decide +kernel) (by decide +kernel)
set_option maxRecDepth 20000 in
theorem gX11_decodeFour_X11_rises : GoodIn wsX11_decodeFour (wsV RX11 203 RX11 yX11_rises wsX11_rises) := goodIn_app (goodIn_of _ (by decide +kernel)) ggX11_decodeFour_X11_rises
set_option maxRecDepth 20000 in
theorem ggX11_decodeFour_X11_falls : GoodIn wsX11_decodeFour wsX11_falls := goodIn_r _ [36, 29, 30, 31, 7, 32, 21, 22, 23, 24, 4, 110, 111, 112, 113, 114, 115, 116, 117, 118, 119] (by decide +kernel) (by decide +kernel)
set_option maxRecDepth 20000 in
theorem gX11_decodeFour_X11_falls : GoodIn wsX11_decodeFour (wsV RX11 206 RX11 yX11_falls wsX11_falls) := goodIn_app (goodIn_of _ (by decide +kernel)) ggX11_decodeFour_X11_falls
set_option maxRecDepth 20000 in
theorem ggX11_decodeFour_X11_notes : GoodIn wsX11_decodeFour wsX11_notes := goodIn_r _ [40, 3, 41, 42, 43, 44, 45, 46, 15, 47, 20, 48, 49, 50, 51, 52, 53, 54, 55, 56, 57, 58, 59, 60, 61, 62, 17, 18, 19, 63, 64, 65, 66, 67, 68, 69, 70, 71, 72, 73, 74, 75, 76, 77, 78, 79, 80, 81, 82, 83, 84, 85, 86, 87, 88, 89, 90, 91, 92, 93, 94, 95, 96, 97, 98, 99, 100, 101, 102, 103, 104, 105, 106, 107, 108, 109, 110, 111, 112, 113, 114, 115, 116, 117, 118, 119, 123, 124, 125, 126, 127, 120, 121, 122] (by decide +kernel) (by decide +kernel)
set_option maxRecDepth 20000 in
theorem gX11_decodeFour_X11_notes : GoodIn wsX11_decodeFour (wsV RX11 241 RX11 yX11_notes wsX11_notes) := goodIn_app (goodIn_of _ (by decide +kernel)) ggX11_decodeFour_X11_notes
set_option maxRecDepth 20000 in
theorem ggX11_decodeFour_Jx4a65c_size_8abf5 : GoodIn wsX11_decodeFour wsJx4a65c_size_8abf5 := goodIn_r _ [47, 20, 120, 121, 122] (by decide +kernel) (by decide +kernel)
set_option maxRecDepth 20000 in
theorem gX11_decodeFour_Jx4a65c_size_8abf5 : GoodIn wsX11_decodeFour (wsV RX11 148 RJx4a65c yJx4a65c_size_8abf5 wsJx4a65c_size_8abf5) := goodIn_app (goodIn_of _ (by decide +kernel)) ggX11_decodeFour_Jx4a65c_size_8abf5
set_option maxRecDepth 20000 in
theorem ggX11_notes__Jx4a65c_size_8abf5 : GoodIn wsX11_notes_ wsJx4a65c_size_8abf5 := goodIn_r _ [7, 8, 19, 20, 21] (by decide +kernel) (by decide +kernel)
set_option maxRecDepth 20000 in
theorem gX11_notes__Jx4a65c_size_8abf5 : GoodIn wsX11_notes_ (wsV RX11 148 RJx4a65c yJx4a65c_size_8abf5 wsJx4a65c_size_8abf5) := goodIn_app (goodIn_of _ (by decide +kernel)) ggX11_notes__Jx4a65c_size_8abf5
set_option maxRecDepth 20000 in
theorem ggX11_noNote_Jx4a65c_size_8abf5 : GoodIn wsX11_noNote wsJx4a65c_size_8abf5 := goodIn_r _ [7, 8, 23, 24, 25] (by decide +kernel) (by decide +kernel)
set_option maxRecDepth 20000 in
theorem gX11_noNote_Jx4a65c_size_8abf5 : GoodIn wsX11_noNote (wsV RX11 148 RJx4a65c yJx4a65c_size_8abf5 wsJx4a65c_size_8abf5) := goodIn_app (goodIn_of _ (by decide +kernel)) ggX11_noNote_Jx4a65c_size_8abf5
set_option maxRecDepth 20000 in
theorem ggX11_noNote_X11_in : GoodIn wsX11_noNote wsX11_in := goodIn_r _ [12] (by decide +kernel) (by decide +kernel)
set_option maxRecDepth 20000 in
theorem gX11_noNote_X11_in : GoodIn wsX11_noNote (va_wsS RX11 49 yX11_in wsX11_in) := goodIn_app (goodIn_of _ (by decide +kernel)) ggX11_noNote_X11_in
set_option maxRecDepth 20000 in
theorem ggX11_kind_X11_noNote : GoodIn wsX11_kind wsX11_noNote := goodIn_r _ [7, 1, 8, 9, 10, 11, 12, 13, 14, 15, 16, 6, 17, 35, 36, 37, 38, 39, 40, 41, 42, 43, 44, 50, 51, 52] (by decide +kernel) (by decide +kernel)
set_option maxRecDepth 20000 in
theorem gX11_kind_X11_noNote : GoodIn wsX11_kind (wsV RX11 243 RX11 yX11_noNote wsX11_noNote) := goodIn_app (goodIn_of _ (by decide +kernel)) ggX11_kind_X11_noNote
set_option maxRecDepth 20000 in
theorem ggX11_kind_Jx4a65c_get_915e3 : GoodIn wsX11_kind wsJx4a65c_get_915e3 := goodIn_r _ [21, 14, 22, 23, 24, 25, 26, 27, 28, 29, 30, 31, 32, 12, 33, 34, 50, 51, 52] (by decide +kernel) (by decide +kernel)
set_option maxRecDepth 20000 in
theorem gX11_kind_Jx4a65c_get_915e3 : GoodIn wsX11_kind (wsV RX11 152 RJx4a65c yJx4a65c_get_915e3 wsJx4a65c_get_915e3) := goodIn_app (goodIn_of _ (by decide +kernel)) ggX11_kind_Jx4a65c_get_915e3
set_option maxRecDepth 20000 in
theorem ggX11_begin_X11_noNote : GoodIn wsX11_begin wsX11_noNote := goodIn_r _ [7, 1, 8, 9, 10, 11, 12, 13, 14, 15, 16, 6, 17, 35, 36, 37, 38, 39, 40, 41, 42, 43, 44, 50, 51, 52] (by decide +kernel) (by decide +kernel)
set_option maxRecDepth 20000 in
theorem gX11_begin_X11_noNote : GoodIn wsX11_begin (wsV RX11 243 RX11 yX11_noNote wsX11_noNote) := goodIn_app (goodIn_of _ (by decide +kernel)) ggX11_begin_X11_noNote
set_option maxRecDepth 20000 in
theorem ggX11_begin_Jx4a65c_get_915e3 : GoodIn wsX11_begin wsJx4a65c_get_915e3 := goodIn_r _ [21, 14, 22, 23, 24, 25, 26, 27, 28, 29, 30, 31, 32, 12, 33, 34, 50, 51, 52] (by decide +kernel) (by decide +kernel)
set_option maxRecDepth 20000 in
theorem gX11_begin_Jx4a65c_get_915e3 : GoodIn wsX11_begin (wsV RX11 152 RJx4a65c yJx4a65c_get_915e3 wsJx4a65c_get_915e3) := goodIn_app (goodIn_of _ (by decide +kernel)) ggX11_begin_Jx4a65c_get_915e3
set_option maxRecDepth 20000 in
theorem ggX11_end_X11_noNote : GoodIn wsX11_end wsX11_noNote := goodIn_r _ [7, 1, 8, 9, 10, 11, 12, 13, 14, 15, 16, 6, 17, 35, 36, 37, 38, 39, 40, 41, 42, 43, 44, 50, 51, 52] (by decide +kernel) (by decide +kernel)
set_option maxRecDepth 20000 in
theorem gX11_end_X11_noNote : GoodIn wsX11_end (wsV RX11 243 RX11 yX11_noNote wsX11_noNote) := goodIn_app (goodIn_of _ (by decide +kernel)) ggX11_end_X11_noNote
set_option maxRecDepth 20000 in
theorem ggX11_end_Jx4a65c_get_915e3 : GoodIn wsX11_end wsJx4a65c_get_915e3 := goodIn_r _ [21, 14, 22, 23, 24, 25, 26, 27, 28, 29, 30, 31, 32, 12, 33, 34, 50, 51, 52] (by decide +kernel) (by decide +kernel)
set_option maxRecDepth 20000 in
theorem gX11_end_Jx4a65c_get_915e3 : GoodIn wsX11_end (wsV RX11 152 RJx4a65c yJx4a65c_get_915e3 wsJx4a65c_get_915e3) := goodIn_app (goodIn_of _ (by decide +kernel)) ggX11_end_Jx4a65c_get_915e3
set_option maxRecDepth 20000 in
theorem ggX11_value_X11_noNote : GoodIn wsX11_value wsX11_noNote := goodIn_r _ [7, 1, 8, 9, 10, 11, 12, 13, 14, 15, 16, 6, 17, 35, 36, 37, 38, 39, 40, 41, 42, 43, 44, 50, 51, 52] (by decide +kernel) (by decide +kernel)
set_option maxRecDepth 20000 in
theorem gX11_value_X11_noNote : GoodIn wsX11_value (wsV RX11 243 RX11 yX11_noNote wsX11_noNote) := goodIn_app (goodIn_of _ (by decide +kernel)) ggX11_value_X11_noNote
set_option maxRecDepth 20000 in
theorem ggX11_value_Jx4a65c_get_915e3 : GoodIn wsX11_value wsJx4a65c_get_915e3 := goodIn_r _ [21, 14, 22, 23, 24, 25, 26, 27, 28, 29, 30, 31, 32, 12, 33, 34, 50, 51, 52] (by decide +kernel) (by decide +kernel)
set_option maxRecDepth 20000 in
theorem gX11_value_Jx4a65c_get_915e3 : GoodIn wsX11_value (wsV RX11 152 RJx4a65c yJx4a65c_get_915e3 wsJx4a65c_get_915e3) := goodIn_app (goodIn_of _ (by decide +kernel)) ggX11_value_Jx4a65c_get_915e3
set_option maxRecDepth 20000 in
theorem ggX11_fault_X11_noNote : GoodIn wsX11_fault wsX11_noNote := goodIn_r _ [7, 1, 8, 9, 10, 11, 12, 13, 14, 15, 16, 6, 17, 35, 36, 37, 38, 39, 40, 41, 42, 43, 44, 50, 51, 52] (by decide +kernel) (by decide +kernel)
set_option maxRecDepth 20000 in
theorem gX11_fault_X11_noNote : GoodIn wsX11_fault (wsV RX11 243 RX11 yX11_noNote wsX11_noNote) := goodIn_app (goodIn_of _ (by decide +kernel)) ggX11_fault_X11_noNote
set_option maxRecDepth 20000 in
theorem ggX11_fault_Jx4a65c_get_915e3 : GoodIn wsX11_fault wsJx4a65c_get_915e3 := goodIn_r _ [21, 14, 22, 23, 24, 25, 26, 27, 28, 29, 30, 31, 32, 12, 33, 34, 50, 51, 52] (by decide +kernel) (by decide +kernel)
set_option maxRecDepth 20000 in
theorem gX11_fault_Jx4a65c_get_915e3 : GoodIn wsX11_fault (wsV RX11 152 RJx4a65c yJx4a65c_get_915e3 wsJx4a65c_get_915e3) := goodIn_app (goodIn_of _ (by decide +kernel)) ggX11_fault_Jx4a65c_get_915e3
set_option maxRecDepth 20000 in
theorem ggX11_rate_X11_shortest : GoodIn wsX11_rate wsX11_shortest := goodIn_r _ [5, 6, 7, 8, 9, 10, 11, 12, 13, 14, 4, 15, 16, 17, 18, 19, 20, 21, 22, 23, 24, 25, 26, 27, 28, 29, 30, 31, 32, 33, 34, 35, 36, 37, 38, 39, 40, 41, 42, 43, 44, 45, 46, 47, 48, 49, 50, 51, 52, 53, 54, 55, 56, 57, 58, 59, 60, 61, 62, 63, 64, 65, 66, 67, 68, 69, 70, 71, 72, 73, 74, 75, 76, 77, 78, 79, 80, 81, 82, 83, 84, 85, 86, 87, 88, 89, 90, 91, 92, 93, 94, 95, 96, 97, 98, 99, 100, 101, 102, 103, 104, 105, 106, 107, 108, 109, 110, 111, 112, 113, 114, 115, 116, 117, 118, 119, 120, 121, 122, 123, 124, 125, 126, 127, 128, 129, 130, 131, 132, 133, 134, 135, 136, 137, 138, 139, 140, 141, 142, 143, 144, 145, 146, 147, 148, 149, 150, 151, 152, 153, 154, 155, 156, 157, 158, 159, 160, 161, 162, 163, 164] (by decide +kernel) (by decide +kernel)
set_option maxRecDepth 20000 in
theorem gX11_rate_X11_shortest : GoodIn wsX11_rate (wsV RX11 259 RX11 yX11_shortest wsX11_shortest) := goodIn_app (goodIn_of _ (by decide +kernel)) ggX11_rate_X11_shortest
set_option maxRecDepth 20000 in
theorem ggX11_register_X11_in : GoodIn wsX11_register wsX11_in := goodIn_r _ [8] (by decide +kernel) (by decide +kernel)
set_option maxRecDepth 20000 in
theorem gX11_register_X11_in : GoodIn wsX11_register (va_wsS RX11 49 yX11_in wsX11_in) := goodIn_app (goodIn_of _ (by decide +kernel)) ggX11_register_X11_in
set_option maxRecDepth 20000 in
theorem ggX11_follows_X11_in : GoodIn wsX11_follows wsX11_in := goodIn_r _ [8] (by decide +kernel) (by decide +kernel)
set_option maxRecDepth 20000 in
theorem gX11_follows_X11_in : GoodIn wsX11_follows (va_wsS RX11 49 yX11_in wsX11_in) := goodIn_app (goodIn_of _ (by decide +kernel)) ggX11_follows_X11_in
set_option maxRecDepth 20000 in
theorem ggX11_follows_Jx4a65c_iterator_32c93 : GoodIn wsX11_follows wsJx4a65c_iterator_32c93 := goodIn_r _ [13, 14, 15, 16, 17, 18, 19, 20, 21, 22, 23, 24, 25, 26, 27, 63, 64, 65, 66, 67, 68, 69] (by decide +kernel) (by decide +kernel)
set_option maxRecDepth 20000 in
theorem gX11_follows_Jx4a65c_iterator_32c93 : GoodIn wsX11_follows (wsV RX11 216 RJx4a65c yJx4a65c_iterator_32c93 wsJx4a65c_iterator_32c93) := goodIn_app (goodIn_of _ (by decide +kernel)) ggX11_follows_Jx4a65c_iterator_32c93
set_option maxRecDepth 20000 in
theorem ggX11_follows_Jx35411_hasNext_aae02 : GoodIn wsX11_follows wsJx35411_hasNext_aae02 := goodIn_r _ [31, 32, 20, 63, 64, 65, 66, 67, 68, 69] (by decide +kernel) (by decide +kernel)
set_option maxRecDepth 20000 in
theorem gX11_follows_Jx35411_hasNext_aae02_f220Jx35411 : GoodIn wsX11_follows (va_wsF RX11 220 RJx35411 ⟨"java/util/Iterator", "hasNext", "()Z"⟩ yJx35411_hasNext_aae02 wsJx35411_hasNext_aae02) := goodIn_app (goodIn_of _ (by decide +kernel)) ggX11_follows_Jx35411_hasNext_aae02
set_option maxRecDepth 20000 in
theorem ggX11_follows_Jx35411_next_0502b : GoodIn wsX11_follows wsJx35411_next_0502b := goodIn_r _ [36, 32, 20, 37, 24, 38, 39, 40, 16, 41, 25, 26, 27, 63, 64, 65, 66, 67, 68, 69] (by decide +kernel) (by decide +kernel)
set_option maxRecDepth 20000 in
theorem gX11_follows_Jx35411_next_0502b_f225Jx35411 : GoodIn wsX11_follows (va_wsF RX11 225 RJx35411 ⟨"java/util/Iterator", "next", "()Ljava/lang/Object;"⟩ yJx35411_next_0502b wsJx35411_next_0502b) := goodIn_app (goodIn_of _ (by decide +kernel)) ggX11_follows_Jx35411_next_0502b
set_option maxRecDepth 20000 in
theorem ggX11_follows_X8_isByte : GoodIn wsX11_follows wsX8_isByte := goodIn_r _ [46, 47, 58, 59, 60, 61, 62] (by decide +kernel) (by decide +kernel)
set_option maxRecDepth 20000 in
theorem gX11_follows_X8_isByte : GoodIn wsX11_follows (wsV RX11 262 RX8 yX8_isByte wsX8_isByte) := goodIn_app (goodIn_of _ (by decide +kernel)) ggX11_follows_X8_isByte
set_option maxRecDepth 20000 in
theorem ggX11_beside_X11_in : GoodIn wsX11_beside wsX11_in := goodIn_r _ [5] (by decide +kernel) (by decide +kernel)
set_option maxRecDepth 20000 in
theorem gX11_beside_X11_in : GoodIn wsX11_beside (va_wsS RX11 49 yX11_in wsX11_in) := goodIn_app (goodIn_of _ (by decide +kernel)) ggX11_beside_X11_in
set_option maxRecDepth 20000 in
theorem ggX11_noOffset_X11_in : GoodIn wsX11_noOffset wsX11_in := goodIn_r _ [7] (by decide +kernel) (by decide +kernel)
set_option maxRecDepth 20000 in
theorem gX11_noOffset_X11_in : GoodIn wsX11_noOffset (va_wsS RX11 49 yX11_in wsX11_in) := goodIn_app (goodIn_of _ (by decide +kernel)) ggX11_noOffset_X11_in
set_option maxRecDepth 20000 in
theorem ggX11_alike_X11_noOffset : GoodIn wsX11_alike wsX11_noOffset := goodIn_r _ [5, 6, 7, 8, 9, 10, 4, 11, 17, 18, 19, 20, 21, 22, 23, 24, 25, 26] (by decide +kernel) (by decide +kernel)
set_option maxRecDepth 20000 in
theorem gX11_alike_X11_noOffset : GoodIn wsX11_alike (wsV RX11 269 RX11 yX11_noOffset wsX11_noOffset) := goodIn_app (goodIn_of _ (by decide +kernel)) ggX11_alike_X11_noOffset
set_option maxRecDepth 20000 in
theorem ggX11_alike_X11_beside : GoodIn wsX11_alike wsX11_beside := goodIn_r _ [15, 16, 9, 10, 4, 11, 17, 18, 19, 20, 21, 22, 23, 24, 25, 26] (by decide +kernel) (by decide +kernel)
set_option maxRecDepth 20000 in
theorem gX11_alike_X11_beside : GoodIn wsX11_alike (wsV RX11 272 RX11 yX11_beside wsX11_beside) := goodIn_app (goodIn_of _ (by decide +kernel)) ggX11_alike_X11_beside
set_option maxRecDepth 20000 in
theorem ggX11_differs_X11_noOffset : GoodIn wsX11_differs wsX11_noOffset := goodIn_r _ [6, 7, 8, 1, 9, 10, 5, 11, 17, 18, 19, 20, 21, 22, 23, 24, 25, 26] (by decide +kernel) (by decide +kernel)
set_option maxRecDepth 20000 in
theorem gX11_differs_X11_noOffset : GoodIn wsX11_differs (wsV RX11 269 RX11 yX11_noOffset wsX11_noOffset) := goodIn_app (goodIn_of _ (by decide +kernel)) ggX11_differs_X11_noOffset
set_option maxRecDepth 20000 in
theorem ggX11_differs_X11_beside : GoodIn wsX11_differs wsX11_beside := goodIn_r _ [15, 16, 9, 10, 5, 11, 17, 18, 19, 20, 21, 22, 23, 24, 25, 26] (by decide +kernel) (by decide +kernel)
set_option maxRecDepth 20000 in
theorem gX11_differs_X11_beside : GoodIn wsX11_differs (wsV RX11 272 RX11 yX11_beside wsX11_beside) := goodIn_app (goodIn_of _ (by decide +kernel)) ggX11_differs_X11_beside
set_option maxRecDepth 20000 in
theorem ggX11_best_X11_in : GoodIn wsX11_best wsX11_in := goodIn_r _ [7] (by decide +kernel) (by decide +kernel)
set_option maxRecDepth 20000 in
theorem gX11_best_X11_in : GoodIn wsX11_best (va_wsS RX11 49 yX11_in wsX11_in) := goodIn_app (goodIn_of _ (by decide +kernel)) ggX11_best_X11_in
set_option maxRecDepth 20000 in
theorem ggX11_best_X11_beside : GoodIn wsX11_best wsX11_beside := goodIn_r _ [11, 2, 4, 5, 6, 7, 12, 13, 14, 15, 16, 17, 18, 19, 20, 21] (by decide +kernel) (by decide +kernel)
set_option maxRecDepth 20000 in
theorem gX11_best_X11_beside : GoodIn wsX11_best (wsV RX11 272 RX11 yX11_beside wsX11_beside) := goodIn_app (goodIn_of _ (by decide +kernel)) ggX11_best_X11_beside
set_option maxRecDepth 20000 in
theorem ggX11_flips_X11_many : GoodIn wsX11_flips wsX11_many := goodIn_r _ [6, 7, 8, 9, 10, 11, 12, 13, 14, 15, 16, 17] (by decide +kernel) (by decide +kernel)
set_option maxRecDepth 20000 in
theorem gX11_flips_X11_many : GoodIn wsX11_flips (wsV RX11 62 RX11 yX11_many wsX11_many) := goodIn_app (goodIn_of _ (by decide +kernel)) ggX11_flips_X11_many
set_option maxRecDepth 20000 in
theorem ggX11_checksum_Jx4a65c_iterator_32c93 : GoodIn wsX11_checksum wsJx4a65c_iterator_32c93 := goodIn_r _ [11, 12, 13, 14, 15, 16, 17, 18, 19, 20, 21, 22, 23, 24, 25, 55, 56, 57, 58, 59, 60, 61] (by decide +kernel) (by decide +kernel)
set_option maxRecDepth 20000 in
theorem gX11_checksum_Jx4a65c_iterator_32c93 : GoodIn wsX11_checksum (wsV RX11 216 RJx4a65c yJx4a65c_iterator_32c93 wsJx4a65c_iterator_32c93) := goodIn_app (goodIn_of _ (by decide +kernel)) ggX11_checksum_Jx4a65c_iterator_32c93
set_option maxRecDepth 20000 in
theorem ggX11_checksum_Jx35411_hasNext_aae02 : GoodIn wsX11_checksum wsJx35411_hasNext_aae02 := goodIn_r _ [29, 30, 18, 55, 56, 57, 58, 59, 60, 61] (by decide +kernel) (by decide +kernel)
set_option maxRecDepth 20000 in
theorem gX11_checksum_Jx35411_hasNext_aae02_f220Jx35411 : GoodIn wsX11_checksum (va_wsF RX11 220 RJx35411 ⟨"java/util/Iterator", "hasNext", "()Z"⟩ yJx35411_hasNext_aae02 wsJx35411_hasNext_aae02) := goodIn_app (goodIn_of _ (by decide +kernel)) ggX11_checksum_Jx35411_hasNext_aae02
set_option maxRecDepth 20000 in
theorem ggX11_checksum_Jx35411_next_0502b : GoodIn wsX11_checksum wsJx35411_next_0502b := goodIn_r _ [34, 30, 18, 35, 22, 36, 37, 38, 14, 39, 23, 24, 25, 55, 56, 57, 58, 59, 60, 61] (by decide +kernel) (by decide +kernel)
set_option maxRecDepth 20000 in
theorem gX11_checksum_Jx35411_next_0502b_f225Jx35411 : GoodIn wsX11_checksum (va_wsF RX11 225 RJx35411 ⟨"java/util/Iterator", "next", "()Ljava/lang/Object;"⟩ yJx35411_next_0502b wsJx35411_next_0502b) := goodIn_app (goodIn_of _ (by decide +kernel)) ggX11_checksum_Jx35411_next_0502b
set_option maxRecDepth 20000 in
theorem ggX11_noSamples_X11_noRow : GoodIn wsX11_noSamples wsX11_noRow := goodIn_r _ [7, 2, 8, 9, 6, 10, 11, 12, 13, 14, 15, 16, 17, 18, 19, 20, 21, 22, 23, 24] (by decide +kernel) (by decide +kernel)
set_option maxRecDepth 20000 in
theorem gX11_noSamples_X11_noRow : GoodIn wsX11_noSamples (wsV RX11 163 RX11 yX11_noRow wsX11_noRow) := goodIn_app (goodIn_of _ (by decide +kernel)) ggX11_noSamples_X11_noRow
set_option maxRecDepth 20000 in
theorem ggX11_highShare_X11_noSamples : GoodIn wsX11_highShare wsX11_noSamples := goodIn_r _ [6, 1, 7, 8, 9, 10, 5, 11, 12, 13, 14, 15, 16, 17, 18, 23, 24, 25, 26, 27, 28, 29, 30, 31, 32] (by decide +kernel) (by decide +kernel)
set_option maxRecDepth 20000 in
theorem gX11_highShare_X11_noSamples : GoodIn wsX11_highShare (wsV RX11 280 RX11 yX11_noSamples wsX11_noSamples) := goodIn_app (goodIn_of _ (by decide +kernel)) ggX11_highShare_X11_noSamples
set_option maxRecDepth 20000 in
theorem ggX11_highShare_X11_isHigh : GoodIn wsX11_highShare wsX11_isHigh := goodIn_r _ [22, 1, 23, 24, 25, 26, 27, 28, 29, 30, 31, 32] (by decide +kernel) (by decide +kernel)
set_option maxRecDepth 20000 in
theorem gX11_highShare_X11_isHigh : GoodIn wsX11_highShare (wsV RX11 133 RX11 yX11_isHigh wsX11_isHigh) := goodIn_app (goodIn_of _ (by decide +kernel)) ggX11_highShare_X11_isHigh
set_option maxRecDepth 20000 in
theorem ggX11_meanRun_X11_noSamples : GoodIn wsX11_meanRun wsX11_noSamples := goodIn_r _ [6, 1, 7, 8, 9, 10, 5, 11, 12, 13, 14, 15, 16, 17, 18, 150, 151, 152, 153, 154, 155, 156, 157, 158, 159] (by decide +kernel) (by decide +kernel)
set_option maxRecDepth 20000 in
theorem gX11_meanRun_X11_noSamples : GoodIn wsX11_meanRun (wsV RX11 280 RX11 yX11_noSamples wsX11_noSamples) := goodIn_app (goodIn_of _ (by decide +kernel)) ggX11_meanRun_X11_noSamples
set_option maxRecDepth 20000 in
theorem ggX11_meanRun_X11_runsOf : GoodIn wsX11_meanRun wsX11_runsOf := goodIn_r _ [22, 23, 24, 25, 1, 26, 27, 28, 29, 30, 31, 32, 33, 34, 35, 36, 37, 38, 39, 40, 41, 42, 43, 44, 45, 46, 5, 47, 48, 49, 50, 51, 52, 53, 54, 55, 56, 57, 58, 59, 60, 61, 62, 63, 64, 65, 66, 67, 68, 69, 70, 71, 72, 73, 74, 75, 76, 77, 78, 79, 80, 81, 82, 83, 84, 85, 86, 87, 88, 89, 90, 91, 92, 93, 94, 95, 96, 97, 98, 99, 100, 101, 102, 103, 104, 105, 106, 107, 108, 109, 110, 111, 112, 113, 114, 115, 116, 117, 118, 119, 120, 121, 122, 123, 124, 125, 126, 127, 128, 129, 130, 131, 132, 133, 134, 135, 136, 137, 138, 139, 140, 141, 142, 143, 144, 145, 146, 147, 148, 149, 160, 161, 162, 150, 151, 152, 153, 154, 155, 156, 157, 158, 159, 163] (by decide +kernel) (by decide +kernel)
set_option maxRecDepth 20000 in
theorem gX11_meanRun_X11_runsOf : GoodIn wsX11_meanRun (wsV RX11 166 RX11 yX11_runsOf wsX11_runsOf) := goodIn_app (goodIn_of _ (by decide +kernel)) ggX11_meanRun_X11_runsOf
set_option maxRecDepth 20000 in
theorem ggX11_meanRun_Jx4a65c_size_8abf5 : GoodIn wsX11_meanRun wsJx4a65c_size_8abf5 := goodIn_r _ [125, 75, 160, 161, 162] (by decide +kernel) (by decide +kernel)
set_option maxRecDepth 20000 in
theorem gX11_meanRun_Jx4a65c_size_8abf5 : GoodIn wsX11_meanRun (wsV RX11 148 RJx4a65c yJx4a65c_size_8abf5 wsJx4a65c_size_8abf5) := goodIn_app (goodIn_of _ (by decide +kernel)) ggX11_meanRun_Jx4a65c_size_8abf5
set_option maxRecDepth 20000 in
theorem ggJ6_valueOf_2dffe_J6_init_d00df : GoodIn wsJ6_valueOf_2dffe wsJ6_init_d00df := goodIn_r _ [8, 9, 10, 11, 12, 13, 14, 15, 16, 17] (by decide +kernel) (by decide +kernel)
set_option maxRecDepth 20000 in
theorem gJ6_valueOf_2dffe_J6_init_d00df : GoodIn wsJ6_valueOf_2dffe (wsJ6_init_d00df) := ggJ6_valueOf_2dffe_J6_init_d00df
set_option maxRecDepth 20000 in
theorem ggJ6_init_d00df_Jxd2413_init_da8c8 : GoodIn wsJ6_init_d00df wsJxd2413_init_da8c8 := goodIn_r _ [5, 6, 7, 8] (by decide +kernel) (by decide +kernel)
set_option maxRecDepth 20000 in
theorem gJ6_init_d00df_Jxd2413_init_da8c8 : GoodIn wsJ6_init_d00df (wsJxd2413_init_da8c8) := ggJ6_init_d00df_Jxd2413_init_da8c8
set_option maxRecDepth 20000 in
theorem ggJ0_length_8abf5_J0_coder_7d493 : GoodIn wsJ0_length_8abf5 wsJ0_coder_7d493 := goodIn_r _ [6, 7, 8] (by decide +kernel) (by decide +kernel)
set_option maxRecDepth 20000 in
theorem gJ0_length_8abf5_J0_coder_7d493 : GoodIn wsJ0_length_8abf5 (wsV RJ0 335 RJ0 yJ0_coder_7d493 wsJ0_coder_7d493) := goodIn_app (goodIn_of _ (by decide +kernel)) ggJ0_length_8abf5_J0_coder_7d493
set_option maxRecDepth 20000 in
theorem ggJ0_indexOf_0f7a4_J0_indexOf_7cf53 : GoodIn wsJ0_indexOf_0f7a4 wsJ0_indexOf_7cf53 := goodIn_r _ [5, 6, 7, 8, 9, 4, 10, 11, 12, 13, 14, 15, 16, 17, 18, 19, 20, 21, 22, 23, 24, 25, 26, 27, 28, 29, 30, 31, 32, 33, 34, 35, 36, 37, 38, 39, 40, 41, 42, 43, 44, 45, 46, 47, 48, 49, 50, 51, 52, 53, 54, 55, 56, 57, 58, 59, 60, 61, 62, 63, 64, 65, 66, 67, 68, 69, 70, 71, 72, 73, 74, 75, 76, 77, 78, 79, 80, 81, 82, 83, 84, 85] (by decide +kernel) (by decide +kernel)
set_option maxRecDepth 20000 in
theorem gJ0_indexOf_0f7a4_J0_indexOf_7cf53 : GoodIn wsJ0_indexOf_0f7a4 (wsV RJ0 633 RJ0 yJ0_indexOf_7cf53 wsJ0_indexOf_7cf53) := goodIn_app (goodIn_of _ (by decide +kernel)) ggJ0_indexOf_0f7a4_J0_indexOf_7cf53
set_option maxRecDepth 20000 in
theorem ggJ0_indexOf_7cf53_J0_isLatin1_aae02 : GoodIn wsJ0_indexOf_7cf53 wsJ0_isLatin1_aae02 := goodIn_r _ [6, 7, 8] (by decide +kernel) (by decide +kernel)
set_option maxRecDepth 20000 in
theorem gJ0_indexOf_7cf53_J0_isLatin1_aae02 : GoodIn wsJ0_indexOf_7cf53 (wsV RJ0 492 RJ0 yJ0_isLatin1_aae02 wsJ0_isLatin1_aae02) := goodIn_app (goodIn_of _ (by decide +kernel)) ggJ0_indexOf_7cf53_J0_isLatin1_aae02
set_option maxRecDepth 20000 in
theorem ggJ0_indexOf_7cf53_J0_length_8abf5 : GoodIn wsJ0_indexOf_7cf53 wsJ0_length_8abf5 := goodIn_r _ [12, 1, 13, 14, 15, 5, 16, 7, 8] (by decide +kernel) (by decide +kernel)
set_option maxRecDepth 20000 in
theorem gJ0_indexOf_7cf53_J0_length_8abf5 : GoodIn wsJ0_indexOf_7cf53 (wsV RJ0 505 RJ0 yJ0_length_8abf5 wsJ0_length_8abf5) := goodIn_app (goodIn_of _ (by decide +kernel)) ggJ0_indexOf_7cf53_J0_length_8abf5
set_option maxRecDepth 20000 in
theorem ggJ0_indexOf_7cf53_J1_indexOf_4cfef : GoodIn wsJ0_indexOf_7cf53 wsJ1_indexOf_4cfef := goodIn_r _ [20, 21, 22, 23, 24, 25, 26, 27, 28, 29, 19, 30, 31, 32, 33] (by decide +kernel) (by decide +kernel)
set_option maxRecDepth 20000 in
theorem gJ0_indexOf_7cf53_J1_indexOf_4cfef : GoodIn wsJ0_indexOf_7cf53 (va_wsS RJ0 637 yJ1_indexOf_4cfef wsJ1_indexOf_4cfef) := goodIn_app (goodIn_of _ (by decide +kernel)) ggJ0_indexOf_7cf53_J1_indexOf_4cfef
set_option maxRecDepth 20000 in
theorem ggJ0_indexOf_7cf53_J2_indexOf_4cfef : GoodIn wsJ0_indexOf_7cf53 wsJ2_indexOf_4cfef := goodIn_r _ [37, 38, 22, 23, 24, 39, 26, 27, 40, 41, 42, 36, 43, 44, 45, 46, 47, 48, 49, 50, 51, 5, 52, 53, 54, 55, 56, 57, 58, 59, 60, 61, 62, 63, 64, 65, 66, 67, 68, 69, 70, 71, 72, 73, 74, 75, 76, 77, 78, 79, 80, 81] (by decide +kernel) (by decide +kernel)
set_option maxRecDepth 20000 in
theorem gJ0_indexOf_7cf53_J2_indexOf_4cfef : GoodIn wsJ0_indexOf_7cf53 (va_wsS RJ0 640 yJ2_indexOf_4cfef wsJ2_indexOf_4cfef) := goodIn_app (goodIn_of _ (by decide +kernel)) ggJ0_indexOf_7cf53_J2_indexOf_4cfef
set_option maxRecDepth 20000 in
theorem ggJ0_checkBoundsBeginEnd_23922_J3_checkFromToIndex_8c36e : GoodIn wsJ0_checkBoundsBeginEnd_23922 wsJ3_checkFromToIndex_8c36e := goodIn_r _ [5] (by decide +kernel) (by decide +kernel)
set_option maxRecDepth 20000 in
theorem gJ0_checkBoundsBeginEnd_23922_J3_checkFromToIndex_8c36e : GoodIn wsJ0_checkBoundsBeginEnd_23922 (va_wsS RJ0 1062 yJ3_checkFromToIndex_8c36e wsJ3_checkFromToIndex_8c36e) := goodIn_app (goodIn_of _ (by decide +kernel)) ggJ0_checkBoundsBeginEnd_23922_J3_checkFromToIndex_8c36e
set_option maxRecDepth 20000 in
theorem ggJ1_indexOf_4cfef_J1_canEncode_9a6ad : GoodIn wsJ1_indexOf_4cfef wsJ1_canEncode_9a6ad := goodIn_r _ [11] (by decide +kernel) (by decide +kernel)
set_option maxRecDepth 20000 in
theorem gJ1_indexOf_4cfef_J1_canEncode_9a6ad : GoodIn wsJ1_indexOf_4cfef (va_wsS RJ1 88 yJ1_canEncode_9a6ad wsJ1_canEncode_9a6ad) := goodIn_app (goodIn_of _ (by decide +kernel)) ggJ1_indexOf_4cfef_J1_canEncode_9a6ad
set_option maxRecDepth 20000 in
theorem ggJ1_indexOf_4cfef_J1_indexOfChar_4cfef : GoodIn wsJ1_indexOf_4cfef wsJ1_indexOfChar_4cfef := goodIn_r _ [14] (by decide +kernel) (by decide +kernel)
set_option maxRecDepth 20000 in
theorem gJ1_indexOf_4cfef_J1_indexOfChar_4cfef : GoodIn wsJ1_indexOf_4cfef (va_wsS RJ1 95 yJ1_indexOfChar_4cfef wsJ1_indexOfChar_4cfef) := goodIn_app (goodIn_of _ (by decide +kernel)) ggJ1_indexOf_4cfef_J1_indexOfChar_4cfef
set_option maxRecDepth 20000 in
theorem ggJ2_getChar_3b067_J2_length_9d52b : GoodIn wsJ2_getChar_3b067 wsJ2_length_9d52b := goodIn_r _ [7] (by decide +kernel) (by decide +kernel)
set_option maxRecDepth 20000 in
theorem gJ2_getChar_3b067_J2_length_9d52b : GoodIn wsJ2_getChar_3b067 (va_wsS RJ2 48 yJ2_length_9d52b wsJ2_length_9d52b) := goodIn_app (goodIn_of _ (by decide +kernel)) ggJ2_getChar_3b067_J2_length_9d52b
set_option maxRecDepth 20000 in
theorem ggJ2_indexOf_4cfef_J2_indexOfChar_4cfef : GoodIn wsJ2_indexOf_4cfef wsJ2_indexOfChar_4cfef := goodIn_r _ [12, 13, 14, 11, 15, 16, 17, 18, 19, 20, 21, 22, 23, 24, 25, 26, 27, 28, 29, 30, 31, 32, 33, 34, 35, 36] (by decide +kernel) (by decide +kernel)
set_option maxRecDepth 20000 in
theorem gJ2_indexOf_4cfef_J2_indexOfChar_4cfef : GoodIn wsJ2_indexOf_4cfef (va_wsS RJ2 228 yJ2_indexOfChar_4cfef wsJ2_indexOfChar_4cfef) := goodIn_app (goodIn_of _ (by decide +kernel)) ggJ2_indexOf_4cfef_J2_indexOfChar_4cfef
set_option maxRecDepth 20000 in
theorem ggJ2_indexOf_4cfef_J2_indexOfSupplementary_4cfef : GoodIn wsJ2_indexOf_4cfef wsJ2_indexOfSupplementary_4cfef := goodIn_r _ [39, 40, 41, 42, 43, 44, 45, 46, 47, 48, 49, 50, 51, 13, 14, 11, 15, 16, 17, 18, 19, 20, 21, 22, 23, 24, 25, 26, 27, 31, 32, 33, 34, 35, 36] (by decide +kernel) (by decide +kernel)
set_option maxRecDepth 20000 in
theorem gJ2_indexOf_4cfef_J2_indexOfSupplementary_4cfef : GoodIn wsJ2_indexOf_4cfef (va_wsS RJ2 232 yJ2_indexOfSupplementary_4cfef wsJ2_indexOfSupplementary_4cfef) := goodIn_app (goodIn_of _ (by decide +kernel)) ggJ2_indexOf_4cfef_J2_indexOfSupplementary_4cfef
set_option maxRecDepth 20000 in
theorem ggJ2_indexOfChar_4cfef_J2_checkBoundsBeginEnd_d044e : GoodIn wsJ2_indexOfChar_4cfef wsJ2_checkBoundsBeginEnd_d044e := goodIn_r _ [4, 5, 6, 3, 7, 8, 9, 10, 11, 12, 13, 14, 15, 16] (by decide +kernel) (by decide +kernel)
set_option maxRecDepth 20000 in
theorem gJ2_indexOfChar_4cfef_J2_checkBoundsBeginEnd_d044e : GoodIn wsJ2_indexOfChar_4cfef (va_wsS RJ2 96 yJ2_checkBoundsBeginEnd_d044e wsJ2_checkBoundsBeginEnd_d044e) := goodIn_app (goodIn_of _ (by decide +kernel)) ggJ2_indexOfChar_4cfef_J2_checkBoundsBeginEnd_d044e
set_option maxRecDepth 20000 in
theorem ggJ2_indexOfChar_4cfef_J2_indexOfCharUnsafe_4cfef : GoodIn wsJ2_indexOfChar_4cfef wsJ2_indexOfCharUnsafe_4cfef := goodIn_r _ [19, 20, 21, 3, 22, 23, 24, 25, 5, 6, 7] (by decide +kernel) (by decide +kernel)
set_option maxRecDepth 20000 in
theorem gJ2_indexOfChar_4cfef_J2_indexOfCharUnsafe_4cfef : GoodIn wsJ2_indexOfChar_4cfef (va_wsS RJ2 244 yJ2_indexOfCharUnsafe_4cfef wsJ2_indexOfCharUnsafe_4cfef) := goodIn_app (goodIn_of _ (by decide +kernel)) ggJ2_indexOfChar_4cfef_J2_indexOfCharUnsafe_4cfef
set_option maxRecDepth 20000 in
theorem ggJ2_indexOfCharUnsafe_4cfef_J2_getChar_3b067 : GoodIn wsJ2_indexOfCharUnsafe_4cfef wsJ2_getChar_3b067 := goodIn_r _ [4, 5, 6, 7, 8, 9, 3, 10] (by decide +kernel) (by decide +kernel)
set_option maxRecDepth 20000 in
theorem gJ2_indexOfCharUnsafe_4cfef_J2_getChar_3b067 : GoodIn wsJ2_indexOfCharUnsafe_4cfef (va_wsS RJ2 71 yJ2_getChar_3b067 wsJ2_getChar_3b067) := goodIn_app (goodIn_of _ (by decide +kernel)) ggJ2_indexOfCharUnsafe_4cfef_J2_getChar_3b067
set_option maxRecDepth 20000 in
theorem ggJ2_indexOfSupplementary_4cfef_J11_isValidCodePoint_9a6ad : GoodIn wsJ2_indexOfSupplementary_4cfef wsJ11_isValidCodePoint_9a6ad := goodIn_r _ [4] (by decide +kernel) (by decide +kernel)
set_option maxRecDepth 20000 in
theorem gJ2_indexOfSupplementary_4cfef_J11_isValidCodePoint_9a6ad : GoodIn wsJ2_indexOfSupplementary_4cfef (va_wsS RJ2 164 yJ11_isValidCodePoint_9a6ad wsJ11_isValidCodePoint_9a6ad) := goodIn_app (goodIn_of _ (by decide +kernel)) ggJ2_indexOfSupplementary_4cfef_J11_isValidCodePoint_9a6ad
set_option maxRecDepth 20000 in
theorem ggJ2_indexOfSupplementary_4cfef_J11_highSurrogate_5068e : GoodIn wsJ2_indexOfSupplementary_4cfef wsJ11_highSurrogate_5068e := goodIn_r _ [7, 8] (by decide +kernel) (by decide +kernel)
set_option maxRecDepth 20000 in
theorem gJ2_indexOfSupplementary_4cfef_J11_highSurrogate_5068e : GoodIn wsJ2_indexOfSupplementary_4cfef (va_wsS RJ2 157 yJ11_highSurrogate_5068e wsJ11_highSurrogate_5068e) := goodIn_app (goodIn_of _ (by decide +kernel)) ggJ2_indexOfSupplementary_4cfef_J11_highSurrogate_5068e
set_option maxRecDepth 20000 in
theorem ggJ2_indexOfSupplementary_4cfef_J11_lowSurrogate_5068e : GoodIn wsJ2_indexOfSupplementary_4cfef wsJ11_lowSurrogate_5068e := goodIn_r _ [11, 12] (by decide +kernel) (by decide +kernel)
set_option maxRecDepth 20000 in
theorem gJ2_indexOfSupplementary_4cfef_J11_lowSurrogate_5068e : GoodIn wsJ2_indexOfSupplementary_4cfef (va_wsS RJ2 161 yJ11_lowSurrogate_5068e wsJ11_lowSurrogate_5068e) := goodIn_app (goodIn_of _ (by decide +kernel)) ggJ2_indexOfSupplementary_4cfef_J11_lowSurrogate_5068e
set_option maxRecDepth 20000 in
theorem ggJ2_indexOfSupplementary_4cfef_J2_checkBoundsBeginEnd_d044e : GoodIn wsJ2_indexOfSupplementary_4cfef wsJ2_checkBoundsBeginEnd_d044e := goodIn_r _ [16, 17, 18, 15, 19, 20, 21, 22, 23, 24, 25, 26, 27, 28] (by decide +kernel) (by decide +kernel)
set_option maxRecDepth 20000 in
theorem gJ2_indexOfSupplementary_4cfef_J2_checkBoundsBeginEnd_d044e : GoodIn wsJ2_indexOfSupplementary_4cfef (va_wsS RJ2 96 yJ2_checkBoundsBeginEnd_d044e wsJ2_checkBoundsBeginEnd_d044e) := goodIn_app (goodIn_of _ (by decide +kernel)) ggJ2_indexOfSupplementary_4cfef_J2_checkBoundsBeginEnd_d044e
set_option maxRecDepth 20000 in
theorem ggJ2_indexOfSupplementary_4cfef_J2_getChar_3b067 : GoodIn wsJ2_indexOfSupplementary_4cfef wsJ2_getChar_3b067 := goodIn_r _ [31, 32, 33, 34, 17, 18, 15, 19] (by decide +kernel) (by decide +kernel)
set_option maxRecDepth 20000 in
theorem gJ2_indexOfSupplementary_4cfef_J2_getChar_3b067 : GoodIn wsJ2_indexOfSupplementary_4cfef (va_wsS RJ2 71 yJ2_getChar_3b067 wsJ2_getChar_3b067) := goodIn_app (goodIn_of _ (by decide +kernel)) ggJ2_indexOfSupplementary_4cfef_J2_getChar_3b067
set_option maxRecDepth 20000 in
theorem ggJ2_checkBoundsBeginEnd_d044e_J2_length_9d52b : GoodIn wsJ2_checkBoundsBeginEnd_d044e wsJ2_length_9d52b := goodIn_r _ [4] (by decide +kernel) (by decide +kernel)
set_option maxRecDepth 20000 in
theorem gJ2_checkBoundsBeginEnd_d044e_J2_length_9d52b : GoodIn wsJ2_checkBoundsBeginEnd_d044e (va_wsS RJ2 48 yJ2_length_9d52b wsJ2_length_9d52b) := goodIn_app (goodIn_of _ (by decide +kernel)) ggJ2_checkBoundsBeginEnd_d044e_J2_length_9d52b
set_option maxRecDepth 20000 in
theorem ggJ2_checkBoundsBeginEnd_d044e_J0_checkBoundsBeginEnd_23922 : GoodIn wsJ2_checkBoundsBeginEnd_d044e wsJ0_checkBoundsBeginEnd_23922 := goodIn_r _ [8, 9, 10, 11, 12, 13] (by decide +kernel) (by decide +kernel)
set_option maxRecDepth 20000 in
theorem gJ2_checkBoundsBeginEnd_d044e_J0_checkBoundsBeginEnd_23922 : GoodIn wsJ2_checkBoundsBeginEnd_d044e (va_wsS RJ2 241 yJ0_checkBoundsBeginEnd_23922 wsJ0_checkBoundsBeginEnd_23922) := goodIn_app (goodIn_of _ (by decide +kernel)) ggJ2_checkBoundsBeginEnd_d044e_J0_checkBoundsBeginEnd_23922
set_option maxRecDepth 20000 in
theorem ggJxc12de_init_da8c8_Jxa1e45_init_da8c8 : GoodIn wsJxc12de_init_da8c8 wsJxa1e45_init_da8c8 := goodIn_r _ [5, 6, 7, 8] (by decide +kernel) (by decide +kernel)
set_option maxRecDepth 20000 in
theorem gJxc12de_init_da8c8_Jxa1e45_init_da8c8 : GoodIn wsJxc12de_init_da8c8 (wsJxa1e45_init_da8c8) := ggJxc12de_init_da8c8_Jxa1e45_init_da8c8
set_option maxRecDepth 20000 in
theorem ggJx35411_next_0502b_Jx35411_checkForComodification_da8c8 : GoodIn wsJx35411_next_0502b wsJx35411_checkForComodification_da8c8 := goodIn_r _ [9, 2, 10, 11, 12, 13, 14, 15, 16, 17, 18, 19] (by decide +kernel) (by decide +kernel)
set_option maxRecDepth 20000 in
theorem gJx35411_next_0502b_Jx35411_checkForComodification_da8c8 : GoodIn wsJx35411_next_0502b (wsV RJx35411 31 RJx35411 yJx35411_checkForComodification_da8c8 wsJx35411_checkForComodification_da8c8) := goodIn_app (goodIn_of _ (by decide +kernel)) ggJx35411_next_0502b_Jx35411_checkForComodification_da8c8
set_option maxRecDepth 20000 in
theorem ggJx4a65c_init_da8c8_Jxc12de_init_da8c8 : GoodIn wsJx4a65c_init_da8c8 wsJxc12de_init_da8c8 := goodIn_r _ [6, 7, 8, 9, 10, 11, 12, 13, 14, 15, 16, 17] (by decide +kernel) (by decide +kernel)
set_option maxRecDepth 20000 in
theorem gJx4a65c_init_da8c8_Jxc12de_init_da8c8 : GoodIn wsJx4a65c_init_da8c8 (wsJxc12de_init_da8c8) := ggJx4a65c_init_da8c8_Jxc12de_init_da8c8
set_option maxRecDepth 20000 in
theorem ggJx4a65c_grow_92f84_J8_newLength_cabcc : GoodIn wsJx4a65c_grow_92f84 wsJ8_newLength_cabcc := goodIn_r _ [11, 12, 4, 5, 6, 13, 14, 15, 10, 16] (by decide +kernel) (by decide +kernel)
set_option maxRecDepth 20000 in
theorem gJx4a65c_grow_92f84_J8_newLength_cabcc : GoodIn wsJx4a65c_grow_92f84 (va_wsS RJx4a65c 73 yJ8_newLength_cabcc wsJ8_newLength_cabcc) := goodIn_app (goodIn_of _ (by decide +kernel)) ggJx4a65c_grow_92f84_J8_newLength_cabcc
set_option maxRecDepth 20000 in
theorem ggJx4a65c_grow_92f84_J7_copyOf_1904c : GoodIn wsJx4a65c_grow_92f84 wsJ7_copyOf_1904c := goodIn_r _ [20, 21, 22, 23, 24, 25, 26, 19, 27, 28, 29, 30, 31, 5, 32, 33, 34, 35, 36] (by decide +kernel) (by decide +kernel)
set_option maxRecDepth 20000 in
theorem gJx4a65c_grow_92f84_J7_copyOf_1904c : GoodIn wsJx4a65c_grow_92f84 (va_wsS RJx4a65c 66 yJ7_copyOf_1904c wsJ7_copyOf_1904c) := goodIn_app (goodIn_of _ (by decide +kernel)) ggJx4a65c_grow_92f84_J7_copyOf_1904c
set_option maxRecDepth 20000 in
theorem ggJx4a65c_grow_d5877_Jx4a65c_grow_92f84 : GoodIn wsJx4a65c_grow_d5877 wsJx4a65c_grow_92f84 := goodIn_r _ [6, 7, 8, 9, 10, 11, 12, 13, 14, 15, 16, 17, 18, 19, 20, 21, 22, 23, 24, 25, 26, 27, 28, 29, 30, 31, 32, 33, 34, 35, 36, 37, 38, 39, 40, 41, 42, 43, 44, 45] (by decide +kernel) (by decide +kernel)
set_option maxRecDepth 20000 in
theorem gJx4a65c_grow_d5877_Jx4a65c_grow_92f84 : GoodIn wsJx4a65c_grow_d5877 (wsV RJx4a65c 69 RJx4a65c yJx4a65c_grow_92f84 wsJx4a65c_grow_92f84) := goodIn_app (goodIn_of _ (by decide +kernel)) ggJx4a65c_grow_d5877_Jx4a65c_grow_92f84
set_option maxRecDepth 20000 in
theorem ggJx4a65c_get_915e3_J15_checkIndex_7cf53 : GoodIn wsJx4a65c_get_915e3 wsJ15_checkIndex_7cf53 := goodIn_r _ [5, 6, 7, 8, 9] (by decide +kernel) (by decide +kernel)
set_option maxRecDepth 20000 in
theorem gJx4a65c_get_915e3_J15_checkIndex_7cf53 : GoodIn wsJx4a65c_get_915e3 (va_wsS RJx4a65c 118 yJ15_checkIndex_7cf53 wsJ15_checkIndex_7cf53) := goodIn_app (goodIn_of _ (by decide +kernel)) ggJx4a65c_get_915e3_J15_checkIndex_7cf53
set_option maxRecDepth 20000 in
theorem ggJx4a65c_get_915e3_Jx4a65c_elementData_915e3 : GoodIn wsJx4a65c_get_915e3 wsJx4a65c_elementData_915e3 := goodIn_r _ [14, 15, 16, 17, 18] (by decide +kernel) (by decide +kernel)
set_option maxRecDepth 20000 in
theorem gJx4a65c_get_915e3_Jx4a65c_elementData_915e3 : GoodIn wsJx4a65c_get_915e3 (wsV RJx4a65c 123 RJx4a65c yJx4a65c_elementData_915e3 wsJx4a65c_elementData_915e3) := goodIn_app (goodIn_of _ (by decide +kernel)) ggJx4a65c_get_915e3_Jx4a65c_elementData_915e3
set_option maxRecDepth 20000 in
theorem ggJx4a65c_set_bcc79_J15_checkIndex_7cf53 : GoodIn wsJx4a65c_set_bcc79 wsJ15_checkIndex_7cf53 := goodIn_r _ [6, 7, 8, 9, 10] (by decide +kernel) (by decide +kernel)
set_option maxRecDepth 20000 in
theorem gJx4a65c_set_bcc79_J15_checkIndex_7cf53 : GoodIn wsJx4a65c_set_bcc79 (va_wsS RJx4a65c 118 yJ15_checkIndex_7cf53 wsJ15_checkIndex_7cf53) := goodIn_app (goodIn_of _ (by decide +kernel)) ggJx4a65c_set_bcc79_J15_checkIndex_7cf53
set_option maxRecDepth 20000 in
theorem ggJx4a65c_set_bcc79_Jx4a65c_elementData_915e3 : GoodIn wsJx4a65c_set_bcc79 wsJx4a65c_elementData_915e3 := goodIn_r _ [15, 2, 16, 17, 18] (by decide +kernel) (by decide +kernel)
set_option maxRecDepth 20000 in
theorem gJx4a65c_set_bcc79_Jx4a65c_elementData_915e3 : GoodIn wsJx4a65c_set_bcc79 (wsV RJx4a65c 123 RJx4a65c yJx4a65c_elementData_915e3 wsJx4a65c_elementData_915e3) := goodIn_app (goodIn_of _ (by decide +kernel)) ggJx4a65c_set_bcc79_Jx4a65c_elementData_915e3
set_option maxRecDepth 20000 in
theorem ggJx4a65c_add_72be8_Jx4a65c_grow_d5877 : GoodIn wsJx4a65c_add_72be8 wsJx4a65c_grow_d5877 := goodIn_r _ [6, 1, 7, 8, 9, 5, 10, 11, 12, 13, 14, 15, 16, 17, 18, 19, 20, 21, 22, 23, 24, 25, 26, 27, 28, 29, 30, 31, 32, 33, 34, 35, 36, 37, 38, 39, 40, 41, 42, 43, 44, 45, 46, 47, 48, 49] (by decide +kernel) (by decide +kernel)
set_option maxRecDepth 20000 in
theorem gJx4a65c_add_72be8_Jx4a65c_grow_d5877 : GoodIn wsJx4a65c_add_72be8 (wsV RJx4a65c 129 RJx4a65c yJx4a65c_grow_d5877 wsJx4a65c_grow_d5877) := goodIn_app (goodIn_of _ (by decide +kernel)) ggJx4a65c_add_72be8_Jx4a65c_grow_d5877
set_option maxRecDepth 20000 in
theorem ggJx4a65c_add_9ea2d_Jx4a65c_add_72be8 : GoodIn wsJx4a65c_add_9ea2d wsJx4a65c_add_72be8 := goodIn_r _ [9, 4, 10, 11, 12, 8, 13, 14, 15, 16, 17, 3, 18, 19, 20, 21, 22, 23, 24, 25, 26, 27, 28, 29, 30, 31, 32, 33, 34, 35, 36, 37, 38, 39, 40, 41, 42, 43, 44, 45, 46, 47, 48, 49, 50, 51, 52, 53, 54, 55] (by decide +kernel) (by decide +kernel)
set_option maxRecDepth 20000 in
theorem gJx4a65c_add_9ea2d_Jx4a65c_add_72be8 : GoodIn wsJx4a65c_add_9ea2d (wsV RJx4a65c 131 RJx4a65c yJx4a65c_add_72be8 wsJx4a65c_add_72be8) := goodIn_app (goodIn_of _ (by decide +kernel)) ggJx4a65c_add_9ea2d_Jx4a65c_add_72be8
set_option maxRecDepth 20000 in
theorem ggJx4a65c_iterator_32c93_Jx35411_init_45d68 : GoodIn wsJx4a65c_iterator_32c93 wsJx35411_init_45d68 := goodIn_r _ [6, 7, 8, 9, 10, 11, 12, 13, 14, 15, 16, 17, 18, 19, 20, 21] (by decide +kernel) (by decide +kernel)
set_option maxRecDepth 20000 in
theorem gJx4a65c_iterator_32c93_Jx35411_init_45d68 : GoodIn wsJx4a65c_iterator_32c93 (wsJx35411_init_45d68) := ggJx4a65c_iterator_32c93_Jx35411_init_45d68
set_option maxRecDepth 20000 in
theorem ggJ7_copyOf_1904c_J7_copyOf_6403c : GoodIn wsJ7_copyOf_1904c wsJ7_copyOf_6403c := goodIn_r _ [8, 9, 10, 11, 12, 13, 14, 15, 16, 17, 18] (by decide +kernel) (by decide +kernel)
set_option maxRecDepth 20000 in
theorem gJ7_copyOf_1904c_J7_copyOf_6403c : GoodIn wsJ7_copyOf_1904c (va_wsS RJ7 300 yJ7_copyOf_6403c wsJ7_copyOf_6403c) := goodIn_app (goodIn_of _ (by decide +kernel)) ggJ7_copyOf_1904c_J7_copyOf_6403c
set_option maxRecDepth 20000 in
theorem ggJ15_checkIndex_7cf53_J3_checkIndex_8e157 : GoodIn wsJ15_checkIndex_7cf53 wsJ3_checkIndex_8e157 := goodIn_r _ [4] (by decide +kernel) (by decide +kernel)
set_option maxRecDepth 20000 in
theorem gJ15_checkIndex_7cf53_J3_checkIndex_8e157 : GoodIn wsJ15_checkIndex_7cf53 (va_wsS RJ15 105 yJ3_checkIndex_8e157 wsJ3_checkIndex_8e157) := goodIn_app (goodIn_of _ (by decide +kernel)) ggJ15_checkIndex_7cf53_J3_checkIndex_8e157
set_option maxRecDepth 20000 in
theorem ggJ8_newLength_cabcc_J8_hugeLength_7cf53 : GoodIn wsJ8_newLength_cabcc wsJ8_hugeLength_7cf53 := goodIn_r _ [9, 5] (by decide +kernel) (by decide +kernel)
set_option maxRecDepth 20000 in
theorem gJ8_newLength_cabcc_J8_hugeLength_7cf53 : GoodIn wsJ8_newLength_cabcc (va_wsS RJ8 201 yJ8_hugeLength_7cf53 wsJ8_hugeLength_7cf53) := goodIn_app (goodIn_of _ (by decide +kernel)) ggJ8_newLength_cabcc_J8_hugeLength_7cf53

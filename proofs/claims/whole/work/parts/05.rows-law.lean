set_option maxRecDepth 20000 in
theorem ggL_law_X3_init : GoodIn wsL_law wsX3_init := goodIn_r _ [9, 10, 11, 12, 13, 14, 15, 16, 17, 18, 19, 20, 21, 22, 23, 24, 25, 26, 27, 28, 29, 30, 31, 32, 33, 34, 35, 36, 37, 38, 39, 40, 41, 42, 43, 421, 422, 423, 424, 425, 426, 407, 408, 409, 427, 428, 429, 430, 431] (by decide +kernel) (by decide +kernel)
set_option maxRecDepth 20000 in
theorem gL_law_X3_init : GoodIn wsL_law (wsX3_init) := ggL_law_X3_init
set_option maxRecDepth 20000 in
theorem ggL_law_X4_init : GoodIn wsL_law wsX4_init := goodIn_r _ [46, 47, 11, 12, 28, 48, 49, 50, 51, 52, 53, 33, 54, 55, 410, 411, 412, 413, 414, 415, 416, 417, 418, 419, 420] (by decide +kernel) (by decide +kernel)
set_option maxRecDepth 20000 in
theorem gL_law_X4_init : GoodIn wsL_law (wsX4_init) := ggL_law_X4_init
set_option maxRecDepth 20000 in
theorem ggL_law_X3_step : GoodIn wsL_law wsX3_step := goodIn_r _ [59, 60, 61, 16, 62, 63, 2, 64, 65, 66, 67, 15, 68, 29, 30, 69, 70, 71, 72, 73, 74, 75, 76, 77, 78, 79, 80, 81, 31, 32, 82, 83, 84, 85, 86, 87, 88, 89, 90, 91, 92, 93, 34, 94, 95, 96, 97, 98, 99, 100, 101, 102, 103, 104, 105, 106, 107, 108, 109, 110, 111, 112, 407, 408, 409, 421, 422, 423, 424, 425, 426] (by decide +kernel) (by decide +kernel)
set_option maxRecDepth 20000 in
theorem gL_law_X3_step : GoodIn wsL_law (wsV RL 13 RX3 yX3_step wsX3_step) := goodIn_app (goodIn_of _ (by decide +kernel)) ggL_law_X3_step
set_option maxRecDepth 20000 in
theorem ggL_law_X4_step : GoodIn wsL_law wsX4_step := goodIn_r _ [116, 117, 118, 119, 120, 5, 121, 122, 123, 124, 125, 55, 48, 49, 50, 51, 126, 127, 128, 129, 130, 131, 132, 133, 134, 135, 136, 137, 410, 411, 412, 413, 414, 415, 416, 417, 418, 419, 420] (by decide +kernel) (by decide +kernel)
set_option maxRecDepth 20000 in
theorem gL_law_X4_step : GoodIn wsL_law (wsV RL 17 RX4 yX4_step wsX4_step) := goodIn_app (goodIn_of _ (by decide +kernel)) ggL_law_X4_step
set_option maxRecDepth 20000 in
theorem ggL_law_X3_slope : GoodIn wsL_law wsX3_slope := goodIn_r _ [141, 60, 61, 16, 62, 63, 2, 64, 65, 66, 67, 15, 68, 29, 30, 69, 70, 71, 72, 73, 142, 143, 144, 145, 146, 79, 80, 81, 31, 32, 82, 83, 84, 85, 86, 87, 88, 89, 90, 91, 92, 93, 34, 94, 95, 96, 97, 98, 99, 100, 101, 102, 103, 104, 105, 106, 107, 108, 109, 110, 111, 112, 407, 408, 409, 421, 422, 423, 424, 425, 426] (by decide +kernel) (by decide +kernel)
set_option maxRecDepth 20000 in
theorem gL_law_X3_slope : GoodIn wsL_law (wsV RL 18 RX3 yX3_slope wsX3_slope) := goodIn_app (goodIn_of _ (by decide +kernel)) ggL_law_X3_slope
set_option maxRecDepth 20000 in
theorem ggL_law_X4_slope : GoodIn wsL_law wsX4_slope := goodIn_r _ [150, 117, 151, 118, 152, 119, 120, 5, 121, 122, 123, 124, 125, 55, 48, 49, 50, 51, 126, 127, 128, 129, 130, 131, 132, 133, 134, 135, 136, 137, 410, 411, 412, 413, 414, 415, 416, 417, 418, 419, 420] (by decide +kernel) (by decide +kernel)
set_option maxRecDepth 20000 in
theorem gL_law_X4_slope : GoodIn wsL_law (wsV RL 22 RX4 yX4_slope wsX4_slope) := goodIn_app (goodIn_of _ (by decide +kernel)) ggL_law_X4_slope
set_option maxRecDepth 20000 in
theorem ggL_law_X3_modulate : GoodIn wsL_law wsX3_modulate := goodIn_r _ [156, 60, 16, 61, 62, 63, 2, 64, 157, 158, 159, 15, 160, 29, 30, 32, 31, 69, 70, 71, 72, 73, 161, 162, 108, 163, 65, 66, 67, 68, 74, 75, 76, 77, 78, 79, 80, 81, 82, 83, 84, 85, 86, 87, 88, 89, 90, 91, 92, 93, 34, 94, 95, 96, 97, 98, 99, 100, 101, 102, 103, 104, 105, 106, 107, 109, 110, 111, 112, 407, 408, 409, 421, 422, 423, 424, 425, 426] (by decide +kernel) (by decide +kernel)
set_option maxRecDepth 20000 in
theorem gL_law_X3_modulate : GoodIn wsL_law (wsV RL 23 RX3 yX3_modulate wsX3_modulate) := goodIn_app (goodIn_of _ (by decide +kernel)) ggL_law_X3_modulate
set_option maxRecDepth 20000 in
theorem ggL_law_X4_modulate : GoodIn wsL_law wsX4_modulate := goodIn_r _ [167, 117, 168, 118, 119, 120, 5, 121, 169, 170, 171, 172, 173, 174, 175, 176, 48, 49, 51, 50, 177, 178, 179, 180, 55, 122, 123, 124, 125, 126, 127, 128, 129, 130, 131, 132, 133, 134, 135, 136, 137, 410, 411, 412, 413, 414, 415, 416, 417, 418, 419, 420] (by decide +kernel) (by decide +kernel)
set_option maxRecDepth 20000 in
theorem gL_law_X4_modulate : GoodIn wsL_law (wsV RL 27 RX4 yX4_modulate wsX4_modulate) := goodIn_app (goodIn_of _ (by decide +kernel)) ggL_law_X4_modulate
set_option maxRecDepth 20000 in
theorem ggL_law_X3_drop : GoodIn wsL_law wsX3_drop := goodIn_r _ [184, 16, 185, 186, 187, 15, 188, 29, 73, 69, 70, 71, 72, 86, 87, 88, 89, 30, 31, 32, 90, 91, 92, 93, 34, 94, 95, 96, 97, 98, 99, 100, 101, 102, 103, 2, 104, 105, 106, 107, 108, 109, 110, 111, 112, 407, 408, 409, 421, 422, 423, 424, 425, 426] (by decide +kernel) (by decide +kernel)
set_option maxRecDepth 20000 in
theorem gL_law_X3_drop : GoodIn wsL_law (wsV RL 28 RX3 yX3_drop wsX3_drop) := goodIn_app (goodIn_of _ (by decide +kernel)) ggL_law_X3_drop
set_option maxRecDepth 20000 in
theorem ggL_law_X4_drop : GoodIn wsL_law wsX4_drop := goodIn_r _ [192, 55, 48, 49, 50, 51, 126, 127, 128, 5, 129, 410, 411, 412, 413, 414, 415, 416, 417, 418, 419, 420] (by decide +kernel) (by decide +kernel)
set_option maxRecDepth 20000 in
theorem gL_law_X4_drop : GoodIn wsL_law (wsV RL 32 RX4 yX4_drop wsX4_drop) := goodIn_app (goodIn_of _ (by decide +kernel)) ggL_law_X4_drop
set_option maxRecDepth 20000 in
theorem ggL_law_X3_hold : GoodIn wsL_law wsX3_hold := goodIn_r _ [196, 61, 197, 20, 62, 63, 2, 64, 198, 199, 200, 19, 201, 202, 38, 39, 203, 204, 205, 206, 207, 208, 209, 210, 407, 408, 409, 427, 428, 429] (by decide +kernel) (by decide +kernel)
set_option maxRecDepth 20000 in
theorem gL_law_X3_hold : GoodIn wsL_law (wsV RL 33 RX3 yX3_hold wsX3_hold) := goodIn_app (goodIn_of _ (by decide +kernel)) ggL_law_X3_hold
set_option maxRecDepth 20000 in
theorem ggL_law_X4_hold : GoodIn wsL_law wsX4_hold := goodIn_r _ [214, 118, 215, 216, 52, 53, 119, 120, 5, 121, 217, 218, 219, 220, 410, 411, 412, 413, 414, 415, 416, 417, 418, 419, 420] (by decide +kernel) (by decide +kernel)
set_option maxRecDepth 20000 in
theorem gL_law_X4_hold : GoodIn wsL_law (wsV RL 36 RX4 yX4_hold wsX4_hold) := goodIn_app (goodIn_of _ (by decide +kernel)) ggL_law_X4_hold
set_option maxRecDepth 20000 in
theorem ggL_law_X3_mark : GoodIn wsL_law wsX3_mark := goodIn_r _ [224, 16, 62, 63, 2, 64, 225, 226, 227, 15, 228, 73, 29, 30, 31, 32, 407, 408, 409, 421, 422, 423, 424, 425, 426] (by decide +kernel) (by decide +kernel)
set_option maxRecDepth 20000 in
theorem gL_law_X3_mark : GoodIn wsL_law (wsV RL 37 RX3 yX3_mark wsX3_mark) := goodIn_app (goodIn_of _ (by decide +kernel)) ggL_law_X3_mark
set_option maxRecDepth 20000 in
theorem ggL_law_X4_mark : GoodIn wsL_law wsX4_mark := goodIn_r _ [232, 233, 55, 48, 49, 50, 51, 119, 120, 5, 121, 410, 411, 412, 413, 414, 415, 416, 417, 418, 419, 420] (by decide +kernel) (by decide +kernel)
set_option maxRecDepth 20000 in
theorem gL_law_X4_mark : GoodIn wsL_law (wsV RL 40 RX4 yX4_mark wsX4_mark) := goodIn_app (goodIn_of _ (by decide +kernel)) ggL_law_X4_mark
set_option maxRecDepth 20000 in
theorem ggL_law_X3_count : GoodIn wsL_law wsX3_count := goodIn_r _ [237, 16, 20, 24, 407, 408, 409, 421, 422, 423, 424, 425, 426, 427, 428, 429, 430, 431] (by decide +kernel) (by decide +kernel)
set_option maxRecDepth 20000 in
theorem gL_law_X3_count : GoodIn wsL_law (wsV RL 41 RX3 yX3_count wsX3_count) := goodIn_app (goodIn_of _ (by decide +kernel)) ggL_law_X3_count
set_option maxRecDepth 20000 in
theorem ggL_law_X4_count : GoodIn wsL_law wsX4_count := goodIn_r _ [241, 55, 216, 242, 410, 411, 412, 413, 414, 415, 416, 417, 418, 419, 420] (by decide +kernel) (by decide +kernel)
set_option maxRecDepth 20000 in
theorem gL_law_X4_count : GoodIn wsL_law (wsV RL 44 RX4 yX4_count wsX4_count) := goodIn_app (goodIn_of _ (by decide +kernel)) ggL_law_X4_count
set_option maxRecDepth 20000 in
theorem ggL_law_X3_lasts : GoodIn wsL_law wsX3_lasts := goodIn_r _ [246, 60, 16, 62, 63, 2, 64, 157, 158, 159, 15, 160, 29, 30, 32, 31, 69, 70, 71, 72, 73, 161, 162, 108, 163, 407, 408, 409, 421, 422, 423, 424, 425, 426] (by decide +kernel) (by decide +kernel)
set_option maxRecDepth 20000 in
theorem gL_law_X3_lasts : GoodIn wsL_law (wsV RL 45 RX3 yX3_lasts wsX3_lasts) := goodIn_app (goodIn_of _ (by decide +kernel)) ggL_law_X3_lasts
set_option maxRecDepth 20000 in
theorem ggL_law_X4_lasts : GoodIn wsL_law wsX4_lasts := goodIn_r _ [172, 117, 119, 120, 5, 121, 173, 174, 175, 176, 48, 49, 51, 50, 177, 178, 179, 180, 55, 410, 411, 412, 413, 414, 415, 416, 417, 418, 419, 420] (by decide +kernel) (by decide +kernel)
set_option maxRecDepth 20000 in
theorem gL_law_X4_lasts : GoodIn wsL_law (wsV RL 48 RX4 yX4_lasts wsX4_lasts) := goodIn_app (goodIn_of _ (by decide +kernel)) ggL_law_X4_lasts
set_option maxRecDepth 20000 in
theorem ggL_law_X3_time : GoodIn wsL_law wsX3_time := goodIn_r _ [251, 61, 252, 62, 63, 2, 64, 253, 254, 255, 256, 16, 20, 257, 258, 259, 15, 260, 69, 70, 71, 72, 73, 29, 94, 95, 96, 97, 98, 30, 99, 100, 101, 102, 32, 31, 34, 103, 104, 105, 106, 107, 108, 109, 110, 111, 112, 261, 262, 263, 19, 264, 202, 38, 39, 407, 408, 409, 421, 422, 423, 424, 425, 426, 427, 428, 429] (by decide +kernel) (by decide +kernel)
set_option maxRecDepth 20000 in
theorem gL_law_X3_time : GoodIn wsL_law (wsV RL 49 RX3 yX3_time wsX3_time) := goodIn_app (goodIn_of _ (by decide +kernel)) ggL_law_X3_time
set_option maxRecDepth 20000 in
theorem ggL_law_X4_time : GoodIn wsL_law wsX4_time := goodIn_r _ [268, 118, 269, 216, 52, 53, 119, 120, 5, 121, 270, 271, 272, 273, 48, 49, 55, 177, 178, 179, 180, 173, 174, 175, 176, 51, 50, 410, 411, 412, 413, 414, 415, 416, 417, 418, 419, 420] (by decide +kernel) (by decide +kernel)
set_option maxRecDepth 20000 in
theorem gL_law_X4_time : GoodIn wsL_law (wsV RL 53 RX4 yX4_time wsX4_time) := goodIn_app (goodIn_of _ (by decide +kernel)) ggL_law_X4_time
set_option maxRecDepth 20000 in
theorem ggL_law_X3_tick : GoodIn wsL_law wsX3_tick := goodIn_r _ [277, 278, 279, 280, 2, 281, 61, 253, 254, 255, 256, 16, 20, 257, 258, 259, 15, 260, 69, 70, 71, 72, 73, 29, 94, 95, 96, 97, 98, 30, 99, 100, 101, 102, 32, 31, 34, 103, 104, 105, 106, 107, 108, 109, 110, 111, 112, 261, 262, 263, 19, 264, 202, 38, 39, 282, 283, 284, 285, 286, 407, 408, 409, 421, 422, 423, 424, 425, 426, 427, 428, 429] (by decide +kernel) (by decide +kernel)
set_option maxRecDepth 20000 in
theorem gL_law_X3_tick : GoodIn wsL_law (wsV RL 56 RX3 yX3_tick wsX3_tick) := goodIn_app (goodIn_of _ (by decide +kernel)) ggL_law_X3_tick
set_option maxRecDepth 20000 in
theorem ggL_law_X4_tick : GoodIn wsL_law wsX4_tick := goodIn_r _ [290, 291, 292, 293, 5, 294, 295, 152, 216, 52, 296, 297, 298, 299, 53, 217, 218, 219, 220, 270, 271, 272, 273, 48, 49, 55, 177, 178, 179, 180, 173, 174, 175, 176, 51, 50, 410, 411, 412, 413, 414, 415, 416, 417, 418, 419, 420] (by decide +kernel) (by decide +kernel)
set_option maxRecDepth 20000 in
theorem gL_law_X4_tick : GoodIn wsL_law (wsV RL 60 RX4 yX4_tick wsX4_tick) := goodIn_app (goodIn_of _ (by decide +kernel)) ggL_law_X4_tick
set_option maxRecDepth 20000 in
theorem ggL_law_X3_held : GoodIn wsL_law wsX3_held := goodIn_r _ [303, 61, 16, 278, 279, 280, 2, 281, 253, 254, 255, 256, 20, 257, 258, 259, 15, 260, 69, 70, 71, 72, 73, 29, 94, 95, 96, 97, 98, 30, 99, 100, 101, 102, 32, 31, 34, 103, 104, 105, 106, 107, 108, 109, 110, 111, 112, 261, 262, 263, 19, 264, 202, 38, 39, 282, 283, 284, 285, 286, 157, 158, 159, 160, 161, 162, 163, 407, 408, 409, 421, 422, 423, 424, 425, 426, 427, 428, 429] (by decide +kernel) (by decide +kernel)
set_option maxRecDepth 20000 in
theorem gL_law_X3_held : GoodIn wsL_law (wsV RL 61 RX3 yX3_held wsX3_held) := goodIn_app (goodIn_of _ (by decide +kernel)) ggL_law_X3_held
set_option maxRecDepth 20000 in
theorem ggL_law_X4_held : GoodIn wsL_law wsX4_held := goodIn_r _ [307, 152, 295, 291, 292, 293, 5, 294, 216, 52, 296, 297, 298, 299, 53, 217, 218, 219, 220, 270, 271, 272, 273, 48, 49, 55, 177, 178, 179, 180, 173, 174, 175, 176, 51, 50, 410, 411, 412, 413, 414, 415, 416, 417, 418, 419, 420] (by decide +kernel) (by decide +kernel)
set_option maxRecDepth 20000 in
theorem gL_law_X4_held : GoodIn wsL_law (wsV RL 64 RX4 yX4_held wsX4_held) := goodIn_app (goodIn_of _ (by decide +kernel)) ggL_law_X4_held
set_option maxRecDepth 20000 in
theorem ggL_law_X3_frame : GoodIn wsL_law wsX3_frame := goodIn_r _ [311, 61, 312, 252, 62, 63, 2, 64, 313, 314, 315, 316, 317, 253, 254, 255, 256, 16, 20, 257, 258, 259, 15, 260, 69, 70, 71, 72, 73, 29, 94, 95, 96, 97, 98, 30, 99, 100, 101, 102, 32, 31, 34, 103, 104, 105, 106, 107, 108, 109, 110, 111, 112, 261, 262, 263, 19, 264, 202, 38, 39, 407, 408, 409, 421, 422, 423, 424, 425, 426, 427, 428, 429] (by decide +kernel) (by decide +kernel)
set_option maxRecDepth 20000 in
theorem gL_law_X3_frame : GoodIn wsL_law (wsV RL 65 RX3 yX3_frame wsX3_frame) := goodIn_app (goodIn_of _ (by decide +kernel)) ggL_law_X3_frame
set_option maxRecDepth 20000 in
theorem ggL_law_X4_frame : GoodIn wsL_law wsX4_frame := goodIn_r _ [321, 118, 322, 269, 119, 120, 5, 121, 323, 266, 267, 268, 216, 52, 53, 270, 271, 272, 273, 48, 49, 55, 177, 178, 179, 180, 173, 174, 175, 176, 51, 50, 410, 411, 412, 413, 414, 415, 416, 417, 418, 419, 420] (by decide +kernel) (by decide +kernel)
set_option maxRecDepth 20000 in
theorem gL_law_X4_frame : GoodIn wsL_law (wsV RL 69 RX4 yX4_frame wsX4_frame) := goodIn_app (goodIn_of _ (by decide +kernel)) ggL_law_X4_frame
set_option maxRecDepth 20000 in
theorem ggL_law_X3_tickOf : GoodIn wsL_law wsX3_tickOf := goodIn_r _ [327, 312, 61, 317, 62, 63, 2, 64, 313, 314, 315, 316, 253, 254, 255, 256, 16, 20, 257, 258, 259, 15, 260, 69, 70, 71, 72, 73, 29, 94, 95, 96, 97, 98, 30, 99, 100, 101, 102, 32, 31, 34, 103, 104, 105, 106, 107, 108, 109, 110, 111, 112, 261, 262, 263, 19, 264, 202, 38, 39, 282, 283, 284, 285, 286, 407, 408, 409, 421, 422, 423, 424, 425, 426, 427, 428, 429] (by decide +kernel) (by decide +kernel)
set_option maxRecDepth 20000 in
theorem gL_law_X3_tickOf : GoodIn wsL_law (wsV RL 70 RX3 yX3_tickOf wsX3_tickOf) := goodIn_app (goodIn_of _ (by decide +kernel)) ggL_law_X3_tickOf
set_option maxRecDepth 20000 in
theorem ggL_law_X4_tickOf : GoodIn wsL_law wsX4_tickOf := goodIn_r _ [331, 322, 332, 118, 152, 119, 120, 5, 121, 291, 292, 293, 294, 295, 216, 52, 296, 297, 298, 299, 53, 217, 218, 219, 220, 270, 271, 272, 273, 48, 49, 55, 177, 178, 179, 180, 173, 174, 175, 176, 51, 50, 410, 411, 412, 413, 414, 415, 416, 417, 418, 419, 420] (by decide +kernel) (by decide +kernel)
set_option maxRecDepth 20000 in
theorem gL_law_X4_tickOf : GoodIn wsL_law (wsV RL 74 RX4 yX4_tickOf wsX4_tickOf) := goodIn_app (goodIn_of _ (by decide +kernel)) ggL_law_X4_tickOf
set_option maxRecDepth 20000 in
theorem ggL_law_X3_tap : GoodIn wsL_law wsX3_tap := goodIn_r _ [336, 337, 24, 338, 339, 340, 23, 341, 342, 43, 407, 408, 409, 430, 431] (by decide +kernel) (by decide +kernel)
set_option maxRecDepth 20000 in
theorem gL_law_X3_tap : GoodIn wsL_law (wsV RL 75 RX3 yX3_tap wsX3_tap) := goodIn_app (goodIn_of _ (by decide +kernel)) ggL_law_X3_tap
set_option maxRecDepth 20000 in
theorem ggL_law_X4_tap : GoodIn wsL_law wsX4_tap := goodIn_r _ [346, 347, 242, 54, 119, 120, 5, 121, 410, 411, 412, 413, 414, 415, 416, 417, 418, 419, 420] (by decide +kernel) (by decide +kernel)
set_option maxRecDepth 20000 in
theorem gL_law_X4_tap : GoodIn wsL_law (wsV RL 78 RX4 yX4_tap wsX4_tap) := goodIn_app (goodIn_of _ (by decide +kernel)) ggL_law_X4_tap
set_option maxRecDepth 20000 in
theorem ggL_law_X3_noTaps : GoodIn wsL_law wsX3_noTaps := goodIn_r _ [351, 24, 352, 353, 354, 23, 355, 342, 407, 408, 409, 430, 431] (by decide +kernel) (by decide +kernel)
set_option maxRecDepth 20000 in
theorem gL_law_X3_noTaps : GoodIn wsL_law (wsV RL 79 RX3 yX3_noTaps wsX3_noTaps) := goodIn_app (goodIn_of _ (by decide +kernel)) ggL_law_X3_noTaps
set_option maxRecDepth 20000 in
theorem ggL_law_X4_noTaps : GoodIn wsL_law wsX4_noTaps := goodIn_r _ [359, 242, 410, 411, 412, 413, 414, 415, 416, 417, 418, 419, 420] (by decide +kernel) (by decide +kernel)
set_option maxRecDepth 20000 in
theorem gL_law_X4_noTaps : GoodIn wsL_law (wsV RL 83 RX4 yX4_noTaps wsX4_noTaps) := goodIn_app (goodIn_of _ (by decide +kernel)) ggL_law_X4_noTaps
set_option maxRecDepth 20000 in
theorem ggL_law_X3_fit : GoodIn wsL_law wsX3_fit := goodIn_r _ [363, 252, 24, 364, 365, 366, 367, 23, 368, 342, 43, 369, 370, 371, 372, 373, 374, 2, 375, 376, 377, 101, 378, 407, 408, 409, 430, 431] (by decide +kernel) (by decide +kernel)
set_option maxRecDepth 20000 in
theorem gL_law_X3_fit : GoodIn wsL_law (wsV RL 84 RX3 yX3_fit wsX3_fit) := goodIn_app (goodIn_of _ (by decide +kernel)) ggL_law_X3_fit
set_option maxRecDepth 20000 in
theorem ggL_law_X4_fit : GoodIn wsL_law wsX4_fit := goodIn_r _ [382, 269, 242, 383, 119, 120, 5, 121, 384, 385, 386, 387, 388, 54, 389, 390, 391, 392, 393, 394, 395, 396, 410, 411, 412, 413, 414, 415, 416, 417, 418, 419, 420] (by decide +kernel) (by decide +kernel)
set_option maxRecDepth 20000 in
theorem gL_law_X4_fit : GoodIn wsL_law (wsV RL 87 RX4 yX4_fit wsX4_fit) := goodIn_app (goodIn_of _ (by decide +kernel)) ggL_law_X4_fit
set_option maxRecDepth 20000 in
theorem ggL_law_X3_pace : GoodIn wsL_law wsX3_pace := goodIn_r _ [400, 401, 252, 24, 364, 105, 62, 63, 2, 64, 365, 366, 367, 23, 368, 342, 43, 369, 370, 371, 372, 407, 408, 409, 430, 431] (by decide +kernel) (by decide +kernel)
set_option maxRecDepth 20000 in
theorem gL_law_X3_pace : GoodIn wsL_law (wsV RL 88 RX3 yX3_pace wsX3_pace) := goodIn_app (goodIn_of _ (by decide +kernel)) ggL_law_X3_pace
set_option maxRecDepth 20000 in
theorem ggL_law_X4_pace : GoodIn wsL_law wsX4_pace := goodIn_r _ [405, 406, 269, 242, 383, 388, 119, 120, 5, 121, 390, 391, 392, 393, 384, 385, 386, 387, 54, 389, 410, 411, 412, 413, 414, 415, 416, 417, 418, 419, 420] (by decide +kernel) (by decide +kernel)
set_option maxRecDepth 20000 in
theorem gL_law_X4_pace : GoodIn wsL_law (wsV RL 91 RX4 yX4_pace wsX4_pace) := goodIn_app (goodIn_of _ (by decide +kernel)) ggL_law_X4_pace

set_option maxRecDepth 20000 in
theorem ggL_law_X3_init : GoodIn wsL_law wsX3_init := goodIn_r _ [9, 10, 11, 12, 13, 14, 15, 16, 17, 18, 19, 20, 21, 22, 23, 24, 25, 26, 27, 28, 29, 30, 31, 32, 33, 34, 35, 36, 37, 38, 39, 40, 41, 42, 43, 44, 45, 46, 47, 48, 49, 50, 51, 52, 53, 54, 55, 56, 57, 58, 59, 60, 61, 62, 63, 900, 901, 902, 903, 904, 905, 906, 907, 908, 909, 910, 878, 879, 880, 881, 882, 883, 884, 911, 912, 913, 914, 915, 916, 917, 918, 919, 920] (by decide +kernel) (by decide +kernel)
set_option maxRecDepth 20000 in
theorem gL_law_X3_init : GoodIn wsL_law (wsX3_init) := ggL_law_X3_init
set_option maxRecDepth 20000 in
theorem ggL_law_X4_init : GoodIn wsL_law wsX4_init := goodIn_r _ [66, 67, 11, 12, 27, 68, 69, 70, 71, 72, 73, 74, 62, 75, 885, 886, 887, 888, 889, 890, 891, 892, 893, 894, 895, 896, 897, 898, 899] (by decide +kernel) (by decide +kernel)
set_option maxRecDepth 20000 in
theorem gL_law_X4_init : GoodIn wsL_law (wsX4_init) := ggL_law_X4_init
set_option maxRecDepth 20000 in
theorem ggL_law_X3_noise : GoodIn wsL_law wsX3_noise := goodIn_r _ [79, 80, 16, 81, 82, 83, 2, 84, 85, 86, 87, 88, 89, 90, 91, 28, 878, 879, 880, 881, 882, 883, 884, 900, 901, 902, 903, 904, 905, 906, 907, 908, 909, 910] (by decide +kernel) (by decide +kernel)
set_option maxRecDepth 20000 in
theorem gL_law_X3_noise : GoodIn wsL_law (wsV RL 13 RX3 yX3_noise wsX3_noise) := goodIn_app (goodIn_of _ (by decide +kernel)) ggL_law_X3_noise
set_option maxRecDepth 20000 in
theorem ggL_law_X4_noise : GoodIn wsL_law wsX4_noise := goodIn_r _ [95, 96, 97, 98, 5, 99, 100, 101, 102, 103, 104, 105, 106, 68, 107, 108, 109, 110, 71, 885, 886, 887, 888, 889, 890, 891, 892, 893, 894, 895, 896, 897, 898, 899] (by decide +kernel) (by decide +kernel)
set_option maxRecDepth 20000 in
theorem gL_law_X4_noise : GoodIn wsL_law (wsV RL 17 RX4 yX4_noise wsX4_noise) := goodIn_app (goodIn_of _ (by decide +kernel)) ggL_law_X4_noise
set_option maxRecDepth 20000 in
theorem ggL_law_X3_hush : GoodIn wsL_law wsX3_hush := goodIn_r _ [114, 16, 115, 116, 117, 80, 85, 86, 2, 87, 88, 89, 90, 91, 28, 878, 879, 880, 881, 882, 883, 884, 900, 901, 902, 903, 904, 905, 906, 907, 908, 909, 910] (by decide +kernel) (by decide +kernel)
set_option maxRecDepth 20000 in
theorem gL_law_X3_hush : GoodIn wsL_law (wsV RL 18 RX3 yX3_hush wsX3_hush) := goodIn_app (goodIn_of _ (by decide +kernel)) ggL_law_X3_hush
set_option maxRecDepth 20000 in
theorem ggL_law_X4_hush : GoodIn wsL_law wsX4_hush := goodIn_r _ [121, 96, 100, 101, 5, 102, 103, 104, 105, 106, 68, 107, 108, 109, 110, 71, 885, 886, 887, 888, 889, 890, 891, 892, 893, 894, 895, 896, 897, 898, 899] (by decide +kernel) (by decide +kernel)
set_option maxRecDepth 20000 in
theorem gL_law_X4_hush : GoodIn wsL_law (wsV RL 21 RX4 yX4_hush wsX4_hush) := goodIn_app (goodIn_of _ (by decide +kernel)) ggL_law_X4_hush
set_option maxRecDepth 20000 in
theorem ggL_law_X3_house : GoodIn wsL_law wsX3_house := goodIn_r _ [125, 80, 16, 81, 82, 83, 2, 84, 85, 86, 87, 88, 89, 90, 91, 28, 126, 127, 128, 15, 129, 35, 37, 36, 130, 131, 132, 133, 34, 134, 135, 136, 137, 138, 139, 140, 141, 39, 41, 878, 879, 880, 881, 882, 883, 884, 900, 901, 902, 903, 904, 905, 906, 907, 908, 909, 910] (by decide +kernel) (by decide +kernel)
set_option maxRecDepth 20000 in
theorem gL_law_X3_house : GoodIn wsL_law (wsV RL 22 RX3 yX3_house wsX3_house) := goodIn_app (goodIn_of _ (by decide +kernel)) ggL_law_X3_house
set_option maxRecDepth 20000 in
theorem ggL_law_X4_house : GoodIn wsL_law wsX4_house := goodIn_r _ [145, 96, 68, 97, 98, 5, 99, 100, 101, 102, 107, 108, 109, 110, 71, 146, 147, 148, 149, 150, 151, 152, 153, 154, 155, 156, 157, 158, 159, 160, 161, 162, 163, 164, 165, 166, 167, 168, 169, 885, 886, 887, 888, 889, 890, 891, 892, 893, 894, 895, 896, 897, 898, 899] (by decide +kernel) (by decide +kernel)
set_option maxRecDepth 20000 in
theorem gL_law_X4_house : GoodIn wsL_law (wsV RL 25 RX4 yX4_house wsX4_house) := goodIn_app (goodIn_of _ (by decide +kernel)) ggL_law_X4_house
set_option maxRecDepth 20000 in
theorem ggL_law_X3_now : GoodIn wsL_law wsX3_now := goodIn_r _ [173, 16, 174, 115, 116, 117, 80, 175, 131, 132, 15, 133, 34, 126, 127, 128, 129, 35, 37, 36, 130, 176, 177, 178, 179, 38, 39, 180, 181, 135, 136, 137, 182, 183, 184, 185, 40, 41, 186, 187, 188, 189, 190, 191, 192, 193, 88, 89, 90, 2, 91, 28, 85, 86, 87, 878, 879, 880, 881, 882, 883, 884, 900, 901, 902, 903, 904, 905, 906, 907, 908, 909, 910] (by decide +kernel) (by decide +kernel)
set_option maxRecDepth 20000 in
theorem gL_law_X3_now : GoodIn wsL_law (wsV RL 26 RX3 yX3_now wsX3_now) := goodIn_app (goodIn_of _ (by decide +kernel)) ggL_law_X3_now
set_option maxRecDepth 20000 in
theorem ggL_law_X4_now : GoodIn wsL_law wsX4_now := goodIn_r _ [197, 68, 96, 162, 163, 164, 5, 165, 158, 159, 160, 161, 166, 167, 168, 169, 198, 199, 200, 201, 154, 155, 156, 157, 202, 203, 204, 205, 150, 151, 152, 153, 206, 207, 208, 209, 210, 211, 212, 213, 214, 215, 216, 217, 107, 108, 109, 110, 71, 885, 886, 887, 888, 889, 890, 891, 892, 893, 894, 895, 896, 897, 898, 899] (by decide +kernel) (by decide +kernel)
set_option maxRecDepth 20000 in
theorem gL_law_X4_now : GoodIn wsL_law (wsV RL 30 RX4 yX4_now wsX4_now) := goodIn_app (goodIn_of _ (by decide +kernel)) ggL_law_X4_now
set_option maxRecDepth 20000 in
theorem ggL_law_X3_person : GoodIn wsL_law wsX3_person := goodIn_r _ [221, 80, 16, 222, 223, 224, 225, 2, 226, 85, 86, 87, 82, 83, 84, 88, 89, 90, 91, 28, 227, 228, 229, 15, 230, 39, 40, 41, 42, 43, 44, 878, 879, 880, 881, 882, 883, 884, 900, 901, 902, 903, 904, 905, 906, 907, 908, 909, 910] (by decide +kernel) (by decide +kernel)
set_option maxRecDepth 20000 in
theorem gL_law_X3_person : GoodIn wsL_law (wsV RL 31 RX3 yX3_person wsX3_person) := goodIn_app (goodIn_of _ (by decide +kernel)) ggL_law_X3_person
set_option maxRecDepth 20000 in
theorem ggL_law_X4_person : GoodIn wsL_law wsX4_person := goodIn_r _ [234, 96, 68, 235, 100, 101, 5, 102, 97, 98, 99, 107, 108, 109, 110, 71, 236, 237, 238, 239, 240, 241, 242, 243, 885, 886, 887, 888, 889, 890, 891, 892, 893, 894, 895, 896, 897, 898, 899] (by decide +kernel) (by decide +kernel)
set_option maxRecDepth 20000 in
theorem gL_law_X4_person : GoodIn wsL_law (wsV RL 34 RX4 yX4_person wsX4_person) := goodIn_app (goodIn_of _ (by decide +kernel)) ggL_law_X4_person
set_option maxRecDepth 20000 in
theorem ggL_law_X3_of : GoodIn wsL_law wsX3_of := goodIn_r _ [247, 80, 16, 248, 249, 250, 251, 252, 253, 254, 255, 2, 256, 222, 85, 86, 87, 88, 89, 90, 91, 28, 126, 127, 128, 15, 129, 35, 37, 36, 130, 131, 132, 133, 34, 257, 258, 259, 260, 40, 41, 261, 262, 263, 264, 181, 135, 136, 137, 265, 266, 267, 268, 269, 270, 271, 272, 273, 274, 275, 276, 277, 186, 187, 188, 189, 278, 183, 184, 185, 279, 280, 281, 282, 43, 878, 879, 880, 881, 882, 883, 884, 900, 901, 902, 903, 904, 905, 906, 907, 908, 909, 910] (by decide +kernel) (by decide +kernel)
set_option maxRecDepth 20000 in
theorem gL_law_X3_of : GoodIn wsL_law (wsV RL 35 RX3 yX3_of wsX3_of) := goodIn_app (goodIn_of _ (by decide +kernel)) ggL_law_X3_of
set_option maxRecDepth 20000 in
theorem ggL_law_X4_of : GoodIn wsL_law wsX4_of := goodIn_r _ [286, 96, 287, 288, 289, 5, 290, 68, 100, 101, 102, 107, 108, 109, 110, 71, 291, 292, 293, 294, 166, 167, 168, 169, 162, 163, 164, 165, 150, 151, 152, 153, 210, 211, 212, 213, 154, 155, 156, 157, 158, 159, 160, 161, 295, 296, 297, 206, 207, 208, 209, 202, 203, 204, 205, 298, 299, 300, 301, 885, 886, 887, 888, 889, 890, 891, 892, 893, 894, 895, 896, 897, 898, 899] (by decide +kernel) (by decide +kernel)
set_option maxRecDepth 20000 in
theorem gL_law_X4_of : GoodIn wsL_law (wsV RL 38 RX4 yX4_of wsX4_of) := goodIn_app (goodIn_of _ (by decide +kernel)) ggL_law_X4_of
set_option maxRecDepth 20000 in
theorem ggL_law_X3_set : GoodIn wsL_law wsX3_set := goodIn_r _ [305, 80, 16, 249, 250, 251, 253, 254, 255, 2, 256, 222, 85, 86, 87, 88, 89, 90, 91, 28, 82, 83, 84, 306, 307, 308, 878, 879, 880, 881, 882, 883, 884, 900, 901, 902, 903, 904, 905, 906, 907, 908, 909, 910] (by decide +kernel) (by decide +kernel)
set_option maxRecDepth 20000 in
theorem gL_law_X3_set : GoodIn wsL_law (wsV RL 39 RX3 yX3_set wsX3_set) := goodIn_app (goodIn_of _ (by decide +kernel)) ggL_law_X3_set
set_option maxRecDepth 20000 in
theorem ggL_law_X4_set : GoodIn wsL_law wsX4_set := goodIn_r _ [312, 96, 287, 288, 289, 5, 290, 68, 100, 101, 102, 103, 104, 105, 106, 107, 108, 109, 110, 71, 885, 886, 887, 888, 889, 890, 891, 892, 893, 894, 895, 896, 897, 898, 899] (by decide +kernel) (by decide +kernel)
set_option maxRecDepth 20000 in
theorem gL_law_X4_set : GoodIn wsL_law (wsV RL 43 RX4 yX4_set wsX4_set) := goodIn_app (goodIn_of _ (by decide +kernel)) ggL_law_X4_set
set_option maxRecDepth 20000 in
theorem ggL_law_X3_turn : GoodIn wsL_law wsX3_turn := goodIn_r _ [316, 80, 16, 248, 253, 254, 255, 2, 256, 222, 85, 86, 87, 224, 225, 226, 88, 89, 90, 91, 28, 306, 307, 308, 878, 879, 880, 881, 882, 883, 884, 900, 901, 902, 903, 904, 905, 906, 907, 908, 909, 910] (by decide +kernel) (by decide +kernel)
set_option maxRecDepth 20000 in
theorem gL_law_X3_turn : GoodIn wsL_law (wsV RL 44 RX3 yX3_turn wsX3_turn) := goodIn_app (goodIn_of _ (by decide +kernel)) ggL_law_X3_turn
set_option maxRecDepth 20000 in
theorem ggL_law_X4_turn : GoodIn wsL_law wsX4_turn := goodIn_r _ [320, 96, 287, 288, 289, 5, 290, 68, 100, 101, 102, 103, 104, 105, 106, 107, 108, 109, 110, 71, 885, 886, 887, 888, 889, 890, 891, 892, 893, 894, 895, 896, 897, 898, 899] (by decide +kernel) (by decide +kernel)
set_option maxRecDepth 20000 in
theorem gL_law_X4_turn : GoodIn wsL_law (wsV RL 47 RX4 yX4_turn wsX4_turn) := goodIn_app (goodIn_of _ (by decide +kernel)) ggL_law_X4_turn
set_option maxRecDepth 20000 in
theorem ggL_law_X3_as : GoodIn wsL_law wsX3_as := goodIn_r _ [324, 80, 16, 248, 325, 250, 253, 254, 255, 2, 256, 222, 85, 86, 87, 224, 225, 226, 88, 89, 90, 91, 28, 326, 327, 328, 878, 879, 880, 881, 882, 883, 884, 900, 901, 902, 903, 904, 905, 906, 907, 908, 909, 910] (by decide +kernel) (by decide +kernel)
set_option maxRecDepth 20000 in
theorem gL_law_X3_as : GoodIn wsL_law (wsV RL 48 RX3 yX3_as wsX3_as) := goodIn_app (goodIn_of _ (by decide +kernel)) ggL_law_X3_as
set_option maxRecDepth 20000 in
theorem ggL_law_X4_as : GoodIn wsL_law wsX4_as := goodIn_r _ [332, 96, 333, 287, 288, 289, 5, 290, 68, 100, 101, 102, 107, 108, 109, 110, 71, 150, 151, 152, 153, 885, 886, 887, 888, 889, 890, 891, 892, 893, 894, 895, 896, 897, 898, 899] (by decide +kernel) (by decide +kernel)
set_option maxRecDepth 20000 in
theorem gL_law_X4_as : GoodIn wsL_law (wsV RL 51 RX4 yX4_as wsX4_as) := goodIn_app (goodIn_of _ (by decide +kernel)) ggL_law_X4_as
set_option maxRecDepth 20000 in
theorem ggL_law_X3_minutes : GoodIn wsL_law wsX3_minutes := goodIn_r _ [337, 80, 16, 174, 338, 339, 85, 86, 2, 87, 88, 89, 90, 91, 28, 340, 341, 342, 15, 343, 344, 345, 346, 347, 39, 41, 44, 34, 180, 127, 128, 129, 35, 37, 36, 130, 131, 132, 133, 348, 191, 192, 193, 181, 135, 136, 137, 349, 350, 351, 352, 42, 353, 272, 273, 274, 43, 354, 280, 281, 282, 40, 355, 258, 259, 260, 261, 262, 263, 264, 265, 266, 267, 268, 269, 270, 271, 275, 276, 277, 186, 187, 188, 189, 190, 878, 879, 880, 881, 882, 883, 884, 900, 901, 902, 903, 904, 905, 906, 907, 908, 909, 910] (by decide +kernel) (by decide +kernel)
set_option maxRecDepth 20000 in
theorem gL_law_X3_minutes : GoodIn wsL_law (wsV RL 52 RX3 yX3_minutes wsX3_minutes) := goodIn_app (goodIn_of _ (by decide +kernel)) ggL_law_X3_minutes
set_option maxRecDepth 20000 in
theorem ggL_law_X4_minutes : GoodIn wsL_law wsX4_minutes := goodIn_r _ [359, 96, 68, 360, 361, 100, 101, 5, 102, 107, 108, 109, 110, 71, 362, 363, 364, 365, 366, 367, 368, 369, 370, 371, 372, 373, 210, 211, 212, 213, 150, 151, 152, 153, 154, 155, 156, 157, 158, 159, 160, 161, 162, 163, 164, 165, 166, 167, 168, 169, 298, 299, 300, 301, 295, 296, 297, 240, 241, 242, 243, 291, 292, 293, 294, 206, 207, 208, 209, 214, 215, 216, 217, 885, 886, 887, 888, 889, 890, 891, 892, 893, 894, 895, 896, 897, 898, 899] (by decide +kernel) (by decide +kernel)
set_option maxRecDepth 20000 in
theorem gL_law_X4_minutes : GoodIn wsL_law (wsV RL 55 RX4 yX4_minutes wsX4_minutes) := goodIn_app (goodIn_of _ (by decide +kernel)) ggL_law_X4_minutes
set_option maxRecDepth 20000 in
theorem ggL_law_X3_on : GoodIn wsL_law wsX3_on := goodIn_r _ [377, 80, 18, 16, 249, 250, 251, 253, 254, 255, 2, 256, 222, 85, 86, 87, 88, 89, 90, 91, 28, 378, 379, 380, 15, 381, 39, 40, 41, 42, 43, 44, 382, 383, 384, 385, 34, 35, 36, 37, 38, 386, 387, 388, 389, 340, 341, 342, 343, 344, 345, 346, 347, 180, 127, 128, 129, 130, 131, 132, 133, 348, 191, 192, 193, 181, 135, 136, 137, 349, 350, 351, 352, 353, 272, 273, 274, 354, 280, 281, 282, 355, 258, 259, 260, 261, 262, 263, 264, 265, 266, 267, 268, 269, 270, 271, 275, 276, 277, 186, 187, 188, 189, 878, 879, 880, 881, 882, 883, 884, 900, 901, 902, 903, 904, 905, 906, 907, 908, 909, 910] (by decide +kernel) (by decide +kernel)
set_option maxRecDepth 20000 in
theorem gL_law_X3_on : GoodIn wsL_law (wsV RL 56 RX3 yX3_on wsX3_on) := goodIn_app (goodIn_of _ (by decide +kernel)) ggL_law_X3_on
set_option maxRecDepth 20000 in
theorem ggL_law_X4_on : GoodIn wsL_law wsX4_on := goodIn_r _ [393, 96, 287, 288, 289, 5, 290, 68, 100, 101, 102, 107, 108, 109, 110, 71, 394, 395, 396, 397, 70, 398, 399, 400, 362, 363, 364, 365, 366, 367, 368, 369, 370, 371, 372, 373, 210, 211, 212, 213, 150, 151, 152, 153, 154, 155, 156, 157, 158, 159, 160, 161, 162, 163, 164, 165, 166, 167, 168, 169, 298, 299, 300, 301, 295, 296, 297, 240, 241, 242, 243, 291, 292, 293, 294, 206, 207, 208, 209, 401, 402, 403, 404, 885, 886, 887, 888, 889, 890, 891, 892, 893, 894, 895, 896, 897, 898, 899] (by decide +kernel) (by decide +kernel)
set_option maxRecDepth 20000 in
theorem gL_law_X4_on : GoodIn wsL_law (wsV RL 59 RX4 yX4_on wsX4_on) := goodIn_app (goodIn_of _ (by decide +kernel)) ggL_law_X4_on
set_option maxRecDepth 20000 in
theorem ggL_law_X3_heard : GoodIn wsL_law wsX3_heard := goodIn_r _ [408, 80, 18, 85, 86, 2, 87, 88, 89, 90, 91, 28, 409, 410, 411, 412, 16, 413, 414, 415, 15, 416, 39, 40, 386, 387, 388, 389, 41, 42, 43, 44, 382, 383, 384, 385, 34, 35, 36, 37, 38, 340, 341, 342, 343, 344, 345, 346, 347, 180, 127, 128, 129, 130, 131, 132, 133, 348, 191, 192, 193, 181, 135, 136, 137, 349, 350, 351, 352, 353, 272, 273, 274, 354, 280, 281, 282, 355, 258, 259, 260, 261, 262, 263, 264, 265, 266, 267, 268, 269, 270, 271, 275, 276, 277, 186, 187, 188, 189, 176, 177, 178, 179, 182, 183, 184, 185, 878, 879, 880, 881, 882, 883, 884, 900, 901, 902, 903, 904, 905, 906, 907, 908, 909, 910] (by decide +kernel) (by decide +kernel)
set_option maxRecDepth 20000 in
theorem gL_law_X3_heard : GoodIn wsL_law (wsV RL 60 RX3 yX3_heard wsX3_heard) := goodIn_app (goodIn_of _ (by decide +kernel)) ggL_law_X3_heard
set_option maxRecDepth 20000 in
theorem ggL_law_X4_heard : GoodIn wsL_law wsX4_heard := goodIn_r _ [420, 96, 100, 101, 5, 102, 107, 108, 109, 110, 71, 394, 395, 396, 397, 68, 70, 398, 399, 400, 421, 422, 423, 424, 362, 363, 364, 365, 366, 367, 368, 369, 370, 371, 372, 373, 210, 211, 212, 213, 150, 151, 152, 153, 154, 155, 156, 157, 158, 159, 160, 161, 162, 163, 164, 165, 166, 167, 168, 169, 298, 299, 300, 301, 295, 296, 297, 240, 241, 242, 243, 291, 292, 293, 294, 206, 207, 208, 209, 198, 199, 200, 201, 202, 203, 204, 205, 401, 402, 403, 404, 885, 886, 887, 888, 889, 890, 891, 892, 893, 894, 895, 896, 897, 898, 899] (by decide +kernel) (by decide +kernel)
set_option maxRecDepth 20000 in
theorem gL_law_X4_heard : GoodIn wsL_law (wsV RL 63 RX4 yX4_heard wsX4_heard) := goodIn_app (goodIn_of _ (by decide +kernel)) ggL_law_X4_heard
set_option maxRecDepth 20000 in
theorem ggL_law_X3_reaches : GoodIn wsL_law wsX3_reaches := goodIn_r _ [428, 80, 18, 16, 429, 82, 83, 2, 84, 85, 86, 87, 88, 89, 90, 91, 28, 430, 383, 384, 15, 385, 34, 35, 36, 37, 38, 386, 387, 388, 389, 39, 44, 126, 127, 128, 129, 130, 131, 132, 133, 134, 135, 136, 137, 340, 341, 342, 343, 344, 345, 346, 347, 41, 180, 348, 191, 192, 193, 181, 349, 350, 351, 352, 42, 353, 272, 273, 274, 43, 354, 280, 281, 282, 40, 355, 258, 259, 260, 261, 262, 263, 264, 265, 266, 267, 268, 269, 270, 271, 275, 276, 277, 186, 187, 188, 189, 878, 879, 880, 881, 882, 883, 884, 900, 901, 902, 903, 904, 905, 906, 907, 908, 909, 910] (by decide +kernel) (by decide +kernel)
set_option maxRecDepth 20000 in
theorem gL_law_X3_reaches : GoodIn wsL_law (wsV RL 64 RX3 yX3_reaches wsX3_reaches) := goodIn_app (goodIn_of _ (by decide +kernel)) ggL_law_X3_reaches
set_option maxRecDepth 20000 in
theorem ggL_law_X4_reaches : GoodIn wsL_law wsX4_reaches := goodIn_r _ [434, 96, 435, 97, 98, 5, 99, 100, 101, 102, 107, 108, 109, 110, 71, 394, 395, 396, 397, 68, 70, 398, 399, 400, 154, 155, 156, 157, 158, 159, 160, 161, 162, 163, 164, 165, 166, 167, 168, 169, 366, 367, 368, 369, 370, 371, 372, 373, 210, 211, 212, 213, 150, 151, 152, 153, 298, 299, 300, 301, 295, 296, 297, 240, 241, 242, 243, 291, 292, 293, 294, 206, 207, 208, 209, 401, 402, 403, 404, 885, 886, 887, 888, 889, 890, 891, 892, 893, 894, 895, 896, 897, 898, 899] (by decide +kernel) (by decide +kernel)
set_option maxRecDepth 20000 in
theorem gL_law_X4_reaches : GoodIn wsL_law (wsV RL 67 RX4 yX4_reaches wsX4_reaches) := goodIn_app (goodIn_of _ (by decide +kernel)) ggL_law_X4_reaches
set_option maxRecDepth 20000 in
theorem ggL_law_X3_catches : GoodIn wsL_law wsX3_catches := goodIn_r _ [439, 80, 18, 16, 429, 253, 254, 255, 2, 256, 222, 85, 86, 87, 88, 89, 90, 91, 28, 378, 379, 380, 15, 381, 39, 40, 41, 42, 43, 44, 382, 383, 384, 385, 34, 35, 36, 37, 38, 386, 387, 388, 389, 190, 191, 192, 193, 180, 127, 128, 129, 130, 131, 132, 133, 181, 135, 136, 137, 340, 341, 342, 343, 344, 345, 346, 347, 348, 349, 350, 351, 352, 353, 272, 273, 274, 354, 280, 281, 282, 355, 258, 259, 260, 261, 262, 263, 264, 265, 266, 267, 268, 269, 270, 271, 275, 276, 277, 186, 187, 188, 189, 878, 879, 880, 881, 882, 883, 884, 900, 901, 902, 903, 904, 905, 906, 907, 908, 909, 910] (by decide +kernel) (by decide +kernel)
set_option maxRecDepth 20000 in
theorem gL_law_X3_catches : GoodIn wsL_law (wsV RL 68 RX3 yX3_catches wsX3_catches) := goodIn_app (goodIn_of _ (by decide +kernel)) ggL_law_X3_catches
set_option maxRecDepth 20000 in
theorem ggL_law_X4_catches : GoodIn wsL_law wsX4_catches := goodIn_r _ [443, 96, 435, 287, 288, 289, 5, 290, 68, 100, 101, 102, 107, 108, 109, 110, 71, 394, 395, 396, 397, 70, 398, 399, 400, 210, 211, 212, 213, 150, 151, 152, 153, 154, 155, 156, 157, 158, 159, 160, 161, 162, 163, 164, 165, 166, 167, 168, 169, 366, 367, 368, 369, 370, 371, 372, 373, 298, 299, 300, 301, 295, 296, 297, 240, 241, 242, 243, 291, 292, 293, 294, 206, 207, 208, 209, 401, 402, 403, 404, 885, 886, 887, 888, 889, 890, 891, 892, 893, 894, 895, 896, 897, 898, 899] (by decide +kernel) (by decide +kernel)
set_option maxRecDepth 20000 in
theorem gL_law_X4_catches : GoodIn wsL_law (wsV RL 71 RX4 yX4_catches wsX4_catches) := goodIn_app (goodIn_of _ (by decide +kernel)) ggL_law_X4_catches
set_option maxRecDepth 20000 in
theorem ggL_law_X3_out : GoodIn wsL_law wsX3_out := goodIn_r _ [447, 18, 16, 429, 430, 383, 384, 15, 385, 34, 35, 36, 37, 38, 386, 387, 388, 389, 39, 44, 126, 127, 128, 129, 130, 131, 132, 133, 340, 341, 342, 343, 344, 345, 346, 347, 41, 180, 348, 191, 192, 193, 181, 135, 136, 137, 349, 350, 351, 352, 42, 353, 272, 273, 274, 43, 354, 280, 281, 282, 40, 355, 258, 259, 260, 261, 262, 263, 264, 265, 266, 267, 268, 86, 2, 87, 269, 270, 271, 275, 276, 277, 186, 187, 188, 189, 88, 89, 90, 91, 80, 28, 85, 878, 879, 880, 881, 882, 883, 884, 900, 901, 902, 903, 904, 905, 906, 907, 908, 909, 910] (by decide +kernel) (by decide +kernel)
set_option maxRecDepth 20000 in
theorem gL_law_X3_out : GoodIn wsL_law (wsV RL 72 RX3 yX3_out wsX3_out) := goodIn_app (goodIn_of _ (by decide +kernel)) ggL_law_X3_out
set_option maxRecDepth 20000 in
theorem ggL_law_X4_out : GoodIn wsL_law wsX4_out := goodIn_r _ [451, 435, 394, 395, 396, 5, 397, 68, 70, 398, 399, 400, 158, 159, 160, 161, 162, 163, 164, 165, 166, 167, 168, 169, 366, 367, 368, 369, 370, 371, 372, 373, 210, 211, 212, 213, 150, 151, 152, 153, 154, 155, 156, 157, 298, 299, 300, 301, 295, 296, 297, 240, 241, 242, 243, 291, 292, 293, 294, 100, 101, 102, 206, 207, 208, 209, 401, 402, 403, 404, 107, 108, 109, 110, 71, 96, 885, 886, 887, 888, 889, 890, 891, 892, 893, 894, 895, 896, 897, 898, 899] (by decide +kernel) (by decide +kernel)
set_option maxRecDepth 20000 in
theorem gL_law_X4_out : GoodIn wsL_law (wsV RL 76 RX4 yX4_out wsX4_out) := goodIn_app (goodIn_of _ (by decide +kernel)) ggL_law_X4_out
set_option maxRecDepth 20000 in
theorem ggL_law_X3_where : GoodIn wsL_law wsX3_where := goodIn_r _ [455, 80, 16, 248, 253, 254, 255, 2, 256, 222, 85, 86, 87, 88, 89, 90, 91, 28, 456, 457, 458, 459, 18, 250, 460, 461, 462, 463, 249, 378, 379, 380, 15, 381, 39, 40, 41, 42, 43, 44, 382, 383, 384, 385, 34, 35, 36, 37, 38, 386, 387, 388, 389, 340, 341, 342, 343, 344, 345, 346, 347, 180, 127, 128, 129, 130, 131, 132, 133, 348, 191, 192, 193, 181, 135, 136, 137, 349, 350, 351, 352, 353, 272, 273, 274, 354, 280, 281, 282, 355, 258, 259, 260, 261, 262, 263, 264, 265, 266, 267, 268, 269, 270, 271, 275, 276, 277, 186, 187, 188, 189, 878, 879, 880, 881, 882, 883, 884, 900, 901, 902, 903, 904, 905, 906, 907, 908, 909, 910] (by decide +kernel) (by decide +kernel)
set_option maxRecDepth 20000 in
theorem gL_law_X3_where : GoodIn wsL_law (wsV RL 77 RX3 yX3_where wsX3_where) := goodIn_app (goodIn_of _ (by decide +kernel)) ggL_law_X3_where
set_option maxRecDepth 20000 in
theorem ggL_law_X4_where : GoodIn wsL_law wsX4_where := goodIn_r _ [467, 96, 287, 288, 289, 5, 290, 68, 100, 101, 102, 468, 469, 470, 471, 394, 395, 396, 397, 70, 398, 399, 400, 362, 363, 364, 365, 366, 367, 368, 369, 370, 371, 372, 373, 210, 211, 212, 213, 150, 151, 152, 153, 154, 155, 156, 157, 158, 159, 160, 161, 162, 163, 164, 165, 166, 167, 168, 169, 298, 299, 300, 301, 295, 296, 297, 240, 241, 242, 243, 291, 292, 293, 294, 206, 207, 208, 209, 472, 473, 474, 475, 401, 402, 403, 404, 107, 108, 109, 110, 71, 885, 886, 887, 888, 889, 890, 891, 892, 893, 894, 895, 896, 897, 898, 899] (by decide +kernel) (by decide +kernel)
set_option maxRecDepth 20000 in
theorem gL_law_X4_where : GoodIn wsL_law (wsV RL 80 RX4 yX4_where wsX4_where) := goodIn_app (goodIn_of _ (by decide +kernel)) ggL_law_X4_where
set_option maxRecDepth 20000 in
theorem ggL_law_X3_kind : GoodIn wsL_law wsX3_kind := goodIn_r _ [479, 80, 16, 249, 253, 254, 255, 2, 256, 222, 85, 86, 87, 88, 89, 90, 91, 28, 456, 457, 458, 459, 18, 250, 460, 461, 462, 463, 248, 378, 379, 380, 15, 381, 39, 40, 41, 42, 43, 44, 382, 383, 384, 385, 34, 35, 36, 37, 38, 386, 387, 388, 389, 340, 341, 342, 343, 344, 345, 346, 347, 180, 127, 128, 129, 130, 131, 132, 133, 348, 191, 192, 193, 181, 135, 136, 137, 349, 350, 351, 352, 353, 272, 273, 274, 354, 280, 281, 282, 355, 258, 259, 260, 261, 262, 263, 264, 265, 266, 267, 268, 269, 270, 271, 275, 276, 277, 186, 187, 188, 189, 878, 879, 880, 881, 882, 883, 884, 900, 901, 902, 903, 904, 905, 906, 907, 908, 909, 910] (by decide +kernel) (by decide +kernel)
set_option maxRecDepth 20000 in
theorem gL_law_X3_kind : GoodIn wsL_law (wsV RL 81 RX3 yX3_kind wsX3_kind) := goodIn_app (goodIn_of _ (by decide +kernel)) ggL_law_X3_kind
set_option maxRecDepth 20000 in
theorem ggL_law_X4_kind : GoodIn wsL_law wsX4_kind := goodIn_r _ [483, 96, 287, 288, 289, 5, 290, 68, 100, 101, 102, 468, 469, 470, 471, 394, 395, 396, 397, 70, 398, 399, 400, 362, 363, 364, 365, 366, 367, 368, 369, 370, 371, 372, 373, 210, 211, 212, 213, 150, 151, 152, 153, 154, 155, 156, 157, 158, 159, 160, 161, 162, 163, 164, 165, 166, 167, 168, 169, 298, 299, 300, 301, 295, 296, 297, 240, 241, 242, 243, 291, 292, 293, 294, 206, 207, 208, 209, 472, 473, 474, 475, 401, 402, 403, 404, 107, 108, 109, 110, 71, 885, 886, 887, 888, 889, 890, 891, 892, 893, 894, 895, 896, 897, 898, 899] (by decide +kernel) (by decide +kernel)
set_option maxRecDepth 20000 in
theorem gL_law_X4_kind : GoodIn wsL_law (wsV RL 84 RX4 yX4_kind wsX4_kind) := goodIn_app (goodIn_of _ (by decide +kernel)) ggL_law_X4_kind
set_option maxRecDepth 20000 in
theorem ggL_law_X3_wide : GoodIn wsL_law wsX3_wide := goodIn_r _ [487, 80, 16, 18, 116, 429, 85, 86, 2, 87, 88, 89, 90, 91, 28, 488, 489, 490, 15, 491, 43, 39, 492, 493, 413, 414, 415, 416, 40, 386, 387, 388, 389, 41, 42, 44, 382, 383, 384, 385, 34, 35, 36, 37, 38, 340, 341, 342, 343, 344, 345, 346, 347, 180, 127, 128, 129, 130, 131, 132, 133, 348, 191, 192, 193, 181, 135, 136, 137, 349, 350, 351, 352, 353, 272, 273, 274, 354, 280, 281, 282, 355, 258, 259, 260, 261, 262, 263, 264, 265, 266, 267, 268, 269, 270, 271, 275, 276, 277, 186, 187, 188, 189, 878, 879, 880, 881, 882, 883, 884, 900, 901, 902, 903, 904, 905, 906, 907, 908, 909, 910] (by decide +kernel) (by decide +kernel)
set_option maxRecDepth 20000 in
theorem gL_law_X3_wide : GoodIn wsL_law (wsV RL 85 RX3 yX3_wide wsX3_wide) := goodIn_app (goodIn_of _ (by decide +kernel)) ggL_law_X3_wide
set_option maxRecDepth 20000 in
theorem ggL_law_X4_wide : GoodIn wsL_law wsX4_wide := goodIn_r _ [497, 96, 68, 100, 101, 5, 102, 107, 108, 109, 110, 71, 394, 395, 396, 397, 70, 398, 399, 400, 472, 473, 474, 475, 150, 151, 152, 153, 362, 363, 364, 365, 366, 367, 368, 369, 370, 371, 372, 373, 210, 211, 212, 213, 154, 155, 156, 157, 158, 159, 160, 161, 162, 163, 164, 165, 166, 167, 168, 169, 298, 299, 300, 301, 295, 296, 297, 240, 241, 242, 243, 291, 292, 293, 294, 206, 207, 208, 209, 401, 402, 403, 404, 498, 499, 500, 501, 435, 885, 886, 887, 888, 889, 890, 891, 892, 893, 894, 895, 896, 897, 898, 899] (by decide +kernel) (by decide +kernel)
set_option maxRecDepth 20000 in
theorem gL_law_X4_wide : GoodIn wsL_law (wsV RL 88 RX4 yX4_wide wsX4_wide) := goodIn_app (goodIn_of _ (by decide +kernel)) ggL_law_X4_wide
set_option maxRecDepth 20000 in
theorem ggL_law_X3_pace : GoodIn wsL_law wsX3_pace := goodIn_r _ [505, 80, 18, 16, 117, 85, 86, 2, 87, 88, 89, 90, 91, 28, 413, 414, 415, 15, 416, 39, 40, 386, 387, 388, 389, 41, 42, 43, 44, 382, 383, 384, 385, 34, 35, 36, 37, 38, 340, 341, 342, 343, 344, 345, 346, 347, 180, 127, 128, 129, 130, 131, 132, 133, 348, 191, 192, 193, 181, 135, 136, 137, 349, 350, 351, 352, 353, 272, 273, 274, 354, 280, 281, 282, 355, 258, 259, 260, 261, 262, 263, 264, 265, 266, 267, 268, 269, 270, 271, 275, 276, 277, 186, 187, 188, 189, 506, 507, 508, 509, 492, 493, 878, 879, 880, 881, 882, 883, 884, 900, 901, 902, 903, 904, 905, 906, 907, 908, 909, 910] (by decide +kernel) (by decide +kernel)
set_option maxRecDepth 20000 in
theorem gL_law_X3_pace : GoodIn wsL_law (wsV RL 89 RX3 yX3_pace wsX3_pace) := goodIn_app (goodIn_of _ (by decide +kernel)) ggL_law_X3_pace
set_option maxRecDepth 20000 in
theorem ggL_law_X4_pace : GoodIn wsL_law wsX4_pace := goodIn_r _ [513, 96, 100, 101, 5, 102, 468, 469, 470, 471, 68, 394, 395, 396, 397, 70, 398, 399, 400, 362, 363, 364, 365, 366, 367, 368, 369, 370, 371, 372, 373, 210, 211, 212, 213, 150, 151, 152, 153, 154, 155, 156, 157, 158, 159, 160, 161, 162, 163, 164, 165, 166, 167, 168, 169, 298, 299, 300, 301, 295, 296, 297, 240, 241, 242, 243, 291, 292, 293, 294, 206, 207, 208, 209, 472, 473, 474, 475, 401, 402, 403, 404, 107, 108, 109, 110, 71, 885, 886, 887, 888, 889, 890, 891, 892, 893, 894, 895, 896, 897, 898, 899] (by decide +kernel) (by decide +kernel)
set_option maxRecDepth 20000 in
theorem gL_law_X4_pace : GoodIn wsL_law (wsV RL 92 RX4 yX4_pace wsX4_pace) := goodIn_app (goodIn_of _ (by decide +kernel)) ggL_law_X4_pace
set_option maxRecDepth 20000 in
theorem ggL_law_X3_four : GoodIn wsL_law wsX3_four := goodIn_r _ [517, 80, 18, 16, 115, 85, 86, 2, 87, 88, 89, 90, 91, 28, 413, 414, 415, 15, 416, 39, 40, 386, 387, 388, 389, 41, 42, 43, 44, 382, 383, 384, 385, 34, 35, 36, 37, 38, 340, 341, 342, 343, 344, 345, 346, 347, 180, 127, 128, 129, 130, 131, 132, 133, 348, 191, 192, 193, 181, 135, 136, 137, 349, 350, 351, 352, 353, 272, 273, 274, 354, 280, 281, 282, 355, 258, 259, 260, 261, 262, 263, 264, 265, 266, 267, 268, 269, 270, 271, 275, 276, 277, 186, 187, 188, 189, 176, 177, 178, 179, 182, 183, 184, 185, 878, 879, 880, 881, 882, 883, 884, 900, 901, 902, 903, 904, 905, 906, 907, 908, 909, 910] (by decide +kernel) (by decide +kernel)
set_option maxRecDepth 20000 in
theorem gL_law_X3_four : GoodIn wsL_law (wsV RL 93 RX3 yX3_four wsX3_four) := goodIn_app (goodIn_of _ (by decide +kernel)) ggL_law_X3_four
set_option maxRecDepth 20000 in
theorem ggL_law_X4_four : GoodIn wsL_law wsX4_four := goodIn_r _ [521, 96, 68, 100, 101, 5, 102, 107, 108, 109, 110, 71, 394, 395, 396, 397, 70, 398, 399, 400, 421, 422, 423, 424, 362, 363, 364, 365, 366, 367, 368, 369, 370, 371, 372, 373, 210, 211, 212, 213, 150, 151, 152, 153, 154, 155, 156, 157, 158, 159, 160, 161, 162, 163, 164, 165, 166, 167, 168, 169, 298, 299, 300, 301, 295, 296, 297, 240, 241, 242, 243, 291, 292, 293, 294, 206, 207, 208, 209, 198, 199, 200, 201, 202, 203, 204, 205, 401, 402, 403, 404, 885, 886, 887, 888, 889, 890, 891, 892, 893, 894, 895, 896, 897, 898, 899] (by decide +kernel) (by decide +kernel)
set_option maxRecDepth 20000 in
theorem gL_law_X4_four : GoodIn wsL_law (wsV RL 96 RX4 yX4_four wsX4_four) := goodIn_app (goodIn_of _ (by decide +kernel)) ggL_law_X4_four
set_option maxRecDepth 20000 in
theorem ggL_law_X3_still : GoodIn wsL_law wsX3_still := goodIn_r _ [525, 80, 18, 16, 81, 85, 86, 2, 87, 88, 89, 90, 91, 28, 430, 383, 384, 15, 385, 34, 35, 36, 37, 38, 386, 387, 388, 389, 39, 44, 340, 341, 342, 343, 344, 345, 346, 347, 41, 180, 127, 128, 129, 130, 131, 132, 133, 348, 191, 192, 193, 181, 135, 136, 137, 349, 350, 351, 352, 42, 353, 272, 273, 274, 43, 354, 280, 281, 282, 40, 355, 258, 259, 260, 261, 262, 263, 264, 265, 266, 267, 268, 269, 270, 271, 275, 276, 277, 186, 187, 188, 189, 126, 134, 878, 879, 880, 881, 882, 883, 884, 900, 901, 902, 903, 904, 905, 906, 907, 908, 909, 910] (by decide +kernel) (by decide +kernel)
set_option maxRecDepth 20000 in
theorem gL_law_X3_still : GoodIn wsL_law (wsV RL 97 RX3 yX3_still wsX3_still) := goodIn_app (goodIn_of _ (by decide +kernel)) ggL_law_X3_still
set_option maxRecDepth 20000 in
theorem ggL_law_X4_still : GoodIn wsL_law wsX4_still := goodIn_r _ [529, 96, 68, 100, 101, 5, 102, 107, 108, 109, 110, 71, 394, 395, 396, 397, 70, 398, 399, 400, 421, 422, 423, 424, 362, 363, 364, 365, 366, 367, 368, 369, 370, 371, 372, 373, 210, 211, 212, 213, 150, 151, 152, 153, 154, 155, 156, 157, 158, 159, 160, 161, 162, 163, 164, 165, 166, 167, 168, 169, 298, 299, 300, 301, 295, 296, 297, 240, 241, 242, 243, 291, 292, 293, 294, 206, 207, 208, 209, 198, 199, 200, 201, 202, 203, 204, 205, 401, 402, 403, 404, 885, 886, 887, 888, 889, 890, 891, 892, 893, 894, 895, 896, 897, 898, 899] (by decide +kernel) (by decide +kernel)
set_option maxRecDepth 20000 in
theorem gL_law_X4_still : GoodIn wsL_law (wsV RL 100 RX4 yX4_still wsX4_still) := goodIn_app (goodIn_of _ (by decide +kernel)) ggL_law_X4_still
set_option maxRecDepth 20000 in
theorem ggL_law_X3_quietest : GoodIn wsL_law wsX3_quietest := goodIn_r _ [533, 80, 16, 222, 429, 18, 250, 85, 86, 2, 87, 88, 89, 90, 91, 28, 409, 410, 411, 412, 413, 414, 415, 15, 416, 39, 40, 386, 387, 388, 389, 41, 42, 43, 44, 382, 383, 384, 385, 34, 35, 36, 37, 38, 340, 341, 342, 343, 344, 345, 346, 347, 180, 127, 128, 129, 130, 131, 132, 133, 348, 191, 192, 193, 181, 135, 136, 137, 349, 350, 351, 352, 353, 272, 273, 274, 354, 280, 281, 282, 355, 258, 259, 260, 261, 262, 263, 264, 265, 266, 267, 268, 269, 270, 271, 275, 276, 277, 186, 187, 188, 189, 878, 879, 880, 881, 882, 883, 884, 900, 901, 902, 903, 904, 905, 906, 907, 908, 909, 910] (by decide +kernel) (by decide +kernel)
set_option maxRecDepth 20000 in
theorem gL_law_X3_quietest : GoodIn wsL_law (wsV RL 101 RX3 yX3_quietest wsX3_quietest) := goodIn_app (goodIn_of _ (by decide +kernel)) ggL_law_X3_quietest
set_option maxRecDepth 20000 in
theorem ggL_law_X4_quietest : GoodIn wsL_law wsX4_quietest := goodIn_r _ [537, 96, 68, 100, 101, 5, 102, 107, 108, 109, 110, 71, 394, 395, 396, 397, 70, 398, 399, 400, 362, 363, 364, 365, 366, 367, 368, 369, 370, 371, 372, 373, 210, 211, 212, 213, 150, 151, 152, 153, 154, 155, 156, 157, 158, 159, 160, 161, 162, 163, 164, 165, 166, 167, 168, 169, 298, 299, 300, 301, 295, 296, 297, 240, 241, 242, 243, 291, 292, 293, 294, 206, 207, 208, 209, 401, 402, 403, 404, 498, 499, 500, 501, 435, 885, 886, 887, 888, 889, 890, 891, 892, 893, 894, 895, 896, 897, 898, 899] (by decide +kernel) (by decide +kernel)
set_option maxRecDepth 20000 in
theorem gL_law_X4_quietest : GoodIn wsL_law (wsV RL 104 RX4 yX4_quietest wsX4_quietest) := goodIn_app (goodIn_of _ (by decide +kernel)) ggL_law_X4_quietest
set_option maxRecDepth 20000 in
theorem ggL_law_X3_feed : GoodIn wsL_law wsX3_feed := goodIn_r _ [541, 80, 22, 542, 223, 85, 86, 2, 87, 88, 89, 90, 91, 28, 543, 544, 545, 21, 546, 50, 49, 878, 879, 880, 881, 882, 883, 884, 911, 912, 913, 914, 915, 916, 917] (by decide +kernel) (by decide +kernel)
set_option maxRecDepth 20000 in
theorem gL_law_X3_feed : GoodIn wsL_law (wsV RL 105 RX3 yX3_feed wsX3_feed) := goodIn_app (goodIn_of _ (by decide +kernel)) ggL_law_X3_feed
set_option maxRecDepth 20000 in
theorem ggL_law_X4_feed : GoodIn wsL_law wsX4_feed := goodIn_r _ [550, 96, 551, 235, 72, 100, 101, 5, 102, 107, 108, 109, 110, 71, 885, 886, 887, 888, 889, 890, 891, 892, 893, 894, 895, 896, 897, 898, 899] (by decide +kernel) (by decide +kernel)
set_option maxRecDepth 20000 in
theorem gL_law_X4_feed : GoodIn wsL_law (wsV RL 108 RX4 yX4_feed wsX4_feed) := goodIn_app (goodIn_of _ (by decide +kernel)) ggL_law_X4_feed
set_option maxRecDepth 20000 in
theorem ggL_law_X3_wipe : GoodIn wsL_law wsX3_wipe := goodIn_r _ [555, 22, 542, 878, 879, 880, 881, 882, 883, 884, 911, 912, 913, 914, 915, 916, 917] (by decide +kernel) (by decide +kernel)
set_option maxRecDepth 20000 in
theorem gL_law_X3_wipe : GoodIn wsL_law (wsV RL 109 RX3 yX3_wipe wsX3_wipe) := goodIn_app (goodIn_of _ (by decide +kernel)) ggL_law_X3_wipe
set_option maxRecDepth 20000 in
theorem ggL_law_X4_wipe : GoodIn wsL_law wsX4_wipe := goodIn_r _ [559, 551, 885, 886, 887, 888, 889, 890, 891, 892, 893, 894, 895, 896, 897, 898, 899] (by decide +kernel) (by decide +kernel)
set_option maxRecDepth 20000 in
theorem gL_law_X4_wipe : GoodIn wsL_law (wsV RL 112 RX4 yX4_wipe wsX4_wipe) := goodIn_app (goodIn_of _ (by decide +kernel)) ggL_law_X4_wipe
set_option maxRecDepth 20000 in
theorem ggL_law_X3_town : GoodIn wsL_law wsX3_town := goodIn_r _ [563, 18, 16, 22, 542, 564, 565, 413, 414, 415, 15, 416, 39, 40, 386, 387, 388, 389, 41, 42, 43, 44, 382, 383, 384, 385, 34, 35, 36, 37, 38, 566, 567, 568, 21, 569, 51, 53, 54, 570, 571, 572, 573, 52, 50, 55, 574, 575, 576, 577, 578, 579, 580, 581, 49, 582, 583, 584, 585, 586, 272, 273, 274, 587, 588, 589, 590, 591, 592, 593, 594, 595, 596, 597, 598, 599, 600, 601, 602, 603, 604, 605, 606, 607, 608, 609, 610, 611, 612, 613, 614, 615, 616, 617, 618, 619, 620, 621, 622, 623, 624, 625, 626, 627, 628, 629, 630, 631, 632, 633, 634, 635, 636, 637, 638, 639, 640, 641, 642, 643, 644, 645, 646, 647, 648, 649, 650, 651, 652, 653, 654, 655, 86, 2, 87, 656, 228, 229, 230, 657, 658, 659, 660, 661, 662, 663, 664, 665, 666, 667, 668, 878, 879, 880, 881, 882, 883, 884, 911, 912, 913, 914, 915, 916, 917, 900, 901, 902, 903, 904, 905, 906, 907, 908, 909, 910] (by decide +kernel) (by decide +kernel)
set_option maxRecDepth 20000 in
theorem gL_law_X3_town : GoodIn wsL_law (wsV RL 113 RX3 yX3_town wsX3_town) := goodIn_app (goodIn_of _ (by decide +kernel)) ggL_law_X3_town
set_option maxRecDepth 20000 in
theorem ggL_law_X4_town : GoodIn wsL_law wsX4_town := goodIn_r _ [672, 673, 674, 675, 551, 676, 394, 395, 396, 5, 397, 68, 70, 398, 399, 400, 677, 678, 679, 680, 681, 72, 682, 683, 684, 685, 100, 101, 102, 686, 687, 688, 689, 690, 691, 692, 693, 694, 695, 696, 697, 698, 699, 700, 701, 702, 703, 704, 705, 706, 707, 708, 709, 710, 711, 712, 713, 714, 236, 237, 238, 239, 240, 241, 242, 243, 715, 716, 717, 718, 401, 402, 403, 404, 885, 886, 887, 888, 889, 890, 891, 892, 893, 894, 895, 896, 897, 898, 899] (by decide +kernel) (by decide +kernel)
set_option maxRecDepth 20000 in
theorem gL_law_X4_town : GoodIn wsL_law (wsV RL 116 RX4 yX4_town wsX4_town) := goodIn_app (goodIn_of _ (by decide +kernel)) ggL_law_X4_town
set_option maxRecDepth 20000 in
theorem ggL_law_X3_sheet : GoodIn wsL_law wsX3_sheet := goodIn_r _ [722, 80, 723, 24, 724, 725, 726, 2, 727, 85, 86, 87, 728, 729, 730, 88, 89, 90, 91, 28, 731, 732, 733, 26, 734, 60, 61, 63, 878, 879, 880, 881, 882, 883, 884, 918, 919, 920] (by decide +kernel) (by decide +kernel)
set_option maxRecDepth 20000 in
theorem gL_law_X3_sheet : GoodIn wsL_law (wsV RL 117 RX3 yX3_sheet wsX3_sheet) := goodIn_app (goodIn_of _ (by decide +kernel)) ggL_law_X3_sheet
set_option maxRecDepth 20000 in
theorem ggL_law_X4_sheet : GoodIn wsL_law wsX4_sheet := goodIn_r _ [738, 96, 739, 73, 74, 75, 740, 741, 5, 742, 100, 101, 102, 107, 108, 109, 110, 71, 885, 886, 887, 888, 889, 890, 891, 892, 893, 894, 895, 896, 897, 898, 899] (by decide +kernel) (by decide +kernel)
set_option maxRecDepth 20000 in
theorem gL_law_X4_sheet : GoodIn wsL_law (wsV RL 120 RX4 yX4_sheet wsX4_sheet) := goodIn_app (goodIn_of _ (by decide +kernel)) ggL_law_X4_sheet
set_option maxRecDepth 20000 in
theorem ggL_law_X3_write : GoodIn wsL_law wsX3_write := goodIn_r _ [746, 80, 24, 747, 724, 748, 725, 726, 2, 727, 85, 86, 87, 88, 89, 90, 91, 28, 749, 750, 751, 26, 752, 60, 753, 754, 755, 756, 63, 878, 879, 880, 881, 882, 883, 884, 918, 919, 920] (by decide +kernel) (by decide +kernel)
set_option maxRecDepth 20000 in
theorem gL_law_X3_write : GoodIn wsL_law (wsV RL 123 RX3 yX3_write wsX3_write) := goodIn_app (goodIn_of _ (by decide +kernel)) ggL_law_X3_write
set_option maxRecDepth 20000 in
theorem ggL_law_X4_write : GoodIn wsL_law wsX4_write := goodIn_r _ [760, 74, 96, 75, 73, 761, 762, 763, 5, 764, 765, 740, 741, 742, 100, 101, 102, 107, 108, 109, 110, 71, 766, 767, 768, 885, 886, 887, 888, 889, 890, 891, 892, 893, 894, 895, 896, 897, 898, 899] (by decide +kernel) (by decide +kernel)
set_option maxRecDepth 20000 in
theorem gL_law_X4_write : GoodIn wsL_law (wsV RL 127 RX4 yX4_write wsX4_write) := goodIn_app (goodIn_of _ (by decide +kernel)) ggL_law_X4_write
set_option maxRecDepth 20000 in
theorem ggL_law_X3_copy : GoodIn wsL_law wsX3_copy := goodIn_r _ [772, 80, 24, 747, 773, 325, 748, 774, 387, 388, 389, 725, 726, 2, 727, 85, 86, 87, 88, 89, 90, 91, 28, 749, 750, 751, 26, 752, 60, 775, 776, 777, 778, 61, 878, 879, 880, 881, 882, 883, 884, 918, 919, 920] (by decide +kernel) (by decide +kernel)
set_option maxRecDepth 20000 in
theorem gL_law_X3_copy : GoodIn wsL_law (wsV RL 128 RX3 yX3_copy wsX3_copy) := goodIn_app (goodIn_of _ (by decide +kernel)) ggL_law_X3_copy
set_option maxRecDepth 20000 in
theorem ggL_law_X4_copy : GoodIn wsL_law wsX4_copy := goodIn_r _ [782, 75, 783, 784, 785, 5, 786, 96, 73, 765, 333, 74, 740, 741, 742, 100, 101, 102, 107, 108, 109, 110, 71, 885, 886, 887, 888, 889, 890, 891, 892, 893, 894, 895, 896, 897, 898, 899] (by decide +kernel) (by decide +kernel)
set_option maxRecDepth 20000 in
theorem gL_law_X4_copy : GoodIn wsL_law (wsV RL 132 RX4 yX4_copy wsX4_copy) := goodIn_app (goodIn_of _ (by decide +kernel)) ggL_law_X4_copy
set_option maxRecDepth 20000 in
theorem ggL_law_X3_lays : GoodIn wsL_law wsX3_lays := goodIn_r _ [790, 80, 24, 747, 724, 748, 791, 16, 81, 725, 726, 2, 727, 85, 86, 87, 88, 89, 90, 91, 28, 749, 750, 751, 26, 752, 60, 878, 879, 880, 881, 882, 883, 884, 918, 919, 920, 900, 901, 902, 903, 904, 905, 906, 907, 908, 909, 910] (by decide +kernel) (by decide +kernel)
set_option maxRecDepth 20000 in
theorem gL_law_X3_lays : GoodIn wsL_law (wsV RL 133 RX3 yX3_lays wsX3_lays) := goodIn_app (goodIn_of _ (by decide +kernel)) ggL_law_X3_lays
set_option maxRecDepth 20000 in
theorem ggL_law_X4_lays : GoodIn wsL_law wsX4_lays := goodIn_r _ [795, 74, 75, 68, 761, 762, 763, 5, 764, 96, 73, 765, 740, 741, 742, 100, 101, 102, 107, 108, 109, 110, 71, 885, 886, 887, 888, 889, 890, 891, 892, 893, 894, 895, 896, 897, 898, 899] (by decide +kernel) (by decide +kernel)
set_option maxRecDepth 20000 in
theorem gL_law_X4_lays : GoodIn wsL_law (wsV RL 136 RX4 yX4_lays wsX4_lays) := goodIn_app (goodIn_of _ (by decide +kernel)) ggL_law_X4_lays

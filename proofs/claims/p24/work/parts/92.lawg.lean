set_option maxRecDepth 20000 in
theorem ggL_law_X9_init : GoodIn wsL_law wsX9_init := goodIn_r _ [9, 10, 11, 12, 13, 14, 15, 16, 17, 18, 19, 20, 21, 22, 23, 24, 25, 26, 27, 28, 29, 30, 31, 32, 33, 34, 35, 36, 37, 38, 39, 40, 41, 42, 43, 44, 45, 46, 47, 48, 49, 50, 51, 52, 53, 54, 55, 56, 57, 58, 59, 60, 61, 62, 63, 64, 65, 66, 67, 68, 69, 70, 71, 72, 73, 74, 75, 76, 77, 78, 79, 80, 81, 82, 83, 84, 85, 86, 87, 88, 89, 90, 91, 92, 93, 94, 95, 96, 97, 98, 99, 100, 101, 102, 103, 104, 105, 106, 107, 108, 109, 110, 111, 112, 113, 114, 115, 116, 117, 118, 119, 120, 121, 122, 123, 124, 125, 126, 127, 908, 909, 910, 911, 912, 913, 871, 872, 873, 874, 875, 876, 877, 878, 879, 914, 915, 916, 917, 918, 919, 920, 921, 922, 923, 924, 925, 926, 927, 928, 929, 930, 931, 932, 933, 934, 935, 936, 937, 938, 939, 940, 941, 942, 943, 944, 945, 946, 947, 948, 949, 950, 951, 952, 953] (by decide +kernel) (by decide +kernel)
set_option maxRecDepth 20000 in
theorem gL_law_X9_init : GoodIn wsL_law (wsX9_init) := ggL_law_X9_init
set_option maxRecDepth 20000 in
theorem ggL_law_X10_init : GoodIn wsL_law wsX10_init := goodIn_r _ [130, 131, 11, 12, 132, 133, 134, 57, 135, 136, 137, 138, 139, 140, 141, 142, 143, 99, 144, 145, 146, 147, 148, 149, 150, 880, 881, 882, 883, 884, 885, 886, 887, 888, 889, 890, 891, 892, 893, 894, 895, 896, 897, 898, 899, 900, 901, 902, 903, 904, 905, 906, 907] (by decide +kernel) (by decide +kernel)
set_option maxRecDepth 20000 in
theorem gL_law_X10_init : GoodIn wsL_law (wsX10_init) := ggL_law_X10_init
set_option maxRecDepth 20000 in
theorem ggL_law_X9_table : GoodIn wsL_law wsX9_table := goodIn_r _ [154, 16, 20, 155, 156, 157, 15, 158, 52, 53, 58, 59, 55, 159, 160, 161, 162, 163, 164, 165, 19, 166, 68, 69, 70, 871, 872, 873, 874, 875, 876, 877, 878, 879, 908, 909, 910, 911, 912, 913, 914, 915, 916, 917, 918, 919, 920, 921] (by decide +kernel) (by decide +kernel)
set_option maxRecDepth 20000 in
theorem gL_law_X9_table : GoodIn wsL_law (wsV RL 13 RX9 yX9_table wsX9_table) := goodIn_app (goodIn_of _ (by decide +kernel)) ggL_law_X9_table
set_option maxRecDepth 20000 in
theorem ggL_law_X10_table : GoodIn wsL_law wsX10_table := goodIn_r _ [170, 171, 172, 132, 133, 135, 173, 174, 5, 175, 176, 177, 178, 179, 180, 181, 880, 881, 882, 883, 884, 885, 886, 887, 888, 889, 890, 891, 892, 893, 894, 895, 896, 897, 898, 899, 900, 901, 902, 903, 904, 905, 906, 907] (by decide +kernel) (by decide +kernel)
set_option maxRecDepth 20000 in
theorem gL_law_X10_table : GoodIn wsL_law (wsV RL 17 RX10 yX10_table wsX10_table) := goodIn_app (goodIn_of _ (by decide +kernel)) ggL_law_X10_table
set_option maxRecDepth 20000 in
theorem ggL_law_X9_letters : GoodIn wsL_law wsX9_letters := goodIn_r _ [185, 16, 186, 20, 187, 188, 189, 15, 190, 54, 55, 163, 164, 165, 19, 166, 68, 69, 70, 871, 872, 873, 874, 875, 876, 877, 878, 879, 908, 909, 910, 911, 912, 913, 914, 915, 916, 917, 918, 919, 920, 921] (by decide +kernel) (by decide +kernel)
set_option maxRecDepth 20000 in
theorem gL_law_X9_letters : GoodIn wsL_law (wsV RL 18 RX9 yX9_letters wsX9_letters) := goodIn_app (goodIn_of _ (by decide +kernel)) ggL_law_X9_letters
set_option maxRecDepth 20000 in
theorem ggL_law_X10_letters : GoodIn wsL_law wsX10_letters := goodIn_r _ [194, 134, 176, 177, 178, 5, 179, 180, 181, 880, 881, 882, 883, 884, 885, 886, 887, 888, 889, 890, 891, 892, 893, 894, 895, 896, 897, 898, 899, 900, 901, 902, 903, 904, 905, 906, 907] (by decide +kernel) (by decide +kernel)
set_option maxRecDepth 20000 in
theorem gL_law_X10_letters : GoodIn wsL_law (wsV RL 22 RX10 yX10_letters wsX10_letters) := goodIn_app (goodIn_of _ (by decide +kernel)) ggL_law_X10_letters
set_option maxRecDepth 20000 in
theorem ggL_law_X9_set : GoodIn wsL_law wsX9_set := goodIn_r _ [198, 16, 20, 199, 200, 201, 15, 202, 52, 203, 204, 205, 206, 53, 207, 208, 2, 209, 210, 211, 212, 19, 213, 71, 69, 68, 64, 65, 66, 67, 70, 214, 215, 216, 217, 59, 58, 218, 219, 220, 221, 55, 871, 872, 873, 874, 875, 876, 877, 878, 879, 908, 909, 910, 911, 912, 913, 914, 915, 916, 917, 918, 919, 920, 921] (by decide +kernel) (by decide +kernel)
set_option maxRecDepth 20000 in
theorem gL_law_X9_set : GoodIn wsL_law (wsV RL 23 RX9 yX9_set wsX9_set) := goodIn_app (goodIn_of _ (by decide +kernel)) ggL_law_X9_set
set_option maxRecDepth 20000 in
theorem ggL_law_X10_set : GoodIn wsL_law wsX10_set := goodIn_r _ [225, 226, 227, 228, 229, 230, 5, 231, 132, 173, 174, 175, 232, 233, 234, 235, 133, 236, 237, 238, 239, 240, 241, 242, 243, 180, 136, 137, 138, 135, 181, 880, 881, 882, 883, 884, 885, 886, 887, 888, 889, 890, 891, 892, 893, 894, 895, 896, 897, 898, 899, 900, 901, 902, 903, 904, 905, 906, 907] (by decide +kernel) (by decide +kernel)
set_option maxRecDepth 20000 in
theorem gL_law_X10_set : GoodIn wsL_law (wsV RL 27 RX10 yX10_set wsX10_set) := goodIn_app (goodIn_of _ (by decide +kernel)) ggL_law_X10_set
set_option maxRecDepth 20000 in
theorem ggL_law_X9_hear : GoodIn wsL_law wsX9_hear := goodIn_r _ [247, 16, 20, 248, 199, 200, 201, 15, 202, 52, 207, 208, 2, 209, 210, 211, 212, 19, 213, 71, 69, 68, 64, 65, 66, 67, 70, 214, 215, 216, 217, 53, 59, 58, 218, 219, 220, 221, 55, 871, 872, 873, 874, 875, 876, 877, 878, 879, 908, 909, 910, 911, 912, 913, 914, 915, 916, 917, 918, 919, 920, 921] (by decide +kernel) (by decide +kernel)
set_option maxRecDepth 20000 in
theorem gL_law_X9_hear : GoodIn wsL_law (wsV RL 28 RX9 yX9_hear wsX9_hear) := goodIn_app (goodIn_of _ (by decide +kernel)) ggL_law_X9_hear
set_option maxRecDepth 20000 in
theorem ggL_law_X10_hear : GoodIn wsL_law wsX10_hear := goodIn_r _ [252, 253, 254, 133, 228, 229, 230, 5, 231, 132, 173, 174, 175, 236, 237, 238, 239, 240, 241, 242, 243, 180, 136, 137, 138, 135, 181, 880, 881, 882, 883, 884, 885, 886, 887, 888, 889, 890, 891, 892, 893, 894, 895, 896, 897, 898, 899, 900, 901, 902, 903, 904, 905, 906, 907] (by decide +kernel) (by decide +kernel)
set_option maxRecDepth 20000 in
theorem gL_law_X10_hear : GoodIn wsL_law (wsV RL 31 RX10 yX10_hear wsX10_hear) := goodIn_app (goodIn_of _ (by decide +kernel)) ggL_law_X10_hear
set_option maxRecDepth 20000 in
theorem ggL_law_X9_undo : GoodIn wsL_law wsX9_undo := goodIn_r _ [258, 20, 259, 260, 261, 19, 262, 69, 263, 264, 265, 266, 70, 68, 71, 64, 65, 66, 218, 219, 220, 15, 221, 53, 59, 58, 55, 871, 872, 873, 874, 875, 876, 877, 878, 879, 914, 915, 916, 917, 918, 919, 920, 921, 908, 909, 910, 911, 912, 913] (by decide +kernel) (by decide +kernel)
set_option maxRecDepth 20000 in
theorem gL_law_X9_undo : GoodIn wsL_law (wsV RL 32 RX9 yX9_undo wsX9_undo) := goodIn_app (goodIn_of _ (by decide +kernel)) ggL_law_X9_undo
set_option maxRecDepth 20000 in
theorem ggL_law_X10_undo : GoodIn wsL_law wsX10_undo := goodIn_r _ [270, 180, 181, 135, 136, 137, 880, 881, 882, 883, 884, 885, 886, 887, 888, 889, 890, 891, 892, 893, 894, 895, 896, 897, 898, 899, 900, 901, 902, 903, 904, 905, 906, 907] (by decide +kernel) (by decide +kernel)
set_option maxRecDepth 20000 in
theorem gL_law_X10_undo : GoodIn wsL_law (wsV RL 36 RX10 yX10_undo wsX10_undo) := goodIn_app (goodIn_of _ (by decide +kernel)) ggL_law_X10_undo
set_option maxRecDepth 20000 in
theorem ggL_law_X9_redo : GoodIn wsL_law wsX9_redo := goodIn_r _ [274, 20, 275, 276, 277, 19, 278, 70, 279, 280, 281, 282, 68, 69, 71, 64, 65, 67, 218, 219, 220, 15, 221, 53, 59, 58, 55, 871, 872, 873, 874, 875, 876, 877, 878, 879, 914, 915, 916, 917, 918, 919, 920, 921, 908, 909, 910, 911, 912, 913] (by decide +kernel) (by decide +kernel)
set_option maxRecDepth 20000 in
theorem gL_law_X9_redo : GoodIn wsL_law (wsV RL 37 RX9 yX9_redo wsX9_redo) := goodIn_app (goodIn_of _ (by decide +kernel)) ggL_law_X9_redo
set_option maxRecDepth 20000 in
theorem ggL_law_X10_redo : GoodIn wsL_law wsX10_redo := goodIn_r _ [286, 181, 135, 136, 180, 138, 880, 881, 882, 883, 884, 885, 886, 887, 888, 889, 890, 891, 892, 893, 894, 895, 896, 897, 898, 899, 900, 901, 902, 903, 904, 905, 906, 907] (by decide +kernel) (by decide +kernel)
set_option maxRecDepth 20000 in
theorem gL_law_X10_redo : GoodIn wsL_law (wsV RL 40 RX10 yX10_redo wsX10_redo) := goodIn_app (goodIn_of _ (by decide +kernel)) ggL_law_X10_redo
set_option maxRecDepth 20000 in
theorem ggL_law_X9_told : GoodIn wsL_law wsX9_told := goodIn_r _ [290, 16, 248, 199, 200, 201, 15, 202, 52, 203, 204, 205, 206, 53, 291, 215, 216, 217, 59, 58, 871, 872, 873, 874, 875, 876, 877, 878, 879, 908, 909, 910, 911, 912, 913] (by decide +kernel) (by decide +kernel)
set_option maxRecDepth 20000 in
theorem gL_law_X9_told : GoodIn wsL_law (wsV RL 41 RX9 yX9_told wsX9_told) := goodIn_app (goodIn_of _ (by decide +kernel)) ggL_law_X9_told
set_option maxRecDepth 20000 in
theorem ggL_law_X10_told : GoodIn wsL_law wsX10_told := goodIn_r _ [295, 133, 135, 228, 229, 230, 5, 231, 132, 173, 174, 175, 236, 237, 238, 239, 880, 881, 882, 883, 884, 885, 886, 887, 888, 889, 890, 891, 892, 893, 894, 895, 896, 897, 898, 899, 900, 901, 902, 903, 904, 905, 906, 907] (by decide +kernel) (by decide +kernel)
set_option maxRecDepth 20000 in
theorem gL_law_X10_told : GoodIn wsL_law (wsV RL 44 RX10 yX10_told wsX10_told) := goodIn_app (goodIn_of _ (by decide +kernel)) ggL_law_X10_told
set_option maxRecDepth 20000 in
theorem ggL_law_X9_type : GoodIn wsL_law wsX9_type := goodIn_r _ [299, 24, 300, 301, 23, 302, 303, 304, 305, 306, 307, 308, 309, 310, 77, 311, 312, 313, 314, 76, 871, 872, 873, 874, 875, 876, 877, 878, 879, 922, 923] (by decide +kernel) (by decide +kernel)
set_option maxRecDepth 20000 in
theorem gL_law_X9_type : GoodIn wsL_law (wsV RL 47 RX9 yX9_type wsX9_type) := goodIn_app (goodIn_of _ (by decide +kernel)) ggL_law_X9_type
set_option maxRecDepth 20000 in
theorem ggL_law_X10_type : GoodIn wsL_law wsX10_type := goodIn_r _ [318, 319, 320, 321, 322, 323, 139, 173, 174, 5, 175, 880, 881, 882, 883, 884, 885, 886, 887, 888, 889, 890, 891, 892, 893, 894, 895, 896, 897, 898, 899, 900, 901, 902, 903, 904, 905, 906, 907] (by decide +kernel) (by decide +kernel)
set_option maxRecDepth 20000 in
theorem gL_law_X10_type : GoodIn wsL_law (wsV RL 51 RX10 yX10_type wsX10_type) := goodIn_app (goodIn_of _ (by decide +kernel)) ggL_law_X10_type
set_option maxRecDepth 20000 in
theorem ggL_law_X9_read : GoodIn wsL_law wsX9_read := goodIn_r _ [327, 28, 24, 16, 328, 329, 330, 248, 331, 20, 332, 333, 334, 27, 335, 336, 337, 338, 339, 84, 340, 341, 342, 343, 344, 345, 346, 347, 348, 83, 349, 350, 351, 352, 353, 354, 355, 23, 356, 77, 76, 357, 358, 359, 360, 361, 362, 363, 364, 365, 366, 367, 368, 369, 370, 371, 372, 373, 374, 375, 376, 155, 156, 157, 15, 158, 52, 53, 58, 59, 55, 159, 160, 161, 162, 377, 219, 220, 221, 163, 164, 165, 19, 166, 68, 69, 70, 871, 872, 873, 874, 875, 876, 877, 878, 879, 924, 925, 926, 927, 928, 929, 908, 909, 910, 911, 912, 913, 922, 923, 914, 915, 916, 917, 918, 919, 920, 921] (by decide +kernel) (by decide +kernel)
set_option maxRecDepth 20000 in
theorem gL_law_X9_read : GoodIn wsL_law (wsV RL 52 RX9 yX9_read wsX9_read) := goodIn_app (goodIn_of _ (by decide +kernel)) ggL_law_X9_read
set_option maxRecDepth 20000 in
theorem ggL_law_X10_read : GoodIn wsL_law wsX10_read := goodIn_r _ [381, 382, 383, 384, 385, 323, 132, 133, 135, 140, 386, 387, 388, 5, 389, 390, 391, 392, 393, 394, 395, 139, 396, 397, 398, 399, 173, 174, 175, 400, 401, 402, 403, 404, 168, 169, 170, 171, 172, 176, 177, 178, 179, 180, 181, 236, 237, 238, 239, 880, 881, 882, 883, 884, 885, 886, 887, 888, 889, 890, 891, 892, 893, 894, 895, 896, 897, 898, 899, 900, 901, 902, 903, 904, 905, 906, 907] (by decide +kernel) (by decide +kernel)
set_option maxRecDepth 20000 in
theorem gL_law_X10_read : GoodIn wsL_law (wsV RL 55 RX10 yX10_read wsX10_read) := goodIn_app (goodIn_of _ (by decide +kernel)) ggL_law_X10_read
set_option maxRecDepth 20000 in
theorem ggL_law_X9_off : GoodIn wsL_law wsX9_off := goodIn_r _ [408, 16, 32, 409, 410, 411, 15, 412, 53, 413, 414, 415, 416, 54, 417, 418, 419, 31, 420, 94, 421, 422, 423, 424, 425, 426, 427, 428, 429, 430, 871, 872, 873, 874, 875, 876, 877, 878, 879, 908, 909, 910, 911, 912, 913, 930, 931, 932, 933, 934, 935] (by decide +kernel) (by decide +kernel)
set_option maxRecDepth 20000 in
theorem gL_law_X9_off : GoodIn wsL_law (wsV RL 56 RX9 yX9_off wsX9_off) := goodIn_app (goodIn_of _ (by decide +kernel)) ggL_law_X9_off
set_option maxRecDepth 20000 in
theorem ggL_law_X10_off : GoodIn wsL_law wsX10_off := goodIn_r _ [434, 435, 436, 437, 5, 438, 439, 440, 441, 442, 133, 134, 173, 174, 175, 443, 444, 445, 446, 132, 135, 447, 448, 449, 450, 880, 881, 882, 883, 884, 885, 886, 887, 888, 889, 890, 891, 892, 893, 894, 895, 896, 897, 898, 899, 900, 901, 902, 903, 904, 905, 906, 907] (by decide +kernel) (by decide +kernel)
set_option maxRecDepth 20000 in
theorem gL_law_X10_off : GoodIn wsL_law (wsV RL 59 RX10 yX10_off wsX10_off) := goodIn_app (goodIn_of _ (by decide +kernel)) ggL_law_X10_off
set_option maxRecDepth 20000 in
theorem ggL_law_X9_nearest : GoodIn wsL_law wsX9_nearest := goodIn_r _ [454, 16, 32, 409, 410, 411, 15, 412, 53, 413, 414, 415, 416, 54, 455, 456, 457, 31, 458, 90, 459, 460, 461, 462, 92, 94, 463, 89, 464, 465, 418, 419, 420, 421, 422, 423, 424, 425, 426, 427, 428, 429, 430, 466, 467, 468, 469, 93, 470, 346, 347, 348, 91, 471, 472, 473, 474, 475, 476, 477, 478, 871, 872, 873, 874, 875, 876, 877, 878, 879, 908, 909, 910, 911, 912, 913, 930, 931, 932, 933, 934, 935] (by decide +kernel) (by decide +kernel)
set_option maxRecDepth 20000 in
theorem gL_law_X9_nearest : GoodIn wsL_law (wsV RL 60 RX9 yX9_nearest wsX9_nearest) := goodIn_app (goodIn_of _ (by decide +kernel)) ggL_law_X9_nearest
set_option maxRecDepth 20000 in
theorem ggL_law_X10_nearest : GoodIn wsL_law wsX10_nearest := goodIn_r _ [482, 141, 435, 436, 437, 5, 438, 439, 440, 441, 442, 133, 134, 173, 174, 175, 483, 484, 485, 486, 443, 444, 445, 446, 132, 135, 447, 448, 449, 450, 880, 881, 882, 883, 884, 885, 886, 887, 888, 889, 890, 891, 892, 893, 894, 895, 896, 897, 898, 899, 900, 901, 902, 903, 904, 905, 906, 907] (by decide +kernel) (by decide +kernel)
set_option maxRecDepth 20000 in
theorem gL_law_X10_nearest : GoodIn wsL_law (wsV RL 63 RX10 yX10_nearest wsX10_nearest) := goodIn_app (goodIn_of _ (by decide +kernel)) ggL_law_X10_nearest
set_option maxRecDepth 20000 in
theorem ggL_law_X9_soft : GoodIn wsL_law wsX9_soft := goodIn_r _ [490, 16, 491, 32, 203, 204, 205, 15, 206, 53, 492, 414, 415, 416, 54, 493, 494, 495, 31, 496, 497, 94, 89, 470, 346, 347, 348, 459, 460, 461, 462, 92, 463, 464, 410, 411, 412, 413, 465, 418, 419, 420, 421, 422, 423, 424, 425, 426, 427, 428, 429, 430, 498, 499, 500, 501, 871, 872, 873, 874, 875, 876, 877, 878, 879, 908, 909, 910, 911, 912, 913, 930, 931, 932, 933, 934, 935] (by decide +kernel) (by decide +kernel)
set_option maxRecDepth 20000 in
theorem gL_law_X9_soft : GoodIn wsL_law (wsV RL 64 RX9 yX9_soft wsX9_soft) := goodIn_app (goodIn_of _ (by decide +kernel)) ggL_law_X9_soft
set_option maxRecDepth 20000 in
theorem ggL_law_X10_soft : GoodIn wsL_law wsX10_soft := goodIn_r _ [505, 134, 506, 141, 232, 233, 234, 5, 235, 133, 173, 174, 175, 483, 484, 485, 486, 439, 440, 441, 442, 443, 444, 445, 446, 132, 135, 447, 448, 449, 450, 507, 508, 509, 510, 880, 881, 882, 883, 884, 885, 886, 887, 888, 889, 890, 891, 892, 893, 894, 895, 896, 897, 898, 899, 900, 901, 902, 903, 904, 905, 906, 907] (by decide +kernel) (by decide +kernel)
set_option maxRecDepth 20000 in
theorem gL_law_X10_soft : GoodIn wsL_law (wsV RL 67 RX10 yX10_soft wsX10_soft) := goodIn_app (goodIn_of _ (by decide +kernel)) ggL_law_X10_soft
set_option maxRecDepth 20000 in
theorem ggL_law_X9_gram : GoodIn wsL_law wsX9_gram := goodIn_r _ [514, 16, 515, 330, 203, 204, 205, 15, 206, 53, 516, 517, 2, 518, 871, 872, 873, 874, 875, 876, 877, 878, 879, 908, 909, 910, 911, 912, 913] (by decide +kernel) (by decide +kernel)
set_option maxRecDepth 20000 in
theorem gL_law_X9_gram : GoodIn wsL_law (wsV RL 68 RX9 yX9_gram wsX9_gram) := goodIn_app (goodIn_of _ (by decide +kernel)) ggL_law_X9_gram
set_option maxRecDepth 20000 in
theorem ggL_law_X10_gram : GoodIn wsL_law wsX10_gram := goodIn_r _ [522, 232, 233, 234, 5, 235, 133, 173, 174, 175, 523, 524, 525, 526, 142, 132, 135, 143, 527, 528, 529, 530, 880, 881, 882, 883, 884, 885, 886, 887, 888, 889, 890, 891, 892, 893, 894, 895, 896, 897, 898, 899, 900, 901, 902, 903, 904, 905, 906, 907] (by decide +kernel) (by decide +kernel)
set_option maxRecDepth 20000 in
theorem gL_law_X10_gram : GoodIn wsL_law (wsV RL 71 RX10 yX10_gram wsX10_gram) := goodIn_app (goodIn_of _ (by decide +kernel)) ggL_law_X10_gram
set_option maxRecDepth 20000 in
theorem ggL_law_X9_worth : GoodIn wsL_law wsX9_worth := goodIn_r _ [534, 16, 248, 535, 36, 536, 537, 538, 35, 539, 540, 102, 100, 541, 542, 517, 2, 518, 543, 544, 545, 871, 872, 873, 874, 875, 876, 877, 878, 879, 908, 909, 910, 911, 912, 913, 936, 937, 938, 939, 940] (by decide +kernel) (by decide +kernel)
set_option maxRecDepth 20000 in
theorem gL_law_X9_worth : GoodIn wsL_law (wsV RL 72 RX9 yX9_worth wsX9_worth) := goodIn_app (goodIn_of _ (by decide +kernel)) ggL_law_X9_worth
set_option maxRecDepth 20000 in
theorem ggL_law_X10_worth : GoodIn wsL_law wsX10_worth := goodIn_r _ [549, 550, 551, 552, 553, 5, 554, 133, 173, 174, 175, 523, 524, 525, 526, 142, 132, 135, 143, 555, 556, 557, 558, 144, 527, 528, 529, 530, 559, 560, 561, 562, 880, 881, 882, 883, 884, 885, 886, 887, 888, 889, 890, 891, 892, 893, 894, 895, 896, 897, 898, 899, 900, 901, 902, 903, 904, 905, 906, 907] (by decide +kernel) (by decide +kernel)
set_option maxRecDepth 20000 in
theorem gL_law_X10_worth : GoodIn wsL_law (wsV RL 76 RX10 yX10_worth wsX10_worth) := goodIn_app (goodIn_of _ (by decide +kernel)) ggL_law_X10_worth
set_option maxRecDepth 20000 in
theorem ggL_law_X9_undone : GoodIn wsL_law wsX9_undone := goodIn_r _ [566, 36, 16, 515, 567, 330, 248, 568, 569, 186, 570, 571, 572, 35, 573, 101, 100, 574, 103, 517, 2, 518, 543, 544, 545, 575, 576, 577, 578, 579, 580, 581, 582, 583, 584, 585, 586, 587, 588, 589, 590, 591, 592, 593, 594, 347, 595, 596, 597, 598, 599, 600, 601, 15, 602, 54, 871, 872, 873, 874, 875, 876, 877, 878, 879, 908, 909, 910, 911, 912, 913, 936, 937, 938, 939, 940] (by decide +kernel) (by decide +kernel)
set_option maxRecDepth 20000 in
theorem gL_law_X9_undone : GoodIn wsL_law (wsV RL 77 RX9 yX9_undone wsX9_undone) := goodIn_app (goodIn_of _ (by decide +kernel)) ggL_law_X9_undone
set_option maxRecDepth 20000 in
theorem ggL_law_X10_undone : GoodIn wsL_law wsX10_undone := goodIn_r _ [606, 133, 146, 607, 608, 523, 524, 525, 5, 526, 142, 132, 135, 143, 551, 552, 553, 554, 555, 556, 557, 558, 144, 527, 528, 529, 530, 559, 560, 561, 562, 609, 610, 611, 612, 145, 613, 614, 615, 616, 617, 618, 619, 620, 134, 621, 622, 623, 624, 880, 881, 882, 883, 884, 885, 886, 887, 888, 889, 890, 891, 892, 893, 894, 895, 896, 897, 898, 899, 900, 901, 902, 903, 904, 905, 906, 907] (by decide +kernel) (by decide +kernel)
set_option maxRecDepth 20000 in
theorem gL_law_X10_undone : GoodIn wsL_law (wsV RL 80 RX10 yX10_undone wsX10_undone) := goodIn_app (goodIn_of _ (by decide +kernel)) ggL_law_X10_undone
set_option maxRecDepth 20000 in
theorem ggL_law_X9_fraction : GoodIn wsL_law wsX9_fraction := goodIn_r _ [628, 16, 629, 36, 515, 567, 330, 248, 568, 630, 569, 631, 632, 347, 633, 596, 597, 598, 203, 204, 205, 15, 206, 53, 570, 571, 572, 35, 573, 101, 100, 574, 103, 517, 2, 518, 543, 544, 545, 575, 576, 577, 578, 634, 635, 636, 871, 872, 873, 874, 875, 876, 877, 878, 879, 908, 909, 910, 911, 912, 913, 936, 937, 938, 939, 940] (by decide +kernel) (by decide +kernel)
set_option maxRecDepth 20000 in
theorem gL_law_X9_fraction : GoodIn wsL_law (wsV RL 81 RX9 yX9_fraction wsX9_fraction) := goodIn_app (goodIn_of _ (by decide +kernel)) ggL_law_X9_fraction
set_option maxRecDepth 20000 in
theorem ggL_law_X10_fraction : GoodIn wsL_law wsX10_fraction := goodIn_r _ [640, 641, 642, 607, 608, 232, 233, 234, 5, 235, 133, 173, 174, 175, 523, 524, 525, 526, 142, 132, 135, 143, 551, 552, 553, 554, 555, 556, 557, 558, 144, 527, 528, 529, 530, 559, 560, 561, 562, 609, 610, 611, 612, 145, 613, 614, 615, 616, 643, 644, 645, 880, 881, 882, 883, 884, 885, 886, 887, 888, 889, 890, 891, 892, 893, 894, 895, 896, 897, 898, 899, 900, 901, 902, 903, 904, 905, 906, 907] (by decide +kernel) (by decide +kernel)
set_option maxRecDepth 20000 in
theorem gL_law_X10_fraction : GoodIn wsL_law (wsV RL 85 RX10 yX10_fraction wsX10_fraction) := goodIn_app (goodIn_of _ (by decide +kernel)) ggL_law_X10_fraction
set_option maxRecDepth 20000 in
theorem ggL_law_X9_taken : GoodIn wsL_law wsX9_taken := goodIn_r _ [649, 40, 16, 248, 650, 651, 652, 653, 39, 654, 111, 655, 108, 656, 472, 473, 474, 657, 109, 658, 659, 660, 661, 662, 663, 517, 2, 518, 664, 665, 666, 667, 668, 669, 347, 670, 110, 671, 580, 581, 582, 583, 584, 585, 586, 587, 588, 589, 590, 591, 592, 593, 594, 595, 596, 597, 598, 599, 600, 601, 15, 602, 54, 871, 872, 873, 874, 875, 876, 877, 878, 879, 908, 909, 910, 911, 912, 913, 941, 942, 943, 944] (by decide +kernel) (by decide +kernel)
set_option maxRecDepth 20000 in
theorem gL_law_X9_taken : GoodIn wsL_law (wsV RL 86 RX9 yX9_taken wsX9_taken) := goodIn_app (goodIn_of _ (by decide +kernel)) ggL_law_X9_taken
set_option maxRecDepth 20000 in
theorem ggL_law_X10_taken : GoodIn wsL_law wsX10_taken := goodIn_r _ [675, 133, 142, 145, 146, 523, 524, 525, 5, 526, 132, 135, 143, 609, 610, 611, 612, 676, 677, 678, 679, 527, 528, 529, 530, 617, 618, 619, 620, 134, 621, 622, 623, 624, 880, 881, 882, 883, 884, 885, 886, 887, 888, 889, 890, 891, 892, 893, 894, 895, 896, 897, 898, 899, 900, 901, 902, 903, 904, 905, 906, 907] (by decide +kernel) (by decide +kernel)
set_option maxRecDepth 20000 in
theorem gL_law_X10_taken : GoodIn wsL_law (wsV RL 89 RX10 yX10_taken wsX10_taken) := goodIn_app (goodIn_of _ (by decide +kernel)) ggL_law_X10_taken
set_option maxRecDepth 20000 in
theorem ggL_law_X9_order : GoodIn wsL_law wsX9_order := goodIn_r _ [683, 16, 40, 684, 203, 204, 205, 15, 206, 53, 651, 652, 653, 39, 654, 111, 655, 108, 656, 472, 473, 474, 657, 109, 658, 659, 660, 661, 662, 663, 517, 2, 518, 664, 665, 666, 667, 668, 669, 347, 670, 110, 671, 580, 581, 582, 583, 584, 585, 586, 587, 588, 589, 590, 591, 592, 593, 594, 595, 596, 597, 598, 871, 872, 873, 874, 875, 876, 877, 878, 879, 941, 942, 943, 944, 908, 909, 910, 911, 912, 913] (by decide +kernel) (by decide +kernel)
set_option maxRecDepth 20000 in
theorem gL_law_X9_order : GoodIn wsL_law (wsV RL 90 RX9 yX9_order wsX9_order) := goodIn_app (goodIn_of _ (by decide +kernel)) ggL_law_X9_order
set_option maxRecDepth 20000 in
theorem ggL_law_X10_order : GoodIn wsL_law wsX10_order := goodIn_r _ [688, 232, 233, 234, 5, 235, 133, 173, 174, 175, 523, 524, 525, 526, 142, 132, 135, 143, 676, 677, 678, 679, 527, 528, 529, 530, 880, 881, 882, 883, 884, 885, 886, 887, 888, 889, 890, 891, 892, 893, 894, 895, 896, 897, 898, 899, 900, 901, 902, 903, 904, 905, 906, 907] (by decide +kernel) (by decide +kernel)
set_option maxRecDepth 20000 in
theorem gL_law_X10_order : GoodIn wsL_law (wsV RL 93 RX10 yX10_order wsX10_order) := goodIn_app (goodIn_of _ (by decide +kernel)) ggL_law_X10_order
set_option maxRecDepth 20000 in
theorem ggL_law_X9_led : GoodIn wsL_law wsX9_led := goodIn_r _ [692, 44, 693, 694, 695, 696, 43, 697, 120, 121, 698, 699, 700, 701, 702, 703, 704, 117, 705, 472, 473, 474, 118, 706, 707, 708, 709, 710, 711, 712, 713, 714, 715, 716, 717, 347, 718, 517, 2, 518, 719, 720, 721, 722, 871, 872, 873, 874, 875, 876, 877, 878, 879, 945, 946, 947, 948, 949, 950, 908, 909, 910, 911, 912, 913] (by decide +kernel) (by decide +kernel)
set_option maxRecDepth 20000 in
theorem gL_law_X9_led : GoodIn wsL_law (wsV RL 94 RX9 yX9_led wsX9_led) := goodIn_app (goodIn_of _ (by decide +kernel)) ggL_law_X9_led
set_option maxRecDepth 20000 in
theorem ggL_law_X10_led : GoodIn wsL_law wsX10_led := goodIn_r _ [726, 727, 728, 729, 5, 730, 523, 524, 525, 526, 142, 133, 132, 135, 143, 731, 732, 733, 734, 527, 528, 529, 530, 735, 736, 737, 880, 881, 882, 883, 884, 885, 886, 887, 888, 889, 890, 891, 892, 893, 894, 895, 896, 897, 898, 899, 900, 901, 902, 903, 904, 905, 906, 907] (by decide +kernel) (by decide +kernel)
set_option maxRecDepth 20000 in
theorem gL_law_X10_led : GoodIn wsL_law (wsV RL 97 RX10 yX10_led wsX10_led) := goodIn_app (goodIn_of _ (by decide +kernel)) ggL_law_X10_led
set_option maxRecDepth 20000 in
theorem ggL_law_X9_ledAt : GoodIn wsL_law wsX9_ledAt := goodIn_r _ [741, 16, 742, 44, 743, 744, 203, 204, 205, 15, 206, 53, 199, 200, 201, 202, 52, 694, 695, 696, 43, 697, 120, 121, 698, 699, 700, 701, 702, 703, 704, 117, 705, 472, 473, 474, 118, 706, 707, 708, 709, 710, 711, 712, 713, 714, 715, 716, 717, 347, 718, 517, 2, 518, 719, 720, 721, 722, 871, 872, 873, 874, 875, 876, 877, 878, 879, 945, 946, 947, 948, 949, 950, 908, 909, 910, 911, 912, 913] (by decide +kernel) (by decide +kernel)
set_option maxRecDepth 20000 in
theorem gL_law_X9_ledAt : GoodIn wsL_law (wsV RL 98 RX9 yX9_ledAt wsX9_ledAt) := goodIn_app (goodIn_of _ (by decide +kernel)) ggL_law_X9_ledAt
set_option maxRecDepth 20000 in
theorem ggL_law_X10_ledAt : GoodIn wsL_law wsX10_ledAt := goodIn_r _ [748, 749, 142, 143, 173, 174, 5, 175, 232, 233, 234, 235, 133, 228, 229, 230, 231, 132, 727, 728, 729, 730, 523, 524, 525, 526, 135, 731, 732, 733, 734, 527, 528, 529, 530, 735, 736, 737, 880, 881, 882, 883, 884, 885, 886, 887, 888, 889, 890, 891, 892, 893, 894, 895, 896, 897, 898, 899, 900, 901, 902, 903, 904, 905, 906, 907] (by decide +kernel) (by decide +kernel)
set_option maxRecDepth 20000 in
theorem gL_law_X10_ledAt : GoodIn wsL_law (wsV RL 101 RX10 yX10_ledAt wsX10_ledAt) := goodIn_app (goodIn_of _ (by decide +kernel)) ggL_law_X10_ledAt
set_option maxRecDepth 20000 in
theorem ggL_law_X9_ledWord : GoodIn wsL_law wsX9_ledWord := goodIn_r _ [753, 44, 36, 743, 754, 16, 330, 248, 568, 744, 569, 186, 694, 695, 696, 43, 697, 120, 121, 698, 699, 700, 701, 702, 703, 704, 117, 705, 472, 473, 474, 118, 706, 707, 708, 709, 710, 711, 712, 713, 714, 715, 716, 717, 347, 718, 517, 2, 518, 719, 720, 721, 722, 755, 756, 757, 758, 119, 759, 760, 570, 571, 572, 35, 573, 101, 100, 574, 103, 543, 544, 545, 575, 576, 577, 578, 761, 762, 763, 582, 583, 584, 585, 586, 587, 588, 589, 590, 591, 592, 593, 594, 595, 596, 597, 598, 599, 600, 601, 15, 602, 54, 871, 872, 873, 874, 875, 876, 877, 878, 879, 945, 946, 947, 948, 949, 950, 908, 909, 910, 911, 912, 913, 936, 937, 938, 939, 940] (by decide +kernel) (by decide +kernel)
set_option maxRecDepth 20000 in
theorem gL_law_X9_ledWord : GoodIn wsL_law (wsV RL 102 RX9 yX9_ledWord wsX9_ledWord) := goodIn_app (goodIn_of _ (by decide +kernel)) ggL_law_X9_ledWord
set_option maxRecDepth 20000 in
theorem ggL_law_X10_ledWord : GoodIn wsL_law wsX10_ledWord := goodIn_r _ [767, 132, 133, 145, 134, 135, 607, 608, 768, 147, 143, 146, 727, 728, 729, 5, 730, 523, 524, 525, 526, 142, 731, 732, 733, 734, 527, 528, 529, 530, 735, 736, 737, 551, 552, 553, 554, 555, 556, 557, 558, 144, 559, 560, 561, 562, 609, 610, 611, 612, 613, 614, 615, 616, 621, 622, 623, 624, 880, 881, 882, 883, 884, 885, 886, 887, 888, 889, 890, 891, 892, 893, 894, 895, 896, 897, 898, 899, 900, 901, 902, 903, 904, 905, 906, 907] (by decide +kernel) (by decide +kernel)
set_option maxRecDepth 20000 in
theorem gL_law_X10_ledWord : GoodIn wsL_law (wsV RL 105 RX10 yX10_ledWord wsX10_ledWord) := goodIn_app (goodIn_of _ (by decide +kernel)) ggL_law_X10_ledWord
set_option maxRecDepth 20000 in
theorem ggL_law_X9_chosen : GoodIn wsL_law wsX9_chosen := goodIn_r _ [772, 16, 248, 535, 36, 773, 774, 2, 775, 776, 777, 778, 779, 780, 781, 782, 536, 537, 538, 35, 539, 540, 102, 100, 541, 542, 517, 518, 543, 544, 545, 871, 872, 873, 874, 875, 876, 877, 878, 879, 908, 909, 910, 911, 912, 913, 936, 937, 938, 939, 940] (by decide +kernel) (by decide +kernel)
set_option maxRecDepth 20000 in
theorem gL_law_X9_chosen : GoodIn wsL_law (wsV RL 106 RX9 yX9_chosen wsX9_chosen) := goodIn_app (goodIn_of _ (by decide +kernel)) ggL_law_X9_chosen
set_option maxRecDepth 20000 in
theorem ggL_law_X10_chosen : GoodIn wsL_law wsX10_chosen := goodIn_r _ [786, 133, 550, 173, 174, 5, 175, 523, 524, 525, 526, 142, 132, 135, 143, 551, 552, 553, 554, 555, 556, 557, 558, 144, 527, 528, 529, 530, 559, 560, 561, 562, 787, 788, 789, 790, 880, 881, 882, 883, 884, 885, 886, 887, 888, 889, 890, 891, 892, 893, 894, 895, 896, 897, 898, 899, 900, 901, 902, 903, 904, 905, 906, 907] (by decide +kernel) (by decide +kernel)
set_option maxRecDepth 20000 in
theorem gL_law_X10_chosen : GoodIn wsL_law (wsV RL 109 RX10 yX10_chosen wsX10_chosen) := goodIn_app (goodIn_of _ (by decide +kernel)) ggL_law_X10_chosen
set_option maxRecDepth 20000 in
theorem ggL_law_X9_sheet : GoodIn wsL_law wsX9_sheet := goodIn_r _ [794, 46, 795, 796, 2, 797, 798, 799, 800, 801, 802, 803, 48, 804, 125, 126, 127, 805, 806, 161, 807, 871, 872, 873, 874, 875, 876, 877, 878, 879, 951, 952, 953] (by decide +kernel) (by decide +kernel)
set_option maxRecDepth 20000 in
theorem gL_law_X9_sheet : GoodIn wsL_law (wsV RL 110 RX9 yX9_sheet wsX9_sheet) := goodIn_app (goodIn_of _ (by decide +kernel)) ggL_law_X9_sheet
set_option maxRecDepth 20000 in
theorem ggL_law_X10_sheet : GoodIn wsL_law wsX10_sheet := goodIn_r _ [811, 148, 149, 150, 812, 813, 5, 814, 815, 173, 174, 175, 816, 817, 818, 768, 880, 881, 882, 883, 884, 885, 886, 887, 888, 889, 890, 891, 892, 893, 894, 895, 896, 897, 898, 899, 900, 901, 902, 903, 904, 905, 906, 907] (by decide +kernel) (by decide +kernel)
set_option maxRecDepth 20000 in
theorem gL_law_X10_sheet : GoodIn wsL_law (wsV RL 113 RX10 yX10_sheet wsX10_sheet) := goodIn_app (goodIn_of _ (by decide +kernel)) ggL_law_X10_sheet
set_option maxRecDepth 20000 in
theorem ggL_law_X9_drop : GoodIn wsL_law wsX9_drop := goodIn_r _ [822, 46, 823, 795, 796, 2, 797, 824, 825, 826, 48, 827, 125, 828, 829, 830, 831, 126, 871, 872, 873, 874, 875, 876, 877, 878, 879, 951, 952, 953] (by decide +kernel) (by decide +kernel)
set_option maxRecDepth 20000 in
theorem gL_law_X9_drop : GoodIn wsL_law (wsV RL 114 RX9 yX9_drop wsX9_drop) := goodIn_app (goodIn_of _ (by decide +kernel)) ggL_law_X9_drop
set_option maxRecDepth 20000 in
theorem ggL_law_X10_drop : GoodIn wsL_law wsX10_drop := goodIn_r _ [835, 148, 149, 812, 813, 5, 814, 815, 173, 174, 175, 880, 881, 882, 883, 884, 885, 886, 887, 888, 889, 890, 891, 892, 893, 894, 895, 896, 897, 898, 899, 900, 901, 902, 903, 904, 905, 906, 907] (by decide +kernel) (by decide +kernel)
set_option maxRecDepth 20000 in
theorem gL_law_X10_drop : GoodIn wsL_law (wsV RL 117 RX10 yX10_drop wsX10_drop) := goodIn_app (goodIn_of _ (by decide +kernel)) ggL_law_X10_drop
set_option maxRecDepth 20000 in
theorem ggL_law_X9_item : GoodIn wsL_law wsX9_item := goodIn_r _ [839, 46, 840, 841, 842, 2, 843, 844, 823, 795, 796, 797, 798, 799, 800, 824, 825, 826, 48, 827, 125, 845, 846, 847, 848, 127, 871, 872, 873, 874, 875, 876, 877, 878, 879, 951, 952, 953] (by decide +kernel) (by decide +kernel)
set_option maxRecDepth 20000 in
theorem gL_law_X9_item : GoodIn wsL_law (wsV RL 118 RX9 yX9_item wsX9_item) := goodIn_app (goodIn_of _ (by decide +kernel)) ggL_law_X9_item
set_option maxRecDepth 20000 in
theorem ggL_law_X10_item : GoodIn wsL_law wsX10_item := goodIn_r _ [852, 148, 149, 150, 812, 813, 5, 814, 815, 173, 174, 175, 816, 817, 818, 768, 880, 881, 882, 883, 884, 885, 886, 887, 888, 889, 890, 891, 892, 893, 894, 895, 896, 897, 898, 899, 900, 901, 902, 903, 904, 905, 906, 907] (by decide +kernel) (by decide +kernel)
set_option maxRecDepth 20000 in
theorem gL_law_X10_item : GoodIn wsL_law (wsV RL 122 RX10 yX10_item wsX10_item) := goodIn_app (goodIn_of _ (by decide +kernel)) ggL_law_X10_item
set_option maxRecDepth 20000 in
theorem ggL_law_X9_rows : GoodIn wsL_law wsX9_rows := goodIn_r _ [856, 16, 330, 248, 46, 857, 20, 840, 841, 842, 2, 843, 844, 823, 795, 796, 797, 798, 799, 800, 824, 825, 826, 48, 827, 125, 858, 859, 860, 15, 861, 52, 53, 208, 209, 862, 863, 864, 865, 866, 219, 220, 221, 59, 58, 55, 163, 164, 165, 19, 166, 68, 69, 70, 871, 872, 873, 874, 875, 876, 877, 878, 879, 908, 909, 910, 911, 912, 913, 951, 952, 953, 914, 915, 916, 917, 918, 919, 920, 921] (by decide +kernel) (by decide +kernel)
set_option maxRecDepth 20000 in
theorem gL_law_X9_rows : GoodIn wsL_law (wsV RL 123 RX9 yX9_rows wsX9_rows) := goodIn_app (goodIn_of _ (by decide +kernel)) ggL_law_X9_rows
set_option maxRecDepth 20000 in
theorem ggL_law_X10_rows : GoodIn wsL_law wsX10_rows := goodIn_r _ [870, 148, 133, 132, 149, 150, 135, 812, 813, 5, 814, 815, 173, 174, 175, 816, 817, 818, 768, 236, 237, 238, 239, 176, 177, 178, 179, 180, 181, 880, 881, 882, 883, 884, 885, 886, 887, 888, 889, 890, 891, 892, 893, 894, 895, 896, 897, 898, 899, 900, 901, 902, 903, 904, 905, 906, 907] (by decide +kernel) (by decide +kernel)
set_option maxRecDepth 20000 in
theorem gL_law_X10_rows : GoodIn wsL_law (wsV RL 126 RX10 yX10_rows wsX10_rows) := goodIn_app (goodIn_of _ (by decide +kernel)) ggL_law_X10_rows
theorem bdL_law_0 : (decode cL_law 0 = .ok (.new 7, 3)) ∧ (decode cL_law 3 = .ok (.dup, 1)) ∧ (decode cL_law 4 = .ok (.invokespecial 9, 3)) ∧ (decode cL_law 7 = .ok (.astore_n 1, 1)) ∧ (decode cL_law 8 = .ok (.new 10, 3)) ∧ (decode cL_law 11 = .ok (.dup, 1)) ∧ (decode cL_law 12 = .ok (.invokespecial 12, 3)) ∧ (decode cL_law 15 = .ok (.astore_n 2, 1)) ∧ (decode cL_law 16 = .ok (.iconst 0, 1)) ∧ (decode cL_law 17 = .ok (.istore_n 3, 1)) ∧ (decode cL_law 18 = .ok (.iload_n 3, 1)) ∧ (decode cL_law 19 = .ok (.aload_n 0, 1)) ∧ (decode cL_law 20 = .ok (.arraylength, 1)) ∧ (decode cL_law 21 = .ok (.iconst 5, 1)) ∧ (decode cL_law 22 = .ok (.isub, 1)) ∧ (decode cL_law 23 = .ok (.if_icmp .gt 873, 3)) := by decide +kernel
theorem dL_law_0 : decode cL_law 0 = .ok (.new 7, 3) := bdL_law_0.1
theorem dL_law_3 : decode cL_law 3 = .ok (.dup, 1) := bdL_law_0.2.1
theorem dL_law_4 : decode cL_law 4 = .ok (.invokespecial 9, 3) := bdL_law_0.2.2.1
theorem dL_law_7 : decode cL_law 7 = .ok (.astore_n 1, 1) := bdL_law_0.2.2.2.1
theorem dL_law_8 : decode cL_law 8 = .ok (.new 10, 3) := bdL_law_0.2.2.2.2.1
theorem dL_law_11 : decode cL_law 11 = .ok (.dup, 1) := bdL_law_0.2.2.2.2.2.1
theorem dL_law_12 : decode cL_law 12 = .ok (.invokespecial 12, 3) := bdL_law_0.2.2.2.2.2.2.1
theorem dL_law_15 : decode cL_law 15 = .ok (.astore_n 2, 1) := bdL_law_0.2.2.2.2.2.2.2.1
theorem dL_law_16 : decode cL_law 16 = .ok (.iconst 0, 1) := bdL_law_0.2.2.2.2.2.2.2.2.1
theorem dL_law_17 : decode cL_law 17 = .ok (.istore_n 3, 1) := bdL_law_0.2.2.2.2.2.2.2.2.2.1
theorem dL_law_18 : decode cL_law 18 = .ok (.iload_n 3, 1) := bdL_law_0.2.2.2.2.2.2.2.2.2.2.1
theorem dL_law_19 : decode cL_law 19 = .ok (.aload_n 0, 1) := bdL_law_0.2.2.2.2.2.2.2.2.2.2.2.1
theorem dL_law_20 : decode cL_law 20 = .ok (.arraylength, 1) := bdL_law_0.2.2.2.2.2.2.2.2.2.2.2.2.1
theorem dL_law_21 : decode cL_law 21 = .ok (.iconst 5, 1) := bdL_law_0.2.2.2.2.2.2.2.2.2.2.2.2.2.1
theorem dL_law_22 : decode cL_law 22 = .ok (.isub, 1) := bdL_law_0.2.2.2.2.2.2.2.2.2.2.2.2.2.2.1
theorem dL_law_23 : decode cL_law 23 = .ok (.if_icmp .gt 873, 3) := bdL_law_0.2.2.2.2.2.2.2.2.2.2.2.2.2.2.2
theorem bdL_law_26 : (decode cL_law 26 = .ok (.aload_n 0, 1)) ∧ (decode cL_law 27 = .ok (.iload_n 3, 1)) ∧ (decode cL_law 28 = .ok (.iaload, 1)) ∧ (decode cL_law 29 = .ok (.bipush 31, 2)) ∧ (decode cL_law 31 = .ok (.iand, 1)) ∧ (decode cL_law 32 = .ok (.tableswitch 858 0 25 #[120, 153, 176, 219, 252, 265, 278, 311, 374, 387, 410, 433, 466, 499, 522, 535, 568, 581, 604, 617, 660, 673, 696, 739, 762, 815], 120)) ∧ (decode cL_law 152 = .ok (.aload_n 1, 1)) ∧ (decode cL_law 153 = .ok (.aload_n 0, 1)) ∧ (decode cL_law 154 = .ok (.iload_n 3, 1)) ∧ (decode cL_law 155 = .ok (.iconst 1, 1)) ∧ (decode cL_law 156 = .ok (.iadd, 1)) ∧ (decode cL_law 157 = .ok (.iaload, 1)) ∧ (decode cL_law 158 = .ok (.aload_n 0, 1)) ∧ (decode cL_law 159 = .ok (.iload_n 3, 1)) ∧ (decode cL_law 160 = .ok (.iconst 2, 1)) ∧ (decode cL_law 161 = .ok (.iadd, 1)) := by decide +kernel
theorem dL_law_26 : decode cL_law 26 = .ok (.aload_n 0, 1) := bdL_law_26.1
theorem dL_law_27 : decode cL_law 27 = .ok (.iload_n 3, 1) := bdL_law_26.2.1
theorem dL_law_28 : decode cL_law 28 = .ok (.iaload, 1) := bdL_law_26.2.2.1
theorem dL_law_29 : decode cL_law 29 = .ok (.bipush 31, 2) := bdL_law_26.2.2.2.1
theorem dL_law_31 : decode cL_law 31 = .ok (.iand, 1) := bdL_law_26.2.2.2.2.1
theorem dL_law_32 : decode cL_law 32 = .ok (.tableswitch 858 0 25 #[120, 153, 176, 219, 252, 265, 278, 311, 374, 387, 410, 433, 466, 499, 522, 535, 568, 581, 604, 617, 660, 673, 696, 739, 762, 815], 120) := bdL_law_26.2.2.2.2.2.1
theorem dL_law_152 : decode cL_law 152 = .ok (.aload_n 1, 1) := bdL_law_26.2.2.2.2.2.2.1
theorem dL_law_153 : decode cL_law 153 = .ok (.aload_n 0, 1) := bdL_law_26.2.2.2.2.2.2.2.1
theorem dL_law_154 : decode cL_law 154 = .ok (.iload_n 3, 1) := bdL_law_26.2.2.2.2.2.2.2.2.1
theorem dL_law_155 : decode cL_law 155 = .ok (.iconst 1, 1) := bdL_law_26.2.2.2.2.2.2.2.2.2.1
theorem dL_law_156 : decode cL_law 156 = .ok (.iadd, 1) := bdL_law_26.2.2.2.2.2.2.2.2.2.2.1
theorem dL_law_157 : decode cL_law 157 = .ok (.iaload, 1) := bdL_law_26.2.2.2.2.2.2.2.2.2.2.2.1
theorem dL_law_158 : decode cL_law 158 = .ok (.aload_n 0, 1) := bdL_law_26.2.2.2.2.2.2.2.2.2.2.2.2.1
theorem dL_law_159 : decode cL_law 159 = .ok (.iload_n 3, 1) := bdL_law_26.2.2.2.2.2.2.2.2.2.2.2.2.2.1
theorem dL_law_160 : decode cL_law 160 = .ok (.iconst 2, 1) := bdL_law_26.2.2.2.2.2.2.2.2.2.2.2.2.2.2.1
theorem dL_law_161 : decode cL_law 161 = .ok (.iadd, 1) := bdL_law_26.2.2.2.2.2.2.2.2.2.2.2.2.2.2.2
theorem bdL_law_162 : (decode cL_law 162 = .ok (.iaload, 1)) ∧ (decode cL_law 163 = .ok (.invokevirtual 13, 3)) ∧ (decode cL_law 166 = .ok (.pop, 1)) ∧ (decode cL_law 167 = .ok (.aload_n 2, 1)) ∧ (decode cL_law 168 = .ok (.aload_n 0, 1)) ∧ (decode cL_law 169 = .ok (.iload_n 3, 1)) ∧ (decode cL_law 170 = .ok (.iconst 1, 1)) ∧ (decode cL_law 171 = .ok (.iadd, 1)) ∧ (decode cL_law 172 = .ok (.iaload, 1)) ∧ (decode cL_law 173 = .ok (.aload_n 0, 1)) ∧ (decode cL_law 174 = .ok (.iload_n 3, 1)) ∧ (decode cL_law 175 = .ok (.iconst 2, 1)) ∧ (decode cL_law 176 = .ok (.iadd, 1)) ∧ (decode cL_law 177 = .ok (.iaload, 1)) ∧ (decode cL_law 178 = .ok (.invokevirtual 17, 3)) ∧ (decode cL_law 181 = .ok (.pop, 1)) := by decide +kernel
theorem dL_law_162 : decode cL_law 162 = .ok (.iaload, 1) := bdL_law_162.1
theorem dL_law_163 : decode cL_law 163 = .ok (.invokevirtual 13, 3) := bdL_law_162.2.1
theorem dL_law_166 : decode cL_law 166 = .ok (.pop, 1) := bdL_law_162.2.2.1
theorem dL_law_167 : decode cL_law 167 = .ok (.aload_n 2, 1) := bdL_law_162.2.2.2.1
theorem dL_law_168 : decode cL_law 168 = .ok (.aload_n 0, 1) := bdL_law_162.2.2.2.2.1
theorem dL_law_169 : decode cL_law 169 = .ok (.iload_n 3, 1) := bdL_law_162.2.2.2.2.2.1
theorem dL_law_170 : decode cL_law 170 = .ok (.iconst 1, 1) := bdL_law_162.2.2.2.2.2.2.1
theorem dL_law_171 : decode cL_law 171 = .ok (.iadd, 1) := bdL_law_162.2.2.2.2.2.2.2.1
theorem dL_law_172 : decode cL_law 172 = .ok (.iaload, 1) := bdL_law_162.2.2.2.2.2.2.2.2.1
theorem dL_law_173 : decode cL_law 173 = .ok (.aload_n 0, 1) := bdL_law_162.2.2.2.2.2.2.2.2.2.1
theorem dL_law_174 : decode cL_law 174 = .ok (.iload_n 3, 1) := bdL_law_162.2.2.2.2.2.2.2.2.2.2.1
theorem dL_law_175 : decode cL_law 175 = .ok (.iconst 2, 1) := bdL_law_162.2.2.2.2.2.2.2.2.2.2.2.1
theorem dL_law_176 : decode cL_law 176 = .ok (.iadd, 1) := bdL_law_162.2.2.2.2.2.2.2.2.2.2.2.2.1
theorem dL_law_177 : decode cL_law 177 = .ok (.iaload, 1) := bdL_law_162.2.2.2.2.2.2.2.2.2.2.2.2.2.1
theorem dL_law_178 : decode cL_law 178 = .ok (.invokevirtual 17, 3) := bdL_law_162.2.2.2.2.2.2.2.2.2.2.2.2.2.2.1
theorem dL_law_181 : decode cL_law 181 = .ok (.pop, 1) := bdL_law_162.2.2.2.2.2.2.2.2.2.2.2.2.2.2.2
theorem bdL_law_182 : (decode cL_law 182 = .ok (.goto 708, 3)) ∧ (decode cL_law 185 = .ok (.aload_n 1, 1)) ∧ (decode cL_law 186 = .ok (.aload_n 0, 1)) ∧ (decode cL_law 187 = .ok (.iload_n 3, 1)) ∧ (decode cL_law 188 = .ok (.iconst 1, 1)) ∧ (decode cL_law 189 = .ok (.iadd, 1)) ∧ (decode cL_law 190 = .ok (.iaload, 1)) ∧ (decode cL_law 191 = .ok (.invokevirtual 18, 3)) ∧ (decode cL_law 194 = .ok (.pop, 1)) ∧ (decode cL_law 195 = .ok (.aload_n 2, 1)) ∧ (decode cL_law 196 = .ok (.aload_n 0, 1)) ∧ (decode cL_law 197 = .ok (.iload_n 3, 1)) ∧ (decode cL_law 198 = .ok (.iconst 1, 1)) ∧ (decode cL_law 199 = .ok (.iadd, 1)) ∧ (decode cL_law 200 = .ok (.iaload, 1)) ∧ (decode cL_law 201 = .ok (.invokevirtual 22, 3)) := by decide +kernel
theorem dL_law_182 : decode cL_law 182 = .ok (.goto 708, 3) := bdL_law_182.1
theorem dL_law_185 : decode cL_law 185 = .ok (.aload_n 1, 1) := bdL_law_182.2.1
theorem dL_law_186 : decode cL_law 186 = .ok (.aload_n 0, 1) := bdL_law_182.2.2.1
theorem dL_law_187 : decode cL_law 187 = .ok (.iload_n 3, 1) := bdL_law_182.2.2.2.1
theorem dL_law_188 : decode cL_law 188 = .ok (.iconst 1, 1) := bdL_law_182.2.2.2.2.1
theorem dL_law_189 : decode cL_law 189 = .ok (.iadd, 1) := bdL_law_182.2.2.2.2.2.1
theorem dL_law_190 : decode cL_law 190 = .ok (.iaload, 1) := bdL_law_182.2.2.2.2.2.2.1
theorem dL_law_191 : decode cL_law 191 = .ok (.invokevirtual 18, 3) := bdL_law_182.2.2.2.2.2.2.2.1
theorem dL_law_194 : decode cL_law 194 = .ok (.pop, 1) := bdL_law_182.2.2.2.2.2.2.2.2.1
theorem dL_law_195 : decode cL_law 195 = .ok (.aload_n 2, 1) := bdL_law_182.2.2.2.2.2.2.2.2.2.1
theorem dL_law_196 : decode cL_law 196 = .ok (.aload_n 0, 1) := bdL_law_182.2.2.2.2.2.2.2.2.2.2.1
theorem dL_law_197 : decode cL_law 197 = .ok (.iload_n 3, 1) := bdL_law_182.2.2.2.2.2.2.2.2.2.2.2.1
theorem dL_law_198 : decode cL_law 198 = .ok (.iconst 1, 1) := bdL_law_182.2.2.2.2.2.2.2.2.2.2.2.2.1
theorem dL_law_199 : decode cL_law 199 = .ok (.iadd, 1) := bdL_law_182.2.2.2.2.2.2.2.2.2.2.2.2.2.1
theorem dL_law_200 : decode cL_law 200 = .ok (.iaload, 1) := bdL_law_182.2.2.2.2.2.2.2.2.2.2.2.2.2.2.1
theorem dL_law_201 : decode cL_law 201 = .ok (.invokevirtual 22, 3) := bdL_law_182.2.2.2.2.2.2.2.2.2.2.2.2.2.2.2
theorem bdL_law_204 : (decode cL_law 204 = .ok (.pop, 1)) ∧ (decode cL_law 205 = .ok (.goto 685, 3)) ∧ (decode cL_law 208 = .ok (.aload_n 1, 1)) ∧ (decode cL_law 209 = .ok (.aload_n 0, 1)) ∧ (decode cL_law 210 = .ok (.iload_n 3, 1)) ∧ (decode cL_law 211 = .ok (.iconst 1, 1)) ∧ (decode cL_law 212 = .ok (.iadd, 1)) ∧ (decode cL_law 213 = .ok (.iaload, 1)) ∧ (decode cL_law 214 = .ok (.aload_n 0, 1)) ∧ (decode cL_law 215 = .ok (.iload_n 3, 1)) ∧ (decode cL_law 216 = .ok (.iconst 2, 1)) ∧ (decode cL_law 217 = .ok (.iadd, 1)) ∧ (decode cL_law 218 = .ok (.iaload, 1)) ∧ (decode cL_law 219 = .ok (.aload_n 0, 1)) ∧ (decode cL_law 220 = .ok (.iload_n 3, 1)) ∧ (decode cL_law 221 = .ok (.iconst 3, 1)) := by decide +kernel
theorem dL_law_204 : decode cL_law 204 = .ok (.pop, 1) := bdL_law_204.1
theorem dL_law_205 : decode cL_law 205 = .ok (.goto 685, 3) := bdL_law_204.2.1
theorem dL_law_208 : decode cL_law 208 = .ok (.aload_n 1, 1) := bdL_law_204.2.2.1
theorem dL_law_209 : decode cL_law 209 = .ok (.aload_n 0, 1) := bdL_law_204.2.2.2.1
theorem dL_law_210 : decode cL_law 210 = .ok (.iload_n 3, 1) := bdL_law_204.2.2.2.2.1
theorem dL_law_211 : decode cL_law 211 = .ok (.iconst 1, 1) := bdL_law_204.2.2.2.2.2.1
theorem dL_law_212 : decode cL_law 212 = .ok (.iadd, 1) := bdL_law_204.2.2.2.2.2.2.1
theorem dL_law_213 : decode cL_law 213 = .ok (.iaload, 1) := bdL_law_204.2.2.2.2.2.2.2.1
theorem dL_law_214 : decode cL_law 214 = .ok (.aload_n 0, 1) := bdL_law_204.2.2.2.2.2.2.2.2.1
theorem dL_law_215 : decode cL_law 215 = .ok (.iload_n 3, 1) := bdL_law_204.2.2.2.2.2.2.2.2.2.1
theorem dL_law_216 : decode cL_law 216 = .ok (.iconst 2, 1) := bdL_law_204.2.2.2.2.2.2.2.2.2.2.1
theorem dL_law_217 : decode cL_law 217 = .ok (.iadd, 1) := bdL_law_204.2.2.2.2.2.2.2.2.2.2.2.1
theorem dL_law_218 : decode cL_law 218 = .ok (.iaload, 1) := bdL_law_204.2.2.2.2.2.2.2.2.2.2.2.2.1
theorem dL_law_219 : decode cL_law 219 = .ok (.aload_n 0, 1) := bdL_law_204.2.2.2.2.2.2.2.2.2.2.2.2.2.1
theorem dL_law_220 : decode cL_law 220 = .ok (.iload_n 3, 1) := bdL_law_204.2.2.2.2.2.2.2.2.2.2.2.2.2.2.1
theorem dL_law_221 : decode cL_law 221 = .ok (.iconst 3, 1) := bdL_law_204.2.2.2.2.2.2.2.2.2.2.2.2.2.2.2
theorem bdL_law_222 : (decode cL_law 222 = .ok (.iadd, 1)) ∧ (decode cL_law 223 = .ok (.iaload, 1)) ∧ (decode cL_law 224 = .ok (.invokevirtual 23, 3)) ∧ (decode cL_law 227 = .ok (.pop, 1)) ∧ (decode cL_law 228 = .ok (.aload_n 2, 1)) ∧ (decode cL_law 229 = .ok (.aload_n 0, 1)) ∧ (decode cL_law 230 = .ok (.iload_n 3, 1)) ∧ (decode cL_law 231 = .ok (.iconst 1, 1)) ∧ (decode cL_law 232 = .ok (.iadd, 1)) ∧ (decode cL_law 233 = .ok (.iaload, 1)) ∧ (decode cL_law 234 = .ok (.aload_n 0, 1)) ∧ (decode cL_law 235 = .ok (.iload_n 3, 1)) ∧ (decode cL_law 236 = .ok (.iconst 2, 1)) ∧ (decode cL_law 237 = .ok (.iadd, 1)) ∧ (decode cL_law 238 = .ok (.iaload, 1)) ∧ (decode cL_law 239 = .ok (.aload_n 0, 1)) := by decide +kernel
theorem dL_law_222 : decode cL_law 222 = .ok (.iadd, 1) := bdL_law_222.1
theorem dL_law_223 : decode cL_law 223 = .ok (.iaload, 1) := bdL_law_222.2.1
theorem dL_law_224 : decode cL_law 224 = .ok (.invokevirtual 23, 3) := bdL_law_222.2.2.1
theorem dL_law_227 : decode cL_law 227 = .ok (.pop, 1) := bdL_law_222.2.2.2.1
theorem dL_law_228 : decode cL_law 228 = .ok (.aload_n 2, 1) := bdL_law_222.2.2.2.2.1
theorem dL_law_229 : decode cL_law 229 = .ok (.aload_n 0, 1) := bdL_law_222.2.2.2.2.2.1
theorem dL_law_230 : decode cL_law 230 = .ok (.iload_n 3, 1) := bdL_law_222.2.2.2.2.2.2.1
theorem dL_law_231 : decode cL_law 231 = .ok (.iconst 1, 1) := bdL_law_222.2.2.2.2.2.2.2.1
theorem dL_law_232 : decode cL_law 232 = .ok (.iadd, 1) := bdL_law_222.2.2.2.2.2.2.2.2.1
theorem dL_law_233 : decode cL_law 233 = .ok (.iaload, 1) := bdL_law_222.2.2.2.2.2.2.2.2.2.1
theorem dL_law_234 : decode cL_law 234 = .ok (.aload_n 0, 1) := bdL_law_222.2.2.2.2.2.2.2.2.2.2.1
theorem dL_law_235 : decode cL_law 235 = .ok (.iload_n 3, 1) := bdL_law_222.2.2.2.2.2.2.2.2.2.2.2.1
theorem dL_law_236 : decode cL_law 236 = .ok (.iconst 2, 1) := bdL_law_222.2.2.2.2.2.2.2.2.2.2.2.2.1
theorem dL_law_237 : decode cL_law 237 = .ok (.iadd, 1) := bdL_law_222.2.2.2.2.2.2.2.2.2.2.2.2.2.1
theorem dL_law_238 : decode cL_law 238 = .ok (.iaload, 1) := bdL_law_222.2.2.2.2.2.2.2.2.2.2.2.2.2.2.1
theorem dL_law_239 : decode cL_law 239 = .ok (.aload_n 0, 1) := bdL_law_222.2.2.2.2.2.2.2.2.2.2.2.2.2.2.2
theorem bdL_law_240 : (decode cL_law 240 = .ok (.iload_n 3, 1)) ∧ (decode cL_law 241 = .ok (.iconst 3, 1)) ∧ (decode cL_law 242 = .ok (.iadd, 1)) ∧ (decode cL_law 243 = .ok (.iaload, 1)) ∧ (decode cL_law 244 = .ok (.invokevirtual 27, 3)) ∧ (decode cL_law 247 = .ok (.pop, 1)) ∧ (decode cL_law 248 = .ok (.goto 642, 3)) ∧ (decode cL_law 251 = .ok (.aload_n 1, 1)) ∧ (decode cL_law 252 = .ok (.aload_n 0, 1)) ∧ (decode cL_law 253 = .ok (.iload_n 3, 1)) ∧ (decode cL_law 254 = .ok (.iconst 1, 1)) ∧ (decode cL_law 255 = .ok (.iadd, 1)) ∧ (decode cL_law 256 = .ok (.iaload, 1)) ∧ (decode cL_law 257 = .ok (.aload_n 0, 1)) ∧ (decode cL_law 258 = .ok (.iload_n 3, 1)) ∧ (decode cL_law 259 = .ok (.iconst 2, 1)) := by decide +kernel
theorem dL_law_240 : decode cL_law 240 = .ok (.iload_n 3, 1) := bdL_law_240.1
theorem dL_law_241 : decode cL_law 241 = .ok (.iconst 3, 1) := bdL_law_240.2.1
theorem dL_law_242 : decode cL_law 242 = .ok (.iadd, 1) := bdL_law_240.2.2.1
theorem dL_law_243 : decode cL_law 243 = .ok (.iaload, 1) := bdL_law_240.2.2.2.1
theorem dL_law_244 : decode cL_law 244 = .ok (.invokevirtual 27, 3) := bdL_law_240.2.2.2.2.1
theorem dL_law_247 : decode cL_law 247 = .ok (.pop, 1) := bdL_law_240.2.2.2.2.2.1
theorem dL_law_248 : decode cL_law 248 = .ok (.goto 642, 3) := bdL_law_240.2.2.2.2.2.2.1
theorem dL_law_251 : decode cL_law 251 = .ok (.aload_n 1, 1) := bdL_law_240.2.2.2.2.2.2.2.1
theorem dL_law_252 : decode cL_law 252 = .ok (.aload_n 0, 1) := bdL_law_240.2.2.2.2.2.2.2.2.1
theorem dL_law_253 : decode cL_law 253 = .ok (.iload_n 3, 1) := bdL_law_240.2.2.2.2.2.2.2.2.2.1
theorem dL_law_254 : decode cL_law 254 = .ok (.iconst 1, 1) := bdL_law_240.2.2.2.2.2.2.2.2.2.2.1
theorem dL_law_255 : decode cL_law 255 = .ok (.iadd, 1) := bdL_law_240.2.2.2.2.2.2.2.2.2.2.2.1
theorem dL_law_256 : decode cL_law 256 = .ok (.iaload, 1) := bdL_law_240.2.2.2.2.2.2.2.2.2.2.2.2.1
theorem dL_law_257 : decode cL_law 257 = .ok (.aload_n 0, 1) := bdL_law_240.2.2.2.2.2.2.2.2.2.2.2.2.2.1
theorem dL_law_258 : decode cL_law 258 = .ok (.iload_n 3, 1) := bdL_law_240.2.2.2.2.2.2.2.2.2.2.2.2.2.2.1
theorem dL_law_259 : decode cL_law 259 = .ok (.iconst 2, 1) := bdL_law_240.2.2.2.2.2.2.2.2.2.2.2.2.2.2.2
theorem bdL_law_260 : (decode cL_law 260 = .ok (.iadd, 1)) ∧ (decode cL_law 261 = .ok (.iaload, 1)) ∧ (decode cL_law 262 = .ok (.invokevirtual 28, 3)) ∧ (decode cL_law 265 = .ok (.pop, 1)) ∧ (decode cL_law 266 = .ok (.aload_n 2, 1)) ∧ (decode cL_law 267 = .ok (.aload_n 0, 1)) ∧ (decode cL_law 268 = .ok (.iload_n 3, 1)) ∧ (decode cL_law 269 = .ok (.iconst 1, 1)) ∧ (decode cL_law 270 = .ok (.iadd, 1)) ∧ (decode cL_law 271 = .ok (.iaload, 1)) ∧ (decode cL_law 272 = .ok (.aload_n 0, 1)) ∧ (decode cL_law 273 = .ok (.iload_n 3, 1)) ∧ (decode cL_law 274 = .ok (.iconst 2, 1)) ∧ (decode cL_law 275 = .ok (.iadd, 1)) ∧ (decode cL_law 276 = .ok (.iaload, 1)) ∧ (decode cL_law 277 = .ok (.invokevirtual 31, 3)) := by decide +kernel
theorem dL_law_260 : decode cL_law 260 = .ok (.iadd, 1) := bdL_law_260.1
theorem dL_law_261 : decode cL_law 261 = .ok (.iaload, 1) := bdL_law_260.2.1
theorem dL_law_262 : decode cL_law 262 = .ok (.invokevirtual 28, 3) := bdL_law_260.2.2.1
theorem dL_law_265 : decode cL_law 265 = .ok (.pop, 1) := bdL_law_260.2.2.2.1
theorem dL_law_266 : decode cL_law 266 = .ok (.aload_n 2, 1) := bdL_law_260.2.2.2.2.1
theorem dL_law_267 : decode cL_law 267 = .ok (.aload_n 0, 1) := bdL_law_260.2.2.2.2.2.1
theorem dL_law_268 : decode cL_law 268 = .ok (.iload_n 3, 1) := bdL_law_260.2.2.2.2.2.2.1
theorem dL_law_269 : decode cL_law 269 = .ok (.iconst 1, 1) := bdL_law_260.2.2.2.2.2.2.2.1
theorem dL_law_270 : decode cL_law 270 = .ok (.iadd, 1) := bdL_law_260.2.2.2.2.2.2.2.2.1
theorem dL_law_271 : decode cL_law 271 = .ok (.iaload, 1) := bdL_law_260.2.2.2.2.2.2.2.2.2.1
theorem dL_law_272 : decode cL_law 272 = .ok (.aload_n 0, 1) := bdL_law_260.2.2.2.2.2.2.2.2.2.2.1
theorem dL_law_273 : decode cL_law 273 = .ok (.iload_n 3, 1) := bdL_law_260.2.2.2.2.2.2.2.2.2.2.2.1
theorem dL_law_274 : decode cL_law 274 = .ok (.iconst 2, 1) := bdL_law_260.2.2.2.2.2.2.2.2.2.2.2.2.1
theorem dL_law_275 : decode cL_law 275 = .ok (.iadd, 1) := bdL_law_260.2.2.2.2.2.2.2.2.2.2.2.2.2.1
theorem dL_law_276 : decode cL_law 276 = .ok (.iaload, 1) := bdL_law_260.2.2.2.2.2.2.2.2.2.2.2.2.2.2.1
theorem dL_law_277 : decode cL_law 277 = .ok (.invokevirtual 31, 3) := bdL_law_260.2.2.2.2.2.2.2.2.2.2.2.2.2.2.2
theorem bdL_law_280 : (decode cL_law 280 = .ok (.pop, 1)) ∧ (decode cL_law 281 = .ok (.goto 609, 3)) ∧ (decode cL_law 284 = .ok (.aload_n 1, 1)) ∧ (decode cL_law 285 = .ok (.invokevirtual 32, 3)) ∧ (decode cL_law 288 = .ok (.pop, 1)) ∧ (decode cL_law 289 = .ok (.aload_n 2, 1)) ∧ (decode cL_law 290 = .ok (.invokevirtual 36, 3)) ∧ (decode cL_law 293 = .ok (.pop, 1)) ∧ (decode cL_law 294 = .ok (.goto 596, 3)) ∧ (decode cL_law 297 = .ok (.aload_n 1, 1)) ∧ (decode cL_law 298 = .ok (.invokevirtual 37, 3)) ∧ (decode cL_law 301 = .ok (.pop, 1)) ∧ (decode cL_law 302 = .ok (.aload_n 2, 1)) ∧ (decode cL_law 303 = .ok (.invokevirtual 40, 3)) ∧ (decode cL_law 306 = .ok (.pop, 1)) ∧ (decode cL_law 307 = .ok (.goto 583, 3)) := by decide +kernel
theorem dL_law_280 : decode cL_law 280 = .ok (.pop, 1) := bdL_law_280.1
theorem dL_law_281 : decode cL_law 281 = .ok (.goto 609, 3) := bdL_law_280.2.1
theorem dL_law_284 : decode cL_law 284 = .ok (.aload_n 1, 1) := bdL_law_280.2.2.1
theorem dL_law_285 : decode cL_law 285 = .ok (.invokevirtual 32, 3) := bdL_law_280.2.2.2.1
theorem dL_law_288 : decode cL_law 288 = .ok (.pop, 1) := bdL_law_280.2.2.2.2.1
theorem dL_law_289 : decode cL_law 289 = .ok (.aload_n 2, 1) := bdL_law_280.2.2.2.2.2.1
theorem dL_law_290 : decode cL_law 290 = .ok (.invokevirtual 36, 3) := bdL_law_280.2.2.2.2.2.2.1
theorem dL_law_293 : decode cL_law 293 = .ok (.pop, 1) := bdL_law_280.2.2.2.2.2.2.2.1
theorem dL_law_294 : decode cL_law 294 = .ok (.goto 596, 3) := bdL_law_280.2.2.2.2.2.2.2.2.1
theorem dL_law_297 : decode cL_law 297 = .ok (.aload_n 1, 1) := bdL_law_280.2.2.2.2.2.2.2.2.2.1
theorem dL_law_298 : decode cL_law 298 = .ok (.invokevirtual 37, 3) := bdL_law_280.2.2.2.2.2.2.2.2.2.2.1
theorem dL_law_301 : decode cL_law 301 = .ok (.pop, 1) := bdL_law_280.2.2.2.2.2.2.2.2.2.2.2.1
theorem dL_law_302 : decode cL_law 302 = .ok (.aload_n 2, 1) := bdL_law_280.2.2.2.2.2.2.2.2.2.2.2.2.1
theorem dL_law_303 : decode cL_law 303 = .ok (.invokevirtual 40, 3) := bdL_law_280.2.2.2.2.2.2.2.2.2.2.2.2.2.1
theorem dL_law_306 : decode cL_law 306 = .ok (.pop, 1) := bdL_law_280.2.2.2.2.2.2.2.2.2.2.2.2.2.2.1
theorem dL_law_307 : decode cL_law 307 = .ok (.goto 583, 3) := bdL_law_280.2.2.2.2.2.2.2.2.2.2.2.2.2.2.2
theorem bdL_law_310 : (decode cL_law 310 = .ok (.aload_n 1, 1)) ∧ (decode cL_law 311 = .ok (.aload_n 0, 1)) ∧ (decode cL_law 312 = .ok (.iload_n 3, 1)) ∧ (decode cL_law 313 = .ok (.iconst 1, 1)) ∧ (decode cL_law 314 = .ok (.iadd, 1)) ∧ (decode cL_law 315 = .ok (.iaload, 1)) ∧ (decode cL_law 316 = .ok (.aload_n 0, 1)) ∧ (decode cL_law 317 = .ok (.iload_n 3, 1)) ∧ (decode cL_law 318 = .ok (.iconst 2, 1)) ∧ (decode cL_law 319 = .ok (.iadd, 1)) ∧ (decode cL_law 320 = .ok (.iaload, 1)) ∧ (decode cL_law 321 = .ok (.invokevirtual 41, 3)) ∧ (decode cL_law 324 = .ok (.pop, 1)) ∧ (decode cL_law 325 = .ok (.aload_n 2, 1)) ∧ (decode cL_law 326 = .ok (.aload_n 0, 1)) ∧ (decode cL_law 327 = .ok (.iload_n 3, 1)) := by decide +kernel
theorem dL_law_310 : decode cL_law 310 = .ok (.aload_n 1, 1) := bdL_law_310.1
theorem dL_law_311 : decode cL_law 311 = .ok (.aload_n 0, 1) := bdL_law_310.2.1
theorem dL_law_312 : decode cL_law 312 = .ok (.iload_n 3, 1) := bdL_law_310.2.2.1
theorem dL_law_313 : decode cL_law 313 = .ok (.iconst 1, 1) := bdL_law_310.2.2.2.1
theorem dL_law_314 : decode cL_law 314 = .ok (.iadd, 1) := bdL_law_310.2.2.2.2.1
theorem dL_law_315 : decode cL_law 315 = .ok (.iaload, 1) := bdL_law_310.2.2.2.2.2.1
theorem dL_law_316 : decode cL_law 316 = .ok (.aload_n 0, 1) := bdL_law_310.2.2.2.2.2.2.1
theorem dL_law_317 : decode cL_law 317 = .ok (.iload_n 3, 1) := bdL_law_310.2.2.2.2.2.2.2.1
theorem dL_law_318 : decode cL_law 318 = .ok (.iconst 2, 1) := bdL_law_310.2.2.2.2.2.2.2.2.1
theorem dL_law_319 : decode cL_law 319 = .ok (.iadd, 1) := bdL_law_310.2.2.2.2.2.2.2.2.2.1
theorem dL_law_320 : decode cL_law 320 = .ok (.iaload, 1) := bdL_law_310.2.2.2.2.2.2.2.2.2.2.1
theorem dL_law_321 : decode cL_law 321 = .ok (.invokevirtual 41, 3) := bdL_law_310.2.2.2.2.2.2.2.2.2.2.2.1
theorem dL_law_324 : decode cL_law 324 = .ok (.pop, 1) := bdL_law_310.2.2.2.2.2.2.2.2.2.2.2.2.1
theorem dL_law_325 : decode cL_law 325 = .ok (.aload_n 2, 1) := bdL_law_310.2.2.2.2.2.2.2.2.2.2.2.2.2.1
theorem dL_law_326 : decode cL_law 326 = .ok (.aload_n 0, 1) := bdL_law_310.2.2.2.2.2.2.2.2.2.2.2.2.2.2.1
theorem dL_law_327 : decode cL_law 327 = .ok (.iload_n 3, 1) := bdL_law_310.2.2.2.2.2.2.2.2.2.2.2.2.2.2.2
theorem bdL_law_328 : (decode cL_law 328 = .ok (.iconst 1, 1)) ∧ (decode cL_law 329 = .ok (.iadd, 1)) ∧ (decode cL_law 330 = .ok (.iaload, 1)) ∧ (decode cL_law 331 = .ok (.aload_n 0, 1)) ∧ (decode cL_law 332 = .ok (.iload_n 3, 1)) ∧ (decode cL_law 333 = .ok (.iconst 2, 1)) ∧ (decode cL_law 334 = .ok (.iadd, 1)) ∧ (decode cL_law 335 = .ok (.iaload, 1)) ∧ (decode cL_law 336 = .ok (.invokevirtual 44, 3)) ∧ (decode cL_law 339 = .ok (.pop, 1)) ∧ (decode cL_law 340 = .ok (.goto 550, 3)) ∧ (decode cL_law 343 = .ok (.aload_n 1, 1)) ∧ (decode cL_law 344 = .ok (.aload_n 0, 1)) ∧ (decode cL_law 345 = .ok (.iload_n 3, 1)) ∧ (decode cL_law 346 = .ok (.iconst 1, 1)) ∧ (decode cL_law 347 = .ok (.iadd, 1)) := by decide +kernel
theorem dL_law_328 : decode cL_law 328 = .ok (.iconst 1, 1) := bdL_law_328.1
theorem dL_law_329 : decode cL_law 329 = .ok (.iadd, 1) := bdL_law_328.2.1
theorem dL_law_330 : decode cL_law 330 = .ok (.iaload, 1) := bdL_law_328.2.2.1
theorem dL_law_331 : decode cL_law 331 = .ok (.aload_n 0, 1) := bdL_law_328.2.2.2.1
theorem dL_law_332 : decode cL_law 332 = .ok (.iload_n 3, 1) := bdL_law_328.2.2.2.2.1
theorem dL_law_333 : decode cL_law 333 = .ok (.iconst 2, 1) := bdL_law_328.2.2.2.2.2.1
theorem dL_law_334 : decode cL_law 334 = .ok (.iadd, 1) := bdL_law_328.2.2.2.2.2.2.1
theorem dL_law_335 : decode cL_law 335 = .ok (.iaload, 1) := bdL_law_328.2.2.2.2.2.2.2.1
theorem dL_law_336 : decode cL_law 336 = .ok (.invokevirtual 44, 3) := bdL_law_328.2.2.2.2.2.2.2.2.1
theorem dL_law_339 : decode cL_law 339 = .ok (.pop, 1) := bdL_law_328.2.2.2.2.2.2.2.2.2.1
theorem dL_law_340 : decode cL_law 340 = .ok (.goto 550, 3) := bdL_law_328.2.2.2.2.2.2.2.2.2.2.1
theorem dL_law_343 : decode cL_law 343 = .ok (.aload_n 1, 1) := bdL_law_328.2.2.2.2.2.2.2.2.2.2.2.1
theorem dL_law_344 : decode cL_law 344 = .ok (.aload_n 0, 1) := bdL_law_328.2.2.2.2.2.2.2.2.2.2.2.2.1
theorem dL_law_345 : decode cL_law 345 = .ok (.iload_n 3, 1) := bdL_law_328.2.2.2.2.2.2.2.2.2.2.2.2.2.1
theorem dL_law_346 : decode cL_law 346 = .ok (.iconst 1, 1) := bdL_law_328.2.2.2.2.2.2.2.2.2.2.2.2.2.2.1
theorem dL_law_347 : decode cL_law 347 = .ok (.iadd, 1) := bdL_law_328.2.2.2.2.2.2.2.2.2.2.2.2.2.2.2
theorem bdL_law_348 : (decode cL_law 348 = .ok (.iaload, 1)) ∧ (decode cL_law 349 = .ok (.i2l, 1)) ∧ (decode cL_law 350 = .ok (.bipush 32, 2)) ∧ (decode cL_law 352 = .ok (.lshl, 1)) ∧ (decode cL_law 353 = .ok (.aload_n 0, 1)) ∧ (decode cL_law 354 = .ok (.iload_n 3, 1)) ∧ (decode cL_law 355 = .ok (.iconst 2, 1)) ∧ (decode cL_law 356 = .ok (.iadd, 1)) ∧ (decode cL_law 357 = .ok (.iaload, 1)) ∧ (decode cL_law 358 = .ok (.i2l, 1)) ∧ (decode cL_law 359 = .ok (.ldc2_w 45, 3)) ∧ (decode cL_law 362 = .ok (.land, 1)) ∧ (decode cL_law 363 = .ok (.lor, 1)) ∧ (decode cL_law 364 = .ok (.aload_n 0, 1)) ∧ (decode cL_law 365 = .ok (.iload_n 3, 1)) ∧ (decode cL_law 366 = .ok (.iconst 3, 1)) := by decide +kernel
theorem dL_law_348 : decode cL_law 348 = .ok (.iaload, 1) := bdL_law_348.1
theorem dL_law_349 : decode cL_law 349 = .ok (.i2l, 1) := bdL_law_348.2.1
theorem dL_law_350 : decode cL_law 350 = .ok (.bipush 32, 2) := bdL_law_348.2.2.1
theorem dL_law_352 : decode cL_law 352 = .ok (.lshl, 1) := bdL_law_348.2.2.2.1
theorem dL_law_353 : decode cL_law 353 = .ok (.aload_n 0, 1) := bdL_law_348.2.2.2.2.1
theorem dL_law_354 : decode cL_law 354 = .ok (.iload_n 3, 1) := bdL_law_348.2.2.2.2.2.1
theorem dL_law_355 : decode cL_law 355 = .ok (.iconst 2, 1) := bdL_law_348.2.2.2.2.2.2.1
theorem dL_law_356 : decode cL_law 356 = .ok (.iadd, 1) := bdL_law_348.2.2.2.2.2.2.2.1
theorem dL_law_357 : decode cL_law 357 = .ok (.iaload, 1) := bdL_law_348.2.2.2.2.2.2.2.2.1
theorem dL_law_358 : decode cL_law 358 = .ok (.i2l, 1) := bdL_law_348.2.2.2.2.2.2.2.2.2.1
theorem dL_law_359 : decode cL_law 359 = .ok (.ldc2_w 45, 3) := bdL_law_348.2.2.2.2.2.2.2.2.2.2.1
theorem dL_law_362 : decode cL_law 362 = .ok (.land, 1) := bdL_law_348.2.2.2.2.2.2.2.2.2.2.2.1
theorem dL_law_363 : decode cL_law 363 = .ok (.lor, 1) := bdL_law_348.2.2.2.2.2.2.2.2.2.2.2.2.1
theorem dL_law_364 : decode cL_law 364 = .ok (.aload_n 0, 1) := bdL_law_348.2.2.2.2.2.2.2.2.2.2.2.2.2.1
theorem dL_law_365 : decode cL_law 365 = .ok (.iload_n 3, 1) := bdL_law_348.2.2.2.2.2.2.2.2.2.2.2.2.2.2.1
theorem dL_law_366 : decode cL_law 366 = .ok (.iconst 3, 1) := bdL_law_348.2.2.2.2.2.2.2.2.2.2.2.2.2.2.2
theorem bdL_law_367 : (decode cL_law 367 = .ok (.iadd, 1)) ∧ (decode cL_law 368 = .ok (.iaload, 1)) ∧ (decode cL_law 369 = .ok (.invokevirtual 47, 3)) ∧ (decode cL_law 372 = .ok (.pop, 1)) ∧ (decode cL_law 373 = .ok (.aload_n 2, 1)) ∧ (decode cL_law 374 = .ok (.aload_n 0, 1)) ∧ (decode cL_law 375 = .ok (.iload_n 3, 1)) ∧ (decode cL_law 376 = .ok (.iconst 1, 1)) ∧ (decode cL_law 377 = .ok (.iadd, 1)) ∧ (decode cL_law 378 = .ok (.iaload, 1)) ∧ (decode cL_law 379 = .ok (.i2l, 1)) ∧ (decode cL_law 380 = .ok (.bipush 32, 2)) ∧ (decode cL_law 382 = .ok (.lshl, 1)) ∧ (decode cL_law 383 = .ok (.aload_n 0, 1)) ∧ (decode cL_law 384 = .ok (.iload_n 3, 1)) ∧ (decode cL_law 385 = .ok (.iconst 2, 1)) := by decide +kernel
theorem dL_law_367 : decode cL_law 367 = .ok (.iadd, 1) := bdL_law_367.1
theorem dL_law_368 : decode cL_law 368 = .ok (.iaload, 1) := bdL_law_367.2.1
theorem dL_law_369 : decode cL_law 369 = .ok (.invokevirtual 47, 3) := bdL_law_367.2.2.1
theorem dL_law_372 : decode cL_law 372 = .ok (.pop, 1) := bdL_law_367.2.2.2.1
theorem dL_law_373 : decode cL_law 373 = .ok (.aload_n 2, 1) := bdL_law_367.2.2.2.2.1
theorem dL_law_374 : decode cL_law 374 = .ok (.aload_n 0, 1) := bdL_law_367.2.2.2.2.2.1
theorem dL_law_375 : decode cL_law 375 = .ok (.iload_n 3, 1) := bdL_law_367.2.2.2.2.2.2.1
theorem dL_law_376 : decode cL_law 376 = .ok (.iconst 1, 1) := bdL_law_367.2.2.2.2.2.2.2.1
theorem dL_law_377 : decode cL_law 377 = .ok (.iadd, 1) := bdL_law_367.2.2.2.2.2.2.2.2.1
theorem dL_law_378 : decode cL_law 378 = .ok (.iaload, 1) := bdL_law_367.2.2.2.2.2.2.2.2.2.1
theorem dL_law_379 : decode cL_law 379 = .ok (.i2l, 1) := bdL_law_367.2.2.2.2.2.2.2.2.2.2.1
theorem dL_law_380 : decode cL_law 380 = .ok (.bipush 32, 2) := bdL_law_367.2.2.2.2.2.2.2.2.2.2.2.1
theorem dL_law_382 : decode cL_law 382 = .ok (.lshl, 1) := bdL_law_367.2.2.2.2.2.2.2.2.2.2.2.2.1
theorem dL_law_383 : decode cL_law 383 = .ok (.aload_n 0, 1) := bdL_law_367.2.2.2.2.2.2.2.2.2.2.2.2.2.1
theorem dL_law_384 : decode cL_law 384 = .ok (.iload_n 3, 1) := bdL_law_367.2.2.2.2.2.2.2.2.2.2.2.2.2.2.1
theorem dL_law_385 : decode cL_law 385 = .ok (.iconst 2, 1) := bdL_law_367.2.2.2.2.2.2.2.2.2.2.2.2.2.2.2
theorem bdL_law_386 : (decode cL_law 386 = .ok (.iadd, 1)) ∧ (decode cL_law 387 = .ok (.iaload, 1)) ∧ (decode cL_law 388 = .ok (.i2l, 1)) ∧ (decode cL_law 389 = .ok (.ldc2_w 45, 3)) ∧ (decode cL_law 392 = .ok (.land, 1)) ∧ (decode cL_law 393 = .ok (.lor, 1)) ∧ (decode cL_law 394 = .ok (.aload_n 0, 1)) ∧ (decode cL_law 395 = .ok (.iload_n 3, 1)) ∧ (decode cL_law 396 = .ok (.iconst 3, 1)) ∧ (decode cL_law 397 = .ok (.iadd, 1)) ∧ (decode cL_law 398 = .ok (.iaload, 1)) ∧ (decode cL_law 399 = .ok (.invokevirtual 51, 3)) ∧ (decode cL_law 402 = .ok (.pop, 1)) ∧ (decode cL_law 403 = .ok (.goto 487, 3)) ∧ (decode cL_law 406 = .ok (.aload_n 1, 1)) ∧ (decode cL_law 407 = .ok (.invokevirtual 52, 3)) := by decide +kernel
theorem dL_law_386 : decode cL_law 386 = .ok (.iadd, 1) := bdL_law_386.1
theorem dL_law_387 : decode cL_law 387 = .ok (.iaload, 1) := bdL_law_386.2.1
theorem dL_law_388 : decode cL_law 388 = .ok (.i2l, 1) := bdL_law_386.2.2.1
theorem dL_law_389 : decode cL_law 389 = .ok (.ldc2_w 45, 3) := bdL_law_386.2.2.2.1
theorem dL_law_392 : decode cL_law 392 = .ok (.land, 1) := bdL_law_386.2.2.2.2.1
theorem dL_law_393 : decode cL_law 393 = .ok (.lor, 1) := bdL_law_386.2.2.2.2.2.1
theorem dL_law_394 : decode cL_law 394 = .ok (.aload_n 0, 1) := bdL_law_386.2.2.2.2.2.2.1
theorem dL_law_395 : decode cL_law 395 = .ok (.iload_n 3, 1) := bdL_law_386.2.2.2.2.2.2.2.1
theorem dL_law_396 : decode cL_law 396 = .ok (.iconst 3, 1) := bdL_law_386.2.2.2.2.2.2.2.2.1
theorem dL_law_397 : decode cL_law 397 = .ok (.iadd, 1) := bdL_law_386.2.2.2.2.2.2.2.2.2.1
theorem dL_law_398 : decode cL_law 398 = .ok (.iaload, 1) := bdL_law_386.2.2.2.2.2.2.2.2.2.2.1
theorem dL_law_399 : decode cL_law 399 = .ok (.invokevirtual 51, 3) := bdL_law_386.2.2.2.2.2.2.2.2.2.2.2.1
theorem dL_law_402 : decode cL_law 402 = .ok (.pop, 1) := bdL_law_386.2.2.2.2.2.2.2.2.2.2.2.2.1
theorem dL_law_403 : decode cL_law 403 = .ok (.goto 487, 3) := bdL_law_386.2.2.2.2.2.2.2.2.2.2.2.2.2.1
theorem dL_law_406 : decode cL_law 406 = .ok (.aload_n 1, 1) := bdL_law_386.2.2.2.2.2.2.2.2.2.2.2.2.2.2.1
theorem dL_law_407 : decode cL_law 407 = .ok (.invokevirtual 52, 3) := bdL_law_386.2.2.2.2.2.2.2.2.2.2.2.2.2.2.2
theorem bdL_law_410 : (decode cL_law 410 = .ok (.pop, 1)) ∧ (decode cL_law 411 = .ok (.aload_n 2, 1)) ∧ (decode cL_law 412 = .ok (.invokevirtual 55, 3)) ∧ (decode cL_law 415 = .ok (.pop, 1)) ∧ (decode cL_law 416 = .ok (.goto 474, 3)) ∧ (decode cL_law 419 = .ok (.aload_n 1, 1)) ∧ (decode cL_law 420 = .ok (.aload_n 0, 1)) ∧ (decode cL_law 421 = .ok (.iload_n 3, 1)) ∧ (decode cL_law 422 = .ok (.iconst 1, 1)) ∧ (decode cL_law 423 = .ok (.iadd, 1)) ∧ (decode cL_law 424 = .ok (.iaload, 1)) ∧ (decode cL_law 425 = .ok (.invokevirtual 56, 3)) ∧ (decode cL_law 428 = .ok (.pop, 1)) ∧ (decode cL_law 429 = .ok (.aload_n 2, 1)) ∧ (decode cL_law 430 = .ok (.aload_n 0, 1)) ∧ (decode cL_law 431 = .ok (.iload_n 3, 1)) := by decide +kernel
theorem dL_law_410 : decode cL_law 410 = .ok (.pop, 1) := bdL_law_410.1
theorem dL_law_411 : decode cL_law 411 = .ok (.aload_n 2, 1) := bdL_law_410.2.1
theorem dL_law_412 : decode cL_law 412 = .ok (.invokevirtual 55, 3) := bdL_law_410.2.2.1
theorem dL_law_415 : decode cL_law 415 = .ok (.pop, 1) := bdL_law_410.2.2.2.1
theorem dL_law_416 : decode cL_law 416 = .ok (.goto 474, 3) := bdL_law_410.2.2.2.2.1
theorem dL_law_419 : decode cL_law 419 = .ok (.aload_n 1, 1) := bdL_law_410.2.2.2.2.2.1
theorem dL_law_420 : decode cL_law 420 = .ok (.aload_n 0, 1) := bdL_law_410.2.2.2.2.2.2.1
theorem dL_law_421 : decode cL_law 421 = .ok (.iload_n 3, 1) := bdL_law_410.2.2.2.2.2.2.2.1
theorem dL_law_422 : decode cL_law 422 = .ok (.iconst 1, 1) := bdL_law_410.2.2.2.2.2.2.2.2.1
theorem dL_law_423 : decode cL_law 423 = .ok (.iadd, 1) := bdL_law_410.2.2.2.2.2.2.2.2.2.1
theorem dL_law_424 : decode cL_law 424 = .ok (.iaload, 1) := bdL_law_410.2.2.2.2.2.2.2.2.2.2.1
theorem dL_law_425 : decode cL_law 425 = .ok (.invokevirtual 56, 3) := bdL_law_410.2.2.2.2.2.2.2.2.2.2.2.1
theorem dL_law_428 : decode cL_law 428 = .ok (.pop, 1) := bdL_law_410.2.2.2.2.2.2.2.2.2.2.2.2.1
theorem dL_law_429 : decode cL_law 429 = .ok (.aload_n 2, 1) := bdL_law_410.2.2.2.2.2.2.2.2.2.2.2.2.2.1
theorem dL_law_430 : decode cL_law 430 = .ok (.aload_n 0, 1) := bdL_law_410.2.2.2.2.2.2.2.2.2.2.2.2.2.2.1
theorem dL_law_431 : decode cL_law 431 = .ok (.iload_n 3, 1) := bdL_law_410.2.2.2.2.2.2.2.2.2.2.2.2.2.2.2
theorem bdL_law_432 : (decode cL_law 432 = .ok (.iconst 1, 1)) ∧ (decode cL_law 433 = .ok (.iadd, 1)) ∧ (decode cL_law 434 = .ok (.iaload, 1)) ∧ (decode cL_law 435 = .ok (.invokevirtual 59, 3)) ∧ (decode cL_law 438 = .ok (.pop, 1)) ∧ (decode cL_law 439 = .ok (.goto 451, 3)) ∧ (decode cL_law 442 = .ok (.aload_n 1, 1)) ∧ (decode cL_law 443 = .ok (.aload_n 0, 1)) ∧ (decode cL_law 444 = .ok (.iload_n 3, 1)) ∧ (decode cL_law 445 = .ok (.iconst 1, 1)) ∧ (decode cL_law 446 = .ok (.iadd, 1)) ∧ (decode cL_law 447 = .ok (.iaload, 1)) ∧ (decode cL_law 448 = .ok (.invokevirtual 60, 3)) ∧ (decode cL_law 451 = .ok (.pop, 1)) ∧ (decode cL_law 452 = .ok (.aload_n 2, 1)) ∧ (decode cL_law 453 = .ok (.aload_n 0, 1)) := by decide +kernel
theorem dL_law_432 : decode cL_law 432 = .ok (.iconst 1, 1) := bdL_law_432.1
theorem dL_law_433 : decode cL_law 433 = .ok (.iadd, 1) := bdL_law_432.2.1
theorem dL_law_434 : decode cL_law 434 = .ok (.iaload, 1) := bdL_law_432.2.2.1
theorem dL_law_435 : decode cL_law 435 = .ok (.invokevirtual 59, 3) := bdL_law_432.2.2.2.1
theorem dL_law_438 : decode cL_law 438 = .ok (.pop, 1) := bdL_law_432.2.2.2.2.1
theorem dL_law_439 : decode cL_law 439 = .ok (.goto 451, 3) := bdL_law_432.2.2.2.2.2.1
theorem dL_law_442 : decode cL_law 442 = .ok (.aload_n 1, 1) := bdL_law_432.2.2.2.2.2.2.1
theorem dL_law_443 : decode cL_law 443 = .ok (.aload_n 0, 1) := bdL_law_432.2.2.2.2.2.2.2.1
theorem dL_law_444 : decode cL_law 444 = .ok (.iload_n 3, 1) := bdL_law_432.2.2.2.2.2.2.2.2.1
theorem dL_law_445 : decode cL_law 445 = .ok (.iconst 1, 1) := bdL_law_432.2.2.2.2.2.2.2.2.2.1
theorem dL_law_446 : decode cL_law 446 = .ok (.iadd, 1) := bdL_law_432.2.2.2.2.2.2.2.2.2.2.1
theorem dL_law_447 : decode cL_law 447 = .ok (.iaload, 1) := bdL_law_432.2.2.2.2.2.2.2.2.2.2.2.1
theorem dL_law_448 : decode cL_law 448 = .ok (.invokevirtual 60, 3) := bdL_law_432.2.2.2.2.2.2.2.2.2.2.2.2.1
theorem dL_law_451 : decode cL_law 451 = .ok (.pop, 1) := bdL_law_432.2.2.2.2.2.2.2.2.2.2.2.2.2.1
theorem dL_law_452 : decode cL_law 452 = .ok (.aload_n 2, 1) := bdL_law_432.2.2.2.2.2.2.2.2.2.2.2.2.2.2.1
theorem dL_law_453 : decode cL_law 453 = .ok (.aload_n 0, 1) := bdL_law_432.2.2.2.2.2.2.2.2.2.2.2.2.2.2.2
theorem bdL_law_454 : (decode cL_law 454 = .ok (.iload_n 3, 1)) ∧ (decode cL_law 455 = .ok (.iconst 1, 1)) ∧ (decode cL_law 456 = .ok (.iadd, 1)) ∧ (decode cL_law 457 = .ok (.iaload, 1)) ∧ (decode cL_law 458 = .ok (.invokevirtual 63, 3)) ∧ (decode cL_law 461 = .ok (.pop, 1)) ∧ (decode cL_law 462 = .ok (.goto 428, 3)) ∧ (decode cL_law 465 = .ok (.aload_n 1, 1)) ∧ (decode cL_law 466 = .ok (.aload_n 0, 1)) ∧ (decode cL_law 467 = .ok (.iload_n 3, 1)) ∧ (decode cL_law 468 = .ok (.iconst 1, 1)) ∧ (decode cL_law 469 = .ok (.iadd, 1)) ∧ (decode cL_law 470 = .ok (.iaload, 1)) ∧ (decode cL_law 471 = .ok (.aload_n 0, 1)) ∧ (decode cL_law 472 = .ok (.iload_n 3, 1)) ∧ (decode cL_law 473 = .ok (.iconst 2, 1)) := by decide +kernel
theorem dL_law_454 : decode cL_law 454 = .ok (.iload_n 3, 1) := bdL_law_454.1
theorem dL_law_455 : decode cL_law 455 = .ok (.iconst 1, 1) := bdL_law_454.2.1
theorem dL_law_456 : decode cL_law 456 = .ok (.iadd, 1) := bdL_law_454.2.2.1
theorem dL_law_457 : decode cL_law 457 = .ok (.iaload, 1) := bdL_law_454.2.2.2.1
theorem dL_law_458 : decode cL_law 458 = .ok (.invokevirtual 63, 3) := bdL_law_454.2.2.2.2.1
theorem dL_law_461 : decode cL_law 461 = .ok (.pop, 1) := bdL_law_454.2.2.2.2.2.1
theorem dL_law_462 : decode cL_law 462 = .ok (.goto 428, 3) := bdL_law_454.2.2.2.2.2.2.1
theorem dL_law_465 : decode cL_law 465 = .ok (.aload_n 1, 1) := bdL_law_454.2.2.2.2.2.2.2.1
theorem dL_law_466 : decode cL_law 466 = .ok (.aload_n 0, 1) := bdL_law_454.2.2.2.2.2.2.2.2.1
theorem dL_law_467 : decode cL_law 467 = .ok (.iload_n 3, 1) := bdL_law_454.2.2.2.2.2.2.2.2.2.1
theorem dL_law_468 : decode cL_law 468 = .ok (.iconst 1, 1) := bdL_law_454.2.2.2.2.2.2.2.2.2.2.1
theorem dL_law_469 : decode cL_law 469 = .ok (.iadd, 1) := bdL_law_454.2.2.2.2.2.2.2.2.2.2.2.1
theorem dL_law_470 : decode cL_law 470 = .ok (.iaload, 1) := bdL_law_454.2.2.2.2.2.2.2.2.2.2.2.2.1
theorem dL_law_471 : decode cL_law 471 = .ok (.aload_n 0, 1) := bdL_law_454.2.2.2.2.2.2.2.2.2.2.2.2.2.1
theorem dL_law_472 : decode cL_law 472 = .ok (.iload_n 3, 1) := bdL_law_454.2.2.2.2.2.2.2.2.2.2.2.2.2.2.1
theorem dL_law_473 : decode cL_law 473 = .ok (.iconst 2, 1) := bdL_law_454.2.2.2.2.2.2.2.2.2.2.2.2.2.2.2
theorem bdL_law_474 : (decode cL_law 474 = .ok (.iadd, 1)) ∧ (decode cL_law 475 = .ok (.iaload, 1)) ∧ (decode cL_law 476 = .ok (.invokevirtual 64, 3)) ∧ (decode cL_law 479 = .ok (.pop, 1)) ∧ (decode cL_law 480 = .ok (.aload_n 2, 1)) ∧ (decode cL_law 481 = .ok (.aload_n 0, 1)) ∧ (decode cL_law 482 = .ok (.iload_n 3, 1)) ∧ (decode cL_law 483 = .ok (.iconst 1, 1)) ∧ (decode cL_law 484 = .ok (.iadd, 1)) ∧ (decode cL_law 485 = .ok (.iaload, 1)) ∧ (decode cL_law 486 = .ok (.aload_n 0, 1)) ∧ (decode cL_law 487 = .ok (.iload_n 3, 1)) ∧ (decode cL_law 488 = .ok (.iconst 2, 1)) ∧ (decode cL_law 489 = .ok (.iadd, 1)) ∧ (decode cL_law 490 = .ok (.iaload, 1)) ∧ (decode cL_law 491 = .ok (.invokevirtual 67, 3)) := by decide +kernel
theorem dL_law_474 : decode cL_law 474 = .ok (.iadd, 1) := bdL_law_474.1
theorem dL_law_475 : decode cL_law 475 = .ok (.iaload, 1) := bdL_law_474.2.1
theorem dL_law_476 : decode cL_law 476 = .ok (.invokevirtual 64, 3) := bdL_law_474.2.2.1
theorem dL_law_479 : decode cL_law 479 = .ok (.pop, 1) := bdL_law_474.2.2.2.1
theorem dL_law_480 : decode cL_law 480 = .ok (.aload_n 2, 1) := bdL_law_474.2.2.2.2.1
theorem dL_law_481 : decode cL_law 481 = .ok (.aload_n 0, 1) := bdL_law_474.2.2.2.2.2.1
theorem dL_law_482 : decode cL_law 482 = .ok (.iload_n 3, 1) := bdL_law_474.2.2.2.2.2.2.1
theorem dL_law_483 : decode cL_law 483 = .ok (.iconst 1, 1) := bdL_law_474.2.2.2.2.2.2.2.1
theorem dL_law_484 : decode cL_law 484 = .ok (.iadd, 1) := bdL_law_474.2.2.2.2.2.2.2.2.1
theorem dL_law_485 : decode cL_law 485 = .ok (.iaload, 1) := bdL_law_474.2.2.2.2.2.2.2.2.2.1
theorem dL_law_486 : decode cL_law 486 = .ok (.aload_n 0, 1) := bdL_law_474.2.2.2.2.2.2.2.2.2.2.1
theorem dL_law_487 : decode cL_law 487 = .ok (.iload_n 3, 1) := bdL_law_474.2.2.2.2.2.2.2.2.2.2.2.1
theorem dL_law_488 : decode cL_law 488 = .ok (.iconst 2, 1) := bdL_law_474.2.2.2.2.2.2.2.2.2.2.2.2.1
theorem dL_law_489 : decode cL_law 489 = .ok (.iadd, 1) := bdL_law_474.2.2.2.2.2.2.2.2.2.2.2.2.2.1
theorem dL_law_490 : decode cL_law 490 = .ok (.iaload, 1) := bdL_law_474.2.2.2.2.2.2.2.2.2.2.2.2.2.2.1
theorem dL_law_491 : decode cL_law 491 = .ok (.invokevirtual 67, 3) := bdL_law_474.2.2.2.2.2.2.2.2.2.2.2.2.2.2.2
theorem bdL_law_494 : (decode cL_law 494 = .ok (.pop, 1)) ∧ (decode cL_law 495 = .ok (.goto 395, 3)) ∧ (decode cL_law 498 = .ok (.aload_n 1, 1)) ∧ (decode cL_law 499 = .ok (.aload_n 0, 1)) ∧ (decode cL_law 500 = .ok (.iload_n 3, 1)) ∧ (decode cL_law 501 = .ok (.iconst 1, 1)) ∧ (decode cL_law 502 = .ok (.iadd, 1)) ∧ (decode cL_law 503 = .ok (.iaload, 1)) ∧ (decode cL_law 504 = .ok (.aload_n 0, 1)) ∧ (decode cL_law 505 = .ok (.iload_n 3, 1)) ∧ (decode cL_law 506 = .ok (.iconst 2, 1)) ∧ (decode cL_law 507 = .ok (.iadd, 1)) ∧ (decode cL_law 508 = .ok (.iaload, 1)) ∧ (decode cL_law 509 = .ok (.invokevirtual 68, 3)) ∧ (decode cL_law 512 = .ok (.pop, 1)) ∧ (decode cL_law 513 = .ok (.aload_n 2, 1)) := by decide +kernel
theorem dL_law_494 : decode cL_law 494 = .ok (.pop, 1) := bdL_law_494.1
theorem dL_law_495 : decode cL_law 495 = .ok (.goto 395, 3) := bdL_law_494.2.1
theorem dL_law_498 : decode cL_law 498 = .ok (.aload_n 1, 1) := bdL_law_494.2.2.1
theorem dL_law_499 : decode cL_law 499 = .ok (.aload_n 0, 1) := bdL_law_494.2.2.2.1
theorem dL_law_500 : decode cL_law 500 = .ok (.iload_n 3, 1) := bdL_law_494.2.2.2.2.1
theorem dL_law_501 : decode cL_law 501 = .ok (.iconst 1, 1) := bdL_law_494.2.2.2.2.2.1
theorem dL_law_502 : decode cL_law 502 = .ok (.iadd, 1) := bdL_law_494.2.2.2.2.2.2.1
theorem dL_law_503 : decode cL_law 503 = .ok (.iaload, 1) := bdL_law_494.2.2.2.2.2.2.2.1
theorem dL_law_504 : decode cL_law 504 = .ok (.aload_n 0, 1) := bdL_law_494.2.2.2.2.2.2.2.2.1
theorem dL_law_505 : decode cL_law 505 = .ok (.iload_n 3, 1) := bdL_law_494.2.2.2.2.2.2.2.2.2.1
theorem dL_law_506 : decode cL_law 506 = .ok (.iconst 2, 1) := bdL_law_494.2.2.2.2.2.2.2.2.2.2.1
theorem dL_law_507 : decode cL_law 507 = .ok (.iadd, 1) := bdL_law_494.2.2.2.2.2.2.2.2.2.2.2.1
theorem dL_law_508 : decode cL_law 508 = .ok (.iaload, 1) := bdL_law_494.2.2.2.2.2.2.2.2.2.2.2.2.1
theorem dL_law_509 : decode cL_law 509 = .ok (.invokevirtual 68, 3) := bdL_law_494.2.2.2.2.2.2.2.2.2.2.2.2.2.1
theorem dL_law_512 : decode cL_law 512 = .ok (.pop, 1) := bdL_law_494.2.2.2.2.2.2.2.2.2.2.2.2.2.2.1
theorem dL_law_513 : decode cL_law 513 = .ok (.aload_n 2, 1) := bdL_law_494.2.2.2.2.2.2.2.2.2.2.2.2.2.2.2
theorem bdL_law_514 : (decode cL_law 514 = .ok (.aload_n 0, 1)) ∧ (decode cL_law 515 = .ok (.iload_n 3, 1)) ∧ (decode cL_law 516 = .ok (.iconst 1, 1)) ∧ (decode cL_law 517 = .ok (.iadd, 1)) ∧ (decode cL_law 518 = .ok (.iaload, 1)) ∧ (decode cL_law 519 = .ok (.aload_n 0, 1)) ∧ (decode cL_law 520 = .ok (.iload_n 3, 1)) ∧ (decode cL_law 521 = .ok (.iconst 2, 1)) ∧ (decode cL_law 522 = .ok (.iadd, 1)) ∧ (decode cL_law 523 = .ok (.iaload, 1)) ∧ (decode cL_law 524 = .ok (.invokevirtual 71, 3)) ∧ (decode cL_law 527 = .ok (.pop, 1)) ∧ (decode cL_law 528 = .ok (.goto 362, 3)) ∧ (decode cL_law 531 = .ok (.aload_n 1, 1)) ∧ (decode cL_law 532 = .ok (.aload_n 0, 1)) ∧ (decode cL_law 533 = .ok (.iload_n 3, 1)) := by decide +kernel
theorem dL_law_514 : decode cL_law 514 = .ok (.aload_n 0, 1) := bdL_law_514.1
theorem dL_law_515 : decode cL_law 515 = .ok (.iload_n 3, 1) := bdL_law_514.2.1
theorem dL_law_516 : decode cL_law 516 = .ok (.iconst 1, 1) := bdL_law_514.2.2.1
theorem dL_law_517 : decode cL_law 517 = .ok (.iadd, 1) := bdL_law_514.2.2.2.1
theorem dL_law_518 : decode cL_law 518 = .ok (.iaload, 1) := bdL_law_514.2.2.2.2.1
theorem dL_law_519 : decode cL_law 519 = .ok (.aload_n 0, 1) := bdL_law_514.2.2.2.2.2.1
theorem dL_law_520 : decode cL_law 520 = .ok (.iload_n 3, 1) := bdL_law_514.2.2.2.2.2.2.1
theorem dL_law_521 : decode cL_law 521 = .ok (.iconst 2, 1) := bdL_law_514.2.2.2.2.2.2.2.1
theorem dL_law_522 : decode cL_law 522 = .ok (.iadd, 1) := bdL_law_514.2.2.2.2.2.2.2.2.1
theorem dL_law_523 : decode cL_law 523 = .ok (.iaload, 1) := bdL_law_514.2.2.2.2.2.2.2.2.2.1
theorem dL_law_524 : decode cL_law 524 = .ok (.invokevirtual 71, 3) := bdL_law_514.2.2.2.2.2.2.2.2.2.2.1
theorem dL_law_527 : decode cL_law 527 = .ok (.pop, 1) := bdL_law_514.2.2.2.2.2.2.2.2.2.2.2.1
theorem dL_law_528 : decode cL_law 528 = .ok (.goto 362, 3) := bdL_law_514.2.2.2.2.2.2.2.2.2.2.2.2.1
theorem dL_law_531 : decode cL_law 531 = .ok (.aload_n 1, 1) := bdL_law_514.2.2.2.2.2.2.2.2.2.2.2.2.2.1
theorem dL_law_532 : decode cL_law 532 = .ok (.aload_n 0, 1) := bdL_law_514.2.2.2.2.2.2.2.2.2.2.2.2.2.2.1
theorem dL_law_533 : decode cL_law 533 = .ok (.iload_n 3, 1) := bdL_law_514.2.2.2.2.2.2.2.2.2.2.2.2.2.2.2
theorem bdL_law_534 : (decode cL_law 534 = .ok (.iconst 1, 1)) ∧ (decode cL_law 535 = .ok (.iadd, 1)) ∧ (decode cL_law 536 = .ok (.iaload, 1)) ∧ (decode cL_law 537 = .ok (.invokevirtual 72, 3)) ∧ (decode cL_law 540 = .ok (.pop2, 1)) ∧ (decode cL_law 541 = .ok (.aload_n 2, 1)) ∧ (decode cL_law 542 = .ok (.aload_n 0, 1)) ∧ (decode cL_law 543 = .ok (.iload_n 3, 1)) ∧ (decode cL_law 544 = .ok (.iconst 1, 1)) ∧ (decode cL_law 545 = .ok (.iadd, 1)) ∧ (decode cL_law 546 = .ok (.iaload, 1)) ∧ (decode cL_law 547 = .ok (.invokevirtual 76, 3)) ∧ (decode cL_law 550 = .ok (.pop2, 1)) ∧ (decode cL_law 551 = .ok (.goto 339, 3)) ∧ (decode cL_law 554 = .ok (.aload_n 1, 1)) ∧ (decode cL_law 555 = .ok (.invokevirtual 77, 3)) := by decide +kernel
theorem dL_law_534 : decode cL_law 534 = .ok (.iconst 1, 1) := bdL_law_534.1
theorem dL_law_535 : decode cL_law 535 = .ok (.iadd, 1) := bdL_law_534.2.1
theorem dL_law_536 : decode cL_law 536 = .ok (.iaload, 1) := bdL_law_534.2.2.1
theorem dL_law_537 : decode cL_law 537 = .ok (.invokevirtual 72, 3) := bdL_law_534.2.2.2.1
theorem dL_law_540 : decode cL_law 540 = .ok (.pop2, 1) := bdL_law_534.2.2.2.2.1
theorem dL_law_541 : decode cL_law 541 = .ok (.aload_n 2, 1) := bdL_law_534.2.2.2.2.2.1
theorem dL_law_542 : decode cL_law 542 = .ok (.aload_n 0, 1) := bdL_law_534.2.2.2.2.2.2.1
theorem dL_law_543 : decode cL_law 543 = .ok (.iload_n 3, 1) := bdL_law_534.2.2.2.2.2.2.2.1
theorem dL_law_544 : decode cL_law 544 = .ok (.iconst 1, 1) := bdL_law_534.2.2.2.2.2.2.2.2.1
theorem dL_law_545 : decode cL_law 545 = .ok (.iadd, 1) := bdL_law_534.2.2.2.2.2.2.2.2.2.1
theorem dL_law_546 : decode cL_law 546 = .ok (.iaload, 1) := bdL_law_534.2.2.2.2.2.2.2.2.2.2.1
theorem dL_law_547 : decode cL_law 547 = .ok (.invokevirtual 76, 3) := bdL_law_534.2.2.2.2.2.2.2.2.2.2.2.1
theorem dL_law_550 : decode cL_law 550 = .ok (.pop2, 1) := bdL_law_534.2.2.2.2.2.2.2.2.2.2.2.2.1
theorem dL_law_551 : decode cL_law 551 = .ok (.goto 339, 3) := bdL_law_534.2.2.2.2.2.2.2.2.2.2.2.2.2.1
theorem dL_law_554 : decode cL_law 554 = .ok (.aload_n 1, 1) := bdL_law_534.2.2.2.2.2.2.2.2.2.2.2.2.2.2.1
theorem dL_law_555 : decode cL_law 555 = .ok (.invokevirtual 77, 3) := bdL_law_534.2.2.2.2.2.2.2.2.2.2.2.2.2.2.2
theorem bdL_law_558 : (decode cL_law 558 = .ok (.pop, 1)) ∧ (decode cL_law 559 = .ok (.aload_n 2, 1)) ∧ (decode cL_law 560 = .ok (.invokevirtual 80, 3)) ∧ (decode cL_law 563 = .ok (.pop, 1)) ∧ (decode cL_law 564 = .ok (.goto 326, 3)) ∧ (decode cL_law 567 = .ok (.aload_n 1, 1)) ∧ (decode cL_law 568 = .ok (.aload_n 0, 1)) ∧ (decode cL_law 569 = .ok (.iload_n 3, 1)) ∧ (decode cL_law 570 = .ok (.iconst 1, 1)) ∧ (decode cL_law 571 = .ok (.iadd, 1)) ∧ (decode cL_law 572 = .ok (.iaload, 1)) ∧ (decode cL_law 573 = .ok (.aload_n 0, 1)) ∧ (decode cL_law 574 = .ok (.iload_n 3, 1)) ∧ (decode cL_law 575 = .ok (.iconst 2, 1)) ∧ (decode cL_law 576 = .ok (.iadd, 1)) ∧ (decode cL_law 577 = .ok (.iaload, 1)) := by decide +kernel
theorem dL_law_558 : decode cL_law 558 = .ok (.pop, 1) := bdL_law_558.1
theorem dL_law_559 : decode cL_law 559 = .ok (.aload_n 2, 1) := bdL_law_558.2.1
theorem dL_law_560 : decode cL_law 560 = .ok (.invokevirtual 80, 3) := bdL_law_558.2.2.1
theorem dL_law_563 : decode cL_law 563 = .ok (.pop, 1) := bdL_law_558.2.2.2.1
theorem dL_law_564 : decode cL_law 564 = .ok (.goto 326, 3) := bdL_law_558.2.2.2.2.1
theorem dL_law_567 : decode cL_law 567 = .ok (.aload_n 1, 1) := bdL_law_558.2.2.2.2.2.1
theorem dL_law_568 : decode cL_law 568 = .ok (.aload_n 0, 1) := bdL_law_558.2.2.2.2.2.2.1
theorem dL_law_569 : decode cL_law 569 = .ok (.iload_n 3, 1) := bdL_law_558.2.2.2.2.2.2.2.1
theorem dL_law_570 : decode cL_law 570 = .ok (.iconst 1, 1) := bdL_law_558.2.2.2.2.2.2.2.2.1
theorem dL_law_571 : decode cL_law 571 = .ok (.iadd, 1) := bdL_law_558.2.2.2.2.2.2.2.2.2.1
theorem dL_law_572 : decode cL_law 572 = .ok (.iaload, 1) := bdL_law_558.2.2.2.2.2.2.2.2.2.2.1
theorem dL_law_573 : decode cL_law 573 = .ok (.aload_n 0, 1) := bdL_law_558.2.2.2.2.2.2.2.2.2.2.2.1
theorem dL_law_574 : decode cL_law 574 = .ok (.iload_n 3, 1) := bdL_law_558.2.2.2.2.2.2.2.2.2.2.2.2.1
theorem dL_law_575 : decode cL_law 575 = .ok (.iconst 2, 1) := bdL_law_558.2.2.2.2.2.2.2.2.2.2.2.2.2.1
theorem dL_law_576 : decode cL_law 576 = .ok (.iadd, 1) := bdL_law_558.2.2.2.2.2.2.2.2.2.2.2.2.2.2.1
theorem dL_law_577 : decode cL_law 577 = .ok (.iaload, 1) := bdL_law_558.2.2.2.2.2.2.2.2.2.2.2.2.2.2.2
theorem bdL_law_578 : (decode cL_law 578 = .ok (.invokevirtual 81, 3)) ∧ (decode cL_law 581 = .ok (.pop2, 1)) ∧ (decode cL_law 582 = .ok (.aload_n 2, 1)) ∧ (decode cL_law 583 = .ok (.aload_n 0, 1)) ∧ (decode cL_law 584 = .ok (.iload_n 3, 1)) ∧ (decode cL_law 585 = .ok (.iconst 1, 1)) ∧ (decode cL_law 586 = .ok (.iadd, 1)) ∧ (decode cL_law 587 = .ok (.iaload, 1)) ∧ (decode cL_law 588 = .ok (.aload_n 0, 1)) ∧ (decode cL_law 589 = .ok (.iload_n 3, 1)) ∧ (decode cL_law 590 = .ok (.iconst 2, 1)) ∧ (decode cL_law 591 = .ok (.iadd, 1)) ∧ (decode cL_law 592 = .ok (.iaload, 1)) ∧ (decode cL_law 593 = .ok (.invokevirtual 85, 3)) ∧ (decode cL_law 596 = .ok (.pop2, 1)) ∧ (decode cL_law 597 = .ok (.goto 293, 3)) := by decide +kernel
theorem dL_law_578 : decode cL_law 578 = .ok (.invokevirtual 81, 3) := bdL_law_578.1
theorem dL_law_581 : decode cL_law 581 = .ok (.pop2, 1) := bdL_law_578.2.1
theorem dL_law_582 : decode cL_law 582 = .ok (.aload_n 2, 1) := bdL_law_578.2.2.1
theorem dL_law_583 : decode cL_law 583 = .ok (.aload_n 0, 1) := bdL_law_578.2.2.2.1
theorem dL_law_584 : decode cL_law 584 = .ok (.iload_n 3, 1) := bdL_law_578.2.2.2.2.1
theorem dL_law_585 : decode cL_law 585 = .ok (.iconst 1, 1) := bdL_law_578.2.2.2.2.2.1
theorem dL_law_586 : decode cL_law 586 = .ok (.iadd, 1) := bdL_law_578.2.2.2.2.2.2.1
theorem dL_law_587 : decode cL_law 587 = .ok (.iaload, 1) := bdL_law_578.2.2.2.2.2.2.2.1
theorem dL_law_588 : decode cL_law 588 = .ok (.aload_n 0, 1) := bdL_law_578.2.2.2.2.2.2.2.2.1
theorem dL_law_589 : decode cL_law 589 = .ok (.iload_n 3, 1) := bdL_law_578.2.2.2.2.2.2.2.2.2.1
theorem dL_law_590 : decode cL_law 590 = .ok (.iconst 2, 1) := bdL_law_578.2.2.2.2.2.2.2.2.2.2.1
theorem dL_law_591 : decode cL_law 591 = .ok (.iadd, 1) := bdL_law_578.2.2.2.2.2.2.2.2.2.2.2.1
theorem dL_law_592 : decode cL_law 592 = .ok (.iaload, 1) := bdL_law_578.2.2.2.2.2.2.2.2.2.2.2.2.1
theorem dL_law_593 : decode cL_law 593 = .ok (.invokevirtual 85, 3) := bdL_law_578.2.2.2.2.2.2.2.2.2.2.2.2.2.1
theorem dL_law_596 : decode cL_law 596 = .ok (.pop2, 1) := bdL_law_578.2.2.2.2.2.2.2.2.2.2.2.2.2.2.1
theorem dL_law_597 : decode cL_law 597 = .ok (.goto 293, 3) := bdL_law_578.2.2.2.2.2.2.2.2.2.2.2.2.2.2.2
theorem bdL_law_600 : (decode cL_law 600 = .ok (.aload_n 1, 1)) ∧ (decode cL_law 601 = .ok (.invokevirtual 86, 3)) ∧ (decode cL_law 604 = .ok (.pop, 1)) ∧ (decode cL_law 605 = .ok (.aload_n 2, 1)) ∧ (decode cL_law 606 = .ok (.invokevirtual 89, 3)) ∧ (decode cL_law 609 = .ok (.pop, 1)) ∧ (decode cL_law 610 = .ok (.goto 280, 3)) ∧ (decode cL_law 613 = .ok (.aload_n 1, 1)) ∧ (decode cL_law 614 = .ok (.aload_n 0, 1)) ∧ (decode cL_law 615 = .ok (.iload_n 3, 1)) ∧ (decode cL_law 616 = .ok (.iconst 1, 1)) ∧ (decode cL_law 617 = .ok (.iadd, 1)) ∧ (decode cL_law 618 = .ok (.iaload, 1)) ∧ (decode cL_law 619 = .ok (.invokevirtual 90, 3)) ∧ (decode cL_law 622 = .ok (.pop, 1)) ∧ (decode cL_law 623 = .ok (.aload_n 2, 1)) := by decide +kernel
theorem dL_law_600 : decode cL_law 600 = .ok (.aload_n 1, 1) := bdL_law_600.1
theorem dL_law_601 : decode cL_law 601 = .ok (.invokevirtual 86, 3) := bdL_law_600.2.1
theorem dL_law_604 : decode cL_law 604 = .ok (.pop, 1) := bdL_law_600.2.2.1
theorem dL_law_605 : decode cL_law 605 = .ok (.aload_n 2, 1) := bdL_law_600.2.2.2.1
theorem dL_law_606 : decode cL_law 606 = .ok (.invokevirtual 89, 3) := bdL_law_600.2.2.2.2.1
theorem dL_law_609 : decode cL_law 609 = .ok (.pop, 1) := bdL_law_600.2.2.2.2.2.1
theorem dL_law_610 : decode cL_law 610 = .ok (.goto 280, 3) := bdL_law_600.2.2.2.2.2.2.1
theorem dL_law_613 : decode cL_law 613 = .ok (.aload_n 1, 1) := bdL_law_600.2.2.2.2.2.2.2.1
theorem dL_law_614 : decode cL_law 614 = .ok (.aload_n 0, 1) := bdL_law_600.2.2.2.2.2.2.2.2.1
theorem dL_law_615 : decode cL_law 615 = .ok (.iload_n 3, 1) := bdL_law_600.2.2.2.2.2.2.2.2.2.1
theorem dL_law_616 : decode cL_law 616 = .ok (.iconst 1, 1) := bdL_law_600.2.2.2.2.2.2.2.2.2.2.1
theorem dL_law_617 : decode cL_law 617 = .ok (.iadd, 1) := bdL_law_600.2.2.2.2.2.2.2.2.2.2.2.1
theorem dL_law_618 : decode cL_law 618 = .ok (.iaload, 1) := bdL_law_600.2.2.2.2.2.2.2.2.2.2.2.2.1
theorem dL_law_619 : decode cL_law 619 = .ok (.invokevirtual 90, 3) := bdL_law_600.2.2.2.2.2.2.2.2.2.2.2.2.2.1
theorem dL_law_622 : decode cL_law 622 = .ok (.pop, 1) := bdL_law_600.2.2.2.2.2.2.2.2.2.2.2.2.2.2.1
theorem dL_law_623 : decode cL_law 623 = .ok (.aload_n 2, 1) := bdL_law_600.2.2.2.2.2.2.2.2.2.2.2.2.2.2.2
theorem bdL_law_624 : (decode cL_law 624 = .ok (.aload_n 0, 1)) ∧ (decode cL_law 625 = .ok (.iload_n 3, 1)) ∧ (decode cL_law 626 = .ok (.iconst 1, 1)) ∧ (decode cL_law 627 = .ok (.iadd, 1)) ∧ (decode cL_law 628 = .ok (.iaload, 1)) ∧ (decode cL_law 629 = .ok (.invokevirtual 93, 3)) ∧ (decode cL_law 632 = .ok (.pop, 1)) ∧ (decode cL_law 633 = .ok (.goto 257, 3)) ∧ (decode cL_law 636 = .ok (.aload_n 1, 1)) ∧ (decode cL_law 637 = .ok (.invokevirtual 94, 3)) ∧ (decode cL_law 640 = .ok (.pop, 1)) ∧ (decode cL_law 641 = .ok (.aload_n 2, 1)) ∧ (decode cL_law 642 = .ok (.invokevirtual 97, 3)) ∧ (decode cL_law 645 = .ok (.pop, 1)) ∧ (decode cL_law 646 = .ok (.goto 244, 3)) ∧ (decode cL_law 649 = .ok (.aload_n 1, 1)) := by decide +kernel
theorem dL_law_624 : decode cL_law 624 = .ok (.aload_n 0, 1) := bdL_law_624.1
theorem dL_law_625 : decode cL_law 625 = .ok (.iload_n 3, 1) := bdL_law_624.2.1
theorem dL_law_626 : decode cL_law 626 = .ok (.iconst 1, 1) := bdL_law_624.2.2.1
theorem dL_law_627 : decode cL_law 627 = .ok (.iadd, 1) := bdL_law_624.2.2.2.1
theorem dL_law_628 : decode cL_law 628 = .ok (.iaload, 1) := bdL_law_624.2.2.2.2.1
theorem dL_law_629 : decode cL_law 629 = .ok (.invokevirtual 93, 3) := bdL_law_624.2.2.2.2.2.1
theorem dL_law_632 : decode cL_law 632 = .ok (.pop, 1) := bdL_law_624.2.2.2.2.2.2.1
theorem dL_law_633 : decode cL_law 633 = .ok (.goto 257, 3) := bdL_law_624.2.2.2.2.2.2.2.1
theorem dL_law_636 : decode cL_law 636 = .ok (.aload_n 1, 1) := bdL_law_624.2.2.2.2.2.2.2.2.1
theorem dL_law_637 : decode cL_law 637 = .ok (.invokevirtual 94, 3) := bdL_law_624.2.2.2.2.2.2.2.2.2.1
theorem dL_law_640 : decode cL_law 640 = .ok (.pop, 1) := bdL_law_624.2.2.2.2.2.2.2.2.2.2.1
theorem dL_law_641 : decode cL_law 641 = .ok (.aload_n 2, 1) := bdL_law_624.2.2.2.2.2.2.2.2.2.2.2.1
theorem dL_law_642 : decode cL_law 642 = .ok (.invokevirtual 97, 3) := bdL_law_624.2.2.2.2.2.2.2.2.2.2.2.2.1
theorem dL_law_645 : decode cL_law 645 = .ok (.pop, 1) := bdL_law_624.2.2.2.2.2.2.2.2.2.2.2.2.2.1
theorem dL_law_646 : decode cL_law 646 = .ok (.goto 244, 3) := bdL_law_624.2.2.2.2.2.2.2.2.2.2.2.2.2.2.1
theorem dL_law_649 : decode cL_law 649 = .ok (.aload_n 1, 1) := bdL_law_624.2.2.2.2.2.2.2.2.2.2.2.2.2.2.2
theorem bdL_law_650 : (decode cL_law 650 = .ok (.aload_n 0, 1)) ∧ (decode cL_law 651 = .ok (.iload_n 3, 1)) ∧ (decode cL_law 652 = .ok (.iconst 1, 1)) ∧ (decode cL_law 653 = .ok (.iadd, 1)) ∧ (decode cL_law 654 = .ok (.iaload, 1)) ∧ (decode cL_law 655 = .ok (.aload_n 0, 1)) ∧ (decode cL_law 656 = .ok (.iload_n 3, 1)) ∧ (decode cL_law 657 = .ok (.iconst 2, 1)) ∧ (decode cL_law 658 = .ok (.iadd, 1)) ∧ (decode cL_law 659 = .ok (.iaload, 1)) ∧ (decode cL_law 660 = .ok (.aload_n 0, 1)) ∧ (decode cL_law 661 = .ok (.iload_n 3, 1)) ∧ (decode cL_law 662 = .ok (.iconst 3, 1)) ∧ (decode cL_law 663 = .ok (.iadd, 1)) ∧ (decode cL_law 664 = .ok (.iaload, 1)) ∧ (decode cL_law 665 = .ok (.invokevirtual 98, 3)) := by decide +kernel
theorem dL_law_650 : decode cL_law 650 = .ok (.aload_n 0, 1) := bdL_law_650.1
theorem dL_law_651 : decode cL_law 651 = .ok (.iload_n 3, 1) := bdL_law_650.2.1
theorem dL_law_652 : decode cL_law 652 = .ok (.iconst 1, 1) := bdL_law_650.2.2.1
theorem dL_law_653 : decode cL_law 653 = .ok (.iadd, 1) := bdL_law_650.2.2.2.1
theorem dL_law_654 : decode cL_law 654 = .ok (.iaload, 1) := bdL_law_650.2.2.2.2.1
theorem dL_law_655 : decode cL_law 655 = .ok (.aload_n 0, 1) := bdL_law_650.2.2.2.2.2.1
theorem dL_law_656 : decode cL_law 656 = .ok (.iload_n 3, 1) := bdL_law_650.2.2.2.2.2.2.1
theorem dL_law_657 : decode cL_law 657 = .ok (.iconst 2, 1) := bdL_law_650.2.2.2.2.2.2.2.1
theorem dL_law_658 : decode cL_law 658 = .ok (.iadd, 1) := bdL_law_650.2.2.2.2.2.2.2.2.1
theorem dL_law_659 : decode cL_law 659 = .ok (.iaload, 1) := bdL_law_650.2.2.2.2.2.2.2.2.2.1
theorem dL_law_660 : decode cL_law 660 = .ok (.aload_n 0, 1) := bdL_law_650.2.2.2.2.2.2.2.2.2.2.1
theorem dL_law_661 : decode cL_law 661 = .ok (.iload_n 3, 1) := bdL_law_650.2.2.2.2.2.2.2.2.2.2.2.1
theorem dL_law_662 : decode cL_law 662 = .ok (.iconst 3, 1) := bdL_law_650.2.2.2.2.2.2.2.2.2.2.2.2.1
theorem dL_law_663 : decode cL_law 663 = .ok (.iadd, 1) := bdL_law_650.2.2.2.2.2.2.2.2.2.2.2.2.2.1
theorem dL_law_664 : decode cL_law 664 = .ok (.iaload, 1) := bdL_law_650.2.2.2.2.2.2.2.2.2.2.2.2.2.2.1
theorem dL_law_665 : decode cL_law 665 = .ok (.invokevirtual 98, 3) := bdL_law_650.2.2.2.2.2.2.2.2.2.2.2.2.2.2.2
theorem bdL_law_668 : (decode cL_law 668 = .ok (.pop, 1)) ∧ (decode cL_law 669 = .ok (.aload_n 2, 1)) ∧ (decode cL_law 670 = .ok (.aload_n 0, 1)) ∧ (decode cL_law 671 = .ok (.iload_n 3, 1)) ∧ (decode cL_law 672 = .ok (.iconst 1, 1)) ∧ (decode cL_law 673 = .ok (.iadd, 1)) ∧ (decode cL_law 674 = .ok (.iaload, 1)) ∧ (decode cL_law 675 = .ok (.aload_n 0, 1)) ∧ (decode cL_law 676 = .ok (.iload_n 3, 1)) ∧ (decode cL_law 677 = .ok (.iconst 2, 1)) ∧ (decode cL_law 678 = .ok (.iadd, 1)) ∧ (decode cL_law 679 = .ok (.iaload, 1)) ∧ (decode cL_law 680 = .ok (.aload_n 0, 1)) ∧ (decode cL_law 681 = .ok (.iload_n 3, 1)) ∧ (decode cL_law 682 = .ok (.iconst 3, 1)) ∧ (decode cL_law 683 = .ok (.iadd, 1)) := by decide +kernel
theorem dL_law_668 : decode cL_law 668 = .ok (.pop, 1) := bdL_law_668.1
theorem dL_law_669 : decode cL_law 669 = .ok (.aload_n 2, 1) := bdL_law_668.2.1
theorem dL_law_670 : decode cL_law 670 = .ok (.aload_n 0, 1) := bdL_law_668.2.2.1
theorem dL_law_671 : decode cL_law 671 = .ok (.iload_n 3, 1) := bdL_law_668.2.2.2.1
theorem dL_law_672 : decode cL_law 672 = .ok (.iconst 1, 1) := bdL_law_668.2.2.2.2.1
theorem dL_law_673 : decode cL_law 673 = .ok (.iadd, 1) := bdL_law_668.2.2.2.2.2.1
theorem dL_law_674 : decode cL_law 674 = .ok (.iaload, 1) := bdL_law_668.2.2.2.2.2.2.1
theorem dL_law_675 : decode cL_law 675 = .ok (.aload_n 0, 1) := bdL_law_668.2.2.2.2.2.2.2.1
theorem dL_law_676 : decode cL_law 676 = .ok (.iload_n 3, 1) := bdL_law_668.2.2.2.2.2.2.2.2.1
theorem dL_law_677 : decode cL_law 677 = .ok (.iconst 2, 1) := bdL_law_668.2.2.2.2.2.2.2.2.2.1
theorem dL_law_678 : decode cL_law 678 = .ok (.iadd, 1) := bdL_law_668.2.2.2.2.2.2.2.2.2.2.1
theorem dL_law_679 : decode cL_law 679 = .ok (.iaload, 1) := bdL_law_668.2.2.2.2.2.2.2.2.2.2.2.1
theorem dL_law_680 : decode cL_law 680 = .ok (.aload_n 0, 1) := bdL_law_668.2.2.2.2.2.2.2.2.2.2.2.2.1
theorem dL_law_681 : decode cL_law 681 = .ok (.iload_n 3, 1) := bdL_law_668.2.2.2.2.2.2.2.2.2.2.2.2.2.1
theorem dL_law_682 : decode cL_law 682 = .ok (.iconst 3, 1) := bdL_law_668.2.2.2.2.2.2.2.2.2.2.2.2.2.2.1
theorem dL_law_683 : decode cL_law 683 = .ok (.iadd, 1) := bdL_law_668.2.2.2.2.2.2.2.2.2.2.2.2.2.2.2
theorem bdL_law_684 : (decode cL_law 684 = .ok (.iaload, 1)) ∧ (decode cL_law 685 = .ok (.invokevirtual 101, 3)) ∧ (decode cL_law 688 = .ok (.pop, 1)) ∧ (decode cL_law 689 = .ok (.goto 201, 3)) ∧ (decode cL_law 692 = .ok (.aload_n 1, 1)) ∧ (decode cL_law 693 = .ok (.invokevirtual 102, 3)) ∧ (decode cL_law 696 = .ok (.pop, 1)) ∧ (decode cL_law 697 = .ok (.aload_n 2, 1)) ∧ (decode cL_law 698 = .ok (.invokevirtual 105, 3)) ∧ (decode cL_law 701 = .ok (.pop, 1)) ∧ (decode cL_law 702 = .ok (.goto 188, 3)) ∧ (decode cL_law 705 = .ok (.aload_n 1, 1)) ∧ (decode cL_law 706 = .ok (.aload_n 0, 1)) ∧ (decode cL_law 707 = .ok (.iload_n 3, 1)) ∧ (decode cL_law 708 = .ok (.iconst 1, 1)) ∧ (decode cL_law 709 = .ok (.iadd, 1)) := by decide +kernel
theorem dL_law_684 : decode cL_law 684 = .ok (.iaload, 1) := bdL_law_684.1
theorem dL_law_685 : decode cL_law 685 = .ok (.invokevirtual 101, 3) := bdL_law_684.2.1
theorem dL_law_688 : decode cL_law 688 = .ok (.pop, 1) := bdL_law_684.2.2.1
theorem dL_law_689 : decode cL_law 689 = .ok (.goto 201, 3) := bdL_law_684.2.2.2.1
theorem dL_law_692 : decode cL_law 692 = .ok (.aload_n 1, 1) := bdL_law_684.2.2.2.2.1
theorem dL_law_693 : decode cL_law 693 = .ok (.invokevirtual 102, 3) := bdL_law_684.2.2.2.2.2.1
theorem dL_law_696 : decode cL_law 696 = .ok (.pop, 1) := bdL_law_684.2.2.2.2.2.2.1
theorem dL_law_697 : decode cL_law 697 = .ok (.aload_n 2, 1) := bdL_law_684.2.2.2.2.2.2.2.1
theorem dL_law_698 : decode cL_law 698 = .ok (.invokevirtual 105, 3) := bdL_law_684.2.2.2.2.2.2.2.2.1
theorem dL_law_701 : decode cL_law 701 = .ok (.pop, 1) := bdL_law_684.2.2.2.2.2.2.2.2.2.1
theorem dL_law_702 : decode cL_law 702 = .ok (.goto 188, 3) := bdL_law_684.2.2.2.2.2.2.2.2.2.2.1
theorem dL_law_705 : decode cL_law 705 = .ok (.aload_n 1, 1) := bdL_law_684.2.2.2.2.2.2.2.2.2.2.2.1
theorem dL_law_706 : decode cL_law 706 = .ok (.aload_n 0, 1) := bdL_law_684.2.2.2.2.2.2.2.2.2.2.2.2.1
theorem dL_law_707 : decode cL_law 707 = .ok (.iload_n 3, 1) := bdL_law_684.2.2.2.2.2.2.2.2.2.2.2.2.2.1
theorem dL_law_708 : decode cL_law 708 = .ok (.iconst 1, 1) := bdL_law_684.2.2.2.2.2.2.2.2.2.2.2.2.2.2.1
theorem dL_law_709 : decode cL_law 709 = .ok (.iadd, 1) := bdL_law_684.2.2.2.2.2.2.2.2.2.2.2.2.2.2.2
theorem bdL_law_710 : (decode cL_law 710 = .ok (.iaload, 1)) ∧ (decode cL_law 711 = .ok (.invokevirtual 106, 3)) ∧ (decode cL_law 714 = .ok (.pop, 1)) ∧ (decode cL_law 715 = .ok (.aload_n 2, 1)) ∧ (decode cL_law 716 = .ok (.aload_n 0, 1)) ∧ (decode cL_law 717 = .ok (.iload_n 3, 1)) ∧ (decode cL_law 718 = .ok (.iconst 1, 1)) ∧ (decode cL_law 719 = .ok (.iadd, 1)) ∧ (decode cL_law 720 = .ok (.iaload, 1)) ∧ (decode cL_law 721 = .ok (.invokevirtual 109, 3)) ∧ (decode cL_law 724 = .ok (.pop, 1)) ∧ (decode cL_law 725 = .ok (.goto 165, 3)) ∧ (decode cL_law 728 = .ok (.aload_n 1, 1)) ∧ (decode cL_law 729 = .ok (.aload_n 0, 1)) ∧ (decode cL_law 730 = .ok (.iload_n 3, 1)) ∧ (decode cL_law 731 = .ok (.iconst 1, 1)) := by decide +kernel
theorem dL_law_710 : decode cL_law 710 = .ok (.iaload, 1) := bdL_law_710.1
theorem dL_law_711 : decode cL_law 711 = .ok (.invokevirtual 106, 3) := bdL_law_710.2.1
theorem dL_law_714 : decode cL_law 714 = .ok (.pop, 1) := bdL_law_710.2.2.1
theorem dL_law_715 : decode cL_law 715 = .ok (.aload_n 2, 1) := bdL_law_710.2.2.2.1
theorem dL_law_716 : decode cL_law 716 = .ok (.aload_n 0, 1) := bdL_law_710.2.2.2.2.1
theorem dL_law_717 : decode cL_law 717 = .ok (.iload_n 3, 1) := bdL_law_710.2.2.2.2.2.1
theorem dL_law_718 : decode cL_law 718 = .ok (.iconst 1, 1) := bdL_law_710.2.2.2.2.2.2.1
theorem dL_law_719 : decode cL_law 719 = .ok (.iadd, 1) := bdL_law_710.2.2.2.2.2.2.2.1
theorem dL_law_720 : decode cL_law 720 = .ok (.iaload, 1) := bdL_law_710.2.2.2.2.2.2.2.2.1
theorem dL_law_721 : decode cL_law 721 = .ok (.invokevirtual 109, 3) := bdL_law_710.2.2.2.2.2.2.2.2.2.1
theorem dL_law_724 : decode cL_law 724 = .ok (.pop, 1) := bdL_law_710.2.2.2.2.2.2.2.2.2.2.1
theorem dL_law_725 : decode cL_law 725 = .ok (.goto 165, 3) := bdL_law_710.2.2.2.2.2.2.2.2.2.2.2.1
theorem dL_law_728 : decode cL_law 728 = .ok (.aload_n 1, 1) := bdL_law_710.2.2.2.2.2.2.2.2.2.2.2.2.1
theorem dL_law_729 : decode cL_law 729 = .ok (.aload_n 0, 1) := bdL_law_710.2.2.2.2.2.2.2.2.2.2.2.2.2.1
theorem dL_law_730 : decode cL_law 730 = .ok (.iload_n 3, 1) := bdL_law_710.2.2.2.2.2.2.2.2.2.2.2.2.2.2.1
theorem dL_law_731 : decode cL_law 731 = .ok (.iconst 1, 1) := bdL_law_710.2.2.2.2.2.2.2.2.2.2.2.2.2.2.2
theorem bdL_law_732 : (decode cL_law 732 = .ok (.iadd, 1)) ∧ (decode cL_law 733 = .ok (.iaload, 1)) ∧ (decode cL_law 734 = .ok (.aload_n 0, 1)) ∧ (decode cL_law 735 = .ok (.iload_n 3, 1)) ∧ (decode cL_law 736 = .ok (.iconst 2, 1)) ∧ (decode cL_law 737 = .ok (.iadd, 1)) ∧ (decode cL_law 738 = .ok (.iaload, 1)) ∧ (decode cL_law 739 = .ok (.aload_n 0, 1)) ∧ (decode cL_law 740 = .ok (.iload_n 3, 1)) ∧ (decode cL_law 741 = .ok (.iconst 3, 1)) ∧ (decode cL_law 742 = .ok (.iadd, 1)) ∧ (decode cL_law 743 = .ok (.iaload, 1)) ∧ (decode cL_law 744 = .ok (.invokevirtual 110, 3)) ∧ (decode cL_law 747 = .ok (.aload_n 2, 1)) ∧ (decode cL_law 748 = .ok (.aload_n 0, 1)) ∧ (decode cL_law 749 = .ok (.iload_n 3, 1)) := by decide +kernel
theorem dL_law_732 : decode cL_law 732 = .ok (.iadd, 1) := bdL_law_732.1
theorem dL_law_733 : decode cL_law 733 = .ok (.iaload, 1) := bdL_law_732.2.1
theorem dL_law_734 : decode cL_law 734 = .ok (.aload_n 0, 1) := bdL_law_732.2.2.1
theorem dL_law_735 : decode cL_law 735 = .ok (.iload_n 3, 1) := bdL_law_732.2.2.2.1
theorem dL_law_736 : decode cL_law 736 = .ok (.iconst 2, 1) := bdL_law_732.2.2.2.2.1
theorem dL_law_737 : decode cL_law 737 = .ok (.iadd, 1) := bdL_law_732.2.2.2.2.2.1
theorem dL_law_738 : decode cL_law 738 = .ok (.iaload, 1) := bdL_law_732.2.2.2.2.2.2.1
theorem dL_law_739 : decode cL_law 739 = .ok (.aload_n 0, 1) := bdL_law_732.2.2.2.2.2.2.2.1
theorem dL_law_740 : decode cL_law 740 = .ok (.iload_n 3, 1) := bdL_law_732.2.2.2.2.2.2.2.2.1
theorem dL_law_741 : decode cL_law 741 = .ok (.iconst 3, 1) := bdL_law_732.2.2.2.2.2.2.2.2.2.1
theorem dL_law_742 : decode cL_law 742 = .ok (.iadd, 1) := bdL_law_732.2.2.2.2.2.2.2.2.2.2.1
theorem dL_law_743 : decode cL_law 743 = .ok (.iaload, 1) := bdL_law_732.2.2.2.2.2.2.2.2.2.2.2.1
theorem dL_law_744 : decode cL_law 744 = .ok (.invokevirtual 110, 3) := bdL_law_732.2.2.2.2.2.2.2.2.2.2.2.2.1
theorem dL_law_747 : decode cL_law 747 = .ok (.aload_n 2, 1) := bdL_law_732.2.2.2.2.2.2.2.2.2.2.2.2.2.1
theorem dL_law_748 : decode cL_law 748 = .ok (.aload_n 0, 1) := bdL_law_732.2.2.2.2.2.2.2.2.2.2.2.2.2.2.1
theorem dL_law_749 : decode cL_law 749 = .ok (.iload_n 3, 1) := bdL_law_732.2.2.2.2.2.2.2.2.2.2.2.2.2.2.2
theorem bdL_law_750 : (decode cL_law 750 = .ok (.iconst 1, 1)) ∧ (decode cL_law 751 = .ok (.iadd, 1)) ∧ (decode cL_law 752 = .ok (.iaload, 1)) ∧ (decode cL_law 753 = .ok (.aload_n 0, 1)) ∧ (decode cL_law 754 = .ok (.iload_n 3, 1)) ∧ (decode cL_law 755 = .ok (.iconst 2, 1)) ∧ (decode cL_law 756 = .ok (.iadd, 1)) ∧ (decode cL_law 757 = .ok (.iaload, 1)) ∧ (decode cL_law 758 = .ok (.aload_n 0, 1)) ∧ (decode cL_law 759 = .ok (.iload_n 3, 1)) ∧ (decode cL_law 760 = .ok (.iconst 3, 1)) ∧ (decode cL_law 761 = .ok (.iadd, 1)) ∧ (decode cL_law 762 = .ok (.iaload, 1)) ∧ (decode cL_law 763 = .ok (.invokevirtual 113, 3)) ∧ (decode cL_law 766 = .ok (.if_icmp .eq 124, 3)) ∧ (decode cL_law 769 = .ok (.iconst 0, 1)) := by decide +kernel
theorem dL_law_750 : decode cL_law 750 = .ok (.iconst 1, 1) := bdL_law_750.1
theorem dL_law_751 : decode cL_law 751 = .ok (.iadd, 1) := bdL_law_750.2.1
theorem dL_law_752 : decode cL_law 752 = .ok (.iaload, 1) := bdL_law_750.2.2.1
theorem dL_law_753 : decode cL_law 753 = .ok (.aload_n 0, 1) := bdL_law_750.2.2.2.1
theorem dL_law_754 : decode cL_law 754 = .ok (.iload_n 3, 1) := bdL_law_750.2.2.2.2.1
theorem dL_law_755 : decode cL_law 755 = .ok (.iconst 2, 1) := bdL_law_750.2.2.2.2.2.1
theorem dL_law_756 : decode cL_law 756 = .ok (.iadd, 1) := bdL_law_750.2.2.2.2.2.2.1
theorem dL_law_757 : decode cL_law 757 = .ok (.iaload, 1) := bdL_law_750.2.2.2.2.2.2.2.1
theorem dL_law_758 : decode cL_law 758 = .ok (.aload_n 0, 1) := bdL_law_750.2.2.2.2.2.2.2.2.1
theorem dL_law_759 : decode cL_law 759 = .ok (.iload_n 3, 1) := bdL_law_750.2.2.2.2.2.2.2.2.2.1
theorem dL_law_760 : decode cL_law 760 = .ok (.iconst 3, 1) := bdL_law_750.2.2.2.2.2.2.2.2.2.2.1
theorem dL_law_761 : decode cL_law 761 = .ok (.iadd, 1) := bdL_law_750.2.2.2.2.2.2.2.2.2.2.2.1
theorem dL_law_762 : decode cL_law 762 = .ok (.iaload, 1) := bdL_law_750.2.2.2.2.2.2.2.2.2.2.2.2.1
theorem dL_law_763 : decode cL_law 763 = .ok (.invokevirtual 113, 3) := bdL_law_750.2.2.2.2.2.2.2.2.2.2.2.2.2.1
theorem dL_law_766 : decode cL_law 766 = .ok (.if_icmp .eq 124, 3) := bdL_law_750.2.2.2.2.2.2.2.2.2.2.2.2.2.2.1
theorem dL_law_769 : decode cL_law 769 = .ok (.iconst 0, 1) := bdL_law_750.2.2.2.2.2.2.2.2.2.2.2.2.2.2.2
theorem bdL_law_770 : (decode cL_law 770 = .ok (.ireturn, 1)) ∧ (decode cL_law 771 = .ok (.aload_n 1, 1)) ∧ (decode cL_law 772 = .ok (.aload_n 0, 1)) ∧ (decode cL_law 773 = .ok (.iload_n 3, 1)) ∧ (decode cL_law 774 = .ok (.iconst 1, 1)) ∧ (decode cL_law 775 = .ok (.iadd, 1)) ∧ (decode cL_law 776 = .ok (.iaload, 1)) ∧ (decode cL_law 777 = .ok (.invokevirtual 114, 3)) ∧ (decode cL_law 780 = .ok (.pop, 1)) ∧ (decode cL_law 781 = .ok (.aload_n 2, 1)) ∧ (decode cL_law 782 = .ok (.aload_n 0, 1)) ∧ (decode cL_law 783 = .ok (.iload_n 3, 1)) ∧ (decode cL_law 784 = .ok (.iconst 1, 1)) ∧ (decode cL_law 785 = .ok (.iadd, 1)) ∧ (decode cL_law 786 = .ok (.iaload, 1)) ∧ (decode cL_law 787 = .ok (.invokevirtual 117, 3)) := by decide +kernel
theorem dL_law_770 : decode cL_law 770 = .ok (.ireturn, 1) := bdL_law_770.1
theorem dL_law_771 : decode cL_law 771 = .ok (.aload_n 1, 1) := bdL_law_770.2.1
theorem dL_law_772 : decode cL_law 772 = .ok (.aload_n 0, 1) := bdL_law_770.2.2.1
theorem dL_law_773 : decode cL_law 773 = .ok (.iload_n 3, 1) := bdL_law_770.2.2.2.1
theorem dL_law_774 : decode cL_law 774 = .ok (.iconst 1, 1) := bdL_law_770.2.2.2.2.1
theorem dL_law_775 : decode cL_law 775 = .ok (.iadd, 1) := bdL_law_770.2.2.2.2.2.1
theorem dL_law_776 : decode cL_law 776 = .ok (.iaload, 1) := bdL_law_770.2.2.2.2.2.2.1
theorem dL_law_777 : decode cL_law 777 = .ok (.invokevirtual 114, 3) := bdL_law_770.2.2.2.2.2.2.2.1
theorem dL_law_780 : decode cL_law 780 = .ok (.pop, 1) := bdL_law_770.2.2.2.2.2.2.2.2.1
theorem dL_law_781 : decode cL_law 781 = .ok (.aload_n 2, 1) := bdL_law_770.2.2.2.2.2.2.2.2.2.1
theorem dL_law_782 : decode cL_law 782 = .ok (.aload_n 0, 1) := bdL_law_770.2.2.2.2.2.2.2.2.2.2.1
theorem dL_law_783 : decode cL_law 783 = .ok (.iload_n 3, 1) := bdL_law_770.2.2.2.2.2.2.2.2.2.2.2.1
theorem dL_law_784 : decode cL_law 784 = .ok (.iconst 1, 1) := bdL_law_770.2.2.2.2.2.2.2.2.2.2.2.2.1
theorem dL_law_785 : decode cL_law 785 = .ok (.iadd, 1) := bdL_law_770.2.2.2.2.2.2.2.2.2.2.2.2.2.1
theorem dL_law_786 : decode cL_law 786 = .ok (.iaload, 1) := bdL_law_770.2.2.2.2.2.2.2.2.2.2.2.2.2.2.1
theorem dL_law_787 : decode cL_law 787 = .ok (.invokevirtual 117, 3) := bdL_law_770.2.2.2.2.2.2.2.2.2.2.2.2.2.2.2
theorem bdL_law_790 : (decode cL_law 790 = .ok (.pop, 1)) ∧ (decode cL_law 791 = .ok (.goto 99, 3)) ∧ (decode cL_law 794 = .ok (.aload_n 1, 1)) ∧ (decode cL_law 795 = .ok (.aload_n 0, 1)) ∧ (decode cL_law 796 = .ok (.iload_n 3, 1)) ∧ (decode cL_law 797 = .ok (.iconst 1, 1)) ∧ (decode cL_law 798 = .ok (.iadd, 1)) ∧ (decode cL_law 799 = .ok (.iaload, 1)) ∧ (decode cL_law 800 = .ok (.aload_n 0, 1)) ∧ (decode cL_law 801 = .ok (.iload_n 3, 1)) ∧ (decode cL_law 802 = .ok (.iconst 2, 1)) ∧ (decode cL_law 803 = .ok (.iadd, 1)) ∧ (decode cL_law 804 = .ok (.iaload, 1)) ∧ (decode cL_law 805 = .ok (.aload_n 0, 1)) ∧ (decode cL_law 806 = .ok (.iload_n 3, 1)) ∧ (decode cL_law 807 = .ok (.iconst 3, 1)) := by decide +kernel
theorem dL_law_790 : decode cL_law 790 = .ok (.pop, 1) := bdL_law_790.1
theorem dL_law_791 : decode cL_law 791 = .ok (.goto 99, 3) := bdL_law_790.2.1
theorem dL_law_794 : decode cL_law 794 = .ok (.aload_n 1, 1) := bdL_law_790.2.2.1
theorem dL_law_795 : decode cL_law 795 = .ok (.aload_n 0, 1) := bdL_law_790.2.2.2.1
theorem dL_law_796 : decode cL_law 796 = .ok (.iload_n 3, 1) := bdL_law_790.2.2.2.2.1
theorem dL_law_797 : decode cL_law 797 = .ok (.iconst 1, 1) := bdL_law_790.2.2.2.2.2.1
theorem dL_law_798 : decode cL_law 798 = .ok (.iadd, 1) := bdL_law_790.2.2.2.2.2.2.1
theorem dL_law_799 : decode cL_law 799 = .ok (.iaload, 1) := bdL_law_790.2.2.2.2.2.2.2.1
theorem dL_law_800 : decode cL_law 800 = .ok (.aload_n 0, 1) := bdL_law_790.2.2.2.2.2.2.2.2.1
theorem dL_law_801 : decode cL_law 801 = .ok (.iload_n 3, 1) := bdL_law_790.2.2.2.2.2.2.2.2.2.1
theorem dL_law_802 : decode cL_law 802 = .ok (.iconst 2, 1) := bdL_law_790.2.2.2.2.2.2.2.2.2.2.1
theorem dL_law_803 : decode cL_law 803 = .ok (.iadd, 1) := bdL_law_790.2.2.2.2.2.2.2.2.2.2.2.1
theorem dL_law_804 : decode cL_law 804 = .ok (.iaload, 1) := bdL_law_790.2.2.2.2.2.2.2.2.2.2.2.2.1
theorem dL_law_805 : decode cL_law 805 = .ok (.aload_n 0, 1) := bdL_law_790.2.2.2.2.2.2.2.2.2.2.2.2.2.1
theorem dL_law_806 : decode cL_law 806 = .ok (.iload_n 3, 1) := bdL_law_790.2.2.2.2.2.2.2.2.2.2.2.2.2.2.1
theorem dL_law_807 : decode cL_law 807 = .ok (.iconst 3, 1) := bdL_law_790.2.2.2.2.2.2.2.2.2.2.2.2.2.2.2
theorem bdL_law_808 : (decode cL_law 808 = .ok (.iadd, 1)) ∧ (decode cL_law 809 = .ok (.iaload, 1)) ∧ (decode cL_law 810 = .ok (.aload_n 0, 1)) ∧ (decode cL_law 811 = .ok (.iload_n 3, 1)) ∧ (decode cL_law 812 = .ok (.iconst 4, 1)) ∧ (decode cL_law 813 = .ok (.iadd, 1)) ∧ (decode cL_law 814 = .ok (.iaload, 1)) ∧ (decode cL_law 815 = .ok (.invokevirtual 118, 3)) ∧ (decode cL_law 818 = .ok (.pop, 1)) ∧ (decode cL_law 819 = .ok (.aload_n 2, 1)) ∧ (decode cL_law 820 = .ok (.aload_n 0, 1)) ∧ (decode cL_law 821 = .ok (.iload_n 3, 1)) ∧ (decode cL_law 822 = .ok (.iconst 1, 1)) ∧ (decode cL_law 823 = .ok (.iadd, 1)) ∧ (decode cL_law 824 = .ok (.iaload, 1)) ∧ (decode cL_law 825 = .ok (.aload_n 0, 1)) := by decide +kernel
theorem dL_law_808 : decode cL_law 808 = .ok (.iadd, 1) := bdL_law_808.1
theorem dL_law_809 : decode cL_law 809 = .ok (.iaload, 1) := bdL_law_808.2.1
theorem dL_law_810 : decode cL_law 810 = .ok (.aload_n 0, 1) := bdL_law_808.2.2.1
theorem dL_law_811 : decode cL_law 811 = .ok (.iload_n 3, 1) := bdL_law_808.2.2.2.1
theorem dL_law_812 : decode cL_law 812 = .ok (.iconst 4, 1) := bdL_law_808.2.2.2.2.1
theorem dL_law_813 : decode cL_law 813 = .ok (.iadd, 1) := bdL_law_808.2.2.2.2.2.1
theorem dL_law_814 : decode cL_law 814 = .ok (.iaload, 1) := bdL_law_808.2.2.2.2.2.2.1
theorem dL_law_815 : decode cL_law 815 = .ok (.invokevirtual 118, 3) := bdL_law_808.2.2.2.2.2.2.2.1
theorem dL_law_818 : decode cL_law 818 = .ok (.pop, 1) := bdL_law_808.2.2.2.2.2.2.2.2.1
theorem dL_law_819 : decode cL_law 819 = .ok (.aload_n 2, 1) := bdL_law_808.2.2.2.2.2.2.2.2.2.1
theorem dL_law_820 : decode cL_law 820 = .ok (.aload_n 0, 1) := bdL_law_808.2.2.2.2.2.2.2.2.2.2.1
theorem dL_law_821 : decode cL_law 821 = .ok (.iload_n 3, 1) := bdL_law_808.2.2.2.2.2.2.2.2.2.2.2.1
theorem dL_law_822 : decode cL_law 822 = .ok (.iconst 1, 1) := bdL_law_808.2.2.2.2.2.2.2.2.2.2.2.2.1
theorem dL_law_823 : decode cL_law 823 = .ok (.iadd, 1) := bdL_law_808.2.2.2.2.2.2.2.2.2.2.2.2.2.1
theorem dL_law_824 : decode cL_law 824 = .ok (.iaload, 1) := bdL_law_808.2.2.2.2.2.2.2.2.2.2.2.2.2.2.1
theorem dL_law_825 : decode cL_law 825 = .ok (.aload_n 0, 1) := bdL_law_808.2.2.2.2.2.2.2.2.2.2.2.2.2.2.2
theorem bdL_law_826 : (decode cL_law 826 = .ok (.iload_n 3, 1)) ∧ (decode cL_law 827 = .ok (.iconst 2, 1)) ∧ (decode cL_law 828 = .ok (.iadd, 1)) ∧ (decode cL_law 829 = .ok (.iaload, 1)) ∧ (decode cL_law 830 = .ok (.aload_n 0, 1)) ∧ (decode cL_law 831 = .ok (.iload_n 3, 1)) ∧ (decode cL_law 832 = .ok (.iconst 3, 1)) ∧ (decode cL_law 833 = .ok (.iadd, 1)) ∧ (decode cL_law 834 = .ok (.iaload, 1)) ∧ (decode cL_law 835 = .ok (.aload_n 0, 1)) ∧ (decode cL_law 836 = .ok (.iload_n 3, 1)) ∧ (decode cL_law 837 = .ok (.iconst 4, 1)) ∧ (decode cL_law 838 = .ok (.iadd, 1)) ∧ (decode cL_law 839 = .ok (.iaload, 1)) ∧ (decode cL_law 840 = .ok (.invokevirtual 122, 3)) ∧ (decode cL_law 843 = .ok (.pop, 1)) := by decide +kernel
theorem dL_law_826 : decode cL_law 826 = .ok (.iload_n 3, 1) := bdL_law_826.1
theorem dL_law_827 : decode cL_law 827 = .ok (.iconst 2, 1) := bdL_law_826.2.1
theorem dL_law_828 : decode cL_law 828 = .ok (.iadd, 1) := bdL_law_826.2.2.1
theorem dL_law_829 : decode cL_law 829 = .ok (.iaload, 1) := bdL_law_826.2.2.2.1
theorem dL_law_830 : decode cL_law 830 = .ok (.aload_n 0, 1) := bdL_law_826.2.2.2.2.1
theorem dL_law_831 : decode cL_law 831 = .ok (.iload_n 3, 1) := bdL_law_826.2.2.2.2.2.1
theorem dL_law_832 : decode cL_law 832 = .ok (.iconst 3, 1) := bdL_law_826.2.2.2.2.2.2.1
theorem dL_law_833 : decode cL_law 833 = .ok (.iadd, 1) := bdL_law_826.2.2.2.2.2.2.2.1
theorem dL_law_834 : decode cL_law 834 = .ok (.iaload, 1) := bdL_law_826.2.2.2.2.2.2.2.2.1
theorem dL_law_835 : decode cL_law 835 = .ok (.aload_n 0, 1) := bdL_law_826.2.2.2.2.2.2.2.2.2.1
theorem dL_law_836 : decode cL_law 836 = .ok (.iload_n 3, 1) := bdL_law_826.2.2.2.2.2.2.2.2.2.2.1
theorem dL_law_837 : decode cL_law 837 = .ok (.iconst 4, 1) := bdL_law_826.2.2.2.2.2.2.2.2.2.2.2.1
theorem dL_law_838 : decode cL_law 838 = .ok (.iadd, 1) := bdL_law_826.2.2.2.2.2.2.2.2.2.2.2.2.1
theorem dL_law_839 : decode cL_law 839 = .ok (.iaload, 1) := bdL_law_826.2.2.2.2.2.2.2.2.2.2.2.2.2.1
theorem dL_law_840 : decode cL_law 840 = .ok (.invokevirtual 122, 3) := bdL_law_826.2.2.2.2.2.2.2.2.2.2.2.2.2.2.1
theorem dL_law_843 : decode cL_law 843 = .ok (.pop, 1) := bdL_law_826.2.2.2.2.2.2.2.2.2.2.2.2.2.2.2
theorem bdL_law_844 : (decode cL_law 844 = .ok (.goto 46, 3)) ∧ (decode cL_law 847 = .ok (.aload_n 1, 1)) ∧ (decode cL_law 848 = .ok (.aload_n 0, 1)) ∧ (decode cL_law 849 = .ok (.iload_n 3, 1)) ∧ (decode cL_law 850 = .ok (.iconst 1, 1)) ∧ (decode cL_law 851 = .ok (.iadd, 1)) ∧ (decode cL_law 852 = .ok (.iaload, 1)) ∧ (decode cL_law 853 = .ok (.aload_n 0, 1)) ∧ (decode cL_law 854 = .ok (.iload_n 3, 1)) ∧ (decode cL_law 855 = .ok (.iconst 2, 1)) ∧ (decode cL_law 856 = .ok (.iadd, 1)) ∧ (decode cL_law 857 = .ok (.iaload, 1)) ∧ (decode cL_law 858 = .ok (.aload_n 0, 1)) ∧ (decode cL_law 859 = .ok (.iload_n 3, 1)) ∧ (decode cL_law 860 = .ok (.iconst 3, 1)) ∧ (decode cL_law 861 = .ok (.iadd, 1)) := by decide +kernel
theorem dL_law_844 : decode cL_law 844 = .ok (.goto 46, 3) := bdL_law_844.1
theorem dL_law_847 : decode cL_law 847 = .ok (.aload_n 1, 1) := bdL_law_844.2.1
theorem dL_law_848 : decode cL_law 848 = .ok (.aload_n 0, 1) := bdL_law_844.2.2.1
theorem dL_law_849 : decode cL_law 849 = .ok (.iload_n 3, 1) := bdL_law_844.2.2.2.1
theorem dL_law_850 : decode cL_law 850 = .ok (.iconst 1, 1) := bdL_law_844.2.2.2.2.1
theorem dL_law_851 : decode cL_law 851 = .ok (.iadd, 1) := bdL_law_844.2.2.2.2.2.1
theorem dL_law_852 : decode cL_law 852 = .ok (.iaload, 1) := bdL_law_844.2.2.2.2.2.2.1
theorem dL_law_853 : decode cL_law 853 = .ok (.aload_n 0, 1) := bdL_law_844.2.2.2.2.2.2.2.1
theorem dL_law_854 : decode cL_law 854 = .ok (.iload_n 3, 1) := bdL_law_844.2.2.2.2.2.2.2.2.1
theorem dL_law_855 : decode cL_law 855 = .ok (.iconst 2, 1) := bdL_law_844.2.2.2.2.2.2.2.2.2.1
theorem dL_law_856 : decode cL_law 856 = .ok (.iadd, 1) := bdL_law_844.2.2.2.2.2.2.2.2.2.2.1
theorem dL_law_857 : decode cL_law 857 = .ok (.iaload, 1) := bdL_law_844.2.2.2.2.2.2.2.2.2.2.2.1
theorem dL_law_858 : decode cL_law 858 = .ok (.aload_n 0, 1) := bdL_law_844.2.2.2.2.2.2.2.2.2.2.2.2.1
theorem dL_law_859 : decode cL_law 859 = .ok (.iload_n 3, 1) := bdL_law_844.2.2.2.2.2.2.2.2.2.2.2.2.2.1
theorem dL_law_860 : decode cL_law 860 = .ok (.iconst 3, 1) := bdL_law_844.2.2.2.2.2.2.2.2.2.2.2.2.2.2.1
theorem dL_law_861 : decode cL_law 861 = .ok (.iadd, 1) := bdL_law_844.2.2.2.2.2.2.2.2.2.2.2.2.2.2.2
theorem bdL_law_862 : (decode cL_law 862 = .ok (.iaload, 1)) ∧ (decode cL_law 863 = .ok (.invokevirtual 123, 3)) ∧ (decode cL_law 866 = .ok (.pop, 1)) ∧ (decode cL_law 867 = .ok (.aload_n 2, 1)) ∧ (decode cL_law 868 = .ok (.aload_n 0, 1)) ∧ (decode cL_law 869 = .ok (.iload_n 3, 1)) ∧ (decode cL_law 870 = .ok (.iconst 1, 1)) ∧ (decode cL_law 871 = .ok (.iadd, 1)) ∧ (decode cL_law 872 = .ok (.iaload, 1)) ∧ (decode cL_law 873 = .ok (.aload_n 0, 1)) ∧ (decode cL_law 874 = .ok (.iload_n 3, 1)) ∧ (decode cL_law 875 = .ok (.iconst 2, 1)) ∧ (decode cL_law 876 = .ok (.iadd, 1)) ∧ (decode cL_law 877 = .ok (.iaload, 1)) ∧ (decode cL_law 878 = .ok (.aload_n 0, 1)) ∧ (decode cL_law 879 = .ok (.iload_n 3, 1)) := by decide +kernel
theorem dL_law_862 : decode cL_law 862 = .ok (.iaload, 1) := bdL_law_862.1
theorem dL_law_863 : decode cL_law 863 = .ok (.invokevirtual 123, 3) := bdL_law_862.2.1
theorem dL_law_866 : decode cL_law 866 = .ok (.pop, 1) := bdL_law_862.2.2.1
theorem dL_law_867 : decode cL_law 867 = .ok (.aload_n 2, 1) := bdL_law_862.2.2.2.1
theorem dL_law_868 : decode cL_law 868 = .ok (.aload_n 0, 1) := bdL_law_862.2.2.2.2.1
theorem dL_law_869 : decode cL_law 869 = .ok (.iload_n 3, 1) := bdL_law_862.2.2.2.2.2.1
theorem dL_law_870 : decode cL_law 870 = .ok (.iconst 1, 1) := bdL_law_862.2.2.2.2.2.2.1
theorem dL_law_871 : decode cL_law 871 = .ok (.iadd, 1) := bdL_law_862.2.2.2.2.2.2.2.1
theorem dL_law_872 : decode cL_law 872 = .ok (.iaload, 1) := bdL_law_862.2.2.2.2.2.2.2.2.1
theorem dL_law_873 : decode cL_law 873 = .ok (.aload_n 0, 1) := bdL_law_862.2.2.2.2.2.2.2.2.2.1
theorem dL_law_874 : decode cL_law 874 = .ok (.iload_n 3, 1) := bdL_law_862.2.2.2.2.2.2.2.2.2.2.1
theorem dL_law_875 : decode cL_law 875 = .ok (.iconst 2, 1) := bdL_law_862.2.2.2.2.2.2.2.2.2.2.2.1
theorem dL_law_876 : decode cL_law 876 = .ok (.iadd, 1) := bdL_law_862.2.2.2.2.2.2.2.2.2.2.2.2.1
theorem dL_law_877 : decode cL_law 877 = .ok (.iaload, 1) := bdL_law_862.2.2.2.2.2.2.2.2.2.2.2.2.2.1
theorem dL_law_878 : decode cL_law 878 = .ok (.aload_n 0, 1) := bdL_law_862.2.2.2.2.2.2.2.2.2.2.2.2.2.2.1
theorem dL_law_879 : decode cL_law 879 = .ok (.iload_n 3, 1) := bdL_law_862.2.2.2.2.2.2.2.2.2.2.2.2.2.2.2
theorem bdL_law_880 : (decode cL_law 880 = .ok (.iconst 3, 1)) ∧ (decode cL_law 881 = .ok (.iadd, 1)) ∧ (decode cL_law 882 = .ok (.iaload, 1)) ∧ (decode cL_law 883 = .ok (.invokevirtual 126, 3)) ∧ (decode cL_law 886 = .ok (.pop, 1)) ∧ (decode cL_law 887 = .ok (.goto 3, 3)) ∧ (decode cL_law 890 = .ok (.iinc 3 5, 3)) ∧ (decode cL_law 893 = .ok (.goto (-875), 3)) ∧ (decode cL_law 896 = .ok (.iconst 1, 1)) ∧ (decode cL_law 897 = .ok (.ireturn, 1)) := by decide +kernel
theorem dL_law_880 : decode cL_law 880 = .ok (.iconst 3, 1) := bdL_law_880.1
theorem dL_law_881 : decode cL_law 881 = .ok (.iadd, 1) := bdL_law_880.2.1
theorem dL_law_882 : decode cL_law 882 = .ok (.iaload, 1) := bdL_law_880.2.2.1
theorem dL_law_883 : decode cL_law 883 = .ok (.invokevirtual 126, 3) := bdL_law_880.2.2.2.1
theorem dL_law_886 : decode cL_law 886 = .ok (.pop, 1) := bdL_law_880.2.2.2.2.1
theorem dL_law_887 : decode cL_law 887 = .ok (.goto 3, 3) := bdL_law_880.2.2.2.2.2.1
theorem dL_law_890 : decode cL_law 890 = .ok (.iinc 3 5, 3) := bdL_law_880.2.2.2.2.2.2.1
theorem dL_law_893 : decode cL_law 893 = .ok (.goto (-875), 3) := bdL_law_880.2.2.2.2.2.2.2.1
theorem dL_law_896 : decode cL_law 896 = .ok (.iconst 1, 1) := bdL_law_880.2.2.2.2.2.2.2.2.1
theorem dL_law_897 : decode cL_law 897 = .ok (.ireturn, 1) := bdL_law_880.2.2.2.2.2.2.2.2.2

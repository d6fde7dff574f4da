set_option maxRecDepth 20000 in
theorem ggL_law_X5_init : GoodIn wsL_law wsX5_init := goodIn_r _ [9, 10, 11, 12, 13, 14, 15, 16, 17, 18, 19, 20, 21, 22, 23, 24, 25, 26, 27, 28, 29, 30, 31, 32, 33, 34, 35, 36, 37, 38, 39, 40, 41, 42, 43, 44, 45, 46, 47, 48, 49, 50, 51, 52, 53, 54, 55, 56, 57, 58, 59, 60, 61, 62, 63, 64, 65, 66, 67, 68, 69, 70, 71, 72, 73, 74, 75, 76, 77, 78, 79, 80, 81, 82, 83, 84, 85, 86, 87, 88, 89, 839, 840, 841, 842, 803, 804, 805, 806, 807, 808, 809, 810, 811, 812, 843, 844, 845, 846, 847, 848, 849, 850, 851, 852, 853, 854, 855, 856, 857, 858, 859, 860, 861, 862, 863, 864] (by decide +kernel) (by decide +kernel)
set_option maxRecDepth 20000 in
theorem gL_law_X5_init : GoodIn wsL_law (wsX5_init) := ggL_law_X5_init
set_option maxRecDepth 20000 in
theorem ggL_law_X6_init : GoodIn wsL_law wsX6_init := goodIn_r _ [92, 93, 11, 12, 94, 34, 95, 96, 97, 98, 99, 100, 101, 102, 103, 104, 74, 105, 106, 107, 108, 813, 814, 815, 816, 817, 818, 819, 820, 821, 822, 823, 824, 825, 826, 827, 828, 829, 830, 831, 832, 833, 834, 835, 836, 837, 838] (by decide +kernel) (by decide +kernel)
set_option maxRecDepth 20000 in
theorem gL_law_X6_init : GoodIn wsL_law (wsX6_init) := ggL_law_X6_init
set_option maxRecDepth 20000 in
theorem ggL_law_L_addGate : GoodIn wsL_law wsL_addGate := goodIn_ca (goodIn_r _ [112, 113, 114, 115, 116, 2, 117, 118, 119, 16, 120, 121, 122, 123, 37, 33, 124, 125, 126, 32, 127, 88, 128, 129, 130, 15, 131, 45, 132, 133, 134, 135, 44, 46, 803, 804, 805, 806, 807, 808, 809, 810, 811, 812, 861, 862, 863, 864, 839, 840, 841, 842] (by decide +kernel) (by decide +kernel)) (goodIn_sub (fun _ h => List.mem_append_left _ (List.mem_append_left _ (List.mem_append_right _ h))) (by decide +kernel))
set_option maxRecDepth 20000 in
theorem gL_law_L_addGate : GoodIn wsL_law (va_wsS RL 97 yL_addGate wsL_addGate) := goodIn_app (goodIn_of _ (by decide +kernel)) ggL_law_L_addGate
set_option maxRecDepth 20000 in
theorem ggL_law_X6_addGate : GoodIn wsL_law wsX6_addGate := goodIn_r _ [139, 140, 94, 141, 142, 143, 144, 5, 145, 146, 813, 814, 815, 816, 817, 818, 819, 820, 821, 822, 823, 824, 825, 826, 827, 828, 829, 830, 831, 832, 833, 834, 835, 836, 837, 838] (by decide +kernel) (by decide +kernel)
set_option maxRecDepth 20000 in
theorem gL_law_X6_addGate : GoodIn wsL_law (wsV RL 102 RX6 yX6_addGate wsX6_addGate) := goodIn_app (goodIn_of _ (by decide +kernel)) ggL_law_X6_addGate
set_option maxRecDepth 20000 in
theorem ggL_law_X6_thrown : GoodIn wsL_law wsX6_thrown := goodIn_r _ [150, 146, 813, 814, 815, 816, 817, 818, 819, 820, 821, 822, 823, 824, 825, 826, 827, 828, 829, 830, 831, 832, 833, 834, 835, 836, 837, 838] (by decide +kernel) (by decide +kernel)
set_option maxRecDepth 20000 in
theorem gL_law_X6_thrown : GoodIn wsL_law (wsV RL 103 RX6 yX6_thrown wsX6_thrown) := goodIn_app (goodIn_of _ (by decide +kernel)) ggL_law_X6_thrown
set_option maxRecDepth 20000 in
theorem ggL_law_L_addWay : GoodIn wsL_law wsL_addWay := goodIn_ca (goodIn_ca (goodIn_ca (goodIn_r _ [153, 154, 155, 113, 156, 157, 158, 2, 159, 160, 161, 16, 162, 163, 164, 165, 166, 167, 168, 169, 170, 15, 171, 45, 120, 121, 122, 123, 118, 119, 37, 33, 124, 125, 126, 32, 127, 88, 172, 173, 174, 175, 43, 176, 177, 178, 179, 180, 181, 182, 183, 44, 184, 185, 186, 187, 188, 189, 190, 191, 192, 193, 194, 195, 196, 803, 804, 805, 806, 807, 808, 809, 810, 811, 812, 839, 840, 841, 842, 861, 862, 863, 864] (by decide +kernel) (by decide +kernel)) (goodIn_sub (fun _ h => List.mem_append_left _ (List.mem_append_right _ h)) (by decide +kernel))) (goodIn_sub (fun _ h => List.mem_append_right _ h) (by decide +kernel))) (goodIn_sub (fun _ h => List.mem_append_left _ (List.mem_append_left _ (List.mem_append_right _ h))) (by decide +kernel))
set_option maxRecDepth 20000 in
theorem gL_law_L_addWay : GoodIn wsL_law (va_wsS RL 106 yL_addWay wsL_addWay) := goodIn_app (goodIn_of _ (by decide +kernel)) ggL_law_L_addWay
set_option maxRecDepth 20000 in
theorem ggL_law_X6_addWay : GoodIn wsL_law wsX6_addWay := goodIn_r _ [200, 140, 95, 201, 202, 203, 5, 204, 94, 205, 206, 207, 142, 143, 144, 145, 146, 813, 814, 815, 816, 817, 818, 819, 820, 821, 822, 823, 824, 825, 826, 827, 828, 829, 830, 831, 832, 833, 834, 835, 836, 837, 838] (by decide +kernel) (by decide +kernel)
set_option maxRecDepth 20000 in
theorem gL_law_X6_addWay : GoodIn wsL_law (wsV RL 109 RX6 yX6_addWay wsX6_addWay) := goodIn_app (goodIn_of _ (by decide +kernel)) ggL_law_X6_addWay
set_option maxRecDepth 20000 in
theorem ggL_law_L_addKart : GoodIn wsL_law wsL_addKart := goodIn_ca (goodIn_ca (goodIn_r _ [210, 154, 113, 211, 212, 213, 2, 214, 118, 119, 36, 35, 215, 216, 217, 218, 166, 167, 120, 121, 122, 123, 37, 33, 124, 125, 126, 32, 127, 88, 803, 804, 805, 806, 807, 808, 809, 810, 811, 812, 861, 862, 863, 864] (by decide +kernel) (by decide +kernel)) (goodIn_sub (fun _ h => List.mem_append_left _ (List.mem_append_left _ (List.mem_append_right _ h))) (by decide +kernel))) (goodIn_sub (fun _ h => List.mem_append_right _ h) (by decide +kernel))
set_option maxRecDepth 20000 in
theorem gL_law_L_addKart : GoodIn wsL_law (va_wsS RL 110 yL_addKart wsL_addKart) := goodIn_app (goodIn_of _ (by decide +kernel)) ggL_law_L_addKart
set_option maxRecDepth 20000 in
theorem ggL_law_X6_addKart : GoodIn wsL_law wsX6_addKart := goodIn_r _ [222, 140, 223, 97, 205, 206, 5, 207, 142, 143, 144, 145, 146, 813, 814, 815, 816, 817, 818, 819, 820, 821, 822, 823, 824, 825, 826, 827, 828, 829, 830, 831, 832, 833, 834, 835, 836, 837, 838] (by decide +kernel) (by decide +kernel)
set_option maxRecDepth 20000 in
theorem gL_law_X6_addKart : GoodIn wsL_law (wsV RL 113 RX6 yX6_addKart wsX6_addKart) := goodIn_app (goodIn_of _ (by decide +kernel)) ggL_law_X6_addKart
set_option maxRecDepth 20000 in
theorem ggL_law_X5_gates : GoodIn wsL_law wsX5_gates := goodIn_r _ [227, 16, 168, 169, 170, 15, 171, 45, 803, 804, 805, 806, 807, 808, 809, 810, 811, 812, 839, 840, 841, 842] (by decide +kernel) (by decide +kernel)
set_option maxRecDepth 20000 in
theorem gL_law_X5_gates : GoodIn wsL_law (wsV RL 114 RX5 yX5_gates wsX5_gates) := goodIn_app (goodIn_of _ (by decide +kernel)) ggL_law_X5_gates
set_option maxRecDepth 20000 in
theorem ggL_law_X6_gates : GoodIn wsL_law wsX6_gates := goodIn_r _ [231, 94, 232, 233, 234, 5, 235, 146, 813, 814, 815, 816, 817, 818, 819, 820, 821, 822, 823, 824, 825, 826, 827, 828, 829, 830, 831, 832, 833, 834, 835, 836, 837, 838] (by decide +kernel) (by decide +kernel)
set_option maxRecDepth 20000 in
theorem gL_law_X6_gates : GoodIn wsL_law (wsV RL 117 RX6 yX6_gates wsX6_gates) := goodIn_app (goodIn_of _ (by decide +kernel)) ggL_law_X6_gates
set_option maxRecDepth 20000 in
theorem ggL_law_X5_karts : GoodIn wsL_law wsX5_karts := goodIn_r _ [239, 36, 803, 804, 805, 806, 807, 808, 809, 810, 811, 812] (by decide +kernel) (by decide +kernel)
set_option maxRecDepth 20000 in
theorem gL_law_X5_karts : GoodIn wsL_law (wsV RL 118 RX5 yX5_karts wsX5_karts) := goodIn_app (goodIn_of _ (by decide +kernel)) ggL_law_X5_karts
set_option maxRecDepth 20000 in
theorem ggL_law_X6_karts : GoodIn wsL_law wsX6_karts := goodIn_r _ [243, 223, 232, 233, 234, 5, 235, 146, 813, 814, 815, 816, 817, 818, 819, 820, 821, 822, 823, 824, 825, 826, 827, 828, 829, 830, 831, 832, 833, 834, 835, 836, 837, 838] (by decide +kernel) (by decide +kernel)
set_option maxRecDepth 20000 in
theorem gL_law_X6_karts : GoodIn wsL_law (wsV RL 121 RX6 yX6_karts wsX6_karts) := goodIn_app (goodIn_of _ (by decide +kernel)) ggL_law_X6_karts
set_option maxRecDepth 20000 in
theorem ggL_law_L_rest : GoodIn wsL_law wsL_rest := goodIn_ca (goodIn_r _ [246, 154, 247, 248, 249, 2, 250, 16, 162, 163, 164, 165, 166, 167, 168, 169, 170, 15, 171, 45, 251, 252, 253, 254, 44, 803, 804, 805, 806, 807, 808, 809, 810, 811, 812, 839, 840, 841, 842] (by decide +kernel) (by decide +kernel)) (goodIn_sub (fun _ h => List.mem_append_right _ h) (by decide +kernel))
set_option maxRecDepth 20000 in
theorem gL_law_L_rest : GoodIn wsL_law (va_wsS RL 122 yL_rest wsL_rest) := goodIn_app (goodIn_of _ (by decide +kernel)) ggL_law_L_rest
set_option maxRecDepth 20000 in
theorem ggL_law_X6_rest : GoodIn wsL_law wsX6_rest := goodIn_r _ [258, 96, 201, 202, 203, 5, 204, 94, 205, 206, 207, 142, 143, 144, 145, 146, 259, 260, 261, 262, 95, 813, 814, 815, 816, 817, 818, 819, 820, 821, 822, 823, 824, 825, 826, 827, 828, 829, 830, 831, 832, 833, 834, 835, 836, 837, 838] (by decide +kernel) (by decide +kernel)
set_option maxRecDepth 20000 in
theorem gL_law_X6_rest : GoodIn wsL_law (wsV RL 124 RX6 yX6_rest wsX6_rest) := goodIn_app (goodIn_of _ (by decide +kernel)) ggL_law_X6_rest
set_option maxRecDepth 20000 in
theorem ggL_law_L_start : GoodIn wsL_law wsL_start := goodIn_ca (goodIn_ca (goodIn_r _ [265, 155, 113, 266, 267, 268, 2, 269, 160, 161, 118, 119, 37, 33, 36, 16, 20, 25, 29, 124, 125, 126, 32, 127, 88, 270, 271, 272, 15, 273, 45, 274, 275, 276, 277, 192, 193, 194, 195, 196, 173, 174, 175, 43, 278, 279, 280, 19, 281, 59, 60, 61, 52, 53, 54, 55, 56, 282, 283, 284, 24, 285, 68, 286, 79, 80, 28, 81, 73, 75, 76, 803, 804, 805, 806, 807, 808, 809, 810, 811, 812, 861, 862, 863, 864, 839, 840, 841, 842, 843, 844, 845, 846, 847, 848, 849, 850, 851, 852, 853, 854, 855, 856, 857, 858, 859, 860] (by decide +kernel) (by decide +kernel)) (goodIn_sub (fun _ h => List.mem_append_left _ (List.mem_append_right _ h)) (by decide +kernel))) (goodIn_sub (fun _ h => List.mem_append_left _ (List.mem_append_left _ (List.mem_append_right _ h))) (by decide +kernel))
set_option maxRecDepth 20000 in
theorem gL_law_L_start : GoodIn wsL_law (va_wsS RL 125 yL_start wsL_start) := goodIn_app (goodIn_of _ (by decide +kernel)) ggL_law_L_start
set_option maxRecDepth 20000 in
theorem ggL_law_X6_start : GoodIn wsL_law wsX6_start := goodIn_r _ [290, 291, 140, 223, 292, 293, 98, 99, 100, 101, 102, 103, 104, 105, 106, 294, 295, 296, 5, 297, 94, 96, 259, 260, 261, 262, 95, 205, 206, 207, 142, 143, 144, 145, 146, 813, 814, 815, 816, 817, 818, 819, 820, 821, 822, 823, 824, 825, 826, 827, 828, 829, 830, 831, 832, 833, 834, 835, 836, 837, 838] (by decide +kernel) (by decide +kernel)
set_option maxRecDepth 20000 in
theorem gL_law_X6_start : GoodIn wsL_law (wsV RL 127 RX6 yX6_start wsX6_start) := goodIn_app (goodIn_of _ (by decide +kernel)) ggL_law_X6_start
set_option maxRecDepth 20000 in
theorem ggL_law_X5_isOn : GoodIn wsL_law wsX5_isOn := goodIn_r _ [301, 37, 803, 804, 805, 806, 807, 808, 809, 810, 811, 812] (by decide +kernel) (by decide +kernel)
set_option maxRecDepth 20000 in
theorem gL_law_X5_isOn : GoodIn wsL_law (wsV RL 128 RX5 yX5_isOn wsX5_isOn) := goodIn_app (goodIn_of _ (by decide +kernel)) ggL_law_X5_isOn
set_option maxRecDepth 20000 in
theorem ggL_law_X6_isOn : GoodIn wsL_law wsX6_isOn := goodIn_r _ [305, 146, 291, 813, 814, 815, 816, 817, 818, 819, 820, 821, 822, 823, 824, 825, 826, 827, 828, 829, 830, 831, 832, 833, 834, 835, 836, 837, 838] (by decide +kernel) (by decide +kernel)
set_option maxRecDepth 20000 in
theorem gL_law_X6_isOn : GoodIn wsL_law (wsV RL 132 RX6 yX6_isOn wsX6_isOn) := goodIn_app (goodIn_of _ (by decide +kernel)) ggL_law_X6_isOn
set_option maxRecDepth 20000 in
theorem ggL_law_L_pass : GoodIn wsL_law wsL_pass := goodIn_ca (goodIn_ca (goodIn_r _ [308, 154, 113, 309, 310, 311, 2, 312, 118, 119, 29, 38, 16, 20, 25, 313, 314, 315, 316, 166, 167, 36, 162, 163, 164, 165, 168, 169, 170, 15, 171, 45, 317, 318, 319, 320, 321, 322, 323, 324, 37, 325, 326, 327, 19, 328, 53, 60, 329, 330, 331, 28, 332, 76, 333, 334, 190, 335, 336, 337, 338, 339, 52, 340, 341, 342, 343, 192, 193, 194, 195, 196, 173, 174, 175, 43, 344, 345, 346, 24, 347, 68, 348, 349, 350, 351, 66, 67, 352, 353, 354, 355, 61, 56, 51, 356, 357, 358, 359, 360, 54, 55, 361, 362, 363, 364, 365, 366, 367, 368, 369, 370, 371, 372, 46, 373, 374, 375, 376, 377, 378, 379, 380, 381, 803, 804, 805, 806, 807, 808, 809, 810, 811, 812, 839, 840, 841, 842, 843, 844, 845, 846, 847, 848, 849, 850, 851, 852, 853, 857, 858, 859, 860, 854, 855, 856] (by decide +kernel) (by decide +kernel)) (goodIn_sub (fun _ h => List.mem_append_left _ (List.mem_append_left _ (List.mem_append_right _ h))) (by decide +kernel))) (goodIn_sub (fun _ h => List.mem_append_right _ h) (by decide +kernel))
set_option maxRecDepth 20000 in
theorem gL_law_L_pass : GoodIn wsL_law (va_wsS RL 133 yL_pass wsL_pass) := goodIn_app (goodIn_of _ (by decide +kernel)) ggL_law_L_pass
set_option maxRecDepth 20000 in
theorem ggL_law_X6_pass : GoodIn wsL_law wsX6_pass := goodIn_r _ [385, 98, 95, 291, 103, 106, 386, 293, 102, 100, 101, 141, 387, 388, 389, 5, 390, 223, 205, 206, 207, 201, 202, 203, 204, 94, 142, 143, 144, 145, 146, 391, 392, 393, 394, 99, 292, 813, 814, 815, 816, 817, 818, 819, 820, 821, 822, 823, 824, 825, 826, 827, 828, 829, 830, 831, 832, 833, 834, 835, 836, 837, 838] (by decide +kernel) (by decide +kernel)
set_option maxRecDepth 20000 in
theorem gL_law_X6_pass : GoodIn wsL_law (wsV RL 136 RX6 yX6_pass wsX6_pass) := goodIn_app (goodIn_of _ (by decide +kernel)) ggL_law_X6_pass
set_option maxRecDepth 20000 in
theorem ggL_law_L_idle : GoodIn wsL_law wsL_idle := goodIn_ca (goodIn_r _ [397, 155, 398, 399, 400, 2, 401, 160, 161, 38, 803, 804, 805, 806, 807, 808, 809, 810, 811, 812] (by decide +kernel) (by decide +kernel)) (goodIn_sub (fun _ h => List.mem_append_left _ (List.mem_append_right _ h)) (by decide +kernel))
set_option maxRecDepth 20000 in
theorem gL_law_L_idle : GoodIn wsL_law (va_wsS RL 137 yL_idle wsL_idle) := goodIn_app (goodIn_of _ (by decide +kernel)) ggL_law_L_idle
set_option maxRecDepth 20000 in
theorem ggL_law_X6_idle : GoodIn wsL_law wsX6_idle := goodIn_r _ [405, 386, 205, 206, 5, 207, 142, 143, 144, 145, 146, 813, 814, 815, 816, 817, 818, 819, 820, 821, 822, 823, 824, 825, 826, 827, 828, 829, 830, 831, 832, 833, 834, 835, 836, 837, 838] (by decide +kernel) (by decide +kernel)
set_option maxRecDepth 20000 in
theorem gL_law_X6_idle : GoodIn wsL_law (wsV RL 139 RX6 yX6_idle wsX6_idle) := goodIn_app (goodIn_of _ (by decide +kernel)) ggL_law_X6_idle
set_option maxRecDepth 20000 in
theorem ggL_law_L_gateOf : GoodIn wsL_law wsL_gateOf := goodIn_ca (goodIn_ca (goodIn_r _ [408, 154, 113, 409, 410, 411, 2, 412, 20, 313, 314, 315, 316, 166, 167, 36, 321, 322, 323, 324, 118, 119, 37, 336, 337, 338, 19, 339, 52, 803, 804, 805, 806, 807, 808, 809, 810, 811, 812, 843, 844, 845, 846, 847, 848, 849, 850, 851, 852, 853] (by decide +kernel) (by decide +kernel)) (goodIn_sub (fun _ h => List.mem_append_right _ h) (by decide +kernel))) (goodIn_sub (fun _ h => List.mem_append_left _ (List.mem_append_left _ (List.mem_append_right _ h))) (by decide +kernel))
set_option maxRecDepth 20000 in
theorem gL_law_L_gateOf : GoodIn wsL_law (va_wsS RL 140 yL_gateOf wsL_gateOf) := goodIn_app (goodIn_of _ (by decide +kernel)) ggL_law_L_gateOf
set_option maxRecDepth 20000 in
theorem ggL_law_X6_gateOf : GoodIn wsL_law wsX6_gateOf := goodIn_r _ [416, 98, 417, 418, 419, 5, 420, 291, 387, 388, 389, 390, 223, 205, 206, 207, 142, 143, 144, 145, 146, 813, 814, 815, 816, 817, 818, 819, 820, 821, 822, 823, 824, 825, 826, 827, 828, 829, 830, 831, 832, 833, 834, 835, 836, 837, 838] (by decide +kernel) (by decide +kernel)
set_option maxRecDepth 20000 in
theorem gL_law_X6_gateOf : GoodIn wsL_law (wsV RL 142 RX6 yX6_gateOf wsX6_gateOf) := goodIn_app (goodIn_of _ (by decide +kernel)) ggL_law_X6_gateOf
set_option maxRecDepth 20000 in
theorem ggL_law_L_lapsOf : GoodIn wsL_law wsL_lapsOf := goodIn_ca (goodIn_ca (goodIn_r _ [423, 154, 113, 424, 425, 426, 2, 427, 20, 313, 314, 315, 316, 166, 167, 36, 321, 322, 323, 324, 118, 119, 37, 428, 429, 430, 19, 431, 53, 54, 803, 804, 805, 806, 807, 808, 809, 810, 811, 812, 843, 844, 845, 846, 847, 848, 849, 850, 851, 852, 853] (by decide +kernel) (by decide +kernel)) (goodIn_sub (fun _ h => List.mem_append_right _ h) (by decide +kernel))) (goodIn_sub (fun _ h => List.mem_append_left _ (List.mem_append_left _ (List.mem_append_right _ h))) (by decide +kernel))
set_option maxRecDepth 20000 in
theorem gL_law_L_lapsOf : GoodIn wsL_law (va_wsS RL 143 yL_lapsOf wsL_lapsOf) := goodIn_app (goodIn_of _ (by decide +kernel)) ggL_law_L_lapsOf
set_option maxRecDepth 20000 in
theorem ggL_law_X6_lapsOf : GoodIn wsL_law wsX6_lapsOf := goodIn_r _ [435, 99, 146, 100, 417, 418, 419, 5, 420, 291, 387, 388, 389, 390, 223, 205, 206, 207, 142, 143, 144, 145, 813, 814, 815, 816, 817, 818, 819, 820, 821, 822, 823, 824, 825, 826, 827, 828, 829, 830, 831, 832, 833, 834, 835, 836, 837, 838] (by decide +kernel) (by decide +kernel)
set_option maxRecDepth 20000 in
theorem gL_law_X6_lapsOf : GoodIn wsL_law (wsV RL 145 RX6 yX6_lapsOf wsX6_lapsOf) := goodIn_app (goodIn_of _ (by decide +kernel)) ggL_law_X6_lapsOf
set_option maxRecDepth 20000 in
theorem ggL_law_L_missing : GoodIn wsL_law wsL_missing := goodIn_ca (goodIn_ca (goodIn_r _ [438, 154, 113, 439, 440, 441, 2, 442, 20, 313, 314, 315, 316, 166, 167, 36, 321, 322, 323, 324, 118, 119, 37, 443, 366, 367, 19, 368, 51, 55, 369, 370, 371, 15, 372, 46, 803, 804, 805, 806, 807, 808, 809, 810, 811, 812, 843, 844, 845, 846, 847, 848, 849, 850, 851, 852, 853, 839, 840, 841, 842] (by decide +kernel) (by decide +kernel)) (goodIn_sub (fun _ h => List.mem_append_right _ h) (by decide +kernel))) (goodIn_sub (fun _ h => List.mem_append_left _ (List.mem_append_left _ (List.mem_append_right _ h))) (by decide +kernel))
set_option maxRecDepth 20000 in
theorem gL_law_L_missing : GoodIn wsL_law (va_wsS RL 146 yL_missing wsL_missing) := goodIn_app (goodIn_of _ (by decide +kernel)) ggL_law_L_missing
set_option maxRecDepth 20000 in
theorem ggL_law_X6_missing : GoodIn wsL_law wsX6_missing := goodIn_r _ [447, 291, 141, 101, 387, 388, 389, 5, 390, 223, 205, 206, 207, 142, 143, 144, 145, 146, 813, 814, 815, 816, 817, 818, 819, 820, 821, 822, 823, 824, 825, 826, 827, 828, 829, 830, 831, 832, 833, 834, 835, 836, 837, 838] (by decide +kernel) (by decide +kernel)
set_option maxRecDepth 20000 in
theorem gL_law_X6_missing : GoodIn wsL_law (wsV RL 148 RX6 yX6_missing wsX6_missing) := goodIn_app (goodIn_of _ (by decide +kernel)) ggL_law_X6_missing
set_option maxRecDepth 20000 in
theorem ggL_law_L_rank : GoodIn wsL_law wsL_rank := goodIn_ca (goodIn_ca (goodIn_r _ [450, 154, 113, 451, 452, 453, 2, 454, 20, 313, 314, 315, 316, 166, 167, 36, 321, 322, 323, 324, 118, 119, 37, 455, 456, 457, 19, 458, 59, 459, 460, 461, 462, 56, 51, 52, 373, 326, 327, 328, 53, 60, 463, 429, 430, 431, 54, 464, 252, 253, 15, 254, 44, 803, 804, 805, 806, 807, 808, 809, 810, 811, 812, 843, 844, 845, 846, 847, 848, 849, 850, 851, 852, 853, 839, 840, 841, 842] (by decide +kernel) (by decide +kernel)) (goodIn_sub (fun _ h => List.mem_append_right _ h) (by decide +kernel))) (goodIn_sub (fun _ h => List.mem_append_left _ (List.mem_append_left _ (List.mem_append_right _ h))) (by decide +kernel))
set_option maxRecDepth 20000 in
theorem gL_law_L_rank : GoodIn wsL_law (va_wsS RL 149 yL_rank wsL_rank) := goodIn_app (goodIn_of _ (by decide +kernel)) ggL_law_L_rank
set_option maxRecDepth 20000 in
theorem ggL_law_X6_rank : GoodIn wsL_law wsX6_rank := goodIn_r _ [468, 291, 387, 388, 389, 5, 390, 223, 205, 206, 207, 142, 143, 144, 145, 146, 469, 470, 471, 472, 473, 474, 475, 476, 103, 99, 100, 96, 98, 102, 813, 814, 815, 816, 817, 818, 819, 820, 821, 822, 823, 824, 825, 826, 827, 828, 829, 830, 831, 832, 833, 834, 835, 836, 837, 838] (by decide +kernel) (by decide +kernel)
set_option maxRecDepth 20000 in
theorem gL_law_X6_rank : GoodIn wsL_law (wsV RL 151 RX6 yX6_rank wsX6_rank) := goodIn_app (goodIn_of _ (by decide +kernel)) ggL_law_X6_rank
set_option maxRecDepth 20000 in
theorem ggL_law_L_rankByRecord : GoodIn wsL_law wsL_rankByRecord := goodIn_ca (goodIn_ca (goodIn_r _ [479, 154, 113, 480, 481, 482, 2, 483, 21, 36, 20, 25, 313, 314, 315, 316, 166, 167, 321, 322, 323, 324, 118, 119, 37, 484, 485, 486, 19, 487, 60, 278, 279, 280, 281, 59, 61, 52, 53, 54, 55, 56, 488, 489, 490, 24, 491, 68, 492, 493, 494, 495, 66, 496, 497, 498, 499, 67, 352, 353, 354, 355, 51, 356, 193, 194, 15, 195, 196, 173, 174, 175, 43, 357, 358, 359, 360, 361, 362, 363, 364, 365, 366, 367, 368, 369, 370, 371, 372, 46, 373, 326, 327, 328, 374, 375, 376, 377, 378, 379, 380, 381, 500, 501, 502, 503, 58, 57, 504, 505, 506, 507, 459, 460, 461, 462, 463, 429, 430, 431, 464, 252, 253, 254, 44, 803, 804, 805, 806, 807, 808, 809, 810, 811, 812, 843, 844, 845, 846, 847, 848, 849, 850, 851, 852, 853, 854, 855, 856, 839, 840, 841, 842] (by decide +kernel) (by decide +kernel)) (goodIn_sub (fun _ h => List.mem_append_right _ h) (by decide +kernel))) (goodIn_sub (fun _ h => List.mem_append_left _ (List.mem_append_left _ (List.mem_append_right _ h))) (by decide +kernel))
set_option maxRecDepth 20000 in
theorem gL_law_L_rankByRecord : GoodIn wsL_law (va_wsS RL 152 yL_rankByRecord wsL_rankByRecord) := goodIn_app (goodIn_of _ (by decide +kernel)) ggL_law_L_rankByRecord
set_option maxRecDepth 20000 in
theorem ggL_law_X6_rankByRecord : GoodIn wsL_law wsX6_rankByRecord := goodIn_r _ [511, 291, 387, 388, 389, 5, 390, 223, 205, 206, 207, 142, 143, 144, 145, 146, 469, 470, 471, 472, 473, 474, 475, 476, 103, 99, 100, 96, 98, 102, 813, 814, 815, 816, 817, 818, 819, 820, 821, 822, 823, 824, 825, 826, 827, 828, 829, 830, 831, 832, 833, 834, 835, 836, 837, 838] (by decide +kernel) (by decide +kernel)
set_option maxRecDepth 20000 in
theorem gL_law_X6_rankByRecord : GoodIn wsL_law (wsV RL 154 RX6 yX6_rankByRecord wsX6_rankByRecord) := goodIn_app (goodIn_of _ (by decide +kernel)) ggL_law_X6_rankByRecord
set_option maxRecDepth 20000 in
theorem ggL_law_L_catchUp : GoodIn wsL_law wsL_catchUp := goodIn_ca (goodIn_ca (goodIn_r _ [514, 154, 113, 515, 516, 517, 2, 518, 20, 519, 189, 190, 191, 313, 314, 315, 316, 166, 167, 36, 321, 322, 323, 324, 118, 119, 37, 520, 521, 522, 19, 523, 59, 524, 334, 335, 525, 456, 457, 458, 459, 460, 461, 462, 56, 51, 52, 373, 326, 327, 328, 53, 60, 463, 429, 430, 431, 54, 464, 252, 253, 15, 254, 44, 526, 527, 528, 529, 803, 804, 805, 806, 807, 808, 809, 810, 811, 812, 843, 844, 845, 846, 847, 848, 849, 850, 851, 852, 853, 839, 840, 841, 842] (by decide +kernel) (by decide +kernel)) (goodIn_sub (fun _ h => List.mem_append_right _ h) (by decide +kernel))) (goodIn_sub (fun _ h => List.mem_append_left _ (List.mem_append_left _ (List.mem_append_right _ h))) (by decide +kernel))
set_option maxRecDepth 20000 in
theorem gL_law_L_catchUp : GoodIn wsL_law (va_wsS RL 155 yL_catchUp wsL_catchUp) := goodIn_app (goodIn_of _ (by decide +kernel)) ggL_law_L_catchUp
set_option maxRecDepth 20000 in
theorem ggL_law_X6_catchUp : GoodIn wsL_law wsX6_catchUp := goodIn_r _ [533, 291, 387, 388, 389, 5, 390, 223, 205, 206, 207, 142, 143, 144, 145, 146, 534, 535, 536, 537, 469, 470, 471, 472, 473, 474, 475, 476, 103, 99, 100, 96, 98, 102, 538, 539, 540, 541, 813, 814, 815, 816, 817, 818, 819, 820, 821, 822, 823, 824, 825, 826, 827, 828, 829, 830, 831, 832, 833, 834, 835, 836, 837, 838] (by decide +kernel) (by decide +kernel)
set_option maxRecDepth 20000 in
theorem gL_law_X6_catchUp : GoodIn wsL_law (wsV RL 157 RX6 yX6_catchUp wsX6_catchUp) := goodIn_app (goodIn_of _ (by decide +kernel)) ggL_law_X6_catchUp
set_option maxRecDepth 20000 in
theorem ggL_law_X5_setDraw : GoodIn wsL_law wsX5_setDraw := goodIn_r _ [545, 29, 546, 547, 548, 28, 549, 77, 803, 804, 805, 806, 807, 808, 809, 810, 811, 812, 857, 858, 859, 860] (by decide +kernel) (by decide +kernel)
set_option maxRecDepth 20000 in
theorem gL_law_X5_setDraw : GoodIn wsL_law (wsV RL 158 RX5 yX5_setDraw wsX5_setDraw) := goodIn_app (goodIn_of _ (by decide +kernel)) ggL_law_X5_setDraw
set_option maxRecDepth 20000 in
theorem ggL_law_X6_setDraw : GoodIn wsL_law wsX6_setDraw := goodIn_r _ [553, 146, 554, 813, 814, 815, 816, 817, 818, 819, 820, 821, 822, 823, 824, 825, 826, 827, 828, 829, 830, 831, 832, 833, 834, 835, 836, 837, 838] (by decide +kernel) (by decide +kernel)
set_option maxRecDepth 20000 in
theorem gL_law_X6_setDraw : GoodIn wsL_law (wsV RL 162 RX6 yX6_setDraw wsX6_setDraw) := goodIn_app (goodIn_of _ (by decide +kernel)) ggL_law_X6_setDraw
set_option maxRecDepth 20000 in
theorem ggL_law_L_draw : GoodIn wsL_law wsL_draw := goodIn_ca (goodIn_ca (goodIn_r _ [557, 154, 113, 558, 559, 560, 2, 561, 118, 119, 29, 20, 313, 314, 315, 316, 166, 167, 36, 317, 318, 319, 320, 321, 322, 323, 324, 37, 325, 326, 327, 19, 328, 53, 60, 562, 563, 564, 28, 565, 73, 455, 456, 457, 458, 59, 459, 460, 461, 462, 56, 51, 52, 373, 463, 429, 430, 431, 54, 464, 252, 253, 15, 254, 44, 566, 567, 568, 569, 77, 570, 571, 572, 573, 574, 575, 576, 803, 804, 805, 806, 807, 808, 809, 810, 811, 812, 843, 844, 845, 846, 847, 848, 849, 850, 851, 852, 853, 857, 858, 859, 860, 839, 840, 841, 842] (by decide +kernel) (by decide +kernel)) (goodIn_sub (fun _ h => List.mem_append_left _ (List.mem_append_left _ (List.mem_append_right _ h))) (by decide +kernel))) (goodIn_sub (fun _ h => List.mem_append_right _ h) (by decide +kernel))
set_option maxRecDepth 20000 in
theorem gL_law_L_draw : GoodIn wsL_law (va_wsS RL 163 yL_draw wsL_draw) := goodIn_app (goodIn_of _ (by decide +kernel)) ggL_law_L_draw
set_option maxRecDepth 20000 in
theorem ggL_law_X6_draw : GoodIn wsL_law wsX6_draw := goodIn_r _ [580, 291, 103, 104, 554, 581, 387, 388, 389, 5, 390, 223, 205, 206, 207, 142, 143, 144, 145, 146, 469, 470, 471, 472, 473, 474, 475, 476, 99, 100, 96, 98, 102, 582, 583, 584, 813, 814, 815, 816, 817, 818, 819, 820, 821, 822, 823, 824, 825, 826, 827, 828, 829, 830, 831, 832, 833, 834, 835, 836, 837, 838] (by decide +kernel) (by decide +kernel)
set_option maxRecDepth 20000 in
theorem gL_law_X6_draw : GoodIn wsL_law (wsV RL 165 RX6 yX6_draw wsX6_draw) := goodIn_app (goodIn_of _ (by decide +kernel)) ggL_law_X6_draw
set_option maxRecDepth 20000 in
theorem ggL_law_L_use : GoodIn wsL_law wsL_use := goodIn_ca (goodIn_ca (goodIn_r _ [587, 154, 113, 588, 589, 590, 2, 591, 118, 119, 29, 20, 38, 313, 314, 315, 316, 166, 167, 36, 317, 318, 319, 320, 321, 322, 323, 324, 37, 325, 326, 327, 19, 328, 53, 60, 562, 563, 564, 28, 565, 73, 592, 593, 594, 595, 455, 456, 457, 458, 59, 459, 460, 461, 462, 56, 51, 52, 373, 463, 429, 430, 431, 54, 464, 252, 253, 15, 254, 44, 596, 597, 598, 599, 76, 600, 601, 602, 603, 75, 604, 605, 606, 607, 608, 609, 610, 611, 333, 334, 190, 335, 803, 804, 805, 806, 807, 808, 809, 810, 811, 812, 843, 844, 845, 846, 847, 848, 849, 850, 851, 852, 853, 857, 858, 859, 860, 839, 840, 841, 842] (by decide +kernel) (by decide +kernel)) (goodIn_sub (fun _ h => List.mem_append_left _ (List.mem_append_left _ (List.mem_append_right _ h))) (by decide +kernel))) (goodIn_sub (fun _ h => List.mem_append_right _ h) (by decide +kernel))
set_option maxRecDepth 20000 in
theorem gL_law_L_use : GoodIn wsL_law (va_wsS RL 166 yL_use wsL_use) := goodIn_app (goodIn_of _ (by decide +kernel)) ggL_law_L_use
set_option maxRecDepth 20000 in
theorem ggL_law_X6_use : GoodIn wsL_law wsX6_use := goodIn_r _ [615, 291, 103, 104, 106, 105, 223, 387, 388, 389, 5, 390, 205, 206, 207, 142, 143, 144, 145, 146, 469, 470, 471, 472, 473, 474, 475, 476, 99, 100, 96, 98, 102, 616, 617, 618, 619, 386, 813, 814, 815, 816, 817, 818, 819, 820, 821, 822, 823, 824, 825, 826, 827, 828, 829, 830, 831, 832, 833, 834, 835, 836, 837, 838] (by decide +kernel) (by decide +kernel)
set_option maxRecDepth 20000 in
theorem gL_law_X6_use : GoodIn wsL_law (wsV RL 168 RX6 yX6_use wsX6_use) := goodIn_app (goodIn_of _ (by decide +kernel)) ggL_law_X6_use
set_option maxRecDepth 20000 in
theorem ggL_law_L_itemOf : GoodIn wsL_law wsL_itemOf := goodIn_ca (goodIn_r _ [622, 154, 623, 624, 625, 2, 626, 37, 29, 313, 314, 315, 316, 166, 167, 36, 562, 563, 564, 28, 565, 73, 803, 804, 805, 806, 807, 808, 809, 810, 811, 812, 857, 858, 859, 860] (by decide +kernel) (by decide +kernel)) (goodIn_sub (fun _ h => List.mem_append_right _ h) (by decide +kernel))
set_option maxRecDepth 20000 in
theorem gL_law_L_itemOf : GoodIn wsL_law (va_wsS RL 169 yL_itemOf wsL_itemOf) := goodIn_app (goodIn_of _ (by decide +kernel)) ggL_law_L_itemOf
set_option maxRecDepth 20000 in
theorem ggL_law_X6_itemOf : GoodIn wsL_law wsX6_itemOf := goodIn_r _ [630, 291, 104, 387, 388, 389, 5, 390, 223, 205, 206, 207, 142, 143, 144, 145, 146, 813, 814, 815, 816, 817, 818, 819, 820, 821, 822, 823, 824, 825, 826, 827, 828, 829, 830, 831, 832, 833, 834, 835, 836, 837, 838] (by decide +kernel) (by decide +kernel)
set_option maxRecDepth 20000 in
theorem gL_law_X6_itemOf : GoodIn wsL_law (wsV RL 171 RX6 yX6_itemOf wsX6_itemOf) := goodIn_app (goodIn_of _ (by decide +kernel)) ggL_law_X6_itemOf
set_option maxRecDepth 20000 in
theorem ggL_law_L_stunned : GoodIn wsL_law wsL_stunned := goodIn_ca (goodIn_r _ [633, 154, 634, 635, 636, 2, 637, 37, 29, 38, 313, 314, 315, 316, 166, 167, 36, 329, 330, 331, 28, 332, 76, 333, 334, 190, 335, 803, 804, 805, 806, 807, 808, 809, 810, 811, 812, 857, 858, 859, 860] (by decide +kernel) (by decide +kernel)) (goodIn_sub (fun _ h => List.mem_append_right _ h) (by decide +kernel))
set_option maxRecDepth 20000 in
theorem gL_law_L_stunned : GoodIn wsL_law (va_wsS RL 172 yL_stunned wsL_stunned) := goodIn_app (goodIn_of _ (by decide +kernel)) ggL_law_L_stunned
set_option maxRecDepth 20000 in
theorem ggL_law_X6_stunned : GoodIn wsL_law wsX6_stunned := goodIn_r _ [641, 291, 106, 386, 387, 388, 389, 5, 390, 223, 205, 206, 207, 142, 143, 144, 145, 146, 813, 814, 815, 816, 817, 818, 819, 820, 821, 822, 823, 824, 825, 826, 827, 828, 829, 830, 831, 832, 833, 834, 835, 836, 837, 838] (by decide +kernel) (by decide +kernel)
set_option maxRecDepth 20000 in
theorem gL_law_X6_stunned : GoodIn wsL_law (wsV RL 174 RX6 yX6_stunned wsX6_stunned) := goodIn_app (goodIn_of _ (by decide +kernel)) ggL_law_X6_stunned
set_option maxRecDepth 20000 in
theorem ggL_law_L_end : GoodIn wsL_law wsL_end := goodIn_ca (goodIn_r _ [644, 113, 645, 646, 647, 2, 648, 36, 20, 33, 37, 321, 322, 323, 324, 118, 119, 455, 456, 457, 19, 458, 59, 459, 460, 461, 462, 56, 51, 52, 373, 326, 327, 328, 53, 60, 463, 429, 430, 431, 54, 464, 252, 253, 15, 254, 44, 649, 650, 651, 652, 653, 654, 655, 32, 656, 86, 88, 87, 657, 658, 659, 660, 661, 803, 804, 805, 806, 807, 808, 809, 810, 811, 812, 843, 844, 845, 846, 847, 848, 849, 850, 851, 852, 853, 839, 840, 841, 842, 861, 862, 863, 864] (by decide +kernel) (by decide +kernel)) (goodIn_sub (fun _ h => List.mem_append_left _ (List.mem_append_left _ (List.mem_append_right _ h))) (by decide +kernel))
set_option maxRecDepth 20000 in
theorem gL_law_L_end : GoodIn wsL_law (va_wsS RL 175 yL_end wsL_end) := goodIn_app (goodIn_of _ (by decide +kernel)) ggL_law_L_end
set_option maxRecDepth 20000 in
theorem ggL_law_X6_end : GoodIn wsL_law wsX6_end := goodIn_r _ [665, 291, 223, 103, 99, 100, 107, 666, 108, 142, 143, 144, 5, 145, 146, 534, 535, 536, 537, 469, 470, 471, 472, 473, 474, 475, 476, 96, 98, 102, 667, 668, 669, 813, 814, 815, 816, 817, 818, 819, 820, 821, 822, 823, 824, 825, 826, 827, 828, 829, 830, 831, 832, 833, 834, 835, 836, 837, 838] (by decide +kernel) (by decide +kernel)
set_option maxRecDepth 20000 in
theorem gL_law_X6_end : GoodIn wsL_law (wsV RL 178 RX6 yX6_end wsX6_end) := goodIn_app (goodIn_of _ (by decide +kernel)) ggL_law_X6_end
set_option maxRecDepth 20000 in
theorem ggL_law_X5_races : GoodIn wsL_law wsX5_races := goodIn_r _ [673, 33, 124, 125, 126, 32, 127, 88, 803, 804, 805, 806, 807, 808, 809, 810, 811, 812, 861, 862, 863, 864] (by decide +kernel) (by decide +kernel)
set_option maxRecDepth 20000 in
theorem gL_law_X5_races : GoodIn wsL_law (wsV RL 179 RX5 yX5_races wsX5_races) := goodIn_app (goodIn_of _ (by decide +kernel)) ggL_law_X5_races
set_option maxRecDepth 20000 in
theorem ggL_law_X6_races : GoodIn wsL_law wsX6_races := goodIn_r _ [677, 666, 232, 233, 234, 5, 235, 146, 813, 814, 815, 816, 817, 818, 819, 820, 821, 822, 823, 824, 825, 826, 827, 828, 829, 830, 831, 832, 833, 834, 835, 836, 837, 838] (by decide +kernel) (by decide +kernel)
set_option maxRecDepth 20000 in
theorem gL_law_X6_races : GoodIn wsL_law (wsV RL 182 RX6 yX6_races wsX6_races) := goodIn_app (goodIn_of _ (by decide +kernel)) ggL_law_X6_races
set_option maxRecDepth 20000 in
theorem ggL_law_L_place : GoodIn wsL_law wsL_place := goodIn_ca (goodIn_r _ [680, 154, 681, 682, 683, 2, 684, 166, 167, 33, 124, 125, 126, 32, 127, 88, 313, 314, 315, 316, 36, 685, 686, 687, 688, 86, 803, 804, 805, 806, 807, 808, 809, 810, 811, 812, 861, 862, 863, 864] (by decide +kernel) (by decide +kernel)) (goodIn_sub (fun _ h => List.mem_append_right _ h) (by decide +kernel))
set_option maxRecDepth 20000 in
theorem gL_law_L_place : GoodIn wsL_law (va_wsS RL 183 yL_place wsL_place) := goodIn_app (goodIn_of _ (by decide +kernel)) ggL_law_L_place
set_option maxRecDepth 20000 in
theorem ggL_law_X6_place : GoodIn wsL_law wsX6_place := goodIn_r _ [692, 666, 107, 205, 206, 5, 207, 387, 388, 389, 390, 223, 142, 143, 144, 145, 146, 813, 814, 815, 816, 817, 818, 819, 820, 821, 822, 823, 824, 825, 826, 827, 828, 829, 830, 831, 832, 833, 834, 835, 836, 837, 838] (by decide +kernel) (by decide +kernel)
set_option maxRecDepth 20000 in
theorem gL_law_X6_place : GoodIn wsL_law (wsV RL 185 RX6 yX6_place wsX6_place) := goodIn_app (goodIn_of _ (by decide +kernel)) ggL_law_X6_place
set_option maxRecDepth 20000 in
theorem ggL_law_L_setDropped : GoodIn wsL_law wsL_setDropped := goodIn_ca (goodIn_r _ [695, 155, 696, 697, 698, 2, 699, 160, 161, 33, 700, 701, 702, 32, 703, 89, 803, 804, 805, 806, 807, 808, 809, 810, 811, 812, 861, 862, 863, 864] (by decide +kernel) (by decide +kernel)) (goodIn_sub (fun _ h => List.mem_append_left _ (List.mem_append_right _ h)) (by decide +kernel))
set_option maxRecDepth 20000 in
theorem gL_law_L_setDropped : GoodIn wsL_law (va_wsS RL 186 yL_setDropped wsL_setDropped) := goodIn_app (goodIn_of _ (by decide +kernel)) ggL_law_L_setDropped
set_option maxRecDepth 20000 in
theorem ggL_law_X6_setDropped : GoodIn wsL_law wsX6_setDropped := goodIn_r _ [707, 708, 205, 206, 5, 207, 142, 143, 144, 145, 146, 813, 814, 815, 816, 817, 818, 819, 820, 821, 822, 823, 824, 825, 826, 827, 828, 829, 830, 831, 832, 833, 834, 835, 836, 837, 838] (by decide +kernel) (by decide +kernel)
set_option maxRecDepth 20000 in
theorem gL_law_X6_setDropped : GoodIn wsL_law (wsV RL 188 RX6 yX6_setDropped wsX6_setDropped) := goodIn_app (goodIn_of _ (by decide +kernel)) ggL_law_X6_setDropped
set_option maxRecDepth 20000 in
theorem ggL_law_L_points : GoodIn wsL_law wsL_points := goodIn_ca (goodIn_r _ [711, 154, 712, 713, 714, 2, 715, 33, 313, 314, 315, 316, 166, 167, 36, 716, 717, 718, 32, 719, 88, 89, 87, 720, 721, 722, 723, 803, 804, 805, 806, 807, 808, 809, 810, 811, 812, 861, 862, 863, 864] (by decide +kernel) (by decide +kernel)) (goodIn_sub (fun _ h => List.mem_append_right _ h) (by decide +kernel))
set_option maxRecDepth 20000 in
theorem gL_law_L_points : GoodIn wsL_law (va_wsS RL 189 yL_points wsL_points) := goodIn_app (goodIn_of _ (by decide +kernel)) ggL_law_L_points
set_option maxRecDepth 20000 in
theorem ggL_law_X6_points : GoodIn wsL_law wsX6_points := goodIn_r _ [727, 387, 388, 389, 5, 390, 223, 205, 206, 207, 142, 143, 144, 145, 146, 728, 729, 730, 731, 666, 108, 708, 813, 814, 815, 816, 817, 818, 819, 820, 821, 822, 823, 824, 825, 826, 827, 828, 829, 830, 831, 832, 833, 834, 835, 836, 837, 838] (by decide +kernel) (by decide +kernel)
set_option maxRecDepth 20000 in
theorem gL_law_X6_points : GoodIn wsL_law (wsV RL 191 RX6 yX6_points wsX6_points) := goodIn_app (goodIn_of _ (by decide +kernel)) ggL_law_X6_points
set_option maxRecDepth 20000 in
theorem ggL_law_L_teamPoints : GoodIn wsL_law wsL_teamPoints := goodIn_ca (goodIn_r _ [734, 154, 735, 736, 737, 2, 738, 36, 35, 33, 215, 216, 217, 218, 166, 167, 716, 717, 718, 32, 719, 88, 89, 87, 720, 721, 722, 723, 803, 804, 805, 806, 807, 808, 809, 810, 811, 812, 861, 862, 863, 864] (by decide +kernel) (by decide +kernel)) (goodIn_sub (fun _ h => List.mem_append_right _ h) (by decide +kernel))
set_option maxRecDepth 20000 in
theorem gL_law_L_teamPoints : GoodIn wsL_law (va_wsS RL 192 yL_teamPoints wsL_teamPoints) := goodIn_app (goodIn_of _ (by decide +kernel)) ggL_law_L_teamPoints
set_option maxRecDepth 20000 in
theorem ggL_law_X6_teamPoints : GoodIn wsL_law wsX6_teamPoints := goodIn_r _ [742, 223, 97, 205, 206, 5, 207, 142, 143, 144, 145, 146, 728, 729, 730, 731, 666, 108, 708, 813, 814, 815, 816, 817, 818, 819, 820, 821, 822, 823, 824, 825, 826, 827, 828, 829, 830, 831, 832, 833, 834, 835, 836, 837, 838] (by decide +kernel) (by decide +kernel)
set_option maxRecDepth 20000 in
theorem gL_law_X6_teamPoints : GoodIn wsL_law (wsV RL 194 RX6 yX6_teamPoints wsX6_teamPoints) := goodIn_app (goodIn_of _ (by decide +kernel)) ggL_law_X6_teamPoints
set_option maxRecDepth 20000 in
theorem ggL_law_L_standing : GoodIn wsL_law wsL_standing := goodIn_ca (goodIn_r _ [745, 154, 746, 747, 748, 2, 749, 33, 36, 313, 314, 315, 316, 166, 167, 750, 751, 752, 32, 753, 754, 755, 756, 757, 758, 717, 718, 719, 88, 89, 87, 720, 721, 722, 723, 759, 760, 761, 762, 86, 803, 804, 805, 806, 807, 808, 809, 810, 811, 812, 861, 862, 863, 864] (by decide +kernel) (by decide +kernel)) (goodIn_sub (fun _ h => List.mem_append_right _ h) (by decide +kernel))
set_option maxRecDepth 20000 in
theorem gL_law_L_standing : GoodIn wsL_law (va_wsS RL 195 yL_standing wsL_standing) := goodIn_app (goodIn_of _ (by decide +kernel)) ggL_law_L_standing
set_option maxRecDepth 20000 in
theorem ggL_law_X6_standing : GoodIn wsL_law wsX6_standing := goodIn_r _ [766, 387, 388, 389, 5, 390, 223, 205, 206, 207, 142, 143, 144, 145, 146, 767, 768, 769, 770, 771, 772, 773, 774, 728, 729, 730, 731, 666, 108, 708, 775, 776, 777, 778, 107, 813, 814, 815, 816, 817, 818, 819, 820, 821, 822, 823, 824, 825, 826, 827, 828, 829, 830, 831, 832, 833, 834, 835, 836, 837, 838] (by decide +kernel) (by decide +kernel)
set_option maxRecDepth 20000 in
theorem gL_law_X6_standing : GoodIn wsL_law (wsV RL 197 RX6 yX6_standing wsX6_standing) := goodIn_app (goodIn_of _ (by decide +kernel)) ggL_law_X6_standing
set_option maxRecDepth 20000 in
theorem ggL_law_X5_textLength : GoodIn wsL_law wsX5_textLength := goodIn_r _ [782, 36, 803, 804, 805, 806, 807, 808, 809, 810, 811, 812] (by decide +kernel) (by decide +kernel)
set_option maxRecDepth 20000 in
theorem gL_law_X5_textLength : GoodIn wsL_law (wsV RL 198 RX5 yX5_textLength wsX5_textLength) := goodIn_app (goodIn_of _ (by decide +kernel)) ggL_law_X5_textLength
set_option maxRecDepth 20000 in
theorem ggL_law_X6_textLength : GoodIn wsL_law wsX6_textLength := goodIn_r _ [786, 223, 232, 233, 234, 5, 235, 146, 813, 814, 815, 816, 817, 818, 819, 820, 821, 822, 823, 824, 825, 826, 827, 828, 829, 830, 831, 832, 833, 834, 835, 836, 837, 838] (by decide +kernel) (by decide +kernel)
set_option maxRecDepth 20000 in
theorem gL_law_X6_textLength : GoodIn wsL_law (wsV RL 201 RX6 yX6_textLength wsX6_textLength) := goodIn_app (goodIn_of _ (by decide +kernel)) ggL_law_X6_textLength
set_option maxRecDepth 20000 in
theorem ggL_law_L_textAt : GoodIn wsL_law wsL_textAt := goodIn_ca (goodIn_r _ [789, 154, 790, 791, 792, 2, 793, 166, 167, 36, 33, 794, 795, 796, 32, 797, 798, 751, 752, 753, 754, 755, 756, 757, 758, 717, 718, 719, 88, 89, 87, 720, 721, 722, 723, 759, 760, 761, 762, 86, 803, 804, 805, 806, 807, 808, 809, 810, 811, 812, 861, 862, 863, 864] (by decide +kernel) (by decide +kernel)) (goodIn_sub (fun _ h => List.mem_append_right _ h) (by decide +kernel))
set_option maxRecDepth 20000 in
theorem gL_law_L_textAt : GoodIn wsL_law (va_wsS RL 202 yL_textAt wsL_textAt) := goodIn_app (goodIn_of _ (by decide +kernel)) ggL_law_L_textAt
set_option maxRecDepth 20000 in
theorem ggL_law_X6_textAt : GoodIn wsL_law wsX6_textAt := goodIn_r _ [802, 223, 142, 143, 144, 5, 145, 146, 767, 768, 769, 770, 771, 772, 773, 774, 728, 729, 730, 731, 666, 108, 708, 775, 776, 777, 778, 107, 813, 814, 815, 816, 817, 818, 819, 820, 821, 822, 823, 824, 825, 826, 827, 828, 829, 830, 831, 832, 833, 834, 835, 836, 837, 838] (by decide +kernel) (by decide +kernel)
set_option maxRecDepth 20000 in
theorem gL_law_X6_textAt : GoodIn wsL_law (wsV RL 204 RX6 yX6_textAt wsX6_textAt) := goodIn_app (goodIn_of _ (by decide +kernel)) ggL_law_X6_textAt
theorem dL_law_0 : decode cL_law 0 = .ok (.new 8, 3) := by decide +kernel
theorem dL_law_3 : decode cL_law 3 = .ok (.dup, 1) := by decide +kernel
theorem dL_law_4 : decode cL_law 4 = .ok (.invokespecial 93, 3) := by decide +kernel
theorem dL_law_7 : decode cL_law 7 = .ok (.astore_n 1, 1) := by decide +kernel
theorem dL_law_8 : decode cL_law 8 = .ok (.new 94, 3) := by decide +kernel
theorem dL_law_11 : decode cL_law 11 = .ok (.dup, 1) := by decide +kernel
theorem dL_law_12 : decode cL_law 12 = .ok (.invokespecial 96, 3) := by decide +kernel
theorem dL_law_15 : decode cL_law 15 = .ok (.astore_n 2, 1) := by decide +kernel
theorem dL_law_16 : decode cL_law 16 = .ok (.iconst 1, 1) := by decide +kernel
theorem dL_law_17 : decode cL_law 17 = .ok (.newarray .long, 2) := by decide +kernel
theorem dL_law_19 : decode cL_law 19 = .ok (.astore_n 3, 1) := by decide +kernel
theorem dL_law_20 : decode cL_law 20 = .ok (.iconst 0, 1) := by decide +kernel
theorem dL_law_21 : decode cL_law 21 = .ok (.istore 4, 2) := by decide +kernel
theorem dL_law_23 : decode cL_law 23 = .ok (.iload 4, 2) := by decide +kernel
theorem dL_law_25 : decode cL_law 25 = .ok (.aload_n 0, 1) := by decide +kernel
theorem dL_law_26 : decode cL_law 26 = .ok (.arraylength, 1) := by decide +kernel
theorem dL_law_27 : decode cL_law 27 = .ok (.iconst 4, 1) := by decide +kernel
theorem dL_law_28 : decode cL_law 28 = .ok (.isub, 1) := by decide +kernel
theorem dL_law_29 : decode cL_law 29 = .ok (.if_icmp .gt 1633, 3) := by decide +kernel
theorem dL_law_32 : decode cL_law 32 = .ok (.aload_n 0, 1) := by decide +kernel
theorem dL_law_33 : decode cL_law 33 = .ok (.iload 4, 2) := by decide +kernel
theorem dL_law_35 : decode cL_law 35 = .ok (.iaload, 1) := by decide +kernel
theorem dL_law_36 : decode cL_law 36 = .ok (.bipush 31, 2) := by decide +kernel
theorem dL_law_38 : decode cL_law 38 = .ok (.iand, 1) := by decide +kernel
theorem dL_law_39 : decode cL_law 39 = .ok (.tableswitch 1617 0 29 #[133, 205, 285, 341, 354, 367, 423, 479, 492, 560, 616, 672, 728, 784, 840, 896, 952, 975, 1031, 1087, 1143, 1199, 1243, 1256, 1324, 1380, 1436, 1492, 1548, 1561], 133) := by decide +kernel
theorem dL_law_172 : decode cL_law 172 = .ok (.aload_n 1, 1) := by decide +kernel
theorem dL_law_173 : decode cL_law 173 = .ok (.aload_n 0, 1) := by decide +kernel
theorem dL_law_174 : decode cL_law 174 = .ok (.iload 4, 2) := by decide +kernel
theorem dL_law_176 : decode cL_law 176 = .ok (.iconst 1, 1) := by decide +kernel
theorem dL_law_177 : decode cL_law 177 = .ok (.iadd, 1) := by decide +kernel
theorem dL_law_178 : decode cL_law 178 = .ok (.iaload, 1) := by decide +kernel
theorem dL_law_179 : decode cL_law 179 = .ok (.ifCond .eq 7, 3) := by decide +kernel
theorem dL_law_182 : decode cL_law 182 = .ok (.iconst 1, 1) := by decide +kernel

set_option maxRecDepth 20000 in
theorem ggL_law_X7_init : GoodIn wsL_law wsX7_init := goodIn_r _ [9, 10, 11, 12, 13, 14, 15, 16, 17, 18, 19, 20, 21, 22, 23, 24, 25, 26, 27, 28, 29, 30, 31, 32, 33, 34, 35, 36, 37, 38, 39, 40, 41, 42, 43, 44, 45, 46, 47, 48, 49, 50, 51, 52, 53, 54, 55, 56, 57, 58, 59, 60, 61, 62, 63, 64, 65, 66, 67, 68, 69, 70, 71, 72, 73, 74, 75, 76, 77, 78, 79, 80, 81, 82, 83, 84, 85, 86, 87, 88, 89, 90, 91, 92, 93, 94, 95, 96, 97, 98, 99, 100, 101, 102, 103, 104, 105, 106, 107, 108, 109, 110, 111, 112, 113, 114, 115, 116, 117, 118, 119, 120, 121, 122, 755, 756, 757, 758, 759, 760, 761, 762, 763, 764, 765, 766, 767, 806, 807, 808, 809, 810, 811, 812, 813, 814, 815, 816, 817, 818, 819, 820, 821, 822, 823, 824, 825, 826, 827, 828, 829, 830, 831, 832, 833, 834, 835, 836, 837, 838, 839, 840, 841, 842, 843, 844, 845, 846] (by decide +kernel) (by decide +kernel)
set_option maxRecDepth 20000 in
theorem gL_law_X7_init : GoodIn wsL_law (wsX7_init) := ggL_law_X7_init
set_option maxRecDepth 20000 in
theorem ggL_law_X8_init : GoodIn wsL_law wsX8_init := goodIn_r _ [125, 126, 11, 12, 51, 127, 128, 129, 130, 131, 132, 133, 134, 135, 136, 137, 106, 138, 139, 140, 141, 142, 143, 144, 768, 769, 770, 771, 772, 773, 774, 775, 776, 777, 778, 779, 780, 781, 782, 783, 784, 785, 786, 787, 788, 789, 790, 791, 792, 793, 794, 795, 796, 797, 798, 799, 800, 801, 802, 803, 804, 805] (by decide +kernel) (by decide +kernel)
set_option maxRecDepth 20000 in
theorem gL_law_X8_init : GoodIn wsL_law (wsX8_init) := ggL_law_X8_init
set_option maxRecDepth 20000 in
theorem ggL_law_X7_ram : GoodIn wsL_law wsX7_ram := goodIn_r _ [148, 15, 14, 149, 150, 2, 151, 152, 153, 154, 155, 156, 157, 158, 159, 17, 160, 52, 53, 755, 756, 757, 758, 759, 760, 761, 762, 763, 764, 765, 766, 767, 806, 807, 808, 809, 810, 811] (by decide +kernel) (by decide +kernel)
set_option maxRecDepth 20000 in
theorem gL_law_X7_ram : GoodIn wsL_law (wsV RL 13 RX7 yX7_ram wsX7_ram) := goodIn_app (goodIn_of _ (by decide +kernel)) ggL_law_X7_ram
set_option maxRecDepth 20000 in
theorem ggL_law_X8_ram : GoodIn wsL_law wsX8_ram := goodIn_r _ [164, 165, 166, 127, 167, 168, 5, 169, 768, 769, 770, 771, 772, 773, 774, 775, 776, 777, 778, 779, 780, 781, 782, 783, 784, 785, 786, 787, 788, 789, 790, 791, 792, 793, 794, 795, 796, 797, 798, 799, 800, 801, 802, 803, 804, 805] (by decide +kernel) (by decide +kernel)
set_option maxRecDepth 20000 in
theorem gL_law_X8_ram : GoodIn wsL_law (wsV RL 17 RX8 yX8_ram wsX8_ram) := goodIn_app (goodIn_of _ (by decide +kernel)) ggL_law_X8_ram
set_option maxRecDepth 20000 in
theorem ggL_law_X7_set : GoodIn wsL_law wsX7_set := goodIn_r _ [173, 14, 174, 175, 176, 2, 177, 15, 154, 155, 156, 149, 150, 151, 152, 153, 178, 179, 180, 17, 181, 52, 157, 158, 159, 160, 53, 755, 756, 757, 758, 759, 760, 761, 762, 763, 764, 765, 766, 767, 806, 807, 808, 809, 810, 811] (by decide +kernel) (by decide +kernel)
set_option maxRecDepth 20000 in
theorem gL_law_X7_set : GoodIn wsL_law (wsV RL 18 RX7 yX7_set wsX7_set) := goodIn_app (goodIn_of _ (by decide +kernel)) ggL_law_X7_set
set_option maxRecDepth 20000 in
theorem ggL_law_X8_set : GoodIn wsL_law wsX8_set := goodIn_r _ [185, 165, 127, 186, 187, 188, 5, 189, 166, 167, 168, 169, 190, 191, 192, 193, 768, 769, 770, 771, 772, 773, 774, 775, 776, 777, 778, 779, 780, 781, 782, 783, 784, 785, 786, 787, 788, 789, 790, 791, 792, 793, 794, 795, 796, 797, 798, 799, 800, 801, 802, 803, 804, 805] (by decide +kernel) (by decide +kernel)
set_option maxRecDepth 20000 in
theorem gL_law_X8_set : GoodIn wsL_law (wsV RL 22 RX8 yX8_set wsX8_set) := goodIn_app (goodIn_of _ (by decide +kernel)) ggL_law_X8_set
set_option maxRecDepth 20000 in
theorem ggL_law_X7_about : GoodIn wsL_law wsX7_about := goodIn_r _ [197, 14, 174, 175, 176, 2, 177, 15, 154, 155, 156, 178, 179, 180, 17, 181, 52, 755, 756, 757, 758, 759, 760, 761, 762, 763, 764, 765, 766, 767, 806, 807, 808, 809, 810, 811] (by decide +kernel) (by decide +kernel)
set_option maxRecDepth 20000 in
theorem gL_law_X7_about : GoodIn wsL_law (wsV RL 23 RX7 yX7_about wsX7_about) := goodIn_app (goodIn_of _ (by decide +kernel)) ggL_law_X7_about
set_option maxRecDepth 20000 in
theorem ggL_law_X8_about : GoodIn wsL_law wsX8_about := goodIn_r _ [201, 165, 127, 186, 187, 188, 5, 189, 166, 167, 168, 169, 768, 769, 770, 771, 772, 773, 774, 775, 776, 777, 778, 779, 780, 781, 782, 783, 784, 785, 786, 787, 788, 789, 790, 791, 792, 793, 794, 795, 796, 797, 798, 799, 800, 801, 802, 803, 804, 805] (by decide +kernel) (by decide +kernel)
set_option maxRecDepth 20000 in
theorem gL_law_X8_about : GoodIn wsL_law (wsV RL 27 RX8 yX8_about wsX8_about) := goodIn_app (goodIn_of _ (by decide +kernel)) ggL_law_X8_about
set_option maxRecDepth 20000 in
theorem ggL_law_X7_work : GoodIn wsL_law wsX7_work := goodIn_r _ [205, 46, 206, 14, 149, 150, 2, 151, 152, 153, 154, 155, 156, 174, 175, 176, 177, 15, 207, 208, 209, 17, 210, 52, 211, 212, 213, 214, 755, 756, 757, 758, 759, 760, 761, 762, 763, 764, 765, 766, 767, 806, 807, 808, 809, 810, 811] (by decide +kernel) (by decide +kernel)
set_option maxRecDepth 20000 in
theorem gL_law_X7_work : GoodIn wsL_law (wsV RL 28 RX7 yX7_work wsX7_work) := goodIn_app (goodIn_of _ (by decide +kernel)) ggL_law_X7_work
set_option maxRecDepth 20000 in
theorem ggL_law_X8_work : GoodIn wsL_law wsX8_work := goodIn_r _ [218, 165, 219, 220, 221, 167, 168, 5, 169, 186, 187, 188, 189, 166, 222, 223, 224, 225, 128, 127, 226, 227, 228, 229, 768, 769, 770, 771, 772, 773, 774, 775, 776, 777, 778, 779, 780, 781, 782, 783, 784, 785, 786, 787, 788, 789, 790, 791, 792, 793, 794, 795, 796, 797, 798, 799, 800, 801, 802, 803, 804, 805] (by decide +kernel) (by decide +kernel)
set_option maxRecDepth 20000 in
theorem gL_law_X8_work : GoodIn wsL_law (wsV RL 31 RX8 yX8_work wsX8_work) := goodIn_app (goodIn_of _ (by decide +kernel)) ggL_law_X8_work
set_option maxRecDepth 20000 in
theorem ggL_law_X7_beat : GoodIn wsL_law wsX7_beat := goodIn_r _ [233, 14, 174, 175, 176, 2, 177, 15, 154, 155, 156, 234, 235, 236, 17, 237, 54, 238, 239, 240, 241, 53, 56, 57, 52, 55, 242, 243, 244, 245, 246, 247, 248, 249, 250, 251, 252, 253, 254, 255, 256, 257, 258, 259, 260, 261, 262, 263, 264, 208, 209, 210, 211, 212, 213, 214, 265, 266, 267, 268, 755, 756, 757, 758, 759, 760, 761, 762, 763, 764, 765, 766, 767, 806, 807, 808, 809, 810, 811] (by decide +kernel) (by decide +kernel)
set_option maxRecDepth 20000 in
theorem gL_law_X7_beat : GoodIn wsL_law (wsV RL 32 RX7 yX7_beat wsX7_beat) := goodIn_app (goodIn_of _ (by decide +kernel)) ggL_law_X7_beat
set_option maxRecDepth 20000 in
theorem ggL_law_X8_beat : GoodIn wsL_law wsX8_beat := goodIn_r _ [272, 165, 273, 274, 275, 276, 277, 186, 187, 188, 5, 189, 166, 167, 168, 169, 222, 223, 224, 225, 128, 127, 278, 279, 280, 281, 282, 283, 284, 285, 226, 227, 228, 229, 768, 769, 770, 771, 772, 773, 774, 775, 776, 777, 778, 779, 780, 781, 782, 783, 784, 785, 786, 787, 788, 789, 790, 791, 792, 793, 794, 795, 796, 797, 798, 799, 800, 801, 802, 803, 804, 805] (by decide +kernel) (by decide +kernel)
set_option maxRecDepth 20000 in
theorem gL_law_X8_beat : GoodIn wsL_law (wsV RL 35 RX8 yX8_beat wsX8_beat) := goodIn_app (goodIn_of _ (by decide +kernel)) ggL_law_X8_beat
set_option maxRecDepth 20000 in
theorem ggL_law_X7_hourly : GoodIn wsL_law wsX7_hourly := goodIn_r _ [289, 14, 174, 175, 176, 2, 177, 15, 154, 155, 156, 290, 291, 292, 17, 293, 54, 294, 238, 239, 240, 241, 53, 56, 57, 52, 55, 242, 243, 244, 295, 266, 267, 268, 296, 297, 298, 299, 300, 235, 236, 237, 301, 302, 303, 304, 305, 306, 258, 259, 260, 261, 262, 263, 264, 208, 209, 210, 211, 212, 213, 214, 307, 308, 309, 310, 311, 312, 755, 756, 757, 758, 759, 760, 761, 762, 763, 764, 765, 766, 767, 806, 807, 808, 809, 810, 811] (by decide +kernel) (by decide +kernel)
set_option maxRecDepth 20000 in
theorem gL_law_X7_hourly : GoodIn wsL_law (wsV RL 36 RX7 yX7_hourly wsX7_hourly) := goodIn_app (goodIn_of _ (by decide +kernel)) ggL_law_X7_hourly
set_option maxRecDepth 20000 in
theorem ggL_law_X8_hourly : GoodIn wsL_law wsX8_hourly := goodIn_r _ [316, 165, 186, 187, 188, 5, 189, 166, 167, 168, 169, 222, 223, 224, 225, 128, 127, 317, 318, 319, 320, 277, 275, 276, 278, 279, 280, 281, 274, 273, 282, 283, 284, 285, 226, 227, 228, 229, 768, 769, 770, 771, 772, 773, 774, 775, 776, 777, 778, 779, 780, 781, 782, 783, 784, 785, 786, 787, 788, 789, 790, 791, 792, 793, 794, 795, 796, 797, 798, 799, 800, 801, 802, 803, 804, 805] (by decide +kernel) (by decide +kernel)
set_option maxRecDepth 20000 in
theorem gL_law_X8_hourly : GoodIn wsL_law (wsV RL 39 RX8 yX8_hourly wsX8_hourly) := goodIn_app (goodIn_of _ (by decide +kernel)) ggL_law_X8_hourly
set_option maxRecDepth 20000 in
theorem ggL_law_X7_spring : GoodIn wsL_law wsX7_spring := goodIn_r _ [324, 325, 22, 326, 327, 328, 2, 329, 154, 155, 156, 755, 756, 757, 758, 759, 760, 761, 762, 763, 764, 765, 766, 767, 812, 813, 814, 815] (by decide +kernel) (by decide +kernel)
set_option maxRecDepth 20000 in
theorem gL_law_X7_spring : GoodIn wsL_law (wsV RL 40 RX7 yX7_spring wsX7_spring) := goodIn_app (goodIn_of _ (by decide +kernel)) ggL_law_X7_spring

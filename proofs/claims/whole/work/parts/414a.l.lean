set_option maxRecDepth 20000 in
theorem ggL_law_X7_init : GoodIn wsL_law wsX7_init := goodIn_r _ [9, 10, 11, 12, 13, 14, 15, 16, 17, 18, 19, 20, 21, 22, 23, 24, 25, 26, 27, 28, 29, 30, 31, 32, 33, 34, 35, 36, 37, 38, 39, 40, 41, 42, 43, 44, 45, 46, 47, 48, 49, 50, 51, 52, 53, 54, 55, 56, 57, 58, 59, 60, 61, 62, 63, 64, 65, 66, 67, 68, 69, 70, 71, 72, 73, 74, 75, 76, 77, 78, 79, 80, 81, 82, 83, 84, 85, 86, 87, 88, 89, 90, 91, 92, 93, 94, 95, 96, 97, 98, 99, 100, 101, 102, 103, 104, 105, 106, 107, 108, 109, 110, 111, 112, 113, 114, 115, 116, 117, 118, 119, 120, 121, 122, 123, 124, 756, 757, 758, 759, 760, 761, 762, 763, 764, 765, 766, 767, 768, 807, 808, 809, 810, 811, 812, 813, 814, 815, 816, 817, 818, 819, 820, 821, 822, 823, 824, 825, 826, 827, 828, 829, 830, 831, 832, 833, 834, 835, 836, 837, 838, 839, 840, 841, 842, 843, 844, 845, 846, 847, 848, 849] (by decide +kernel) (by decide +kernel)
set_option maxRecDepth 20000 in
theorem gL_law_X7_init : GoodIn wsL_law (wsX7_init) := ggL_law_X7_init
set_option maxRecDepth 20000 in
theorem ggL_law_X8_init : GoodIn wsL_law wsX8_init := goodIn_r _ [127, 128, 11, 12, 51, 129, 130, 131, 132, 133, 134, 135, 136, 137, 138, 139, 108, 140, 141, 142, 143, 144, 145, 146, 769, 770, 771, 772, 773, 774, 775, 776, 777, 778, 779, 780, 781, 782, 783, 784, 785, 786, 787, 788, 789, 790, 791, 792, 793, 794, 795, 796, 797, 798, 799, 800, 801, 802, 803, 804, 805, 806] (by decide +kernel) (by decide +kernel)
set_option maxRecDepth 20000 in
theorem gL_law_X8_init : GoodIn wsL_law (wsX8_init) := ggL_law_X8_init
set_option maxRecDepth 20000 in
theorem ggL_law_X7_ram : GoodIn wsL_law wsX7_ram := goodIn_r _ [150, 15, 14, 151, 152, 2, 153, 154, 155, 156, 157, 158, 159, 160, 161, 17, 162, 52, 53, 756, 757, 758, 759, 760, 761, 762, 763, 764, 765, 766, 767, 768, 807, 808, 809, 810, 811, 812, 813, 814] (by decide +kernel) (by decide +kernel)
set_option maxRecDepth 20000 in
theorem gL_law_X7_ram : GoodIn wsL_law (wsV RL 13 RX7 yX7_ram wsX7_ram) := goodIn_app (goodIn_of _ (by decide +kernel)) ggL_law_X7_ram
set_option maxRecDepth 20000 in
theorem ggL_law_X8_ram : GoodIn wsL_law wsX8_ram := goodIn_r _ [166, 167, 168, 129, 169, 170, 5, 171, 769, 770, 771, 772, 773, 774, 775, 776, 777, 778, 779, 780, 781, 782, 783, 784, 785, 786, 787, 788, 789, 790, 791, 792, 793, 794, 795, 796, 797, 798, 799, 800, 801, 802, 803, 804, 805, 806] (by decide +kernel) (by decide +kernel)
set_option maxRecDepth 20000 in
theorem gL_law_X8_ram : GoodIn wsL_law (wsV RL 17 RX8 yX8_ram wsX8_ram) := goodIn_app (goodIn_of _ (by decide +kernel)) ggL_law_X8_ram
set_option maxRecDepth 20000 in
theorem ggL_law_X7_set : GoodIn wsL_law wsX7_set := goodIn_r _ [175, 14, 176, 177, 178, 2, 179, 15, 156, 157, 158, 151, 152, 153, 154, 155, 180, 181, 182, 17, 183, 52, 159, 160, 161, 162, 53, 756, 757, 758, 759, 760, 761, 762, 763, 764, 765, 766, 767, 768, 807, 808, 809, 810, 811, 812, 813, 814] (by decide +kernel) (by decide +kernel)
set_option maxRecDepth 20000 in
theorem gL_law_X7_set : GoodIn wsL_law (wsV RL 18 RX7 yX7_set wsX7_set) := goodIn_app (goodIn_of _ (by decide +kernel)) ggL_law_X7_set
set_option maxRecDepth 20000 in
theorem ggL_law_X8_set : GoodIn wsL_law wsX8_set := goodIn_r _ [187, 167, 129, 188, 189, 190, 5, 191, 168, 169, 170, 171, 192, 193, 194, 195, 769, 770, 771, 772, 773, 774, 775, 776, 777, 778, 779, 780, 781, 782, 783, 784, 785, 786, 787, 788, 789, 790, 791, 792, 793, 794, 795, 796, 797, 798, 799, 800, 801, 802, 803, 804, 805, 806] (by decide +kernel) (by decide +kernel)
set_option maxRecDepth 20000 in
theorem gL_law_X8_set : GoodIn wsL_law (wsV RL 22 RX8 yX8_set wsX8_set) := goodIn_app (goodIn_of _ (by decide +kernel)) ggL_law_X8_set
set_option maxRecDepth 20000 in
theorem ggL_law_X7_about : GoodIn wsL_law wsX7_about := goodIn_r _ [199, 14, 176, 177, 178, 2, 179, 15, 156, 157, 158, 180, 181, 182, 17, 183, 52, 756, 757, 758, 759, 760, 761, 762, 763, 764, 765, 766, 767, 768, 807, 808, 809, 810, 811, 812, 813, 814] (by decide +kernel) (by decide +kernel)
set_option maxRecDepth 20000 in
theorem gL_law_X7_about : GoodIn wsL_law (wsV RL 23 RX7 yX7_about wsX7_about) := goodIn_app (goodIn_of _ (by decide +kernel)) ggL_law_X7_about
set_option maxRecDepth 20000 in
theorem ggL_law_X8_about : GoodIn wsL_law wsX8_about := goodIn_r _ [203, 167, 129, 188, 189, 190, 5, 191, 168, 169, 170, 171, 769, 770, 771, 772, 773, 774, 775, 776, 777, 778, 779, 780, 781, 782, 783, 784, 785, 786, 787, 788, 789, 790, 791, 792, 793, 794, 795, 796, 797, 798, 799, 800, 801, 802, 803, 804, 805, 806] (by decide +kernel) (by decide +kernel)
set_option maxRecDepth 20000 in
theorem gL_law_X8_about : GoodIn wsL_law (wsV RL 27 RX8 yX8_about wsX8_about) := goodIn_app (goodIn_of _ (by decide +kernel)) ggL_law_X8_about
set_option maxRecDepth 20000 in
theorem ggL_law_X7_work : GoodIn wsL_law wsX7_work := goodIn_r _ [207, 46, 208, 14, 151, 152, 2, 153, 154, 155, 156, 157, 158, 176, 177, 178, 179, 15, 209, 210, 211, 17, 212, 52, 213, 214, 215, 216, 756, 757, 758, 759, 760, 761, 762, 763, 764, 765, 766, 767, 768, 807, 808, 809, 810, 811, 812, 813, 814] (by decide +kernel) (by decide +kernel)
set_option maxRecDepth 20000 in
theorem gL_law_X7_work : GoodIn wsL_law (wsV RL 28 RX7 yX7_work wsX7_work) := goodIn_app (goodIn_of _ (by decide +kernel)) ggL_law_X7_work
set_option maxRecDepth 20000 in
theorem ggL_law_X8_work : GoodIn wsL_law wsX8_work := goodIn_r _ [220, 167, 221, 222, 223, 169, 170, 5, 171, 188, 189, 190, 191, 168, 224, 225, 226, 227, 130, 129, 228, 229, 230, 231, 769, 770, 771, 772, 773, 774, 775, 776, 777, 778, 779, 780, 781, 782, 783, 784, 785, 786, 787, 788, 789, 790, 791, 792, 793, 794, 795, 796, 797, 798, 799, 800, 801, 802, 803, 804, 805, 806] (by decide +kernel) (by decide +kernel)
set_option maxRecDepth 20000 in
theorem gL_law_X8_work : GoodIn wsL_law (wsV RL 31 RX8 yX8_work wsX8_work) := goodIn_app (goodIn_of _ (by decide +kernel)) ggL_law_X8_work
set_option maxRecDepth 20000 in
theorem ggL_law_X7_beat : GoodIn wsL_law wsX7_beat := goodIn_r _ [235, 14, 176, 177, 178, 2, 179, 15, 156, 157, 158, 236, 237, 238, 17, 239, 54, 240, 241, 242, 243, 53, 56, 57, 59, 52, 55, 58, 244, 245, 246, 247, 248, 249, 250, 251, 252, 253, 254, 255, 256, 257, 258, 259, 260, 261, 262, 263, 264, 265, 266, 267, 210, 211, 212, 213, 214, 215, 216, 268, 269, 270, 271, 756, 757, 758, 759, 760, 761, 762, 763, 764, 765, 766, 767, 768, 807, 808, 809, 810, 811, 812, 813, 814] (by decide +kernel) (by decide +kernel)
set_option maxRecDepth 20000 in
theorem gL_law_X7_beat : GoodIn wsL_law (wsV RL 32 RX7 yX7_beat wsX7_beat) := goodIn_app (goodIn_of _ (by decide +kernel)) ggL_law_X7_beat
set_option maxRecDepth 20000 in
theorem ggL_law_X8_beat : GoodIn wsL_law wsX8_beat := goodIn_r _ [275, 167, 276, 277, 278, 279, 280, 188, 189, 190, 5, 191, 168, 169, 170, 171, 224, 225, 226, 227, 130, 129, 281, 282, 283, 284, 285, 286, 287, 288, 228, 229, 230, 231, 769, 770, 771, 772, 773, 774, 775, 776, 777, 778, 779, 780, 781, 782, 783, 784, 785, 786, 787, 788, 789, 790, 791, 792, 793, 794, 795, 796, 797, 798, 799, 800, 801, 802, 803, 804, 805, 806] (by decide +kernel) (by decide +kernel)
set_option maxRecDepth 20000 in
theorem gL_law_X8_beat : GoodIn wsL_law (wsV RL 35 RX8 yX8_beat wsX8_beat) := goodIn_app (goodIn_of _ (by decide +kernel)) ggL_law_X8_beat
set_option maxRecDepth 20000 in
theorem ggL_law_X7_hourly : GoodIn wsL_law wsX7_hourly := goodIn_r _ [292, 14, 176, 177, 178, 2, 179, 15, 156, 157, 158, 293, 294, 295, 17, 296, 59, 240, 241, 242, 243, 53, 54, 56, 57, 52, 55, 58, 244, 245, 246, 247, 297, 298, 299, 300, 301, 237, 238, 239, 302, 303, 304, 305, 306, 307, 261, 262, 263, 264, 265, 266, 267, 210, 211, 212, 213, 214, 215, 216, 308, 309, 310, 311, 312, 313, 756, 757, 758, 759, 760, 761, 762, 763, 764, 765, 766, 767, 768, 807, 808, 809, 810, 811, 812, 813, 814] (by decide +kernel) (by decide +kernel)
set_option maxRecDepth 20000 in
theorem gL_law_X7_hourly : GoodIn wsL_law (wsV RL 36 RX7 yX7_hourly wsX7_hourly) := goodIn_app (goodIn_of _ (by decide +kernel)) ggL_law_X7_hourly
set_option maxRecDepth 20000 in
theorem ggL_law_X8_hourly : GoodIn wsL_law wsX8_hourly := goodIn_r _ [317, 167, 188, 189, 190, 5, 191, 168, 169, 170, 171, 224, 225, 226, 227, 130, 129, 318, 319, 320, 321, 280, 278, 279, 281, 282, 283, 284, 277, 276, 285, 286, 287, 288, 228, 229, 230, 231, 769, 770, 771, 772, 773, 774, 775, 776, 777, 778, 779, 780, 781, 782, 783, 784, 785, 786, 787, 788, 789, 790, 791, 792, 793, 794, 795, 796, 797, 798, 799, 800, 801, 802, 803, 804, 805, 806] (by decide +kernel) (by decide +kernel)
set_option maxRecDepth 20000 in
theorem gL_law_X8_hourly : GoodIn wsL_law (wsV RL 39 RX8 yX8_hourly wsX8_hourly) := goodIn_app (goodIn_of _ (by decide +kernel)) ggL_law_X8_hourly
set_option maxRecDepth 20000 in
theorem ggL_law_X7_spring : GoodIn wsL_law wsX7_spring := goodIn_r _ [325, 326, 22, 327, 328, 329, 2, 330, 156, 157, 158, 756, 757, 758, 759, 760, 761, 762, 763, 764, 765, 766, 767, 768, 815, 816, 817, 818] (by decide +kernel) (by decide +kernel)
set_option maxRecDepth 20000 in
theorem gL_law_X7_spring : GoodIn wsL_law (wsV RL 40 RX7 yX7_spring wsX7_spring) := goodIn_app (goodIn_of _ (by decide +kernel)) ggL_law_X7_spring

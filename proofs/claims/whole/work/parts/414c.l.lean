set_option maxRecDepth 20000 in
theorem ggL_law_X7_tank : GoodIn wsL_law wsX7_tank := goodIn_r _ [451, 34, 452, 453, 454, 33, 455, 456, 102, 101, 157, 2, 158, 457, 458, 459, 460, 756, 757, 758, 759, 760, 761, 762, 763, 764, 765, 766, 767, 768, 833, 834, 835, 836, 837, 838, 839, 840] (by decide +kernel) (by decide +kernel)
set_option maxRecDepth 20000 in
theorem gL_law_X7_tank : GoodIn wsL_law (wsV RL 74 RX7 yX7_tank wsX7_tank) := goodIn_app (goodIn_of _ (by decide +kernel)) ggL_law_X7_tank
set_option maxRecDepth 20000 in
theorem ggL_law_X8_tank : GoodIn wsL_law wsX8_tank := goodIn_r _ [464, 167, 335, 136, 465, 169, 170, 5, 171, 769, 770, 771, 772, 773, 774, 775, 776, 777, 778, 779, 780, 781, 782, 783, 784, 785, 786, 787, 788, 789, 790, 791, 792, 793, 794, 795, 796, 797, 798, 799, 800, 801, 802, 803, 804, 805, 806] (by decide +kernel) (by decide +kernel)
set_option maxRecDepth 20000 in
theorem gL_law_X8_tank : GoodIn wsL_law (wsV RL 77 RX8 yX8_tank wsX8_tank) := goodIn_app (goodIn_of _ (by decide +kernel)) ggL_law_X8_tank
set_option maxRecDepth 20000 in
theorem ggL_law_X7_type : GoodIn wsL_law wsX7_type := goodIn_r _ [469, 30, 156, 157, 2, 158, 470, 471, 472, 29, 473, 91, 90, 756, 757, 758, 759, 760, 761, 762, 763, 764, 765, 766, 767, 768, 826, 827, 828, 829, 830, 831, 832] (by decide +kernel) (by decide +kernel)
set_option maxRecDepth 20000 in
theorem gL_law_X7_type : GoodIn wsL_law (wsV RL 80 RX7 yX7_type wsX7_type) := goodIn_app (goodIn_of _ (by decide +kernel)) ggL_law_X7_type
set_option maxRecDepth 20000 in
theorem ggL_law_X8_type : GoodIn wsL_law wsX8_type := goodIn_r _ [477, 167, 478, 137, 479, 169, 170, 5, 171, 769, 770, 771, 772, 773, 774, 775, 776, 777, 778, 779, 780, 781, 782, 783, 784, 785, 786, 787, 788, 789, 790, 791, 792, 793, 794, 795, 796, 797, 798, 799, 800, 801, 802, 803, 804, 805, 806] (by decide +kernel) (by decide +kernel)
set_option maxRecDepth 20000 in
theorem gL_law_X8_type : GoodIn wsL_law (wsV RL 84 RX8 yX8_type wsX8_type) := goodIn_app (goodIn_of _ (by decide +kernel)) ggL_law_X8_type
set_option maxRecDepth 20000 in
theorem ggL_law_X7_clear : GoodIn wsL_law wsX7_clear := goodIn_r _ [483, 30, 484, 756, 757, 758, 759, 760, 761, 762, 763, 764, 765, 766, 767, 768, 826, 827, 828, 829, 830, 831, 832] (by decide +kernel) (by decide +kernel)
set_option maxRecDepth 20000 in
theorem gL_law_X7_clear : GoodIn wsL_law (wsV RL 85 RX7 yX7_clear wsX7_clear) := goodIn_app (goodIn_of _ (by decide +kernel)) ggL_law_X7_clear
set_option maxRecDepth 20000 in
theorem ggL_law_X8_clear : GoodIn wsL_law wsX8_clear := goodIn_r _ [488, 167, 478, 769, 770, 771, 772, 773, 774, 775, 776, 777, 778, 779, 780, 781, 782, 783, 784, 785, 786, 787, 788, 789, 790, 791, 792, 793, 794, 795, 796, 797, 798, 799, 800, 801, 802, 803, 804, 805, 806] (by decide +kernel) (by decide +kernel)
set_option maxRecDepth 20000 in
theorem gL_law_X8_clear : GoodIn wsL_law (wsV RL 88 RX8 yX8_clear wsX8_clear) := goodIn_app (goodIn_of _ (by decide +kernel)) ggL_law_X8_clear
set_option maxRecDepth 20000 in
theorem ggL_law_X7_rights : GoodIn wsL_law wsX7_rights := goodIn_r _ [492, 30, 493, 494, 495, 29, 496, 94, 95, 96, 91, 93, 497, 61, 62, 63, 92, 498, 73, 74, 75, 499, 500, 501, 502, 503, 504, 505, 506, 90, 507, 508, 509, 510, 511, 512, 513, 514, 756, 757, 758, 759, 760, 761, 762, 763, 764, 765, 766, 767, 768, 826, 827, 828, 829, 830, 831, 832] (by decide +kernel) (by decide +kernel)
set_option maxRecDepth 20000 in
theorem gL_law_X7_rights : GoodIn wsL_law (wsV RL 89 RX7 yX7_rights wsX7_rights) := goodIn_app (goodIn_of _ (by decide +kernel)) ggL_law_X7_rights
set_option maxRecDepth 20000 in
theorem ggL_law_X8_rights : GoodIn wsL_law wsX8_rights := goodIn_r _ [518, 167, 519, 478, 520, 138, 139, 521, 522, 523, 524, 5, 525, 526, 527, 528, 529, 530, 531, 532, 533, 534, 137, 169, 170, 171, 535, 536, 537, 538, 769, 770, 771, 772, 773, 774, 775, 776, 777, 778, 779, 780, 781, 782, 783, 784, 785, 786, 787, 788, 789, 790, 791, 792, 793, 794, 795, 796, 797, 798, 799, 800, 801, 802, 803, 804, 805, 806] (by decide +kernel) (by decide +kernel)
set_option maxRecDepth 20000 in
theorem gL_law_X8_rights : GoodIn wsL_law (wsV RL 92 RX8 yX8_rights wsX8_rights) := goodIn_app (goodIn_of _ (by decide +kernel)) ggL_law_X8_rights
set_option maxRecDepth 20000 in
theorem ggL_law_X7_right : GoodIn wsL_law wsX7_right := goodIn_r _ [542, 30, 156, 157, 2, 158, 543, 544, 545, 29, 546, 93, 756, 757, 758, 759, 760, 761, 762, 763, 764, 765, 766, 767, 768, 826, 827, 828, 829, 830, 831, 832] (by decide +kernel) (by decide +kernel)
set_option maxRecDepth 20000 in
theorem gL_law_X7_right : GoodIn wsL_law (wsV RL 93 RX7 yX7_right wsX7_right) := goodIn_app (goodIn_of _ (by decide +kernel)) ggL_law_X7_right
set_option maxRecDepth 20000 in
theorem ggL_law_X8_right : GoodIn wsL_law wsX8_right := goodIn_r _ [550, 167, 169, 170, 5, 171, 551, 552, 553, 554, 521, 138, 769, 770, 771, 772, 773, 774, 775, 776, 777, 778, 779, 780, 781, 782, 783, 784, 785, 786, 787, 788, 789, 790, 791, 792, 793, 794, 795, 796, 797, 798, 799, 800, 801, 802, 803, 804, 805, 806] (by decide +kernel) (by decide +kernel)
set_option maxRecDepth 20000 in
theorem gL_law_X8_right : GoodIn wsL_law (wsV RL 96 RX8 yX8_right wsX8_right) := goodIn_app (goodIn_of _ (by decide +kernel)) ggL_law_X8_right
set_option maxRecDepth 20000 in
theorem ggL_law_X7_hours : GoodIn wsL_law wsX7_hours := goodIn_r _ [558, 34, 559, 30, 45, 156, 157, 2, 158, 560, 561, 562, 563, 22, 327, 43, 15, 14, 180, 181, 182, 17, 183, 52, 564, 565, 566, 21, 567, 70, 71, 69, 568, 303, 304, 305, 306, 302, 294, 295, 296, 59, 240, 241, 242, 243, 53, 54, 56, 57, 55, 58, 244, 245, 246, 247, 307, 261, 262, 263, 264, 265, 266, 267, 210, 211, 212, 213, 214, 215, 216, 297, 298, 299, 300, 301, 237, 238, 239, 569, 570, 571, 33, 572, 102, 103, 104, 573, 574, 575, 576, 577, 578, 579, 580, 160, 161, 162, 581, 582, 583, 584, 101, 585, 105, 543, 544, 545, 29, 546, 93, 586, 587, 588, 589, 590, 106, 107, 109, 591, 592, 593, 594, 44, 756, 757, 758, 759, 760, 761, 762, 763, 764, 765, 766, 767, 768, 833, 834, 835, 836, 837, 838, 839, 840, 815, 816, 817, 818, 807, 808, 809, 810, 811, 812, 813, 814, 826, 827, 828, 829, 830, 831, 832] (by decide +kernel) (by decide +kernel)
set_option maxRecDepth 20000 in
theorem gL_law_X7_hours : GoodIn wsL_law (wsV RL 97 RX7 yX7_hours wsX7_hours) := goodIn_app (goodIn_of _ (by decide +kernel)) ggL_law_X7_hours
set_option maxRecDepth 20000 in
theorem ggL_law_X8_hours : GoodIn wsL_law wsX8_hours := goodIn_r _ [598, 167, 169, 170, 5, 171, 599, 600, 601, 602, 131, 603, 604, 446, 447, 168, 130, 132, 276, 140, 465, 136, 129, 605, 224, 225, 226, 227, 318, 319, 320, 321, 280, 278, 279, 281, 282, 283, 284, 277, 285, 286, 287, 288, 228, 229, 230, 231, 551, 552, 553, 554, 521, 138, 769, 770, 771, 772, 773, 774, 775, 776, 777, 778, 779, 780, 781, 782, 783, 784, 785, 786, 787, 788, 789, 790, 791, 792, 793, 794, 795, 796, 797, 798, 799, 800, 801, 802, 803, 804, 805, 806] (by decide +kernel) (by decide +kernel)
set_option maxRecDepth 20000 in
theorem gL_law_X8_hours : GoodIn wsL_law (wsV RL 100 RX8 yX8_hours wsX8_hours) := goodIn_app (goodIn_of _ (by decide +kernel)) ggL_law_X8_hours
set_option maxRecDepth 20000 in
theorem ggL_law_X7_book : GoodIn wsL_law wsX7_book := goodIn_r _ [609, 34, 610, 611, 612, 613, 559, 614, 615, 616, 156, 157, 2, 158, 756, 757, 758, 759, 760, 761, 762, 763, 764, 765, 766, 767, 768, 833, 834, 835, 836, 837, 838, 839, 840] (by decide +kernel) (by decide +kernel)
set_option maxRecDepth 20000 in
theorem gL_law_X7_book : GoodIn wsL_law (wsV RL 101 RX7 yX7_book wsX7_book) := goodIn_app (goodIn_of _ (by decide +kernel)) ggL_law_X7_book
set_option maxRecDepth 20000 in
theorem ggL_law_X8_book : GoodIn wsL_law wsX8_book := goodIn_r _ [620, 167, 406, 465, 140, 169, 170, 5, 171, 769, 770, 771, 772, 773, 774, 775, 776, 777, 778, 779, 780, 781, 782, 783, 784, 785, 786, 787, 788, 789, 790, 791, 792, 793, 794, 795, 796, 797, 798, 799, 800, 801, 802, 803, 804, 805, 806] (by decide +kernel) (by decide +kernel)
set_option maxRecDepth 20000 in
theorem gL_law_X8_book : GoodIn wsL_law (wsV RL 105 RX8 yX8_book wsX8_book) := goodIn_app (goodIn_of _ (by decide +kernel)) ggL_law_X8_book
set_option maxRecDepth 20000 in
theorem ggL_law_X7_read : GoodIn wsL_law wsX7_read := goodIn_r _ [624, 38, 625, 626, 2, 627, 326, 156, 157, 158, 176, 177, 178, 179, 15, 628, 629, 630, 37, 631, 116, 113, 114, 115, 756, 757, 758, 759, 760, 761, 762, 763, 764, 765, 766, 767, 768, 841, 842, 843, 844, 845, 846] (by decide +kernel) (by decide +kernel)
set_option maxRecDepth 20000 in
theorem gL_law_X7_read : GoodIn wsL_law (wsV RL 106 RX7 yX7_read wsX7_read) := goodIn_app (goodIn_of _ (by decide +kernel)) ggL_law_X7_read

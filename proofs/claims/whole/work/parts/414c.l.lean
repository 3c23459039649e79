set_option maxRecDepth 20000 in
theorem ggL_law_X7_tank : GoodIn wsL_law wsX7_tank := goodIn_r _ [450, 34, 451, 452, 453, 33, 454, 455, 100, 99, 155, 2, 156, 456, 457, 458, 459, 755, 756, 757, 758, 759, 760, 761, 762, 763, 764, 765, 766, 767, 830, 831, 832, 833, 834, 835, 836, 837] (by decide +kernel) (by decide +kernel)
set_option maxRecDepth 20000 in
theorem gL_law_X7_tank : GoodIn wsL_law (wsV RL 74 RX7 yX7_tank wsX7_tank) := goodIn_app (goodIn_of _ (by decide +kernel)) ggL_law_X7_tank
set_option maxRecDepth 20000 in
theorem ggL_law_X8_tank : GoodIn wsL_law wsX8_tank := goodIn_r _ [463, 165, 334, 134, 464, 167, 168, 5, 169, 768, 769, 770, 771, 772, 773, 774, 775, 776, 777, 778, 779, 780, 781, 782, 783, 784, 785, 786, 787, 788, 789, 790, 791, 792, 793, 794, 795, 796, 797, 798, 799, 800, 801, 802, 803, 804, 805] (by decide +kernel) (by decide +kernel)
set_option maxRecDepth 20000 in
theorem gL_law_X8_tank : GoodIn wsL_law (wsV RL 77 RX8 yX8_tank wsX8_tank) := goodIn_app (goodIn_of _ (by decide +kernel)) ggL_law_X8_tank
set_option maxRecDepth 20000 in
theorem ggL_law_X7_type : GoodIn wsL_law wsX7_type := goodIn_r _ [468, 30, 154, 155, 2, 156, 469, 470, 471, 29, 472, 89, 88, 755, 756, 757, 758, 759, 760, 761, 762, 763, 764, 765, 766, 767, 823, 824, 825, 826, 827, 828, 829] (by decide +kernel) (by decide +kernel)
set_option maxRecDepth 20000 in
theorem gL_law_X7_type : GoodIn wsL_law (wsV RL 80 RX7 yX7_type wsX7_type) := goodIn_app (goodIn_of _ (by decide +kernel)) ggL_law_X7_type
set_option maxRecDepth 20000 in
theorem ggL_law_X8_type : GoodIn wsL_law wsX8_type := goodIn_r _ [476, 165, 477, 135, 478, 167, 168, 5, 169, 768, 769, 770, 771, 772, 773, 774, 775, 776, 777, 778, 779, 780, 781, 782, 783, 784, 785, 786, 787, 788, 789, 790, 791, 792, 793, 794, 795, 796, 797, 798, 799, 800, 801, 802, 803, 804, 805] (by decide +kernel) (by decide +kernel)
set_option maxRecDepth 20000 in
theorem gL_law_X8_type : GoodIn wsL_law (wsV RL 84 RX8 yX8_type wsX8_type) := goodIn_app (goodIn_of _ (by decide +kernel)) ggL_law_X8_type
set_option maxRecDepth 20000 in
theorem ggL_law_X7_clear : GoodIn wsL_law wsX7_clear := goodIn_r _ [482, 30, 483, 755, 756, 757, 758, 759, 760, 761, 762, 763, 764, 765, 766, 767, 823, 824, 825, 826, 827, 828, 829] (by decide +kernel) (by decide +kernel)
set_option maxRecDepth 20000 in
theorem gL_law_X7_clear : GoodIn wsL_law (wsV RL 85 RX7 yX7_clear wsX7_clear) := goodIn_app (goodIn_of _ (by decide +kernel)) ggL_law_X7_clear
set_option maxRecDepth 20000 in
theorem ggL_law_X8_clear : GoodIn wsL_law wsX8_clear := goodIn_r _ [487, 165, 477, 768, 769, 770, 771, 772, 773, 774, 775, 776, 777, 778, 779, 780, 781, 782, 783, 784, 785, 786, 787, 788, 789, 790, 791, 792, 793, 794, 795, 796, 797, 798, 799, 800, 801, 802, 803, 804, 805] (by decide +kernel) (by decide +kernel)
set_option maxRecDepth 20000 in
theorem gL_law_X8_clear : GoodIn wsL_law (wsV RL 88 RX8 yX8_clear wsX8_clear) := goodIn_app (goodIn_of _ (by decide +kernel)) ggL_law_X8_clear
set_option maxRecDepth 20000 in
theorem ggL_law_X7_rights : GoodIn wsL_law wsX7_rights := goodIn_r _ [491, 30, 492, 493, 494, 29, 495, 92, 93, 94, 89, 91, 496, 59, 60, 61, 90, 497, 71, 72, 73, 498, 499, 500, 501, 502, 503, 504, 505, 88, 506, 507, 508, 509, 510, 511, 512, 513, 755, 756, 757, 758, 759, 760, 761, 762, 763, 764, 765, 766, 767, 823, 824, 825, 826, 827, 828, 829] (by decide +kernel) (by decide +kernel)
set_option maxRecDepth 20000 in
theorem gL_law_X7_rights : GoodIn wsL_law (wsV RL 89 RX7 yX7_rights wsX7_rights) := goodIn_app (goodIn_of _ (by decide +kernel)) ggL_law_X7_rights
set_option maxRecDepth 20000 in
theorem ggL_law_X8_rights : GoodIn wsL_law wsX8_rights := goodIn_r _ [517, 165, 518, 477, 519, 136, 137, 520, 521, 522, 523, 5, 524, 525, 526, 527, 528, 529, 530, 531, 532, 533, 135, 167, 168, 169, 534, 535, 536, 537, 768, 769, 770, 771, 772, 773, 774, 775, 776, 777, 778, 779, 780, 781, 782, 783, 784, 785, 786, 787, 788, 789, 790, 791, 792, 793, 794, 795, 796, 797, 798, 799, 800, 801, 802, 803, 804, 805] (by decide +kernel) (by decide +kernel)
set_option maxRecDepth 20000 in
theorem gL_law_X8_rights : GoodIn wsL_law (wsV RL 92 RX8 yX8_rights wsX8_rights) := goodIn_app (goodIn_of _ (by decide +kernel)) ggL_law_X8_rights
set_option maxRecDepth 20000 in
theorem ggL_law_X7_right : GoodIn wsL_law wsX7_right := goodIn_r _ [541, 30, 154, 155, 2, 156, 542, 543, 544, 29, 545, 91, 755, 756, 757, 758, 759, 760, 761, 762, 763, 764, 765, 766, 767, 823, 824, 825, 826, 827, 828, 829] (by decide +kernel) (by decide +kernel)
set_option maxRecDepth 20000 in
theorem gL_law_X7_right : GoodIn wsL_law (wsV RL 93 RX7 yX7_right wsX7_right) := goodIn_app (goodIn_of _ (by decide +kernel)) ggL_law_X7_right
set_option maxRecDepth 20000 in
theorem ggL_law_X8_right : GoodIn wsL_law wsX8_right := goodIn_r _ [549, 165, 167, 168, 5, 169, 550, 551, 552, 553, 520, 136, 768, 769, 770, 771, 772, 773, 774, 775, 776, 777, 778, 779, 780, 781, 782, 783, 784, 785, 786, 787, 788, 789, 790, 791, 792, 793, 794, 795, 796, 797, 798, 799, 800, 801, 802, 803, 804, 805] (by decide +kernel) (by decide +kernel)
set_option maxRecDepth 20000 in
theorem gL_law_X8_right : GoodIn wsL_law (wsV RL 96 RX8 yX8_right wsX8_right) := goodIn_app (goodIn_of _ (by decide +kernel)) ggL_law_X8_right
set_option maxRecDepth 20000 in
theorem ggL_law_X7_hours : GoodIn wsL_law wsX7_hours := goodIn_r _ [557, 34, 558, 30, 45, 154, 155, 2, 156, 559, 560, 561, 562, 22, 326, 43, 15, 14, 178, 179, 180, 17, 181, 52, 563, 564, 565, 21, 566, 68, 69, 67, 567, 302, 303, 304, 305, 301, 291, 292, 293, 54, 294, 238, 239, 240, 241, 53, 56, 57, 55, 242, 243, 244, 295, 266, 267, 268, 306, 258, 259, 260, 261, 262, 263, 264, 208, 209, 210, 211, 212, 213, 214, 296, 297, 298, 299, 300, 235, 236, 237, 568, 569, 570, 33, 571, 100, 101, 102, 572, 573, 574, 575, 576, 577, 578, 579, 158, 159, 160, 580, 581, 582, 583, 99, 584, 103, 542, 543, 544, 29, 545, 91, 585, 586, 587, 588, 589, 104, 105, 107, 590, 591, 592, 593, 44, 755, 756, 757, 758, 759, 760, 761, 762, 763, 764, 765, 766, 767, 830, 831, 832, 833, 834, 835, 836, 837, 812, 813, 814, 815, 806, 807, 808, 809, 810, 811, 823, 824, 825, 826, 827, 828, 829] (by decide +kernel) (by decide +kernel)
set_option maxRecDepth 20000 in
theorem gL_law_X7_hours : GoodIn wsL_law (wsV RL 97 RX7 yX7_hours wsX7_hours) := goodIn_app (goodIn_of _ (by decide +kernel)) ggL_law_X7_hours
set_option maxRecDepth 20000 in
theorem ggL_law_X8_hours : GoodIn wsL_law wsX8_hours := goodIn_r _ [597, 165, 167, 168, 5, 169, 598, 599, 600, 601, 129, 602, 603, 445, 446, 166, 128, 130, 273, 138, 464, 134, 127, 604, 222, 223, 224, 225, 317, 318, 319, 320, 277, 275, 276, 278, 279, 280, 281, 274, 282, 283, 284, 285, 226, 227, 228, 229, 550, 551, 552, 553, 520, 136, 768, 769, 770, 771, 772, 773, 774, 775, 776, 777, 778, 779, 780, 781, 782, 783, 784, 785, 786, 787, 788, 789, 790, 791, 792, 793, 794, 795, 796, 797, 798, 799, 800, 801, 802, 803, 804, 805] (by decide +kernel) (by decide +kernel)
set_option maxRecDepth 20000 in
theorem gL_law_X8_hours : GoodIn wsL_law (wsV RL 100 RX8 yX8_hours wsX8_hours) := goodIn_app (goodIn_of _ (by decide +kernel)) ggL_law_X8_hours
set_option maxRecDepth 20000 in
theorem ggL_law_X7_book : GoodIn wsL_law wsX7_book := goodIn_r _ [608, 34, 609, 610, 611, 612, 558, 613, 614, 615, 154, 155, 2, 156, 755, 756, 757, 758, 759, 760, 761, 762, 763, 764, 765, 766, 767, 830, 831, 832, 833, 834, 835, 836, 837] (by decide +kernel) (by decide +kernel)
set_option maxRecDepth 20000 in
theorem gL_law_X7_book : GoodIn wsL_law (wsV RL 101 RX7 yX7_book wsX7_book) := goodIn_app (goodIn_of _ (by decide +kernel)) ggL_law_X7_book
set_option maxRecDepth 20000 in
theorem ggL_law_X8_book : GoodIn wsL_law wsX8_book := goodIn_r _ [619, 165, 405, 464, 138, 167, 168, 5, 169, 768, 769, 770, 771, 772, 773, 774, 775, 776, 777, 778, 779, 780, 781, 782, 783, 784, 785, 786, 787, 788, 789, 790, 791, 792, 793, 794, 795, 796, 797, 798, 799, 800, 801, 802, 803, 804, 805] (by decide +kernel) (by decide +kernel)
set_option maxRecDepth 20000 in
theorem gL_law_X8_book : GoodIn wsL_law (wsV RL 105 RX8 yX8_book wsX8_book) := goodIn_app (goodIn_of _ (by decide +kernel)) ggL_law_X8_book
set_option maxRecDepth 20000 in
theorem ggL_law_X7_read : GoodIn wsL_law wsX7_read := goodIn_r _ [623, 38, 624, 625, 2, 626, 325, 154, 155, 156, 174, 175, 176, 177, 15, 627, 628, 629, 37, 630, 114, 111, 112, 113, 755, 756, 757, 758, 759, 760, 761, 762, 763, 764, 765, 766, 767, 838, 839, 840, 841, 842, 843] (by decide +kernel) (by decide +kernel)
set_option maxRecDepth 20000 in
theorem gL_law_X7_read : GoodIn wsL_law (wsV RL 106 RX7 yX7_read wsX7_read) := goodIn_app (goodIn_of _ (by decide +kernel)) ggL_law_X7_read

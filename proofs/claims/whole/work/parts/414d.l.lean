set_option maxRecDepth 20000 in
theorem ggL_law_X8_read : GoodIn wsL_law wsX8_read := goodIn_r _ [635, 167, 636, 141, 142, 143, 188, 189, 190, 5, 191, 168, 169, 170, 171, 637, 638, 639, 335, 769, 770, 771, 772, 773, 774, 775, 776, 777, 778, 779, 780, 781, 782, 783, 784, 785, 786, 787, 788, 789, 790, 791, 792, 793, 794, 795, 796, 797, 798, 799, 800, 801, 802, 803, 804, 805, 806] (by decide +kernel) (by decide +kernel)
set_option maxRecDepth 20000 in
theorem gL_law_X8_read : GoodIn wsL_law (wsV RL 109 RX8 yX8_read wsX8_read) := goodIn_app (goodIn_of _ (by decide +kernel)) ggL_law_X8_read
set_option maxRecDepth 20000 in
theorem ggL_law_X7_wipe : GoodIn wsL_law wsX7_wipe := goodIn_r _ [643, 38, 644, 756, 757, 758, 759, 760, 761, 762, 763, 764, 765, 766, 767, 768, 841, 842, 843, 844, 845, 846] (by decide +kernel) (by decide +kernel)
set_option maxRecDepth 20000 in
theorem gL_law_X7_wipe : GoodIn wsL_law (wsV RL 110 RX7 yX7_wipe wsX7_wipe) := goodIn_app (goodIn_of _ (by decide +kernel)) ggL_law_X7_wipe
set_option maxRecDepth 20000 in
theorem ggL_law_X8_wipe : GoodIn wsL_law wsX8_wipe := goodIn_r _ [648, 167, 636, 769, 770, 771, 772, 773, 774, 775, 776, 777, 778, 779, 780, 781, 782, 783, 784, 785, 786, 787, 788, 789, 790, 791, 792, 793, 794, 795, 796, 797, 798, 799, 800, 801, 802, 803, 804, 805, 806] (by decide +kernel) (by decide +kernel)
set_option maxRecDepth 20000 in
theorem gL_law_X8_wipe : GoodIn wsL_law (wsV RL 113 RX8 yX8_wipe wsX8_wipe) := goodIn_app (goodIn_of _ (by decide +kernel)) ggL_law_X8_wipe
set_option maxRecDepth 20000 in
theorem ggL_law_X7_tolerance : GoodIn wsL_law wsX7_tolerance := goodIn_r _ [652, 38, 653, 654, 156, 157, 2, 158, 756, 757, 758, 759, 760, 761, 762, 763, 764, 765, 766, 767, 768, 841, 842, 843, 844, 845, 846] (by decide +kernel) (by decide +kernel)
set_option maxRecDepth 20000 in
theorem gL_law_X7_tolerance : GoodIn wsL_law (wsV RL 114 RX7 yX7_tolerance wsX7_tolerance) := goodIn_app (goodIn_of _ (by decide +kernel)) ggL_law_X7_tolerance
set_option maxRecDepth 20000 in
theorem ggL_law_X8_tolerance : GoodIn wsL_law wsX8_tolerance := goodIn_r _ [658, 167, 144, 145, 169, 170, 5, 171, 769, 770, 771, 772, 773, 774, 775, 776, 777, 778, 779, 780, 781, 782, 783, 784, 785, 786, 787, 788, 789, 790, 791, 792, 793, 794, 795, 796, 797, 798, 799, 800, 801, 802, 803, 804, 805, 806] (by decide +kernel) (by decide +kernel)
set_option maxRecDepth 20000 in
theorem gL_law_X8_tolerance : GoodIn wsL_law (wsV RL 117 RX8 yX8_tolerance wsX8_tolerance) := goodIn_app (goodIn_of _ (by decide +kernel)) ggL_law_X8_tolerance
set_option maxRecDepth 20000 in
theorem ggL_law_X7_fits : GoodIn wsL_law wsX7_fits := goodIn_r _ [662, 18, 14, 38, 176, 177, 178, 2, 179, 15, 156, 157, 158, 343, 344, 345, 17, 346, 52, 60, 61, 62, 63, 53, 663, 664, 665, 666, 580, 160, 161, 162, 667, 668, 669, 37, 670, 116, 113, 671, 294, 295, 296, 59, 240, 241, 242, 243, 54, 56, 57, 55, 58, 244, 245, 246, 247, 672, 304, 305, 306, 302, 307, 261, 262, 263, 264, 265, 266, 267, 210, 211, 212, 213, 214, 215, 216, 673, 674, 675, 676, 114, 677, 678, 679, 117, 680, 681, 682, 683, 115, 118, 756, 757, 758, 759, 760, 761, 762, 763, 764, 765, 766, 767, 768, 807, 808, 809, 810, 811, 812, 813, 814, 841, 842, 843, 844, 845, 846] (by decide +kernel) (by decide +kernel)
set_option maxRecDepth 20000 in
theorem gL_law_X7_fits : GoodIn wsL_law (wsV RL 118 RX7 yX7_fits wsX7_fits) := goodIn_app (goodIn_of _ (by decide +kernel)) ggL_law_X7_fits
set_option maxRecDepth 20000 in
theorem ggL_law_X8_fits : GoodIn wsL_law wsX8_fits := goodIn_r _ [687, 167, 188, 189, 190, 5, 191, 168, 169, 170, 171, 688, 689, 690, 691, 130, 636, 141, 142, 144, 143, 145, 285, 224, 225, 226, 227, 129, 692, 693, 694, 318, 319, 320, 321, 280, 278, 279, 281, 282, 283, 284, 277, 276, 286, 287, 288, 228, 229, 230, 231, 769, 770, 771, 772, 773, 774, 775, 776, 777, 778, 779, 780, 781, 782, 783, 784, 785, 786, 787, 788, 789, 790, 791, 792, 793, 794, 795, 796, 797, 798, 799, 800, 801, 802, 803, 804, 805, 806] (by decide +kernel) (by decide +kernel)
set_option maxRecDepth 20000 in
theorem gL_law_X8_fits : GoodIn wsL_law (wsV RL 121 RX8 yX8_fits wsX8_fits) := goodIn_app (goodIn_of _ (by decide +kernel)) ggL_law_X8_fits
set_option maxRecDepth 20000 in
theorem ggL_law_X7_ails : GoodIn wsL_law wsX7_ails := goodIn_r _ [698, 42, 699, 700, 176, 177, 178, 2, 179, 15, 156, 157, 158, 701, 702, 703, 704, 18, 14, 38, 705, 706, 707, 41, 708, 122, 123, 124, 709, 73, 74, 75, 343, 344, 345, 17, 346, 52, 60, 61, 62, 63, 53, 663, 664, 665, 666, 580, 160, 161, 162, 667, 668, 669, 37, 670, 116, 113, 671, 294, 295, 296, 59, 240, 241, 242, 243, 54, 56, 57, 55, 58, 244, 245, 246, 247, 672, 304, 305, 306, 302, 307, 261, 262, 263, 264, 265, 266, 267, 210, 211, 212, 213, 214, 215, 216, 673, 674, 675, 676, 114, 677, 678, 679, 117, 680, 681, 682, 683, 115, 118, 710, 711, 712, 713, 714, 715, 716, 717, 718, 719, 720, 721, 722, 578, 579, 756, 757, 758, 759, 760, 761, 762, 763, 764, 765, 766, 767, 768, 847, 848, 849, 807, 808, 809, 810, 811, 812, 813, 814, 841, 842, 843, 844, 845, 846] (by decide +kernel) (by decide +kernel)
set_option maxRecDepth 20000 in
theorem gL_law_X7_ails : GoodIn wsL_law (wsV RL 122 RX7 yX7_ails wsX7_ails) := goodIn_app (goodIn_of _ (by decide +kernel)) ggL_law_X7_ails
set_option maxRecDepth 20000 in
theorem ggL_law_X8_ails : GoodIn wsL_law wsX8_ails := goodIn_r _ [726, 167, 146, 188, 189, 190, 5, 191, 168, 169, 170, 171, 688, 689, 690, 691, 130, 636, 141, 142, 144, 143, 145, 285, 224, 225, 226, 227, 129, 692, 693, 694, 318, 319, 320, 321, 280, 278, 279, 281, 282, 283, 284, 277, 276, 286, 287, 288, 228, 229, 230, 231, 769, 770, 771, 772, 773, 774, 775, 776, 777, 778, 779, 780, 781, 782, 783, 784, 785, 786, 787, 788, 789, 790, 791, 792, 793, 794, 795, 796, 797, 798, 799, 800, 801, 802, 803, 804, 805, 806] (by decide +kernel) (by decide +kernel)
set_option maxRecDepth 20000 in
theorem gL_law_X8_ails : GoodIn wsL_law (wsV RL 125 RX8 yX8_ails wsX8_ails) := goodIn_app (goodIn_of _ (by decide +kernel)) ggL_law_X8_ails
set_option maxRecDepth 20000 in
theorem ggL_law_X7_sure : GoodIn wsL_law wsX7_sure := goodIn_r _ [730, 42, 176, 177, 178, 2, 179, 15, 156, 157, 158, 701, 702, 703, 704, 18, 14, 38, 705, 706, 707, 41, 708, 122, 123, 124, 709, 73, 74, 75, 343, 344, 345, 17, 346, 52, 60, 61, 62, 63, 53, 663, 664, 665, 666, 580, 160, 161, 162, 667, 668, 669, 37, 670, 116, 113, 671, 294, 295, 296, 59, 240, 241, 242, 243, 54, 56, 57, 55, 58, 244, 245, 246, 247, 672, 304, 305, 306, 302, 307, 261, 262, 263, 264, 265, 266, 267, 210, 211, 212, 213, 214, 215, 216, 673, 674, 675, 676, 114, 677, 678, 679, 117, 680, 681, 682, 683, 115, 118, 710, 711, 712, 713, 731, 732, 733, 734, 756, 757, 758, 759, 760, 761, 762, 763, 764, 765, 766, 767, 768, 847, 848, 849, 807, 808, 809, 810, 811, 812, 813, 814, 841, 842, 843, 844, 845, 846] (by decide +kernel) (by decide +kernel)
set_option maxRecDepth 20000 in
theorem gL_law_X7_sure : GoodIn wsL_law (wsV RL 126 RX7 yX7_sure wsX7_sure) := goodIn_app (goodIn_of _ (by decide +kernel)) ggL_law_X7_sure
set_option maxRecDepth 20000 in
theorem ggL_law_X8_sure : GoodIn wsL_law wsX8_sure := goodIn_r _ [738, 167, 188, 189, 190, 5, 191, 168, 169, 170, 171, 688, 689, 690, 691, 130, 636, 141, 142, 144, 143, 145, 285, 224, 225, 226, 227, 129, 692, 693, 694, 318, 319, 320, 321, 280, 278, 279, 281, 282, 283, 284, 277, 276, 286, 287, 288, 228, 229, 230, 231, 769, 770, 771, 772, 773, 774, 775, 776, 777, 778, 779, 780, 781, 782, 783, 784, 785, 786, 787, 788, 789, 790, 791, 792, 793, 794, 795, 796, 797, 798, 799, 800, 801, 802, 803, 804, 805, 806] (by decide +kernel) (by decide +kernel)
set_option maxRecDepth 20000 in
theorem gL_law_X8_sure : GoodIn wsL_law (wsV RL 129 RX8 yX8_sure wsX8_sure) := goodIn_app (goodIn_of _ (by decide +kernel)) ggL_law_X8_sure
set_option maxRecDepth 20000 in
theorem ggL_law_X7_count : GoodIn wsL_law wsX7_count := goodIn_r _ [742, 15, 26, 372, 30, 743, 38, 644, 43, 44, 45, 484, 756, 757, 758, 759, 760, 761, 762, 763, 764, 765, 766, 767, 768, 819, 820, 821, 822, 823, 824, 825, 826, 827, 828, 829, 830, 831, 832, 841, 842, 843, 844, 845, 846] (by decide +kernel) (by decide +kernel)
set_option maxRecDepth 20000 in
theorem gL_law_X7_count : GoodIn wsL_law (wsV RL 130 RX7 yX7_count wsX7_count) := goodIn_app (goodIn_of _ (by decide +kernel)) ggL_law_X7_count
set_option maxRecDepth 20000 in
theorem ggL_law_X8_count : GoodIn wsL_law wsX8_count := goodIn_r _ [747, 167, 168, 367, 521, 636, 603, 605, 604, 478, 769, 770, 771, 772, 773, 774, 775, 776, 777, 778, 779, 780, 781, 782, 783, 784, 785, 786, 787, 788, 789, 790, 791, 792, 793, 794, 795, 796, 797, 798, 799, 800, 801, 802, 803, 804, 805, 806] (by decide +kernel) (by decide +kernel)
set_option maxRecDepth 20000 in
theorem gL_law_X8_count : GoodIn wsL_law (wsV RL 133 RX8 yX8_count wsX8_count) := goodIn_app (goodIn_of _ (by decide +kernel)) ggL_law_X8_count
set_option maxRecDepth 20000 in
theorem ggL_law_X7_trace : GoodIn wsL_law wsX7_trace := goodIn_r _ [751, 46, 756, 757, 758, 759, 760, 761, 762, 763, 764, 765, 766, 767, 768] (by decide +kernel) (by decide +kernel)
set_option maxRecDepth 20000 in
theorem gL_law_X7_trace : GoodIn wsL_law (wsV RL 134 RX7 yX7_trace wsX7_trace) := goodIn_app (goodIn_of _ (by decide +kernel)) ggL_law_X7_trace
set_option maxRecDepth 20000 in
theorem ggL_law_X8_trace : GoodIn wsL_law wsX8_trace := goodIn_r _ [755, 167, 221, 769, 770, 771, 772, 773, 774, 775, 776, 777, 778, 779, 780, 781, 782, 783, 784, 785, 786, 787, 788, 789, 790, 791, 792, 793, 794, 795, 796, 797, 798, 799, 800, 801, 802, 803, 804, 805, 806] (by decide +kernel) (by decide +kernel)
set_option maxRecDepth 20000 in
theorem gL_law_X8_trace : GoodIn wsL_law (wsV RL 138 RX8 yX8_trace wsX8_trace) := goodIn_app (goodIn_of _ (by decide +kernel)) ggL_law_X8_trace

set_option maxRecDepth 20000 in
theorem ggL_law_X8_read : GoodIn wsL_law wsX8_read := goodIn_r _ [634, 165, 635, 139, 140, 141, 186, 187, 188, 5, 189, 166, 167, 168, 169, 636, 637, 638, 334, 768, 769, 770, 771, 772, 773, 774, 775, 776, 777, 778, 779, 780, 781, 782, 783, 784, 785, 786, 787, 788, 789, 790, 791, 792, 793, 794, 795, 796, 797, 798, 799, 800, 801, 802, 803, 804, 805] (by decide +kernel) (by decide +kernel)
set_option maxRecDepth 20000 in
theorem gL_law_X8_read : GoodIn wsL_law (wsV RL 109 RX8 yX8_read wsX8_read) := goodIn_app (goodIn_of _ (by decide +kernel)) ggL_law_X8_read
set_option maxRecDepth 20000 in
theorem ggL_law_X7_wipe : GoodIn wsL_law wsX7_wipe := goodIn_r _ [642, 38, 643, 755, 756, 757, 758, 759, 760, 761, 762, 763, 764, 765, 766, 767, 838, 839, 840, 841, 842, 843] (by decide +kernel) (by decide +kernel)
set_option maxRecDepth 20000 in
theorem gL_law_X7_wipe : GoodIn wsL_law (wsV RL 110 RX7 yX7_wipe wsX7_wipe) := goodIn_app (goodIn_of _ (by decide +kernel)) ggL_law_X7_wipe
set_option maxRecDepth 20000 in
theorem ggL_law_X8_wipe : GoodIn wsL_law wsX8_wipe := goodIn_r _ [647, 165, 635, 768, 769, 770, 771, 772, 773, 774, 775, 776, 777, 778, 779, 780, 781, 782, 783, 784, 785, 786, 787, 788, 789, 790, 791, 792, 793, 794, 795, 796, 797, 798, 799, 800, 801, 802, 803, 804, 805] (by decide +kernel) (by decide +kernel)
set_option maxRecDepth 20000 in
theorem gL_law_X8_wipe : GoodIn wsL_law (wsV RL 113 RX8 yX8_wipe wsX8_wipe) := goodIn_app (goodIn_of _ (by decide +kernel)) ggL_law_X8_wipe
set_option maxRecDepth 20000 in
theorem ggL_law_X7_tolerance : GoodIn wsL_law wsX7_tolerance := goodIn_r _ [651, 38, 652, 653, 154, 155, 2, 156, 755, 756, 757, 758, 759, 760, 761, 762, 763, 764, 765, 766, 767, 838, 839, 840, 841, 842, 843] (by decide +kernel) (by decide +kernel)
set_option maxRecDepth 20000 in
theorem gL_law_X7_tolerance : GoodIn wsL_law (wsV RL 114 RX7 yX7_tolerance wsX7_tolerance) := goodIn_app (goodIn_of _ (by decide +kernel)) ggL_law_X7_tolerance
set_option maxRecDepth 20000 in
theorem ggL_law_X8_tolerance : GoodIn wsL_law wsX8_tolerance := goodIn_r _ [657, 165, 142, 143, 167, 168, 5, 169, 768, 769, 770, 771, 772, 773, 774, 775, 776, 777, 778, 779, 780, 781, 782, 783, 784, 785, 786, 787, 788, 789, 790, 791, 792, 793, 794, 795, 796, 797, 798, 799, 800, 801, 802, 803, 804, 805] (by decide +kernel) (by decide +kernel)
set_option maxRecDepth 20000 in
theorem gL_law_X8_tolerance : GoodIn wsL_law (wsV RL 117 RX8 yX8_tolerance wsX8_tolerance) := goodIn_app (goodIn_of _ (by decide +kernel)) ggL_law_X8_tolerance
set_option maxRecDepth 20000 in
theorem ggL_law_X7_fits : GoodIn wsL_law wsX7_fits := goodIn_r _ [661, 18, 14, 38, 174, 175, 176, 2, 177, 15, 154, 155, 156, 342, 343, 344, 17, 345, 52, 58, 59, 60, 61, 53, 662, 663, 664, 665, 579, 158, 159, 160, 666, 667, 668, 37, 669, 114, 111, 670, 291, 292, 293, 54, 294, 238, 239, 240, 241, 56, 57, 55, 242, 243, 244, 295, 266, 267, 268, 671, 303, 304, 305, 301, 306, 258, 259, 260, 261, 262, 263, 264, 208, 209, 210, 211, 212, 213, 214, 672, 673, 674, 675, 112, 676, 677, 678, 115, 679, 680, 681, 682, 113, 116, 755, 756, 757, 758, 759, 760, 761, 762, 763, 764, 765, 766, 767, 806, 807, 808, 809, 810, 811, 838, 839, 840, 841, 842, 843] (by decide +kernel) (by decide +kernel)
set_option maxRecDepth 20000 in
theorem gL_law_X7_fits : GoodIn wsL_law (wsV RL 118 RX7 yX7_fits wsX7_fits) := goodIn_app (goodIn_of _ (by decide +kernel)) ggL_law_X7_fits
set_option maxRecDepth 20000 in
theorem ggL_law_X8_fits : GoodIn wsL_law wsX8_fits := goodIn_r _ [686, 165, 186, 187, 188, 5, 189, 166, 167, 168, 169, 687, 688, 689, 690, 128, 635, 139, 140, 142, 141, 143, 282, 222, 223, 224, 225, 127, 691, 692, 693, 317, 318, 319, 320, 277, 275, 276, 278, 279, 280, 281, 274, 273, 283, 284, 285, 226, 227, 228, 229, 768, 769, 770, 771, 772, 773, 774, 775, 776, 777, 778, 779, 780, 781, 782, 783, 784, 785, 786, 787, 788, 789, 790, 791, 792, 793, 794, 795, 796, 797, 798, 799, 800, 801, 802, 803, 804, 805] (by decide +kernel) (by decide +kernel)
set_option maxRecDepth 20000 in
theorem gL_law_X8_fits : GoodIn wsL_law (wsV RL 121 RX8 yX8_fits wsX8_fits) := goodIn_app (goodIn_of _ (by decide +kernel)) ggL_law_X8_fits
set_option maxRecDepth 20000 in
theorem ggL_law_X7_ails : GoodIn wsL_law wsX7_ails := goodIn_r _ [697, 42, 698, 699, 174, 175, 176, 2, 177, 15, 154, 155, 156, 700, 701, 702, 703, 18, 14, 38, 704, 705, 706, 41, 707, 120, 121, 122, 708, 71, 72, 73, 342, 343, 344, 17, 345, 52, 58, 59, 60, 61, 53, 662, 663, 664, 665, 579, 158, 159, 160, 666, 667, 668, 37, 669, 114, 111, 670, 291, 292, 293, 54, 294, 238, 239, 240, 241, 56, 57, 55, 242, 243, 244, 295, 266, 267, 268, 671, 303, 304, 305, 301, 306, 258, 259, 260, 261, 262, 263, 264, 208, 209, 210, 211, 212, 213, 214, 672, 673, 674, 675, 112, 676, 677, 678, 115, 679, 680, 681, 682, 113, 116, 709, 710, 711, 712, 713, 714, 715, 716, 717, 718, 719, 720, 721, 577, 578, 755, 756, 757, 758, 759, 760, 761, 762, 763, 764, 765, 766, 767, 844, 845, 846, 806, 807, 808, 809, 810, 811, 838, 839, 840, 841, 842, 843] (by decide +kernel) (by decide +kernel)
set_option maxRecDepth 20000 in
theorem gL_law_X7_ails : GoodIn wsL_law (wsV RL 122 RX7 yX7_ails wsX7_ails) := goodIn_app (goodIn_of _ (by decide +kernel)) ggL_law_X7_ails
set_option maxRecDepth 20000 in
theorem ggL_law_X8_ails : GoodIn wsL_law wsX8_ails := goodIn_r _ [725, 165, 144, 186, 187, 188, 5, 189, 166, 167, 168, 169, 687, 688, 689, 690, 128, 635, 139, 140, 142, 141, 143, 282, 222, 223, 224, 225, 127, 691, 692, 693, 317, 318, 319, 320, 277, 275, 276, 278, 279, 280, 281, 274, 273, 283, 284, 285, 226, 227, 228, 229, 768, 769, 770, 771, 772, 773, 774, 775, 776, 777, 778, 779, 780, 781, 782, 783, 784, 785, 786, 787, 788, 789, 790, 791, 792, 793, 794, 795, 796, 797, 798, 799, 800, 801, 802, 803, 804, 805] (by decide +kernel) (by decide +kernel)
set_option maxRecDepth 20000 in
theorem gL_law_X8_ails : GoodIn wsL_law (wsV RL 125 RX8 yX8_ails wsX8_ails) := goodIn_app (goodIn_of _ (by decide +kernel)) ggL_law_X8_ails
set_option maxRecDepth 20000 in
theorem ggL_law_X7_sure : GoodIn wsL_law wsX7_sure := goodIn_r _ [729, 42, 174, 175, 176, 2, 177, 15, 154, 155, 156, 700, 701, 702, 703, 18, 14, 38, 704, 705, 706, 41, 707, 120, 121, 122, 708, 71, 72, 73, 342, 343, 344, 17, 345, 52, 58, 59, 60, 61, 53, 662, 663, 664, 665, 579, 158, 159, 160, 666, 667, 668, 37, 669, 114, 111, 670, 291, 292, 293, 54, 294, 238, 239, 240, 241, 56, 57, 55, 242, 243, 244, 295, 266, 267, 268, 671, 303, 304, 305, 301, 306, 258, 259, 260, 261, 262, 263, 264, 208, 209, 210, 211, 212, 213, 214, 672, 673, 674, 675, 112, 676, 677, 678, 115, 679, 680, 681, 682, 113, 116, 709, 710, 711, 712, 730, 731, 732, 733, 755, 756, 757, 758, 759, 760, 761, 762, 763, 764, 765, 766, 767, 844, 845, 846, 806, 807, 808, 809, 810, 811, 838, 839, 840, 841, 842, 843] (by decide +kernel) (by decide +kernel)
set_option maxRecDepth 20000 in
theorem gL_law_X7_sure : GoodIn wsL_law (wsV RL 126 RX7 yX7_sure wsX7_sure) := goodIn_app (goodIn_of _ (by decide +kernel)) ggL_law_X7_sure
set_option maxRecDepth 20000 in
theorem ggL_law_X8_sure : GoodIn wsL_law wsX8_sure := goodIn_r _ [737, 165, 186, 187, 188, 5, 189, 166, 167, 168, 169, 687, 688, 689, 690, 128, 635, 139, 140, 142, 141, 143, 282, 222, 223, 224, 225, 127, 691, 692, 693, 317, 318, 319, 320, 277, 275, 276, 278, 279, 280, 281, 274, 273, 283, 284, 285, 226, 227, 228, 229, 768, 769, 770, 771, 772, 773, 774, 775, 776, 777, 778, 779, 780, 781, 782, 783, 784, 785, 786, 787, 788, 789, 790, 791, 792, 793, 794, 795, 796, 797, 798, 799, 800, 801, 802, 803, 804, 805] (by decide +kernel) (by decide +kernel)
set_option maxRecDepth 20000 in
theorem gL_law_X8_sure : GoodIn wsL_law (wsV RL 129 RX8 yX8_sure wsX8_sure) := goodIn_app (goodIn_of _ (by decide +kernel)) ggL_law_X8_sure
set_option maxRecDepth 20000 in
theorem ggL_law_X7_count : GoodIn wsL_law wsX7_count := goodIn_r _ [741, 15, 26, 371, 30, 742, 38, 643, 43, 44, 45, 483, 755, 756, 757, 758, 759, 760, 761, 762, 763, 764, 765, 766, 767, 816, 817, 818, 819, 820, 821, 822, 823, 824, 825, 826, 827, 828, 829, 838, 839, 840, 841, 842, 843] (by decide +kernel) (by decide +kernel)
set_option maxRecDepth 20000 in
theorem gL_law_X7_count : GoodIn wsL_law (wsV RL 130 RX7 yX7_count wsX7_count) := goodIn_app (goodIn_of _ (by decide +kernel)) ggL_law_X7_count
set_option maxRecDepth 20000 in
theorem ggL_law_X8_count : GoodIn wsL_law wsX8_count := goodIn_r _ [746, 165, 166, 366, 520, 635, 602, 604, 603, 477, 768, 769, 770, 771, 772, 773, 774, 775, 776, 777, 778, 779, 780, 781, 782, 783, 784, 785, 786, 787, 788, 789, 790, 791, 792, 793, 794, 795, 796, 797, 798, 799, 800, 801, 802, 803, 804, 805] (by decide +kernel) (by decide +kernel)
set_option maxRecDepth 20000 in
theorem gL_law_X8_count : GoodIn wsL_law (wsV RL 133 RX8 yX8_count wsX8_count) := goodIn_app (goodIn_of _ (by decide +kernel)) ggL_law_X8_count
set_option maxRecDepth 20000 in
theorem ggL_law_X7_trace : GoodIn wsL_law wsX7_trace := goodIn_r _ [750, 46, 755, 756, 757, 758, 759, 760, 761, 762, 763, 764, 765, 766, 767] (by decide +kernel) (by decide +kernel)
set_option maxRecDepth 20000 in
theorem gL_law_X7_trace : GoodIn wsL_law (wsV RL 134 RX7 yX7_trace wsX7_trace) := goodIn_app (goodIn_of _ (by decide +kernel)) ggL_law_X7_trace
set_option maxRecDepth 20000 in
theorem ggL_law_X8_trace : GoodIn wsL_law wsX8_trace := goodIn_r _ [754, 165, 219, 768, 769, 770, 771, 772, 773, 774, 775, 776, 777, 778, 779, 780, 781, 782, 783, 784, 785, 786, 787, 788, 789, 790, 791, 792, 793, 794, 795, 796, 797, 798, 799, 800, 801, 802, 803, 804, 805] (by decide +kernel) (by decide +kernel)
set_option maxRecDepth 20000 in
theorem gL_law_X8_trace : GoodIn wsL_law (wsV RL 138 RX8 yX8_trace wsX8_trace) := goodIn_app (goodIn_of _ (by decide +kernel)) ggL_law_X8_trace

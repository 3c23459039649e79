set_option maxRecDepth 20000 in
theorem ggL_law_X8_spring : GoodIn wsL_law wsX8_spring := goodIn_r _ [333, 165, 334, 129, 335, 336, 5, 337, 167, 168, 169, 768, 769, 770, 771, 772, 773, 774, 775, 776, 777, 778, 779, 780, 781, 782, 783, 784, 785, 786, 787, 788, 789, 790, 791, 792, 793, 794, 795, 796, 797, 798, 799, 800, 801, 802, 803, 804, 805] (by decide +kernel) (by decide +kernel)
set_option maxRecDepth 20000 in
theorem gL_law_X8_spring : GoodIn wsL_law (wsV RL 43 RX8 yX8_spring wsX8_spring) := goodIn_app (goodIn_of _ (by decide +kernel)) ggL_law_X8_spring
set_option maxRecDepth 20000 in
theorem ggL_law_X7_tuned : GoodIn wsL_law wsX7_tuned := goodIn_r _ [341, 18, 14, 153, 22, 326, 174, 175, 176, 2, 177, 15, 154, 155, 156, 327, 328, 329, 342, 343, 344, 17, 345, 52, 58, 59, 60, 61, 53, 157, 158, 159, 160, 234, 235, 236, 237, 54, 238, 239, 240, 241, 56, 57, 55, 242, 243, 244, 302, 303, 304, 305, 301, 291, 292, 293, 294, 295, 266, 267, 268, 306, 258, 259, 260, 261, 262, 263, 264, 208, 209, 210, 211, 212, 213, 214, 296, 297, 298, 299, 300, 346, 347, 348, 755, 756, 757, 758, 759, 760, 761, 762, 763, 764, 765, 766, 767, 812, 813, 814, 815, 806, 807, 808, 809, 810, 811] (by decide +kernel) (by decide +kernel)
set_option maxRecDepth 20000 in
theorem gL_law_X7_tuned : GoodIn wsL_law (wsV RL 44 RX7 yX7_tuned wsX7_tuned) := goodIn_app (goodIn_of _ (by decide +kernel)) ggL_law_X7_tuned
set_option maxRecDepth 20000 in
theorem ggL_law_X8_tuned : GoodIn wsL_law wsX8_tuned := goodIn_r _ [352, 165, 353, 128, 276, 277, 275, 129, 186, 187, 188, 5, 189, 166, 167, 168, 169, 335, 336, 337, 222, 223, 224, 225, 127, 278, 279, 280, 281, 274, 273, 282, 283, 284, 285, 226, 227, 228, 229, 768, 769, 770, 771, 772, 773, 774, 775, 776, 777, 778, 779, 780, 781, 782, 783, 784, 785, 786, 787, 788, 789, 790, 791, 792, 793, 794, 795, 796, 797, 798, 799, 800, 801, 802, 803, 804, 805] (by decide +kernel) (by decide +kernel)
set_option maxRecDepth 20000 in
theorem gL_law_X8_tuned : GoodIn wsL_law (wsV RL 47 RX8 yX8_tuned wsX8_tuned) := goodIn_app (goodIn_of _ (by decide +kernel)) ggL_law_X8_tuned
set_option maxRecDepth 20000 in
theorem ggL_law_X7_tune : GoodIn wsL_law wsX7_tune := goodIn_r _ [357, 26, 149, 150, 2, 151, 152, 153, 154, 155, 156, 358, 359, 360, 25, 361, 79, 77, 78, 755, 756, 757, 758, 759, 760, 761, 762, 763, 764, 765, 766, 767, 816, 817, 818, 819, 820, 821, 822] (by decide +kernel) (by decide +kernel)
set_option maxRecDepth 20000 in
theorem gL_law_X7_tune : GoodIn wsL_law (wsV RL 48 RX7 yX7_tune wsX7_tune) := goodIn_app (goodIn_of _ (by decide +kernel)) ggL_law_X7_tune
set_option maxRecDepth 20000 in
theorem ggL_law_X8_tune : GoodIn wsL_law wsX8_tune := goodIn_r _ [365, 165, 366, 131, 132, 167, 168, 5, 169, 768, 769, 770, 771, 772, 773, 774, 775, 776, 777, 778, 779, 780, 781, 782, 783, 784, 785, 786, 787, 788, 789, 790, 791, 792, 793, 794, 795, 796, 797, 798, 799, 800, 801, 802, 803, 804, 805] (by decide +kernel) (by decide +kernel)
set_option maxRecDepth 20000 in
theorem gL_law_X8_tune : GoodIn wsL_law (wsV RL 51 RX8 yX8_tune wsX8_tune) := goodIn_app (goodIn_of _ (by decide +kernel)) ggL_law_X8_tune
set_option maxRecDepth 20000 in
theorem ggL_law_X7_forget : GoodIn wsL_law wsX7_forget := goodIn_r _ [370, 26, 371, 755, 756, 757, 758, 759, 760, 761, 762, 763, 764, 765, 766, 767, 816, 817, 818, 819, 820, 821, 822] (by decide +kernel) (by decide +kernel)
set_option maxRecDepth 20000 in
theorem gL_law_X7_forget : GoodIn wsL_law (wsV RL 52 RX7 yX7_forget wsX7_forget) := goodIn_app (goodIn_of _ (by decide +kernel)) ggL_law_X7_forget
set_option maxRecDepth 20000 in
theorem ggL_law_X8_forget : GoodIn wsL_law wsX8_forget := goodIn_r _ [375, 165, 366, 768, 769, 770, 771, 772, 773, 774, 775, 776, 777, 778, 779, 780, 781, 782, 783, 784, 785, 786, 787, 788, 789, 790, 791, 792, 793, 794, 795, 796, 797, 798, 799, 800, 801, 802, 803, 804, 805] (by decide +kernel) (by decide +kernel)
set_option maxRecDepth 20000 in
theorem gL_law_X8_forget : GoodIn wsL_law (wsV RL 56 RX8 yX8_forget wsX8_forget) := goodIn_app (goodIn_of _ (by decide +kernel)) ggL_law_X8_forget
set_option maxRecDepth 20000 in
theorem ggL_law_X7_side : GoodIn wsL_law wsX7_side := goodIn_r _ [379, 15, 18, 14, 26, 22, 326, 380, 381, 327, 328, 2, 329, 154, 155, 156, 342, 343, 344, 17, 345, 52, 58, 59, 60, 61, 53, 382, 383, 384, 25, 385, 79, 77, 78, 80, 81, 386, 158, 159, 160, 387, 235, 236, 237, 54, 238, 239, 240, 241, 56, 57, 55, 242, 243, 244, 388, 308, 309, 310, 311, 297, 298, 299, 300, 301, 291, 292, 293, 294, 295, 266, 267, 268, 312, 303, 304, 305, 306, 258, 259, 260, 261, 262, 263, 264, 208, 209, 210, 211, 212, 213, 214, 389, 390, 391, 392, 393, 82, 83, 394, 395, 396, 397, 398, 399, 400, 755, 756, 757, 758, 759, 760, 761, 762, 763, 764, 765, 766, 767, 812, 813, 814, 815, 816, 817, 818, 819, 820, 821, 822, 806, 807, 808, 809, 810, 811] (by decide +kernel) (by decide +kernel)
set_option maxRecDepth 20000 in
theorem gL_law_X7_side : GoodIn wsL_law (wsV RL 57 RX7 yX7_side wsX7_side) := goodIn_app (goodIn_of _ (by decide +kernel)) ggL_law_X7_side
set_option maxRecDepth 20000 in
theorem ggL_law_X8_side : GoodIn wsL_law wsX8_side := goodIn_r _ [404, 165, 405, 166, 366, 128, 131, 132, 277, 276, 275, 129, 335, 336, 5, 337, 167, 168, 169, 406, 407, 408, 409, 222, 223, 224, 225, 127, 278, 279, 280, 281, 274, 273, 282, 283, 284, 285, 226, 227, 228, 229, 768, 769, 770, 771, 772, 773, 774, 775, 776, 777, 778, 779, 780, 781, 782, 783, 784, 785, 786, 787, 788, 789, 790, 791, 792, 793, 794, 795, 796, 797, 798, 799, 800, 801, 802, 803, 804, 805] (by decide +kernel) (by decide +kernel)
set_option maxRecDepth 20000 in
theorem gL_law_X8_side : GoodIn wsL_law (wsV RL 60 RX8 yX8_side wsX8_side) := goodIn_app (goodIn_of _ (by decide +kernel)) ggL_law_X8_side
set_option maxRecDepth 20000 in
theorem ggL_law_X7_take : GoodIn wsL_law wsX7_take := goodIn_r _ [413, 26, 15, 14, 414, 415, 416, 25, 417, 79, 394, 395, 396, 155, 2, 156, 418, 419, 420, 421, 77, 78, 386, 158, 159, 17, 160, 52, 53, 755, 756, 757, 758, 759, 760, 761, 762, 763, 764, 765, 766, 767, 816, 817, 818, 819, 820, 821, 822, 806, 807, 808, 809, 810, 811] (by decide +kernel) (by decide +kernel)
set_option maxRecDepth 20000 in
theorem gL_law_X7_take : GoodIn wsL_law (wsV RL 61 RX7 yX7_take wsX7_take) := goodIn_app (goodIn_of _ (by decide +kernel)) ggL_law_X7_take
set_option maxRecDepth 20000 in
theorem ggL_law_X8_take : GoodIn wsL_law wsX8_take := goodIn_r _ [425, 165, 166, 366, 127, 131, 132, 406, 407, 408, 5, 409, 167, 168, 169, 768, 769, 770, 771, 772, 773, 774, 775, 776, 777, 778, 779, 780, 781, 782, 783, 784, 785, 786, 787, 788, 789, 790, 791, 792, 793, 794, 795, 796, 797, 798, 799, 800, 801, 802, 803, 804, 805] (by decide +kernel) (by decide +kernel)
set_option maxRecDepth 20000 in
theorem gL_law_X8_take : GoodIn wsL_law (wsV RL 65 RX8 yX8_take wsX8_take) := goodIn_app (goodIn_of _ (by decide +kernel)) ggL_law_X8_take
set_option maxRecDepth 20000 in
theorem ggL_law_X7_frost : GoodIn wsL_law wsX7_frost := goodIn_r _ [429, 22, 430, 327, 328, 2, 329, 154, 155, 156, 755, 756, 757, 758, 759, 760, 761, 762, 763, 764, 765, 766, 767, 812, 813, 814, 815] (by decide +kernel) (by decide +kernel)
set_option maxRecDepth 20000 in
theorem gL_law_X7_frost : GoodIn wsL_law (wsV RL 66 RX7 yX7_frost wsX7_frost) := goodIn_app (goodIn_of _ (by decide +kernel)) ggL_law_X7_frost
set_option maxRecDepth 20000 in
theorem ggL_law_X8_frost : GoodIn wsL_law wsX8_frost := goodIn_r _ [434, 165, 130, 335, 336, 5, 337, 167, 168, 169, 768, 769, 770, 771, 772, 773, 774, 775, 776, 777, 778, 779, 780, 781, 782, 783, 784, 785, 786, 787, 788, 789, 790, 791, 792, 793, 794, 795, 796, 797, 798, 799, 800, 801, 802, 803, 804, 805] (by decide +kernel) (by decide +kernel)
set_option maxRecDepth 20000 in
theorem gL_law_X8_frost : GoodIn wsL_law (wsV RL 69 RX8 yX8_frost wsX8_frost) := goodIn_app (goodIn_of _ (by decide +kernel)) ggL_law_X8_frost
set_option maxRecDepth 20000 in
theorem ggL_law_X7_silence : GoodIn wsL_law wsX7_silence := goodIn_r _ [438, 22, 439, 440, 154, 155, 2, 156, 755, 756, 757, 758, 759, 760, 761, 762, 763, 764, 765, 766, 767, 812, 813, 814, 815] (by decide +kernel) (by decide +kernel)
set_option maxRecDepth 20000 in
theorem gL_law_X7_silence : GoodIn wsL_law (wsV RL 70 RX7 yX7_silence wsX7_silence) := goodIn_app (goodIn_of _ (by decide +kernel)) ggL_law_X7_silence
set_option maxRecDepth 20000 in
theorem ggL_law_X8_silence : GoodIn wsL_law wsX8_silence := goodIn_r _ [444, 165, 445, 446, 167, 168, 5, 169, 768, 769, 770, 771, 772, 773, 774, 775, 776, 777, 778, 779, 780, 781, 782, 783, 784, 785, 786, 787, 788, 789, 790, 791, 792, 793, 794, 795, 796, 797, 798, 799, 800, 801, 802, 803, 804, 805] (by decide +kernel) (by decide +kernel)
set_option maxRecDepth 20000 in
theorem gL_law_X8_silence : GoodIn wsL_law (wsV RL 73 RX8 yX8_silence wsX8_silence) := goodIn_app (goodIn_of _ (by decide +kernel)) ggL_law_X8_silence

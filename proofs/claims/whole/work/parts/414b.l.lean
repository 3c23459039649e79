set_option maxRecDepth 20000 in
theorem ggL_law_X8_spring : GoodIn wsL_law wsX8_spring := goodIn_r _ [334, 167, 335, 131, 336, 337, 5, 338, 169, 170, 171, 769, 770, 771, 772, 773, 774, 775, 776, 777, 778, 779, 780, 781, 782, 783, 784, 785, 786, 787, 788, 789, 790, 791, 792, 793, 794, 795, 796, 797, 798, 799, 800, 801, 802, 803, 804, 805, 806] (by decide +kernel) (by decide +kernel)
set_option maxRecDepth 20000 in
theorem gL_law_X8_spring : GoodIn wsL_law (wsV RL 43 RX8 yX8_spring wsX8_spring) := goodIn_app (goodIn_of _ (by decide +kernel)) ggL_law_X8_spring
set_option maxRecDepth 20000 in
theorem ggL_law_X7_tuned : GoodIn wsL_law wsX7_tuned := goodIn_r _ [342, 18, 14, 155, 22, 327, 176, 177, 178, 2, 179, 15, 156, 157, 158, 328, 329, 330, 343, 344, 345, 17, 346, 52, 60, 61, 62, 63, 53, 159, 160, 161, 162, 236, 237, 238, 239, 54, 240, 241, 242, 243, 56, 57, 59, 55, 58, 244, 245, 246, 247, 303, 304, 305, 306, 302, 294, 295, 296, 307, 261, 262, 263, 264, 265, 266, 267, 210, 211, 212, 213, 214, 215, 216, 297, 298, 299, 300, 301, 347, 348, 349, 756, 757, 758, 759, 760, 761, 762, 763, 764, 765, 766, 767, 768, 815, 816, 817, 818, 807, 808, 809, 810, 811, 812, 813, 814] (by decide +kernel) (by decide +kernel)
set_option maxRecDepth 20000 in
theorem gL_law_X7_tuned : GoodIn wsL_law (wsV RL 44 RX7 yX7_tuned wsX7_tuned) := goodIn_app (goodIn_of _ (by decide +kernel)) ggL_law_X7_tuned
set_option maxRecDepth 20000 in
theorem ggL_law_X8_tuned : GoodIn wsL_law wsX8_tuned := goodIn_r _ [353, 167, 354, 130, 279, 280, 278, 131, 188, 189, 190, 5, 191, 168, 169, 170, 171, 336, 337, 338, 224, 225, 226, 227, 129, 281, 282, 283, 284, 277, 276, 285, 286, 287, 288, 228, 229, 230, 231, 769, 770, 771, 772, 773, 774, 775, 776, 777, 778, 779, 780, 781, 782, 783, 784, 785, 786, 787, 788, 789, 790, 791, 792, 793, 794, 795, 796, 797, 798, 799, 800, 801, 802, 803, 804, 805, 806] (by decide +kernel) (by decide +kernel)
set_option maxRecDepth 20000 in
theorem gL_law_X8_tuned : GoodIn wsL_law (wsV RL 47 RX8 yX8_tuned wsX8_tuned) := goodIn_app (goodIn_of _ (by decide +kernel)) ggL_law_X8_tuned
set_option maxRecDepth 20000 in
theorem ggL_law_X7_tune : GoodIn wsL_law wsX7_tune := goodIn_r _ [358, 26, 151, 152, 2, 153, 154, 155, 156, 157, 158, 359, 360, 361, 25, 362, 81, 79, 80, 756, 757, 758, 759, 760, 761, 762, 763, 764, 765, 766, 767, 768, 819, 820, 821, 822, 823, 824, 825] (by decide +kernel) (by decide +kernel)
set_option maxRecDepth 20000 in
theorem gL_law_X7_tune : GoodIn wsL_law (wsV RL 48 RX7 yX7_tune wsX7_tune) := goodIn_app (goodIn_of _ (by decide +kernel)) ggL_law_X7_tune
set_option maxRecDepth 20000 in
theorem ggL_law_X8_tune : GoodIn wsL_law wsX8_tune := goodIn_r _ [366, 167, 367, 133, 134, 169, 170, 5, 171, 769, 770, 771, 772, 773, 774, 775, 776, 777, 778, 779, 780, 781, 782, 783, 784, 785, 786, 787, 788, 789, 790, 791, 792, 793, 794, 795, 796, 797, 798, 799, 800, 801, 802, 803, 804, 805, 806] (by decide +kernel) (by decide +kernel)
set_option maxRecDepth 20000 in
theorem gL_law_X8_tune : GoodIn wsL_law (wsV RL 51 RX8 yX8_tune wsX8_tune) := goodIn_app (goodIn_of _ (by decide +kernel)) ggL_law_X8_tune
set_option maxRecDepth 20000 in
theorem ggL_law_X7_forget : GoodIn wsL_law wsX7_forget := goodIn_r _ [371, 26, 372, 756, 757, 758, 759, 760, 761, 762, 763, 764, 765, 766, 767, 768, 819, 820, 821, 822, 823, 824, 825] (by decide +kernel) (by decide +kernel)
set_option maxRecDepth 20000 in
theorem gL_law_X7_forget : GoodIn wsL_law (wsV RL 52 RX7 yX7_forget wsX7_forget) := goodIn_app (goodIn_of _ (by decide +kernel)) ggL_law_X7_forget
set_option maxRecDepth 20000 in
theorem ggL_law_X8_forget : GoodIn wsL_law wsX8_forget := goodIn_r _ [376, 167, 367, 769, 770, 771, 772, 773, 774, 775, 776, 777, 778, 779, 780, 781, 782, 783, 784, 785, 786, 787, 788, 789, 790, 791, 792, 793, 794, 795, 796, 797, 798, 799, 800, 801, 802, 803, 804, 805, 806] (by decide +kernel) (by decide +kernel)
set_option maxRecDepth 20000 in
theorem gL_law_X8_forget : GoodIn wsL_law (wsV RL 56 RX8 yX8_forget wsX8_forget) := goodIn_app (goodIn_of _ (by decide +kernel)) ggL_law_X8_forget
set_option maxRecDepth 20000 in
theorem ggL_law_X7_side : GoodIn wsL_law wsX7_side := goodIn_r _ [380, 15, 18, 14, 26, 22, 327, 381, 382, 328, 329, 2, 330, 156, 157, 158, 343, 344, 345, 17, 346, 52, 60, 61, 62, 63, 53, 383, 384, 385, 25, 386, 81, 79, 80, 82, 83, 387, 160, 161, 162, 388, 237, 238, 239, 54, 240, 241, 242, 243, 56, 57, 59, 55, 58, 244, 245, 246, 247, 389, 309, 310, 311, 312, 298, 299, 300, 301, 302, 294, 295, 296, 313, 304, 305, 306, 307, 261, 262, 263, 264, 265, 266, 267, 210, 211, 212, 213, 214, 215, 216, 390, 391, 392, 393, 394, 84, 85, 395, 396, 397, 398, 399, 400, 401, 756, 757, 758, 759, 760, 761, 762, 763, 764, 765, 766, 767, 768, 815, 816, 817, 818, 819, 820, 821, 822, 823, 824, 825, 807, 808, 809, 810, 811, 812, 813, 814] (by decide +kernel) (by decide +kernel)
set_option maxRecDepth 20000 in
theorem gL_law_X7_side : GoodIn wsL_law (wsV RL 57 RX7 yX7_side wsX7_side) := goodIn_app (goodIn_of _ (by decide +kernel)) ggL_law_X7_side
set_option maxRecDepth 20000 in
theorem ggL_law_X8_side : GoodIn wsL_law wsX8_side := goodIn_r _ [405, 167, 406, 168, 367, 130, 133, 134, 280, 279, 278, 131, 336, 337, 5, 338, 169, 170, 171, 407, 408, 409, 410, 224, 225, 226, 227, 129, 281, 282, 283, 284, 277, 276, 285, 286, 287, 288, 228, 229, 230, 231, 769, 770, 771, 772, 773, 774, 775, 776, 777, 778, 779, 780, 781, 782, 783, 784, 785, 786, 787, 788, 789, 790, 791, 792, 793, 794, 795, 796, 797, 798, 799, 800, 801, 802, 803, 804, 805, 806] (by decide +kernel) (by decide +kernel)
set_option maxRecDepth 20000 in
theorem gL_law_X8_side : GoodIn wsL_law (wsV RL 60 RX8 yX8_side wsX8_side) := goodIn_app (goodIn_of _ (by decide +kernel)) ggL_law_X8_side
set_option maxRecDepth 20000 in
theorem ggL_law_X7_take : GoodIn wsL_law wsX7_take := goodIn_r _ [414, 26, 15, 14, 415, 416, 417, 25, 418, 81, 395, 396, 397, 157, 2, 158, 419, 420, 421, 422, 79, 80, 387, 160, 161, 17, 162, 52, 53, 756, 757, 758, 759, 760, 761, 762, 763, 764, 765, 766, 767, 768, 819, 820, 821, 822, 823, 824, 825, 807, 808, 809, 810, 811, 812, 813, 814] (by decide +kernel) (by decide +kernel)
set_option maxRecDepth 20000 in
theorem gL_law_X7_take : GoodIn wsL_law (wsV RL 61 RX7 yX7_take wsX7_take) := goodIn_app (goodIn_of _ (by decide +kernel)) ggL_law_X7_take
set_option maxRecDepth 20000 in
theorem ggL_law_X8_take : GoodIn wsL_law wsX8_take := goodIn_r _ [426, 167, 168, 367, 129, 133, 134, 407, 408, 409, 5, 410, 169, 170, 171, 769, 770, 771, 772, 773, 774, 775, 776, 777, 778, 779, 780, 781, 782, 783, 784, 785, 786, 787, 788, 789, 790, 791, 792, 793, 794, 795, 796, 797, 798, 799, 800, 801, 802, 803, 804, 805, 806] (by decide +kernel) (by decide +kernel)
set_option maxRecDepth 20000 in
theorem gL_law_X8_take : GoodIn wsL_law (wsV RL 65 RX8 yX8_take wsX8_take) := goodIn_app (goodIn_of _ (by decide +kernel)) ggL_law_X8_take
set_option maxRecDepth 20000 in
theorem ggL_law_X7_frost : GoodIn wsL_law wsX7_frost := goodIn_r _ [430, 22, 431, 328, 329, 2, 330, 156, 157, 158, 756, 757, 758, 759, 760, 761, 762, 763, 764, 765, 766, 767, 768, 815, 816, 817, 818] (by decide +kernel) (by decide +kernel)
set_option maxRecDepth 20000 in
theorem gL_law_X7_frost : GoodIn wsL_law (wsV RL 66 RX7 yX7_frost wsX7_frost) := goodIn_app (goodIn_of _ (by decide +kernel)) ggL_law_X7_frost
set_option maxRecDepth 20000 in
theorem ggL_law_X8_frost : GoodIn wsL_law wsX8_frost := goodIn_r _ [435, 167, 132, 336, 337, 5, 338, 169, 170, 171, 769, 770, 771, 772, 773, 774, 775, 776, 777, 778, 779, 780, 781, 782, 783, 784, 785, 786, 787, 788, 789, 790, 791, 792, 793, 794, 795, 796, 797, 798, 799, 800, 801, 802, 803, 804, 805, 806] (by decide +kernel) (by decide +kernel)
set_option maxRecDepth 20000 in
theorem gL_law_X8_frost : GoodIn wsL_law (wsV RL 69 RX8 yX8_frost wsX8_frost) := goodIn_app (goodIn_of _ (by decide +kernel)) ggL_law_X8_frost
set_option maxRecDepth 20000 in
theorem ggL_law_X7_silence : GoodIn wsL_law wsX7_silence := goodIn_r _ [439, 22, 440, 441, 156, 157, 2, 158, 756, 757, 758, 759, 760, 761, 762, 763, 764, 765, 766, 767, 768, 815, 816, 817, 818] (by decide +kernel) (by decide +kernel)
set_option maxRecDepth 20000 in
theorem gL_law_X7_silence : GoodIn wsL_law (wsV RL 70 RX7 yX7_silence wsX7_silence) := goodIn_app (goodIn_of _ (by decide +kernel)) ggL_law_X7_silence
set_option maxRecDepth 20000 in
theorem ggL_law_X8_silence : GoodIn wsL_law wsX8_silence := goodIn_r _ [445, 167, 446, 447, 169, 170, 5, 171, 769, 770, 771, 772, 773, 774, 775, 776, 777, 778, 779, 780, 781, 782, 783, 784, 785, 786, 787, 788, 789, 790, 791, 792, 793, 794, 795, 796, 797, 798, 799, 800, 801, 802, 803, 804, 805, 806] (by decide +kernel) (by decide +kernel)
set_option maxRecDepth 20000 in
theorem gL_law_X8_silence : GoodIn wsL_law (wsV RL 73 RX8 yX8_silence wsX8_silence) := goodIn_app (goodIn_of _ (by decide +kernel)) ggL_law_X8_silence

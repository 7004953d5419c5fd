theorem dL_cell_0 : decode cL_cell 0 = .ok (.iload_n 1, 1) := by decide +kernel
theorem dL_cell_1 : decode cL_cell 1 = .ok (.aload_n 0, 1) := by decide +kernel
theorem dL_cell_2 : decode cL_cell 2 = .ok (.arraylength, 1) := by decide +kernel
theorem dL_cell_3 : decode cL_cell 3 = .ok (.if_icmp .ge 9, 3) := by decide +kernel
theorem dL_cell_6 : decode cL_cell 6 = .ok (.aload_n 0, 1) := by decide +kernel
theorem dL_cell_7 : decode cL_cell 7 = .ok (.iload_n 1, 1) := by decide +kernel
theorem dL_cell_8 : decode cL_cell 8 = .ok (.iaload, 1) := by decide +kernel
theorem dL_cell_9 : decode cL_cell 9 = .ok (.goto 4, 3) := by decide +kernel
theorem dL_cell_12 : decode cL_cell 12 = .ok (.iconst 0, 1) := by decide +kernel
theorem dL_cell_13 : decode cL_cell 13 = .ok (.ireturn, 1) := by decide +kernel
set_option maxRecDepth 20000 in
theorem ggL_law_L_cell : GoodIn wsL_law wsL_cell := goodIn_r _ [9] (by decide +kernel) (by decide +kernel)
set_option maxRecDepth 20000 in
theorem gL_law_L_cell : GoodIn wsL_law (va_wsS RL 9 yL_cell wsL_cell) := goodIn_app (goodIn_of _ (by decide +kernel)) ggL_law_L_cell
set_option maxRecDepth 20000 in
theorem ggL_law_X10_init : GoodIn wsL_law wsX10_init := goodIn_r _ [12, 13, 14, 15, 16, 17, 18, 19, 20, 21, 22, 23, 24, 25, 26, 27, 28, 29, 30, 31, 32, 33, 34, 35, 36, 37, 38, 39, 40, 41, 42, 43, 44, 45, 46, 47, 48, 49, 50, 51, 52, 53, 54, 55, 56, 57, 58, 59, 60, 61, 62, 63, 64, 65, 66, 67, 68, 69, 70, 71, 72, 73, 74, 75, 76, 77, 78, 79, 80, 81, 82, 83, 84, 85, 86, 87, 88, 89, 90, 91, 92, 93, 94, 95, 96, 97, 98, 99, 100, 101, 102, 103, 104, 105, 106, 107, 108, 109, 770, 771, 723, 724, 725, 726, 727, 728, 729, 730, 731, 732, 772, 773, 774, 775, 776, 777, 778, 779, 780, 781, 782, 783, 784, 785, 786, 787, 788, 789, 790, 791, 792, 793, 794, 795, 796, 797, 798, 799, 800, 801] (by decide +kernel) (by decide +kernel)
set_option maxRecDepth 20000 in
theorem gL_law_X10_init : GoodIn wsL_law (wsX10_init) := ggL_law_X10_init
set_option maxRecDepth 20000 in
theorem ggL_law_X11_init : GoodIn wsL_law wsX11_init := goodIn_r _ [112, 113, 14, 15, 62, 114, 115, 116, 117, 118, 119, 120, 121, 122, 123, 124, 125, 126, 127, 128, 129, 130, 131, 132, 133, 134, 135, 136, 137, 138, 733, 734, 735, 736, 737, 738, 739, 740, 741, 742, 743, 744, 745, 746, 747, 748, 749, 750, 751, 752, 753, 754, 755, 756, 757, 758, 759, 760, 761, 762, 763, 764, 765, 766, 767, 768, 769] (by decide +kernel) (by decide +kernel)
set_option maxRecDepth 20000 in
theorem gL_law_X11_init : GoodIn wsL_law (wsX11_init) := ggL_law_X11_init
set_option maxRecDepth 20000 in
theorem ggL_law_X10_fold : GoodIn wsL_law wsX10_fold := goodIn_r _ [142, 34, 143, 144, 26, 145, 146, 18, 147, 148, 149, 150, 151, 152, 153, 154, 63, 155, 156, 157, 158, 723, 724, 725, 726, 727, 728, 729, 730, 731, 732, 774, 775, 776, 777, 778, 770, 771] (by decide +kernel) (by decide +kernel)
set_option maxRecDepth 20000 in
theorem gL_law_X10_fold : GoodIn wsL_law (wsV RL 21 RX10 yX10_fold wsX10_fold) := goodIn_app (goodIn_of _ (by decide +kernel)) ggL_law_X10_fold
set_option maxRecDepth 20000 in
theorem ggL_law_X11_fold : GoodIn wsL_law wsX11_fold := goodIn_r _ [162, 163, 164, 114, 165, 166, 5, 167, 733, 734, 735, 736, 737, 738, 739, 740, 741, 742, 743, 744, 745, 746, 747, 748, 749, 750, 751, 752, 753, 754, 755, 756, 757, 758, 759, 760, 761, 762, 763, 764, 765, 766, 767, 768, 769] (by decide +kernel) (by decide +kernel)
set_option maxRecDepth 20000 in
theorem gL_law_X11_fold : GoodIn wsL_law (wsV RL 25 RX11 yX11_fold wsX11_fold) := goodIn_app (goodIn_of _ (by decide +kernel)) ggL_law_X11_fold
set_option maxRecDepth 20000 in
theorem ggL_law_X10_letter : GoodIn wsL_law wsX10_letter := goodIn_r _ [171, 30, 172, 173, 174, 18, 175, 176, 149, 150, 177, 146, 147, 178, 179, 180, 29, 181, 182, 69, 183, 184, 185, 186, 723, 724, 725, 726, 727, 728, 729, 730, 731, 732, 772, 773] (by decide +kernel) (by decide +kernel)
set_option maxRecDepth 20000 in
theorem gL_law_X10_letter : GoodIn wsL_law (wsV RL 26 RX10 yX10_letter wsX10_letter) := goodIn_app (goodIn_of _ (by decide +kernel)) ggL_law_X10_letter
set_option maxRecDepth 20000 in
theorem ggL_law_X11_letter : GoodIn wsL_law wsX11_letter := goodIn_r _ [190, 191, 115, 192, 193, 5, 194, 165, 166, 167, 733, 734, 735, 736, 737, 738, 739, 740, 741, 742, 743, 744, 745, 746, 747, 748, 749, 750, 751, 752, 753, 754, 755, 756, 757, 758, 759, 760, 761, 762, 763, 764, 765, 766, 767, 768, 769] (by decide +kernel) (by decide +kernel)
set_option maxRecDepth 20000 in
theorem gL_law_X11_letter : GoodIn wsL_law (wsV RL 30 RX11 yX11_letter wsX11_letter) := goodIn_app (goodIn_of _ (by decide +kernel)) ggL_law_X11_letter
set_option maxRecDepth 20000 in
theorem ggL_law_X10_word : GoodIn wsL_law wsX10_word := goodIn_r _ [198, 30, 172, 34, 199, 200, 201, 2, 202, 203, 204, 205, 33, 206, 207, 208, 74, 209, 210, 211, 212, 213, 76, 214, 215, 216, 18, 217, 218, 61, 219, 20, 21, 22, 220, 221, 222, 29, 223, 182, 69, 224, 152, 153, 154, 63, 225, 226, 227, 228, 75, 229, 230, 231, 232, 233, 234, 14, 15, 235, 28, 236, 237, 238, 239, 240, 65, 66, 67, 68, 24, 25, 62, 241, 242, 243, 244, 245, 246, 247, 248, 249, 250, 184, 185, 186, 251, 252, 723, 724, 725, 726, 727, 728, 729, 730, 731, 732, 772, 773, 802, 803, 804, 805, 806, 807, 774, 775, 776, 777, 778, 770, 771] (by decide +kernel) (by decide +kernel)
set_option maxRecDepth 20000 in
theorem gL_law_X10_word : GoodIn wsL_law (wsV RL 31 RX10 yX10_word wsX10_word) := goodIn_app (goodIn_of _ (by decide +kernel)) ggL_law_X10_word
set_option maxRecDepth 20000 in
theorem ggL_law_X11_word : GoodIn wsL_law wsX11_word := goodIn_r _ [256, 191, 115, 119, 163, 118, 120, 121, 122, 165, 166, 5, 167, 257, 258, 259, 260, 261, 262, 263, 264, 138, 117, 116, 265, 266, 267, 268, 114, 269, 270, 271, 272, 733, 734, 735, 736, 737, 738, 739, 740, 741, 742, 743, 744, 745, 746, 747, 748, 749, 750, 751, 752, 753, 754, 755, 756, 757, 758, 759, 760, 761, 762, 763, 764, 765, 766, 767, 768, 769] (by decide +kernel) (by decide +kernel)
set_option maxRecDepth 20000 in
theorem gL_law_X11_word : GoodIn wsL_law (wsV RL 34 RX11 yX11_word wsX11_word) := goodIn_app (goodIn_of _ (by decide +kernel)) ggL_law_X11_word
set_option maxRecDepth 20000 in
theorem ggL_law_X10_value : GoodIn wsL_law wsX10_value := goodIn_r _ [276, 34, 277, 251, 211, 212, 33, 213, 207, 76, 278, 279, 280, 230, 281, 282, 723, 724, 725, 726, 727, 728, 729, 730, 731, 732, 802, 803, 804, 805, 806, 807, 774, 775, 776, 777, 778] (by decide +kernel) (by decide +kernel)
set_option maxRecDepth 20000 in
theorem gL_law_X10_value : GoodIn wsL_law (wsV RL 35 RX10 yX10_value wsX10_value) := goodIn_app (goodIn_of _ (by decide +kernel)) ggL_law_X10_value
set_option maxRecDepth 20000 in
theorem ggL_law_X11_value : GoodIn wsL_law wsX11_value := goodIn_r _ [286, 120, 287, 288, 289, 5, 290, 163, 165, 166, 167, 291, 292, 293, 294, 119, 733, 734, 735, 736, 737, 738, 739, 740, 741, 742, 743, 744, 745, 746, 747, 748, 749, 750, 751, 752, 753, 754, 755, 756, 757, 758, 759, 760, 761, 762, 763, 764, 765, 766, 767, 768, 769] (by decide +kernel) (by decide +kernel)
set_option maxRecDepth 20000 in
theorem gL_law_X11_value : GoodIn wsL_law (wsV RL 38 RX11 yX11_value wsX11_value) := goodIn_app (goodIn_of _ (by decide +kernel)) ggL_law_X11_value
set_option maxRecDepth 20000 in
theorem ggL_law_X10_plural : GoodIn wsL_law wsX10_plural := goodIn_r _ [298, 34, 299, 251, 211, 212, 33, 213, 207, 76, 723, 724, 725, 726, 727, 728, 729, 730, 731, 732, 802, 803, 804, 805, 806, 807, 774, 775, 776, 777, 778] (by decide +kernel) (by decide +kernel)
set_option maxRecDepth 20000 in
theorem gL_law_X10_plural : GoodIn wsL_law (wsV RL 39 RX10 yX10_plural wsX10_plural) := goodIn_app (goodIn_of _ (by decide +kernel)) ggL_law_X10_plural
set_option maxRecDepth 20000 in
theorem ggL_law_X11_plural : GoodIn wsL_law wsX11_plural := goodIn_r _ [303, 121, 287, 288, 289, 5, 290, 163, 165, 166, 167, 733, 734, 735, 736, 737, 738, 739, 740, 741, 742, 743, 744, 745, 746, 747, 748, 749, 750, 751, 752, 753, 754, 755, 756, 757, 758, 759, 760, 761, 762, 763, 764, 765, 766, 767, 768, 769] (by decide +kernel) (by decide +kernel)
set_option maxRecDepth 20000 in
theorem gL_law_X11_plural : GoodIn wsL_law (wsV RL 42 RX11 yX11_plural wsX11_plural) := goodIn_app (goodIn_of _ (by decide +kernel)) ggL_law_X11_plural
set_option maxRecDepth 20000 in
theorem ggL_law_X10_join : GoodIn wsL_law wsX10_join := goodIn_r _ [307, 34, 30, 172, 144, 251, 211, 212, 33, 213, 207, 76, 308, 309, 310, 311, 312, 78, 77, 313, 314, 315, 316, 317, 318, 14, 15, 319, 28, 29, 320, 321, 322, 323, 324, 65, 66, 67, 68, 24, 21, 25, 62, 69, 325, 242, 243, 244, 182, 245, 246, 247, 248, 249, 221, 222, 223, 250, 184, 185, 186, 252, 723, 724, 725, 726, 727, 728, 729, 730, 731, 732, 772, 773, 774, 775, 776, 777, 778, 808, 809, 810] (by decide +kernel) (by decide +kernel)
set_option maxRecDepth 20000 in
theorem gL_law_X10_join : GoodIn wsL_law (wsV RL 43 RX10 yX10_join wsX10_join) := goodIn_app (goodIn_of _ (by decide +kernel)) ggL_law_X10_join
set_option maxRecDepth 20000 in
theorem ggL_law_X11_join : GoodIn wsL_law wsX11_join := goodIn_r _ [329, 191, 164, 123, 124, 287, 288, 289, 5, 290, 163, 165, 166, 167, 269, 270, 271, 272, 116, 115, 117, 733, 734, 735, 736, 737, 738, 739, 740, 741, 742, 743, 744, 745, 746, 747, 748, 749, 750, 751, 752, 753, 754, 755, 756, 757, 758, 759, 760, 761, 762, 763, 764, 765, 766, 767, 768, 769] (by decide +kernel) (by decide +kernel)
set_option maxRecDepth 20000 in
theorem gL_law_X11_join : GoodIn wsL_law (wsV RL 46 RX11 yX11_join wsX11_join) := goodIn_app (goodIn_of _ (by decide +kernel)) ggL_law_X11_join
set_option maxRecDepth 20000 in
theorem ggL_law_X10_type : GoodIn wsL_law wsX10_type := goodIn_r _ [333, 35, 172, 178, 179, 180, 29, 181, 182, 69, 183, 184, 185, 186, 723, 724, 725, 726, 727, 728, 729, 730, 731, 732, 772, 773] (by decide +kernel) (by decide +kernel)
set_option maxRecDepth 20000 in
theorem gL_law_X10_type : GoodIn wsL_law (wsV RL 47 RX10 yX10_type wsX10_type) := goodIn_app (goodIn_of _ (by decide +kernel)) ggL_law_X10_type
set_option maxRecDepth 20000 in
theorem ggL_law_X11_type : GoodIn wsL_law wsX11_type := goodIn_r _ [337, 338, 125, 165, 166, 5, 167, 733, 734, 735, 736, 737, 738, 739, 740, 741, 742, 743, 744, 745, 746, 747, 748, 749, 750, 751, 752, 753, 754, 755, 756, 757, 758, 759, 760, 761, 762, 763, 764, 765, 766, 767, 768, 769] (by decide +kernel) (by decide +kernel)
set_option maxRecDepth 20000 in
theorem gL_law_X11_type : GoodIn wsL_law (wsV RL 50 RX11 yX11_type wsX11_type) := goodIn_app (goodIn_of _ (by decide +kernel)) ggL_law_X11_type
set_option maxRecDepth 20000 in
theorem ggL_law_X10_read : GoodIn wsL_law wsX10_read := goodIn_r _ [342, 39, 56, 35, 200, 201, 2, 202, 343, 344, 345, 38, 346, 347, 348, 85, 349, 350, 351, 352, 353, 54, 354, 104, 355, 356, 357, 242, 243, 29, 244, 182, 245, 246, 247, 248, 249, 221, 222, 223, 69, 250, 184, 185, 186, 358, 359, 360, 361, 362, 363, 174, 18, 175, 176, 149, 150, 177, 146, 147, 364, 365, 366, 367, 84, 368, 369, 370, 204, 205, 33, 206, 207, 208, 74, 209, 210, 211, 212, 213, 76, 214, 215, 216, 217, 218, 61, 219, 20, 21, 22, 220, 224, 152, 153, 154, 63, 371, 372, 373, 374, 375, 376, 377, 378, 105, 106, 107, 108, 379, 380, 381, 382, 312, 78, 383, 384, 385, 386, 387, 388, 389, 390, 391, 392, 393, 394, 395, 396, 397, 398, 399, 400, 401, 402, 403, 404, 405, 406, 407, 83, 408, 409, 410, 411, 412, 413, 414, 415, 416, 417, 418, 419, 420, 421, 422, 423, 424, 425, 426, 427, 428, 429, 430, 55, 431, 252, 723, 724, 725, 726, 727, 728, 729, 730, 731, 732, 779, 780, 781, 782, 783, 772, 773, 795, 796, 797, 798, 799, 800, 801, 808, 809, 810, 774, 775, 776, 777, 778, 802, 803, 804, 805, 806, 807, 770, 771] (by decide +kernel) (by decide +kernel)
set_option maxRecDepth 20000 in
theorem gL_law_X10_read : GoodIn wsL_law (wsV RL 51 RX10 yX10_read wsX10_read) := goodIn_app (goodIn_of _ (by decide +kernel)) ggL_law_X10_read
set_option maxRecDepth 20000 in
theorem ggL_law_X11_read : GoodIn wsL_law wsX11_read := goodIn_r _ [435, 338, 436, 437, 125, 438, 126, 130, 127, 131, 128, 132, 129, 133, 134, 165, 166, 5, 167, 192, 193, 194, 439, 440, 441, 442, 164, 123, 124, 443, 444, 445, 446, 257, 258, 259, 260, 163, 118, 261, 262, 263, 264, 138, 117, 116, 265, 266, 267, 268, 114, 447, 448, 449, 450, 451, 452, 453, 454, 455, 456, 457, 458, 459, 460, 461, 462, 463, 464, 465, 466, 467, 468, 469, 470, 471, 472, 473, 474, 475, 476, 733, 734, 735, 736, 737, 738, 739, 740, 741, 742, 743, 744, 745, 746, 747, 748, 749, 750, 751, 752, 753, 754, 755, 756, 757, 758, 759, 760, 761, 762, 763, 764, 765, 766, 767, 768, 769] (by decide +kernel) (by decide +kernel)
set_option maxRecDepth 20000 in
theorem gL_law_X11_read : GoodIn wsL_law (wsV RL 54 RX11 yX11_read wsX11_read) := goodIn_app (goodIn_of _ (by decide +kernel)) ggL_law_X11_read
set_option maxRecDepth 20000 in
theorem ggL_law_X10_token : GoodIn wsL_law wsX10_token := goodIn_r _ [480, 55, 481, 482, 483, 484, 485, 486, 487, 54, 488, 355, 489, 490, 491, 2, 492, 34, 251, 211, 212, 33, 213, 207, 76, 493, 494, 495, 199, 723, 724, 725, 726, 727, 728, 729, 730, 731, 732, 795, 796, 797, 798, 799, 800, 801, 774, 775, 776, 777, 778, 802, 803, 804, 805, 806, 807] (by decide +kernel) (by decide +kernel)
set_option maxRecDepth 20000 in
theorem gL_law_X10_token : GoodIn wsL_law (wsV RL 55 RX10 yX10_token wsX10_token) := goodIn_app (goodIn_of _ (by decide +kernel)) ggL_law_X10_token
set_option maxRecDepth 20000 in
theorem ggL_law_X11_token : GoodIn wsL_law wsX11_token := goodIn_r _ [499, 126, 127, 128, 129, 119, 500, 501, 502, 5, 503, 438, 165, 166, 167, 733, 734, 735, 736, 737, 738, 739, 740, 741, 742, 743, 744, 745, 746, 747, 748, 749, 750, 751, 752, 753, 754, 755, 756, 757, 758, 759, 760, 761, 762, 763, 764, 765, 766, 767, 768, 769] (by decide +kernel) (by decide +kernel)
set_option maxRecDepth 20000 in
theorem gL_law_X11_token : GoodIn wsL_law (wsV RL 58 RX11 yX11_token wsX11_token) := goodIn_app (goodIn_of _ (by decide +kernel)) ggL_law_X11_token
set_option maxRecDepth 20000 in
theorem ggL_law_X10_at : GoodIn wsL_law wsX10_at := goodIn_r _ [507, 55, 483, 508, 482, 485, 486, 487, 54, 488, 355, 509, 221, 222, 29, 223, 182, 69, 723, 724, 725, 726, 727, 728, 729, 730, 731, 732, 795, 796, 797, 798, 799, 800, 801, 772, 773] (by decide +kernel) (by decide +kernel)
set_option maxRecDepth 20000 in
theorem gL_law_X10_at : GoodIn wsL_law (wsV RL 59 RX10 yX10_at wsX10_at) := goodIn_app (goodIn_of _ (by decide +kernel)) ggL_law_X10_at
set_option maxRecDepth 20000 in
theorem ggL_law_X11_at : GoodIn wsL_law wsX11_at := goodIn_r _ [513, 128, 134, 127, 500, 501, 502, 5, 503, 438, 165, 166, 167, 733, 734, 735, 736, 737, 738, 739, 740, 741, 742, 743, 744, 745, 746, 747, 748, 749, 750, 751, 752, 753, 754, 755, 756, 757, 758, 759, 760, 761, 762, 763, 764, 765, 766, 767, 768, 769] (by decide +kernel) (by decide +kernel)
set_option maxRecDepth 20000 in
theorem gL_law_X11_at : GoodIn wsL_law (wsV RL 62 RX11 yX11_at wsX11_at) := goodIn_app (goodIn_of _ (by decide +kernel)) ggL_law_X11_at
set_option maxRecDepth 20000 in
theorem ggL_law_X10_amount : GoodIn wsL_law wsX10_amount := goodIn_r _ [517, 55, 47, 518, 519, 520, 485, 486, 487, 54, 488, 355, 521, 522, 523, 2, 524, 481, 484, 431, 277, 525, 526, 527, 46, 528, 529, 530, 531, 532, 533, 534, 535, 489, 490, 491, 492, 34, 251, 211, 212, 33, 213, 207, 76, 278, 279, 280, 230, 281, 282, 536, 537, 538, 539, 540, 541, 542, 543, 544, 545, 546, 547, 548, 723, 724, 725, 726, 727, 728, 729, 730, 731, 732, 790, 791, 792, 795, 796, 797, 798, 799, 800, 801, 802, 803, 804, 805, 806, 807, 774, 775, 776, 777, 778] (by decide +kernel) (by decide +kernel)
set_option maxRecDepth 20000 in
theorem gL_law_X10_amount : GoodIn wsL_law (wsV RL 63 RX10 yX10_amount wsX10_amount) := goodIn_app (goodIn_of _ (by decide +kernel)) ggL_law_X10_amount
set_option maxRecDepth 20000 in
theorem ggL_law_X11_amount : GoodIn wsL_law wsX11_amount := goodIn_r _ [552, 553, 500, 501, 502, 5, 503, 438, 165, 166, 167, 554, 555, 556, 557, 126, 129, 120, 558, 559, 560, 561, 291, 292, 293, 294, 119, 733, 734, 735, 736, 737, 738, 739, 740, 741, 742, 743, 744, 745, 746, 747, 748, 749, 750, 751, 752, 753, 754, 755, 756, 757, 758, 759, 760, 761, 762, 763, 764, 765, 766, 767, 768, 769] (by decide +kernel) (by decide +kernel)
set_option maxRecDepth 20000 in
theorem gL_law_X11_amount : GoodIn wsL_law (wsV RL 66 RX11 yX11_amount wsX11_amount) := goodIn_app (goodIn_of _ (by decide +kernel)) ggL_law_X11_amount
set_option maxRecDepth 20000 in
theorem ggL_law_X10_amountLength : GoodIn wsL_law wsX10_amountLength := goodIn_r _ [565, 55, 47, 518, 485, 486, 487, 54, 488, 355, 521, 522, 523, 2, 524, 481, 484, 431, 277, 525, 526, 527, 46, 528, 529, 530, 531, 532, 533, 534, 535, 489, 490, 491, 492, 34, 251, 211, 212, 33, 213, 207, 76, 278, 279, 280, 230, 281, 282, 536, 537, 538, 539, 540, 541, 542, 543, 544, 545, 546, 547, 548, 723, 724, 725, 726, 727, 728, 729, 730, 731, 732, 790, 791, 792, 795, 796, 797, 798, 799, 800, 801, 802, 803, 804, 805, 806, 807, 774, 775, 776, 777, 778] (by decide +kernel) (by decide +kernel)
set_option maxRecDepth 20000 in
theorem gL_law_X10_amountLength : GoodIn wsL_law (wsV RL 67 RX10 yX10_amountLength wsX10_amountLength) := goodIn_app (goodIn_of _ (by decide +kernel)) ggL_law_X10_amountLength
set_option maxRecDepth 20000 in
theorem ggL_law_X11_amountLength : GoodIn wsL_law wsX11_amountLength := goodIn_r _ [569, 500, 501, 502, 5, 503, 438, 165, 166, 167, 554, 555, 556, 557, 553, 126, 129, 120, 558, 559, 560, 561, 291, 292, 293, 294, 119, 733, 734, 735, 736, 737, 738, 739, 740, 741, 742, 743, 744, 745, 746, 747, 748, 749, 750, 751, 752, 753, 754, 755, 756, 757, 758, 759, 760, 761, 762, 763, 764, 765, 766, 767, 768, 769] (by decide +kernel) (by decide +kernel)
set_option maxRecDepth 20000 in
theorem gL_law_X11_amountLength : GoodIn wsL_law (wsV RL 70 RX11 yX11_amountLength wsX11_amountLength) := goodIn_app (goodIn_of _ (by decide +kernel)) ggL_law_X11_amountLength
set_option maxRecDepth 20000 in
theorem ggL_law_X10_thing : GoodIn wsL_law wsX10_thing := goodIn_r _ [573, 43, 574, 575, 576, 577, 42, 578, 579, 723, 724, 725, 726, 727, 728, 729, 730, 731, 732, 784, 785, 786, 787, 788, 789] (by decide +kernel) (by decide +kernel)
set_option maxRecDepth 20000 in
theorem gL_law_X10_thing : GoodIn wsL_law (wsV RL 71 RX10 yX10_thing wsX10_thing) := goodIn_app (goodIn_of _ (by decide +kernel)) ggL_law_X10_thing
set_option maxRecDepth 20000 in
theorem ggL_law_X11_thing : GoodIn wsL_law wsX11_thing := goodIn_r _ [583, 584, 733, 734, 735, 736, 737, 738, 739, 740, 741, 742, 743, 744, 745, 746, 747, 748, 749, 750, 751, 752, 753, 754, 755, 756, 757, 758, 759, 760, 761, 762, 763, 764, 765, 766, 767, 768, 769] (by decide +kernel) (by decide +kernel)
set_option maxRecDepth 20000 in
theorem gL_law_X11_thing : GoodIn wsL_law (wsV RL 75 RX11 yX11_thing wsX11_thing) := goodIn_app (goodIn_of _ (by decide +kernel)) ggL_law_X11_thing
set_option maxRecDepth 20000 in
theorem ggL_law_X10_means : GoodIn wsL_law wsX10_means := goodIn_r _ [588, 43, 34, 589, 590, 591, 592, 42, 593, 579, 251, 211, 212, 33, 213, 207, 76, 594, 595, 2, 596, 597, 598, 599, 600, 601, 90, 91, 92, 723, 724, 725, 726, 727, 728, 729, 730, 731, 732, 784, 785, 786, 787, 788, 789, 774, 775, 776, 777, 778] (by decide +kernel) (by decide +kernel)
set_option maxRecDepth 20000 in
theorem gL_law_X10_means : GoodIn wsL_law (wsV RL 76 RX10 yX10_means wsX10_means) := goodIn_app (goodIn_of _ (by decide +kernel)) ggL_law_X10_means
set_option maxRecDepth 20000 in
theorem ggL_law_X11_means : GoodIn wsL_law wsX11_means := goodIn_r _ [605, 584, 606, 135, 136, 137, 165, 166, 5, 167, 287, 288, 289, 290, 163, 733, 734, 735, 736, 737, 738, 739, 740, 741, 742, 743, 744, 745, 746, 747, 748, 749, 750, 751, 752, 753, 754, 755, 756, 757, 758, 759, 760, 761, 762, 763, 764, 765, 766, 767, 768, 769] (by decide +kernel) (by decide +kernel)
set_option maxRecDepth 20000 in
theorem gL_law_X11_means : GoodIn wsL_law (wsV RL 80 RX11 yX11_means wsX11_means) := goodIn_app (goodIn_of _ (by decide +kernel)) ggL_law_X11_means
set_option maxRecDepth 20000 in
theorem ggL_law_X10_flag : GoodIn wsL_law wsX10_flag := goodIn_r _ [610, 43, 594, 595, 2, 596, 611, 612, 613, 42, 614, 615, 616, 617, 618, 619, 723, 724, 725, 726, 727, 728, 729, 730, 731, 732, 784, 785, 786, 787, 788, 789] (by decide +kernel) (by decide +kernel)
set_option maxRecDepth 20000 in
theorem gL_law_X10_flag : GoodIn wsL_law (wsV RL 81 RX10 yX10_flag wsX10_flag) := goodIn_app (goodIn_of _ (by decide +kernel)) ggL_law_X10_flag
set_option maxRecDepth 20000 in
theorem ggL_law_X11_flag : GoodIn wsL_law wsX11_flag := goodIn_r _ [623, 624, 165, 166, 5, 167, 733, 734, 735, 736, 737, 738, 739, 740, 741, 742, 743, 744, 745, 746, 747, 748, 749, 750, 751, 752, 753, 754, 755, 756, 757, 758, 759, 760, 761, 762, 763, 764, 765, 766, 767, 768, 769] (by decide +kernel) (by decide +kernel)
set_option maxRecDepth 20000 in
theorem gL_law_X11_flag : GoodIn wsL_law (wsV RL 85 RX11 yX11_flag wsX11_flag) := goodIn_app (goodIn_of _ (by decide +kernel)) ggL_law_X11_flag
set_option maxRecDepth 20000 in
theorem ggL_law_X10_refer : GoodIn wsL_law wsX10_refer := goodIn_r _ [628, 34, 43, 629, 251, 211, 212, 33, 213, 207, 76, 630, 631, 632, 42, 633, 579, 278, 279, 280, 230, 281, 282, 723, 724, 725, 726, 727, 728, 729, 730, 731, 732, 802, 803, 804, 805, 806, 807, 774, 775, 776, 777, 778, 784, 785, 786, 787, 788, 789] (by decide +kernel) (by decide +kernel)
set_option maxRecDepth 20000 in
theorem gL_law_X10_refer : GoodIn wsL_law (wsV RL 86 RX10 yX10_refer wsX10_refer) := goodIn_app (goodIn_of _ (by decide +kernel)) ggL_law_X10_refer
set_option maxRecDepth 20000 in
theorem ggL_law_X11_refer : GoodIn wsL_law wsX11_refer := goodIn_r _ [637, 584, 122, 287, 288, 289, 5, 290, 163, 165, 166, 167, 291, 292, 293, 294, 119, 733, 734, 735, 736, 737, 738, 739, 740, 741, 742, 743, 744, 745, 746, 747, 748, 749, 750, 751, 752, 753, 754, 755, 756, 757, 758, 759, 760, 761, 762, 763, 764, 765, 766, 767, 768, 769] (by decide +kernel) (by decide +kernel)
set_option maxRecDepth 20000 in
theorem gL_law_X11_refer : GoodIn wsL_law (wsV RL 89 RX11 yX11_refer wsX11_refer) := goodIn_app (goodIn_of _ (by decide +kernel)) ggL_law_X11_refer
set_option maxRecDepth 20000 in
theorem ggL_law_X10_meant : GoodIn wsL_law wsX10_meant := goodIn_r _ [641, 55, 485, 486, 487, 54, 488, 355, 642, 643, 644, 2, 645, 43, 484, 299, 629, 489, 490, 491, 492, 481, 34, 251, 211, 212, 33, 213, 207, 76, 646, 647, 648, 42, 649, 601, 92, 91, 90, 650, 612, 613, 614, 615, 278, 279, 280, 230, 281, 282, 723, 724, 725, 726, 727, 728, 729, 730, 731, 732, 795, 796, 797, 798, 799, 800, 801, 802, 803, 804, 805, 806, 807, 774, 775, 776, 777, 778, 784, 785, 786, 787, 788, 789] (by decide +kernel) (by decide +kernel)
set_option maxRecDepth 20000 in
theorem gL_law_X10_meant : GoodIn wsL_law (wsV RL 90 RX10 yX10_meant wsX10_meant) := goodIn_app (goodIn_of _ (by decide +kernel)) ggL_law_X10_meant
set_option maxRecDepth 20000 in
theorem ggL_law_X11_meant : GoodIn wsL_law wsX11_meant := goodIn_r _ [654, 500, 501, 502, 5, 503, 438, 165, 166, 167, 655, 656, 657, 658, 126, 129, 122, 606, 137, 624, 136, 121, 135, 291, 292, 293, 294, 119, 733, 734, 735, 736, 737, 738, 739, 740, 741, 742, 743, 744, 745, 746, 747, 748, 749, 750, 751, 752, 753, 754, 755, 756, 757, 758, 759, 760, 761, 762, 763, 764, 765, 766, 767, 768, 769] (by decide +kernel) (by decide +kernel)
set_option maxRecDepth 20000 in
theorem gL_law_X11_meant : GoodIn wsL_law (wsV RL 93 RX11 yX11_meant wsX11_meant) := goodIn_app (goodIn_of _ (by decide +kernel)) ggL_law_X11_meant
set_option maxRecDepth 20000 in
theorem ggL_law_X10_phrase : GoodIn wsL_law wsX10_phrase := goodIn_r _ [662, 55, 51, 663, 485, 486, 487, 54, 488, 355, 664, 665, 666, 2, 667, 431, 668, 669, 670, 50, 671, 672, 673, 489, 490, 491, 492, 481, 34, 484, 251, 211, 212, 33, 213, 207, 76, 278, 279, 280, 230, 281, 282, 642, 643, 644, 645, 43, 299, 629, 646, 647, 648, 42, 649, 601, 92, 91, 90, 650, 612, 613, 614, 615, 674, 675, 676, 677, 723, 724, 725, 726, 727, 728, 729, 730, 731, 732, 793, 794, 795, 796, 797, 798, 799, 800, 801, 774, 775, 776, 777, 778, 802, 803, 804, 805, 806, 807, 784, 785, 786, 787, 788, 789] (by decide +kernel) (by decide +kernel)
set_option maxRecDepth 20000 in
theorem gL_law_X10_phrase : GoodIn wsL_law (wsV RL 94 RX10 yX10_phrase wsX10_phrase) := goodIn_app (goodIn_of _ (by decide +kernel)) ggL_law_X10_phrase
set_option maxRecDepth 20000 in
theorem ggL_law_X11_phrase : GoodIn wsL_law wsX11_phrase := goodIn_r _ [681, 682, 500, 501, 502, 5, 503, 438, 165, 166, 167, 683, 684, 685, 686, 126, 119, 129, 655, 656, 657, 658, 122, 606, 137, 624, 136, 121, 135, 291, 292, 293, 294, 733, 734, 735, 736, 737, 738, 739, 740, 741, 742, 743, 744, 745, 746, 747, 748, 749, 750, 751, 752, 753, 754, 755, 756, 757, 758, 759, 760, 761, 762, 763, 764, 765, 766, 767, 768, 769] (by decide +kernel) (by decide +kernel)
set_option maxRecDepth 20000 in
theorem gL_law_X11_phrase : GoodIn wsL_law (wsV RL 97 RX11 yX11_phrase wsX11_phrase) := goodIn_app (goodIn_of _ (by decide +kernel)) ggL_law_X11_phrase
set_option maxRecDepth 20000 in
theorem ggL_law_X10_phraseLength : GoodIn wsL_law wsX10_phraseLength := goodIn_r _ [690, 55, 51, 691, 485, 486, 487, 54, 488, 355, 664, 665, 666, 2, 667, 431, 668, 669, 670, 50, 671, 672, 673, 489, 490, 491, 492, 481, 34, 484, 251, 211, 212, 33, 213, 207, 76, 278, 279, 280, 230, 281, 282, 642, 643, 644, 645, 43, 299, 629, 646, 647, 648, 42, 649, 601, 92, 91, 90, 650, 612, 613, 614, 615, 674, 675, 676, 677, 723, 724, 725, 726, 727, 728, 729, 730, 731, 732, 793, 794, 795, 796, 797, 798, 799, 800, 801, 774, 775, 776, 777, 778, 802, 803, 804, 805, 806, 807, 784, 785, 786, 787, 788, 789] (by decide +kernel) (by decide +kernel)
set_option maxRecDepth 20000 in
theorem gL_law_X10_phraseLength : GoodIn wsL_law (wsV RL 98 RX10 yX10_phraseLength wsX10_phraseLength) := goodIn_app (goodIn_of _ (by decide +kernel)) ggL_law_X10_phraseLength
set_option maxRecDepth 20000 in
theorem ggL_law_X11_phraseLength : GoodIn wsL_law wsX11_phraseLength := goodIn_r _ [695, 500, 501, 502, 5, 503, 438, 165, 166, 167, 683, 684, 685, 686, 682, 126, 119, 129, 655, 656, 657, 658, 122, 606, 137, 624, 136, 121, 135, 291, 292, 293, 294, 733, 734, 735, 736, 737, 738, 739, 740, 741, 742, 743, 744, 745, 746, 747, 748, 749, 750, 751, 752, 753, 754, 755, 756, 757, 758, 759, 760, 761, 762, 763, 764, 765, 766, 767, 768, 769] (by decide +kernel) (by decide +kernel)
set_option maxRecDepth 20000 in
theorem gL_law_X11_phraseLength : GoodIn wsL_law (wsV RL 101 RX11 yX11_phraseLength wsX11_phraseLength) := goodIn_app (goodIn_of _ (by decide +kernel)) ggL_law_X11_phraseLength
set_option maxRecDepth 20000 in
theorem ggL_law_X10_about : GoodIn wsL_law wsX10_about := goodIn_r _ [699, 34, 700, 199, 277, 299, 701, 172, 629, 251, 211, 212, 33, 213, 207, 76, 723, 724, 725, 726, 727, 728, 729, 730, 731, 732, 802, 803, 804, 805, 806, 807, 772, 773, 774, 775, 776, 777, 778] (by decide +kernel) (by decide +kernel)
set_option maxRecDepth 20000 in
theorem gL_law_X10_about : GoodIn wsL_law (wsV RL 102 RX10 yX10_about wsX10_about) := goodIn_app (goodIn_of _ (by decide +kernel)) ggL_law_X10_about
set_option maxRecDepth 20000 in
theorem ggL_law_X11_about : GoodIn wsL_law wsX11_about := goodIn_r _ [705, 118, 119, 120, 121, 117, 122, 287, 288, 289, 5, 290, 163, 165, 166, 167, 733, 734, 735, 736, 737, 738, 739, 740, 741, 742, 743, 744, 745, 746, 747, 748, 749, 750, 751, 752, 753, 754, 755, 756, 757, 758, 759, 760, 761, 762, 763, 764, 765, 766, 767, 768, 769] (by decide +kernel) (by decide +kernel)
set_option maxRecDepth 20000 in
theorem gL_law_X11_about : GoodIn wsL_law (wsV RL 105 RX11 yX11_about wsX11_about) := goodIn_app (goodIn_of _ (by decide +kernel)) ggL_law_X11_about
set_option maxRecDepth 20000 in
theorem ggL_law_X10_equal : GoodIn wsL_law wsX10_equal := goodIn_r _ [709, 34, 26, 701, 172, 251, 211, 212, 33, 213, 207, 76, 710, 215, 216, 18, 217, 218, 61, 219, 20, 21, 22, 220, 221, 222, 29, 223, 182, 69, 224, 152, 153, 154, 63, 723, 724, 725, 726, 727, 728, 729, 730, 731, 732, 802, 803, 804, 805, 806, 807, 772, 773, 774, 775, 776, 777, 778, 770, 771] (by decide +kernel) (by decide +kernel)
set_option maxRecDepth 20000 in
theorem gL_law_X10_equal : GoodIn wsL_law (wsV RL 106 RX10 yX10_equal wsX10_equal) := goodIn_app (goodIn_of _ (by decide +kernel)) ggL_law_X10_equal
set_option maxRecDepth 20000 in
theorem ggL_law_X11_equal : GoodIn wsL_law wsX11_equal := goodIn_r _ [714, 116, 117, 287, 288, 289, 5, 290, 163, 165, 166, 167, 261, 262, 263, 264, 138, 265, 266, 267, 268, 114, 733, 734, 735, 736, 737, 738, 739, 740, 741, 742, 743, 744, 745, 746, 747, 748, 749, 750, 751, 752, 753, 754, 755, 756, 757, 758, 759, 760, 761, 762, 763, 764, 765, 766, 767, 768, 769] (by decide +kernel) (by decide +kernel)
set_option maxRecDepth 20000 in
theorem gL_law_X11_equal : GoodIn wsL_law (wsV RL 109 RX11 yX11_equal wsX11_equal) := goodIn_app (goodIn_of _ (by decide +kernel)) ggL_law_X11_equal
set_option maxRecDepth 20000 in
theorem ggL_law_X10_told : GoodIn wsL_law wsX10_told := goodIn_r _ [718, 30, 172, 34, 143, 144, 35, 55, 431, 43, 574, 589, 723, 724, 725, 726, 727, 728, 729, 730, 731, 732, 772, 773, 774, 775, 776, 777, 778, 795, 796, 797, 798, 799, 800, 801, 784, 785, 786, 787, 788, 789] (by decide +kernel) (by decide +kernel)
set_option maxRecDepth 20000 in
theorem gL_law_X10_told : GoodIn wsL_law (wsV RL 110 RX10 yX10_told wsX10_told) := goodIn_app (goodIn_of _ (by decide +kernel)) ggL_law_X10_told
set_option maxRecDepth 20000 in
theorem ggL_law_X11_told : GoodIn wsL_law wsX11_told := goodIn_r _ [722, 191, 163, 164, 338, 438, 584, 606, 733, 734, 735, 736, 737, 738, 739, 740, 741, 742, 743, 744, 745, 746, 747, 748, 749, 750, 751, 752, 753, 754, 755, 756, 757, 758, 759, 760, 761, 762, 763, 764, 765, 766, 767, 768, 769] (by decide +kernel) (by decide +kernel)
set_option maxRecDepth 20000 in
theorem gL_law_X11_told : GoodIn wsL_law (wsV RL 113 RX11 yX11_told wsX11_told) := goodIn_app (goodIn_of _ (by decide +kernel)) ggL_law_X11_told
theorem dL_law_0 : decode cL_law 0 = .ok (.new 7, 3) := by decide +kernel
theorem dL_law_3 : decode cL_law 3 = .ok (.dup, 1) := by decide +kernel
theorem dL_law_4 : decode cL_law 4 = .ok (.aload_n 0, 1) := by decide +kernel
theorem dL_law_5 : decode cL_law 5 = .ok (.iconst 0, 1) := by decide +kernel
theorem dL_law_6 : decode cL_law 6 = .ok (.invokestatic 9, 3) := by decide +kernel
theorem dL_law_9 : decode cL_law 9 = .ok (.invokespecial 15, 3) := by decide +kernel
theorem dL_law_12 : decode cL_law 12 = .ok (.astore_n 1, 1) := by decide +kernel
theorem dL_law_13 : decode cL_law 13 = .ok (.new 18, 3) := by decide +kernel
theorem dL_law_16 : decode cL_law 16 = .ok (.dup, 1) := by decide +kernel
theorem dL_law_17 : decode cL_law 17 = .ok (.aload_n 0, 1) := by decide +kernel
theorem dL_law_18 : decode cL_law 18 = .ok (.iconst 0, 1) := by decide +kernel
theorem dL_law_19 : decode cL_law 19 = .ok (.invokestatic 9, 3) := by decide +kernel
theorem dL_law_22 : decode cL_law 22 = .ok (.invokespecial 20, 3) := by decide +kernel
theorem dL_law_25 : decode cL_law 25 = .ok (.astore_n 2, 1) := by decide +kernel
theorem dL_law_26 : decode cL_law 26 = .ok (.iconst 1, 1) := by decide +kernel
theorem dL_law_27 : decode cL_law 27 = .ok (.istore_n 3, 1) := by decide +kernel
theorem dL_law_28 : decode cL_law 28 = .ok (.iload_n 3, 1) := by decide +kernel
theorem dL_law_29 : decode cL_law 29 = .ok (.aload_n 0, 1) := by decide +kernel
theorem dL_law_30 : decode cL_law 30 = .ok (.arraylength, 1) := by decide +kernel
theorem dL_law_31 : decode cL_law 31 = .ok (.iconst 4, 1) := by decide +kernel
theorem dL_law_32 : decode cL_law 32 = .ok (.isub, 1) := by decide +kernel
theorem dL_law_33 : decode cL_law 33 = .ok (.if_icmp .gt 759, 3) := by decide +kernel
theorem dL_law_36 : decode cL_law 36 = .ok (.aload_n 0, 1) := by decide +kernel
theorem dL_law_37 : decode cL_law 37 = .ok (.iload_n 3, 1) := by decide +kernel
theorem dL_law_38 : decode cL_law 38 = .ok (.iaload, 1) := by decide +kernel
theorem dL_law_39 : decode cL_law 39 = .ok (.bipush 31, 2) := by decide +kernel
theorem dL_law_41 : decode cL_law 41 = .ok (.iand, 1) := by decide +kernel
theorem dL_law_42 : decode cL_law 42 = .ok (.tableswitch 744 0 21 #[102, 135, 158, 191, 224, 257, 290, 313, 336, 369, 402, 425, 448, 461, 504, 553, 586, 609, 632, 655, 688, 721], 102) := by decide +kernel
theorem dL_law_144 : decode cL_law 144 = .ok (.aload_n 1, 1) := by decide +kernel
theorem dL_law_145 : decode cL_law 145 = .ok (.aload_n 0, 1) := by decide +kernel
theorem dL_law_146 : decode cL_law 146 = .ok (.iload_n 3, 1) := by decide +kernel
theorem dL_law_147 : decode cL_law 147 = .ok (.iconst 1, 1) := by decide +kernel
theorem dL_law_148 : decode cL_law 148 = .ok (.iadd, 1) := by decide +kernel
theorem dL_law_149 : decode cL_law 149 = .ok (.iaload, 1) := by decide +kernel
theorem dL_law_150 : decode cL_law 150 = .ok (.aload_n 0, 1) := by decide +kernel
theorem dL_law_151 : decode cL_law 151 = .ok (.iload_n 3, 1) := by decide +kernel
theorem dL_law_152 : decode cL_law 152 = .ok (.iconst 2, 1) := by decide +kernel
theorem dL_law_153 : decode cL_law 153 = .ok (.iadd, 1) := by decide +kernel
theorem dL_law_154 : decode cL_law 154 = .ok (.iaload, 1) := by decide +kernel
theorem dL_law_155 : decode cL_law 155 = .ok (.invokevirtual 21, 3) := by decide +kernel
theorem dL_law_158 : decode cL_law 158 = .ok (.aload_n 2, 1) := by decide +kernel
theorem dL_law_159 : decode cL_law 159 = .ok (.aload_n 0, 1) := by decide +kernel
theorem dL_law_160 : decode cL_law 160 = .ok (.iload_n 3, 1) := by decide +kernel
theorem dL_law_161 : decode cL_law 161 = .ok (.iconst 1, 1) := by decide +kernel
theorem dL_law_162 : decode cL_law 162 = .ok (.iadd, 1) := by decide +kernel
theorem dL_law_163 : decode cL_law 163 = .ok (.iaload, 1) := by decide +kernel
theorem dL_law_164 : decode cL_law 164 = .ok (.aload_n 0, 1) := by decide +kernel
theorem dL_law_165 : decode cL_law 165 = .ok (.iload_n 3, 1) := by decide +kernel
theorem dL_law_166 : decode cL_law 166 = .ok (.iconst 2, 1) := by decide +kernel
theorem dL_law_167 : decode cL_law 167 = .ok (.iadd, 1) := by decide +kernel
theorem dL_law_168 : decode cL_law 168 = .ok (.iaload, 1) := by decide +kernel
theorem dL_law_169 : decode cL_law 169 = .ok (.invokevirtual 25, 3) := by decide +kernel
theorem dL_law_172 : decode cL_law 172 = .ok (.if_icmp .eq 614, 3) := by decide +kernel
theorem dL_law_175 : decode cL_law 175 = .ok (.iconst 0, 1) := by decide +kernel
theorem dL_law_176 : decode cL_law 176 = .ok (.ireturn, 1) := by decide +kernel
theorem dL_law_177 : decode cL_law 177 = .ok (.aload_n 1, 1) := by decide +kernel
theorem dL_law_178 : decode cL_law 178 = .ok (.aload_n 0, 1) := by decide +kernel
theorem dL_law_179 : decode cL_law 179 = .ok (.iload_n 3, 1) := by decide +kernel
theorem dL_law_180 : decode cL_law 180 = .ok (.iconst 1, 1) := by decide +kernel
theorem dL_law_181 : decode cL_law 181 = .ok (.iadd, 1) := by decide +kernel
theorem dL_law_182 : decode cL_law 182 = .ok (.iaload, 1) := by decide +kernel
theorem dL_law_183 : decode cL_law 183 = .ok (.invokevirtual 26, 3) := by decide +kernel
theorem dL_law_186 : decode cL_law 186 = .ok (.aload_n 2, 1) := by decide +kernel
theorem dL_law_187 : decode cL_law 187 = .ok (.aload_n 0, 1) := by decide +kernel
theorem dL_law_188 : decode cL_law 188 = .ok (.iload_n 3, 1) := by decide +kernel
theorem dL_law_189 : decode cL_law 189 = .ok (.iconst 1, 1) := by decide +kernel
theorem dL_law_190 : decode cL_law 190 = .ok (.iadd, 1) := by decide +kernel
theorem dL_law_191 : decode cL_law 191 = .ok (.iaload, 1) := by decide +kernel
theorem dL_law_192 : decode cL_law 192 = .ok (.invokevirtual 30, 3) := by decide +kernel
theorem dL_law_195 : decode cL_law 195 = .ok (.if_icmp .eq 591, 3) := by decide +kernel
theorem dL_law_198 : decode cL_law 198 = .ok (.iconst 0, 1) := by decide +kernel
theorem dL_law_199 : decode cL_law 199 = .ok (.ireturn, 1) := by decide +kernel
theorem dL_law_200 : decode cL_law 200 = .ok (.aload_n 1, 1) := by decide +kernel
theorem dL_law_201 : decode cL_law 201 = .ok (.aload_n 0, 1) := by decide +kernel
theorem dL_law_202 : decode cL_law 202 = .ok (.iload_n 3, 1) := by decide +kernel
theorem dL_law_203 : decode cL_law 203 = .ok (.iconst 1, 1) := by decide +kernel
theorem dL_law_204 : decode cL_law 204 = .ok (.iadd, 1) := by decide +kernel
theorem dL_law_205 : decode cL_law 205 = .ok (.iaload, 1) := by decide +kernel
theorem dL_law_206 : decode cL_law 206 = .ok (.aload_n 0, 1) := by decide +kernel
theorem dL_law_207 : decode cL_law 207 = .ok (.iload_n 3, 1) := by decide +kernel
theorem dL_law_208 : decode cL_law 208 = .ok (.iconst 2, 1) := by decide +kernel
theorem dL_law_209 : decode cL_law 209 = .ok (.iadd, 1) := by decide +kernel
theorem dL_law_210 : decode cL_law 210 = .ok (.iaload, 1) := by decide +kernel
theorem dL_law_211 : decode cL_law 211 = .ok (.invokevirtual 31, 3) := by decide +kernel
theorem dL_law_214 : decode cL_law 214 = .ok (.aload_n 2, 1) := by decide +kernel
theorem dL_law_215 : decode cL_law 215 = .ok (.aload_n 0, 1) := by decide +kernel
theorem dL_law_216 : decode cL_law 216 = .ok (.iload_n 3, 1) := by decide +kernel
theorem dL_law_217 : decode cL_law 217 = .ok (.iconst 1, 1) := by decide +kernel
theorem dL_law_218 : decode cL_law 218 = .ok (.iadd, 1) := by decide +kernel
theorem dL_law_219 : decode cL_law 219 = .ok (.iaload, 1) := by decide +kernel
theorem dL_law_220 : decode cL_law 220 = .ok (.aload_n 0, 1) := by decide +kernel
theorem dL_law_221 : decode cL_law 221 = .ok (.iload_n 3, 1) := by decide +kernel
theorem dL_law_222 : decode cL_law 222 = .ok (.iconst 2, 1) := by decide +kernel
theorem dL_law_223 : decode cL_law 223 = .ok (.iadd, 1) := by decide +kernel
theorem dL_law_224 : decode cL_law 224 = .ok (.iaload, 1) := by decide +kernel
theorem dL_law_225 : decode cL_law 225 = .ok (.invokevirtual 34, 3) := by decide +kernel
theorem dL_law_228 : decode cL_law 228 = .ok (.if_icmp .eq 558, 3) := by decide +kernel
theorem dL_law_231 : decode cL_law 231 = .ok (.iconst 0, 1) := by decide +kernel
theorem dL_law_232 : decode cL_law 232 = .ok (.ireturn, 1) := by decide +kernel
theorem dL_law_233 : decode cL_law 233 = .ok (.aload_n 1, 1) := by decide +kernel
theorem dL_law_234 : decode cL_law 234 = .ok (.aload_n 0, 1) := by decide +kernel
theorem dL_law_235 : decode cL_law 235 = .ok (.iload_n 3, 1) := by decide +kernel
theorem dL_law_236 : decode cL_law 236 = .ok (.iconst 1, 1) := by decide +kernel
theorem dL_law_237 : decode cL_law 237 = .ok (.iadd, 1) := by decide +kernel
theorem dL_law_238 : decode cL_law 238 = .ok (.iaload, 1) := by decide +kernel
theorem dL_law_239 : decode cL_law 239 = .ok (.aload_n 0, 1) := by decide +kernel
theorem dL_law_240 : decode cL_law 240 = .ok (.iload_n 3, 1) := by decide +kernel
theorem dL_law_241 : decode cL_law 241 = .ok (.iconst 2, 1) := by decide +kernel
theorem dL_law_242 : decode cL_law 242 = .ok (.iadd, 1) := by decide +kernel
theorem dL_law_243 : decode cL_law 243 = .ok (.iaload, 1) := by decide +kernel
theorem dL_law_244 : decode cL_law 244 = .ok (.invokevirtual 35, 3) := by decide +kernel
theorem dL_law_247 : decode cL_law 247 = .ok (.aload_n 2, 1) := by decide +kernel
theorem dL_law_248 : decode cL_law 248 = .ok (.aload_n 0, 1) := by decide +kernel
theorem dL_law_249 : decode cL_law 249 = .ok (.iload_n 3, 1) := by decide +kernel
theorem dL_law_250 : decode cL_law 250 = .ok (.iconst 1, 1) := by decide +kernel
theorem dL_law_251 : decode cL_law 251 = .ok (.iadd, 1) := by decide +kernel
theorem dL_law_252 : decode cL_law 252 = .ok (.iaload, 1) := by decide +kernel
theorem dL_law_253 : decode cL_law 253 = .ok (.aload_n 0, 1) := by decide +kernel
theorem dL_law_254 : decode cL_law 254 = .ok (.iload_n 3, 1) := by decide +kernel
theorem dL_law_255 : decode cL_law 255 = .ok (.iconst 2, 1) := by decide +kernel
theorem dL_law_256 : decode cL_law 256 = .ok (.iadd, 1) := by decide +kernel
theorem dL_law_257 : decode cL_law 257 = .ok (.iaload, 1) := by decide +kernel
theorem dL_law_258 : decode cL_law 258 = .ok (.invokevirtual 38, 3) := by decide +kernel
theorem dL_law_261 : decode cL_law 261 = .ok (.if_icmp .eq 525, 3) := by decide +kernel
theorem dL_law_264 : decode cL_law 264 = .ok (.iconst 0, 1) := by decide +kernel
theorem dL_law_265 : decode cL_law 265 = .ok (.ireturn, 1) := by decide +kernel
theorem dL_law_266 : decode cL_law 266 = .ok (.aload_n 1, 1) := by decide +kernel
theorem dL_law_267 : decode cL_law 267 = .ok (.aload_n 0, 1) := by decide +kernel
theorem dL_law_268 : decode cL_law 268 = .ok (.iload_n 3, 1) := by decide +kernel
theorem dL_law_269 : decode cL_law 269 = .ok (.iconst 1, 1) := by decide +kernel
theorem dL_law_270 : decode cL_law 270 = .ok (.iadd, 1) := by decide +kernel
theorem dL_law_271 : decode cL_law 271 = .ok (.iaload, 1) := by decide +kernel
theorem dL_law_272 : decode cL_law 272 = .ok (.aload_n 0, 1) := by decide +kernel
theorem dL_law_273 : decode cL_law 273 = .ok (.iload_n 3, 1) := by decide +kernel
theorem dL_law_274 : decode cL_law 274 = .ok (.iconst 2, 1) := by decide +kernel
theorem dL_law_275 : decode cL_law 275 = .ok (.iadd, 1) := by decide +kernel
theorem dL_law_276 : decode cL_law 276 = .ok (.iaload, 1) := by decide +kernel
theorem dL_law_277 : decode cL_law 277 = .ok (.invokevirtual 39, 3) := by decide +kernel
theorem dL_law_280 : decode cL_law 280 = .ok (.aload_n 2, 1) := by decide +kernel
theorem dL_law_281 : decode cL_law 281 = .ok (.aload_n 0, 1) := by decide +kernel
theorem dL_law_282 : decode cL_law 282 = .ok (.iload_n 3, 1) := by decide +kernel
theorem dL_law_283 : decode cL_law 283 = .ok (.iconst 1, 1) := by decide +kernel
theorem dL_law_284 : decode cL_law 284 = .ok (.iadd, 1) := by decide +kernel
theorem dL_law_285 : decode cL_law 285 = .ok (.iaload, 1) := by decide +kernel
theorem dL_law_286 : decode cL_law 286 = .ok (.aload_n 0, 1) := by decide +kernel
theorem dL_law_287 : decode cL_law 287 = .ok (.iload_n 3, 1) := by decide +kernel
theorem dL_law_288 : decode cL_law 288 = .ok (.iconst 2, 1) := by decide +kernel
theorem dL_law_289 : decode cL_law 289 = .ok (.iadd, 1) := by decide +kernel
theorem dL_law_290 : decode cL_law 290 = .ok (.iaload, 1) := by decide +kernel
theorem dL_law_291 : decode cL_law 291 = .ok (.invokevirtual 42, 3) := by decide +kernel
theorem dL_law_294 : decode cL_law 294 = .ok (.if_icmp .eq 492, 3) := by decide +kernel
theorem dL_law_297 : decode cL_law 297 = .ok (.iconst 0, 1) := by decide +kernel
theorem dL_law_298 : decode cL_law 298 = .ok (.ireturn, 1) := by decide +kernel
theorem dL_law_299 : decode cL_law 299 = .ok (.aload_n 1, 1) := by decide +kernel
theorem dL_law_300 : decode cL_law 300 = .ok (.aload_n 0, 1) := by decide +kernel
theorem dL_law_301 : decode cL_law 301 = .ok (.iload_n 3, 1) := by decide +kernel
theorem dL_law_302 : decode cL_law 302 = .ok (.iconst 1, 1) := by decide +kernel
theorem dL_law_303 : decode cL_law 303 = .ok (.iadd, 1) := by decide +kernel
theorem dL_law_304 : decode cL_law 304 = .ok (.iaload, 1) := by decide +kernel
theorem dL_law_305 : decode cL_law 305 = .ok (.aload_n 0, 1) := by decide +kernel
theorem dL_law_306 : decode cL_law 306 = .ok (.iload_n 3, 1) := by decide +kernel
theorem dL_law_307 : decode cL_law 307 = .ok (.iconst 2, 1) := by decide +kernel
theorem dL_law_308 : decode cL_law 308 = .ok (.iadd, 1) := by decide +kernel
theorem dL_law_309 : decode cL_law 309 = .ok (.iaload, 1) := by decide +kernel
theorem dL_law_310 : decode cL_law 310 = .ok (.invokevirtual 43, 3) := by decide +kernel
theorem dL_law_313 : decode cL_law 313 = .ok (.aload_n 2, 1) := by decide +kernel
theorem dL_law_314 : decode cL_law 314 = .ok (.aload_n 0, 1) := by decide +kernel
theorem dL_law_315 : decode cL_law 315 = .ok (.iload_n 3, 1) := by decide +kernel
theorem dL_law_316 : decode cL_law 316 = .ok (.iconst 1, 1) := by decide +kernel
theorem dL_law_317 : decode cL_law 317 = .ok (.iadd, 1) := by decide +kernel
theorem dL_law_318 : decode cL_law 318 = .ok (.iaload, 1) := by decide +kernel
theorem dL_law_319 : decode cL_law 319 = .ok (.aload_n 0, 1) := by decide +kernel
theorem dL_law_320 : decode cL_law 320 = .ok (.iload_n 3, 1) := by decide +kernel
theorem dL_law_321 : decode cL_law 321 = .ok (.iconst 2, 1) := by decide +kernel
theorem dL_law_322 : decode cL_law 322 = .ok (.iadd, 1) := by decide +kernel
theorem dL_law_323 : decode cL_law 323 = .ok (.iaload, 1) := by decide +kernel
theorem dL_law_324 : decode cL_law 324 = .ok (.invokevirtual 46, 3) := by decide +kernel
theorem dL_law_327 : decode cL_law 327 = .ok (.if_icmp .eq 459, 3) := by decide +kernel
theorem dL_law_330 : decode cL_law 330 = .ok (.iconst 0, 1) := by decide +kernel
theorem dL_law_331 : decode cL_law 331 = .ok (.ireturn, 1) := by decide +kernel
theorem dL_law_332 : decode cL_law 332 = .ok (.aload_n 1, 1) := by decide +kernel
theorem dL_law_333 : decode cL_law 333 = .ok (.aload_n 0, 1) := by decide +kernel
theorem dL_law_334 : decode cL_law 334 = .ok (.iload_n 3, 1) := by decide +kernel
theorem dL_law_335 : decode cL_law 335 = .ok (.iconst 1, 1) := by decide +kernel
theorem dL_law_336 : decode cL_law 336 = .ok (.iadd, 1) := by decide +kernel
theorem dL_law_337 : decode cL_law 337 = .ok (.iaload, 1) := by decide +kernel
theorem dL_law_338 : decode cL_law 338 = .ok (.invokevirtual 47, 3) := by decide +kernel
theorem dL_law_341 : decode cL_law 341 = .ok (.aload_n 2, 1) := by decide +kernel
theorem dL_law_342 : decode cL_law 342 = .ok (.aload_n 0, 1) := by decide +kernel
theorem dL_law_343 : decode cL_law 343 = .ok (.iload_n 3, 1) := by decide +kernel
theorem dL_law_344 : decode cL_law 344 = .ok (.iconst 1, 1) := by decide +kernel
theorem dL_law_345 : decode cL_law 345 = .ok (.iadd, 1) := by decide +kernel
theorem dL_law_346 : decode cL_law 346 = .ok (.iaload, 1) := by decide +kernel
theorem dL_law_347 : decode cL_law 347 = .ok (.invokevirtual 50, 3) := by decide +kernel
theorem dL_law_350 : decode cL_law 350 = .ok (.if_icmp .eq 436, 3) := by decide +kernel
theorem dL_law_353 : decode cL_law 353 = .ok (.iconst 0, 1) := by decide +kernel
theorem dL_law_354 : decode cL_law 354 = .ok (.ireturn, 1) := by decide +kernel
theorem dL_law_355 : decode cL_law 355 = .ok (.aload_n 1, 1) := by decide +kernel
theorem dL_law_356 : decode cL_law 356 = .ok (.aload_n 0, 1) := by decide +kernel
theorem dL_law_357 : decode cL_law 357 = .ok (.iload_n 3, 1) := by decide +kernel
theorem dL_law_358 : decode cL_law 358 = .ok (.iconst 1, 1) := by decide +kernel
theorem dL_law_359 : decode cL_law 359 = .ok (.iadd, 1) := by decide +kernel

set_option maxRecDepth 20000 in
theorem ggL_law_X8_init : GoodIn wsL_law wsX8_init := goodIn_r _ [8, 9, 10, 11, 12, 13, 14, 15, 16, 17, 18, 19, 20, 21, 22, 23, 24, 25, 26, 27, 28, 29, 30, 31, 32, 33, 34, 35, 36, 37, 38, 39, 40, 41, 42, 43, 44, 45, 46, 47, 48, 49, 50, 51, 52, 53, 54, 55, 56, 57, 58, 59, 60, 61, 62, 63, 64, 65, 66, 67, 68, 69, 70, 71, 72, 73, 74, 75, 76, 77, 78, 79, 80, 81, 82, 83, 84, 85, 86, 87, 88, 89, 90, 91, 92, 93, 94, 95, 96, 97, 98, 99, 100, 101, 102, 103, 104, 105, 846, 847, 848, 849, 850, 851, 852, 853, 854, 855, 765, 766, 767, 768, 769, 770, 771, 772, 773, 774, 775, 776, 777, 778, 779, 780, 781, 782, 856, 857, 858, 859, 860, 861, 862, 863, 864, 865, 866, 867, 868, 869, 870, 871, 872, 873, 874, 875, 876, 877, 878, 879, 880, 881, 882, 883, 884, 885, 886, 887] (by decide +kernel) (by decide +kernel)
set_option maxRecDepth 20000 in
theorem gL_law_X8_init : GoodIn wsL_law (wsX8_init) := ggL_law_X8_init
set_option maxRecDepth 20000 in
theorem ggL_law_X9_init : GoodIn wsL_law wsX9_init := goodIn_r _ [108, 109, 10, 11, 79, 110, 23, 111, 112, 113, 114, 115, 116, 117, 118, 119, 120, 121, 122, 123, 124, 125, 126, 127, 128, 129, 130, 131, 132, 133, 134, 135, 136, 137, 138, 139, 140, 141, 142, 143, 144, 145, 146, 147, 148, 149, 150, 151, 64, 152, 153, 783, 784, 785, 786, 787, 788, 789, 790, 791, 792, 793, 794, 795, 796, 797, 798, 799, 800, 801, 802, 803, 804, 805, 806, 807, 808, 809, 810, 811, 812, 813, 814, 815, 816, 817, 818, 819, 820, 821, 822, 823, 824, 825, 826, 827, 828, 829, 830, 831, 832, 833, 834, 835, 836, 837, 838, 839, 840, 841, 842, 843, 844, 845] (by decide +kernel) (by decide +kernel)
set_option maxRecDepth 20000 in
theorem gL_law_X9_init : GoodIn wsL_law (wsX9_init) := ggL_law_X9_init
set_option maxRecDepth 20000 in
theorem ggL_law_X8_feed : GoodIn wsL_law wsX8_feed := goodIn_r _ [157, 28, 158, 159, 160, 161, 27, 162, 81, 80, 163, 2, 164, 765, 766, 767, 768, 769, 770, 771, 772, 773, 774, 775, 776, 777, 778, 779, 780, 781, 782, 862, 863] (by decide +kernel) (by decide +kernel)
set_option maxRecDepth 20000 in
theorem gL_law_X8_feed : GoodIn wsL_law (wsV RL 13 RX8 yX8_feed wsX8_feed) := goodIn_app (goodIn_of _ (by decide +kernel)) ggL_law_X8_feed
set_option maxRecDepth 20000 in
theorem ggL_law_X9_feed : GoodIn wsL_law wsX9_feed := goodIn_r _ [168, 169, 170, 171, 172, 5, 173, 110, 783, 784, 785, 786, 787, 788, 789, 790, 791, 792, 793, 794, 795, 796, 797, 798, 799, 800, 801, 802, 803, 804, 805, 806, 807, 808, 809, 810, 811, 812, 813, 814, 815, 816, 817, 818, 819, 820, 821, 822, 823, 824, 825, 826, 827, 828, 829, 830, 831, 832, 833, 834, 835, 836, 837, 838, 839, 840, 841, 842, 843, 844, 845] (by decide +kernel) (by decide +kernel)
set_option maxRecDepth 20000 in
theorem gL_law_X9_feed : GoodIn wsL_law (wsV RL 17 RX9 yX9_feed wsX9_feed) := goodIn_app (goodIn_of _ (by decide +kernel)) ggL_law_X9_feed
set_option maxRecDepth 20000 in
theorem ggL_law_X8_rights : GoodIn wsL_law wsX8_rights := goodIn_r _ [177, 28, 158, 17, 19, 20, 32, 18, 178, 163, 2, 164, 66, 67, 68, 10, 11, 69, 70, 71, 72, 73, 74, 75, 179, 180, 181, 31, 182, 183, 184, 185, 186, 187, 188, 189, 190, 191, 192, 193, 194, 195, 196, 197, 198, 199, 86, 200, 201, 202, 203, 204, 205, 206, 207, 208, 209, 210, 211, 212, 213, 214, 215, 216, 217, 218, 219, 220, 221, 222, 223, 224, 765, 766, 767, 768, 769, 770, 771, 772, 773, 774, 775, 776, 777, 778, 779, 780, 781, 782, 862, 863, 856, 857, 858, 859, 860, 861, 864, 865, 866, 867] (by decide +kernel) (by decide +kernel)
set_option maxRecDepth 20000 in
theorem gL_law_X8_rights : GoodIn wsL_law (wsV RL 18 RX8 yX8_rights wsX8_rights) := goodIn_app (goodIn_of _ (by decide +kernel)) ggL_law_X8_rights
set_option maxRecDepth 20000 in
theorem ggL_law_X9_rights : GoodIn wsL_law wsX9_rights := goodIn_r _ [228, 169, 229, 230, 231, 232, 233, 234, 235, 236, 237, 111, 153, 112, 113, 114, 115, 116, 238, 239, 240, 5, 241, 242, 243, 244, 245, 246, 247, 248, 249, 250, 110, 251, 252, 253, 254, 255, 256, 257, 258, 259, 260, 261, 262, 263, 264, 265, 266, 783, 784, 785, 786, 787, 788, 789, 790, 791, 792, 793, 794, 795, 796, 797, 798, 799, 800, 801, 802, 803, 804, 805, 806, 807, 808, 809, 810, 811, 812, 813, 814, 815, 816, 817, 818, 819, 820, 821, 822, 823, 824, 825, 826, 827, 828, 829, 830, 831, 832, 833, 834, 835, 836, 837, 838, 839, 840, 841, 842, 843, 844, 845] (by decide +kernel) (by decide +kernel)
set_option maxRecDepth 20000 in
theorem gL_law_X9_rights : GoodIn wsL_law (wsV RL 22 RX9 yX9_rights wsX9_rights) := goodIn_app (goodIn_of _ (by decide +kernel)) ggL_law_X9_rights
set_option maxRecDepth 20000 in
theorem ggL_law_X8_most : GoodIn wsL_law wsX8_most := goodIn_r _ [270, 42, 765, 766, 767, 768, 769, 770, 771, 772, 773, 774, 775, 776, 777, 778, 779, 780, 781, 782] (by decide +kernel) (by decide +kernel)
set_option maxRecDepth 20000 in
theorem gL_law_X8_most : GoodIn wsL_law (wsV RL 23 RX8 yX8_most wsX8_most) := goodIn_app (goodIn_of _ (by decide +kernel)) ggL_law_X8_most
set_option maxRecDepth 20000 in
theorem ggL_law_X9_most : GoodIn wsL_law wsX9_most := goodIn_r _ [274, 118, 783, 784, 785, 786, 787, 788, 789, 790, 791, 792, 793, 794, 795, 796, 797, 798, 799, 800, 801, 802, 803, 804, 805, 806, 807, 808, 809, 810, 811, 812, 813, 814, 815, 816, 817, 818, 819, 820, 821, 822, 823, 824, 825, 826, 827, 828, 829, 830, 831, 832, 833, 834, 835, 836, 837, 838, 839, 840, 841, 842, 843, 844, 845] (by decide +kernel) (by decide +kernel)
set_option maxRecDepth 20000 in
theorem gL_law_X9_most : GoodIn wsL_law (wsV RL 27 RX9 yX9_most wsX9_most) := goodIn_app (goodIn_of _ (by decide +kernel)) ggL_law_X9_most
set_option maxRecDepth 20000 in
theorem ggL_law_X8_compressors : GoodIn wsL_law wsX8_compressors := goodIn_r _ [278, 43, 765, 766, 767, 768, 769, 770, 771, 772, 773, 774, 775, 776, 777, 778, 779, 780, 781, 782] (by decide +kernel) (by decide +kernel)
set_option maxRecDepth 20000 in
theorem gL_law_X8_compressors : GoodIn wsL_law (wsV RL 28 RX8 yX8_compressors wsX8_compressors) := goodIn_app (goodIn_of _ (by decide +kernel)) ggL_law_X8_compressors
set_option maxRecDepth 20000 in
theorem ggL_law_X9_compressors : GoodIn wsL_law wsX9_compressors := goodIn_r _ [282, 119, 783, 784, 785, 786, 787, 788, 789, 790, 791, 792, 793, 794, 795, 796, 797, 798, 799, 800, 801, 802, 803, 804, 805, 806, 807, 808, 809, 810, 811, 812, 813, 814, 815, 816, 817, 818, 819, 820, 821, 822, 823, 824, 825, 826, 827, 828, 829, 830, 831, 832, 833, 834, 835, 836, 837, 838, 839, 840, 841, 842, 843, 844, 845] (by decide +kernel) (by decide +kernel)
set_option maxRecDepth 20000 in
theorem gL_law_X9_compressors : GoodIn wsL_law (wsV RL 31 RX9 yX9_compressors wsX9_compressors) := goodIn_app (goodIn_of _ (by decide +kernel)) ggL_law_X9_compressors
set_option maxRecDepth 20000 in
theorem ggL_law_X8_price : GoodIn wsL_law wsX8_price := goodIn_r _ [286, 24, 178, 163, 2, 164, 765, 766, 767, 768, 769, 770, 771, 772, 773, 774, 775, 776, 777, 778, 779, 780, 781, 782] (by decide +kernel) (by decide +kernel)
set_option maxRecDepth 20000 in
theorem gL_law_X8_price : GoodIn wsL_law (wsV RL 32 RX8 yX8_price wsX8_price) := goodIn_app (goodIn_of _ (by decide +kernel)) ggL_law_X8_price
set_option maxRecDepth 20000 in
theorem ggL_law_X9_price : GoodIn wsL_law wsX9_price := goodIn_r _ [290, 121, 783, 784, 785, 786, 787, 788, 789, 790, 791, 792, 793, 794, 795, 796, 797, 798, 799, 800, 801, 802, 803, 804, 805, 806, 807, 808, 809, 810, 811, 812, 813, 814, 815, 816, 817, 818, 819, 820, 821, 822, 823, 824, 825, 826, 827, 828, 829, 830, 831, 832, 833, 834, 835, 836, 837, 838, 839, 840, 841, 842, 843, 844, 845] (by decide +kernel) (by decide +kernel)
set_option maxRecDepth 20000 in
theorem gL_law_X9_price : GoodIn wsL_law (wsV RL 36 RX9 yX9_price wsX9_price) := goodIn_app (goodIn_of _ (by decide +kernel)) ggL_law_X9_price
set_option maxRecDepth 20000 in
theorem ggL_law_X8_rest : GoodIn wsL_law wsX8_rest := goodIn_r _ [294, 44, 765, 766, 767, 768, 769, 770, 771, 772, 773, 774, 775, 776, 777, 778, 779, 780, 781, 782] (by decide +kernel) (by decide +kernel)
set_option maxRecDepth 20000 in
theorem gL_law_X8_rest : GoodIn wsL_law (wsV RL 37 RX8 yX8_rest wsX8_rest) := goodIn_app (goodIn_of _ (by decide +kernel)) ggL_law_X8_rest
set_option maxRecDepth 20000 in
theorem ggL_law_X9_rest : GoodIn wsL_law wsX9_rest := goodIn_r _ [298, 120, 783, 784, 785, 786, 787, 788, 789, 790, 791, 792, 793, 794, 795, 796, 797, 798, 799, 800, 801, 802, 803, 804, 805, 806, 807, 808, 809, 810, 811, 812, 813, 814, 815, 816, 817, 818, 819, 820, 821, 822, 823, 824, 825, 826, 827, 828, 829, 830, 831, 832, 833, 834, 835, 836, 837, 838, 839, 840, 841, 842, 843, 844, 845] (by decide +kernel) (by decide +kernel)
set_option maxRecDepth 20000 in
theorem gL_law_X9_rest : GoodIn wsL_law (wsV RL 40 RX9 yX9_rest wsX9_rest) := goodIn_app (goodIn_of _ (by decide +kernel)) ggL_law_X9_rest
set_option maxRecDepth 20000 in
theorem ggL_law_X8_book : GoodIn wsL_law wsX8_book := goodIn_r _ [302, 303, 304, 18, 305, 44, 306, 22, 21, 307, 308, 178, 163, 2, 164, 309, 310, 311, 20, 312, 70, 71, 72, 313, 314, 315, 316, 317, 318, 319, 320, 321, 322, 323, 324, 325, 326, 327, 328, 329, 330, 331, 332, 333, 334, 15, 16, 335, 336, 337, 14, 338, 51, 52, 339, 340, 341, 50, 342, 65, 343, 344, 345, 346, 347, 348, 349, 350, 351, 352, 353, 354, 10, 11, 355, 356, 357, 358, 359, 360, 361, 362, 363, 364, 365, 765, 766, 767, 768, 769, 770, 771, 772, 773, 774, 775, 776, 777, 778, 779, 780, 781, 782, 856, 857, 858, 859, 860, 861, 846, 847, 848, 849, 850, 851, 852, 853, 854, 855, 888, 889, 890, 891, 892, 893, 894, 895, 896, 897, 887] (by decide +kernel) (by decide +kernel)
set_option maxRecDepth 20000 in
theorem gL_law_X8_book : GoodIn wsL_law (wsV RL 41 RX8 yX8_book wsX8_book) := goodIn_app (goodIn_of _ (by decide +kernel)) ggL_law_X8_book
set_option maxRecDepth 20000 in
theorem ggL_law_X9_book : GoodIn wsL_law wsX9_book := goodIn_r _ [369, 370, 371, 111, 112, 113, 114, 120, 131, 132, 133, 134, 135, 136, 137, 115, 138, 116, 139, 372, 373, 5, 374, 375, 376, 377, 378, 379, 380, 381, 382, 383, 384, 385, 386, 140, 141, 142, 387, 388, 389, 390, 391, 392, 393, 394, 783, 784, 785, 786, 787, 788, 789, 790, 791, 792, 793, 794, 795, 796, 797, 798, 799, 800, 801, 802, 803, 804, 805, 806, 807, 808, 809, 810, 811, 812, 813, 814, 815, 816, 817, 818, 819, 820, 821, 822, 823, 824, 825, 826, 827, 828, 829, 830, 831, 832, 833, 834, 835, 836, 837, 838, 839, 840, 841, 842, 843, 844, 845] (by decide +kernel) (by decide +kernel)
set_option maxRecDepth 20000 in
theorem gL_law_X9_book : GoodIn wsL_law (wsV RL 45 RX9 yX9_book wsX9_book) := goodIn_app (goodIn_of _ (by decide +kernel)) ggL_law_X9_book
set_option maxRecDepth 20000 in
theorem ggL_law_X8_cancel : GoodIn wsL_law wsX8_cancel := goodIn_r _ [398, 399, 400, 306, 321, 401, 402, 403, 322, 323, 324, 2, 325, 304, 22, 331, 332, 333, 334, 15, 16, 404, 405, 406, 50, 407, 65, 408, 888, 889, 890, 891, 892, 893, 894, 895, 896, 897, 846, 847, 848, 849, 850, 851, 852, 853, 854, 855, 765, 766, 767, 768, 769, 770, 771, 772, 773, 774, 775, 776, 777, 778, 779, 780, 781, 782, 887] (by decide +kernel) (by decide +kernel)
set_option maxRecDepth 20000 in
theorem gL_law_X8_cancel : GoodIn wsL_law (wsV RL 46 RX8 yX8_cancel wsX8_cancel) := goodIn_app (goodIn_of _ (by decide +kernel)) ggL_law_X8_cancel
set_option maxRecDepth 20000 in
theorem ggL_law_X9_cancel : GoodIn wsL_law wsX9_cancel := goodIn_r _ [412, 135, 413, 414, 415, 5, 416, 371, 783, 784, 785, 786, 787, 788, 789, 790, 791, 792, 793, 794, 795, 796, 797, 798, 799, 800, 801, 802, 803, 804, 805, 806, 807, 808, 809, 810, 811, 812, 813, 814, 815, 816, 817, 818, 819, 820, 821, 822, 823, 824, 825, 826, 827, 828, 829, 830, 831, 832, 833, 834, 835, 836, 837, 838, 839, 840, 841, 842, 843, 844, 845] (by decide +kernel) (by decide +kernel)
set_option maxRecDepth 20000 in
theorem gL_law_X9_cancel : GoodIn wsL_law (wsV RL 49 RX9 yX9_cancel wsX9_cancel) := goodIn_app (goodIn_of _ (by decide +kernel)) ggL_law_X9_cancel
set_option maxRecDepth 20000 in
theorem ggL_law_X8_cut : GoodIn wsL_law wsX8_cut := goodIn_r _ [420, 178, 163, 2, 164, 421, 422, 423, 331, 332, 333, 334, 15, 16, 424, 425, 426, 14, 427, 59, 60, 765, 766, 767, 768, 769, 770, 771, 772, 773, 774, 775, 776, 777, 778, 779, 780, 781, 782, 846, 847, 848, 849, 850, 851, 852, 853, 854, 855] (by decide +kernel) (by decide +kernel)
set_option maxRecDepth 20000 in
theorem gL_law_X8_cut : GoodIn wsL_law (wsV RL 50 RX8 yX8_cut wsX8_cut) := goodIn_app (goodIn_of _ (by decide +kernel)) ggL_law_X8_cut
set_option maxRecDepth 20000 in
theorem ggL_law_X9_cut : GoodIn wsL_law wsX9_cut := goodIn_r _ [431, 130, 127, 128, 375, 376, 5, 377, 783, 784, 785, 786, 787, 788, 789, 790, 791, 792, 793, 794, 795, 796, 797, 798, 799, 800, 801, 802, 803, 804, 805, 806, 807, 808, 809, 810, 811, 812, 813, 814, 815, 816, 817, 818, 819, 820, 821, 822, 823, 824, 825, 826, 827, 828, 829, 830, 831, 832, 833, 834, 835, 836, 837, 838, 839, 840, 841, 842, 843, 844, 845] (by decide +kernel) (by decide +kernel)
set_option maxRecDepth 20000 in
theorem gL_law_X9_cut : GoodIn wsL_law (wsV RL 54 RX9 yX9_cut wsX9_cut) := goodIn_app (goodIn_of _ (by decide +kernel)) ggL_law_X9_cut
set_option maxRecDepth 20000 in
theorem ggL_law_X8_close : GoodIn wsL_law wsX8_close := goodIn_r _ [435, 303, 436, 306, 437, 36, 44, 178, 163, 2, 164, 331, 332, 333, 334, 15, 16, 438, 439, 440, 441, 304, 400, 321, 442, 443, 444, 35, 445, 446, 322, 323, 324, 325, 22, 326, 327, 328, 308, 329, 330, 447, 448, 449, 450, 92, 404, 405, 406, 50, 407, 65, 408, 347, 348, 349, 350, 451, 452, 453, 454, 455, 456, 457, 95, 458, 459, 460, 461, 462, 463, 464, 465, 466, 467, 468, 469, 470, 471, 472, 473, 474, 475, 476, 477, 96, 97, 478, 336, 337, 14, 338, 51, 52, 339, 340, 341, 342, 343, 344, 345, 346, 479, 480, 481, 482, 483, 484, 485, 486, 487, 488, 93, 489, 490, 491, 492, 493, 94, 494, 495, 496, 497, 498, 499, 500, 501, 502, 503, 504, 505, 506, 507, 508, 360, 361, 357, 765, 766, 767, 768, 769, 770, 771, 772, 773, 774, 775, 776, 777, 778, 779, 780, 781, 782, 846, 847, 848, 849, 850, 851, 852, 853, 854, 855, 888, 889, 890, 891, 892, 893, 894, 895, 896, 897, 868, 869, 870, 871, 872, 873, 874, 875, 876, 877, 887] (by decide +kernel) (by decide +kernel)
set_option maxRecDepth 20000 in
theorem gL_law_X8_close : GoodIn wsL_law (wsV RL 55 RX8 yX8_close wsX8_close) := goodIn_app (goodIn_of _ (by decide +kernel)) ggL_law_X8_close
set_option maxRecDepth 20000 in
theorem ggL_law_X9_close : GoodIn wsL_law wsX9_close := goodIn_r _ [512, 370, 386, 513, 371, 135, 133, 134, 143, 146, 140, 141, 142, 514, 144, 145, 139, 375, 376, 5, 377, 515, 516, 517, 518, 519, 520, 521, 522, 523, 524, 525, 526, 527, 528, 529, 530, 120, 382, 383, 384, 385, 378, 379, 380, 381, 391, 392, 393, 394, 783, 784, 785, 786, 787, 788, 789, 790, 791, 792, 793, 794, 795, 796, 797, 798, 799, 800, 801, 802, 803, 804, 805, 806, 807, 808, 809, 810, 811, 812, 813, 814, 815, 816, 817, 818, 819, 820, 821, 822, 823, 824, 825, 826, 827, 828, 829, 830, 831, 832, 833, 834, 835, 836, 837, 838, 839, 840, 841, 842, 843, 844, 845] (by decide +kernel) (by decide +kernel)
set_option maxRecDepth 20000 in
theorem gL_law_X9_close : GoodIn wsL_law (wsV RL 59 RX9 yX9_close wsX9_close) := goodIn_app (goodIn_of _ (by decide +kernel)) ggL_law_X9_close
set_option maxRecDepth 20000 in
theorem ggL_law_X8_step : GoodIn wsL_law wsX8_step := goodIn_r _ [534, 43, 303, 535, 536, 2, 537, 538, 539, 540, 541, 542, 24, 41, 42, 543, 544, 545, 546, 547, 548, 549, 550, 551, 552, 484, 553, 437, 331, 332, 333, 334, 15, 16, 554, 555, 556, 557, 558, 559, 560, 561, 306, 304, 400, 321, 562, 340, 341, 50, 342, 65, 322, 323, 324, 325, 22, 326, 327, 328, 308, 329, 330, 563, 564, 565, 566, 567, 568, 569, 570, 178, 163, 164, 571, 572, 573, 14, 574, 54, 575, 58, 576, 577, 578, 579, 55, 580, 581, 582, 583, 584, 355, 585, 586, 587, 588, 363, 356, 589, 590, 591, 592, 593, 594, 595, 596, 597, 598, 59, 56, 599, 600, 601, 602, 603, 604, 605, 57, 424, 425, 426, 427, 60, 765, 766, 767, 768, 769, 770, 771, 772, 773, 774, 775, 776, 777, 778, 779, 780, 781, 782, 846, 847, 848, 849, 850, 851, 852, 853, 854, 855, 888, 889, 890, 891, 892, 893, 894, 895, 896, 897, 887] (by decide +kernel) (by decide +kernel)
set_option maxRecDepth 20000 in
theorem gL_law_X8_step : GoodIn wsL_law (wsV RL 60 RX8 yX8_step wsX8_step) := goodIn_app (goodIn_of _ (by decide +kernel)) ggL_law_X8_step
set_option maxRecDepth 20000 in
theorem ggL_law_X9_step : GoodIn wsL_law wsX9_step := goodIn_r _ [609, 119, 370, 117, 610, 121, 118, 611, 132, 130, 378, 379, 380, 5, 381, 371, 135, 133, 134, 612, 613, 614, 615, 616, 617, 618, 619, 620, 621, 122, 126, 622, 623, 624, 625, 136, 123, 626, 627, 628, 382, 383, 384, 385, 386, 140, 141, 142, 629, 630, 631, 632, 127, 124, 128, 125, 633, 783, 784, 785, 786, 787, 788, 789, 790, 791, 792, 793, 794, 795, 796, 797, 798, 799, 800, 801, 802, 803, 804, 805, 806, 807, 808, 809, 810, 811, 812, 813, 814, 815, 816, 817, 818, 819, 820, 821, 822, 823, 824, 825, 826, 827, 828, 829, 830, 831, 832, 833, 834, 835, 836, 837, 838, 839, 840, 841, 842, 843, 844, 845] (by decide +kernel) (by decide +kernel)
set_option maxRecDepth 20000 in
theorem gL_law_X9_step : GoodIn wsL_law (wsV RL 63 RX9 yX9_step wsX9_step) := goodIn_app (goodIn_of _ (by decide +kernel)) ggL_law_X9_step
set_option maxRecDepth 20000 in
theorem ggL_law_X8_plan : GoodIn wsL_law wsX8_plan := goodIn_r _ [637, 40, 303, 24, 41, 42, 43, 535, 536, 2, 537, 638, 639, 640, 39, 641, 642, 554, 555, 556, 557, 558, 559, 560, 561, 306, 304, 400, 321, 331, 332, 333, 334, 15, 16, 562, 340, 341, 50, 342, 65, 322, 323, 324, 325, 22, 326, 327, 328, 308, 329, 330, 563, 564, 565, 566, 567, 568, 569, 570, 178, 163, 164, 544, 545, 546, 643, 644, 645, 646, 102, 101, 647, 648, 649, 650, 651, 652, 653, 103, 654, 655, 656, 657, 658, 659, 552, 484, 553, 660, 661, 662, 663, 664, 665, 666, 667, 105, 104, 668, 669, 670, 671, 765, 766, 767, 768, 769, 770, 771, 772, 773, 774, 775, 776, 777, 778, 779, 780, 781, 782, 878, 879, 880, 881, 882, 883, 884, 885, 886, 846, 847, 848, 849, 850, 851, 852, 853, 854, 855, 888, 889, 890, 891, 892, 893, 894, 895, 896, 897, 887] (by decide +kernel) (by decide +kernel)
set_option maxRecDepth 20000 in
theorem gL_law_X8_plan : GoodIn wsL_law (wsV RL 64 RX8 yX8_plan wsX8_plan) := goodIn_app (goodIn_of _ (by decide +kernel)) ggL_law_X8_plan
set_option maxRecDepth 20000 in
theorem ggL_law_X9_plan : GoodIn wsL_law wsX9_plan := goodIn_r _ [675, 147, 370, 132, 148, 117, 121, 119, 118, 149, 676, 150, 612, 613, 5, 614, 378, 379, 380, 381, 371, 135, 133, 134, 615, 616, 617, 783, 784, 785, 786, 787, 788, 789, 790, 791, 792, 793, 794, 795, 796, 797, 798, 799, 800, 801, 802, 803, 804, 805, 806, 807, 808, 809, 810, 811, 812, 813, 814, 815, 816, 817, 818, 819, 820, 821, 822, 823, 824, 825, 826, 827, 828, 829, 830, 831, 832, 833, 834, 835, 836, 837, 838, 839, 840, 841, 842, 843, 844, 845] (by decide +kernel) (by decide +kernel)
set_option maxRecDepth 20000 in
theorem gL_law_X9_plan : GoodIn wsL_law (wsV RL 67 RX9 yX9_plan wsX9_plan) := goodIn_app (goodIn_of _ (by decide +kernel)) ggL_law_X9_plan
set_option maxRecDepth 20000 in
theorem ggL_law_X8_planned : GoodIn wsL_law wsX8_planned := goodIn_r _ [680, 40, 681, 682, 178, 163, 2, 164, 765, 766, 767, 768, 769, 770, 771, 772, 773, 774, 775, 776, 777, 778, 779, 780, 781, 782, 878, 879, 880, 881, 882, 883, 884, 885, 886] (by decide +kernel) (by decide +kernel)
set_option maxRecDepth 20000 in
theorem gL_law_X8_planned : GoodIn wsL_law (wsV RL 68 RX8 yX8_planned wsX8_planned) := goodIn_app (goodIn_of _ (by decide +kernel)) ggL_law_X8_planned
set_option maxRecDepth 20000 in
theorem ggL_law_X9_planned : GoodIn wsL_law wsX9_planned := goodIn_r _ [686, 676, 150, 783, 784, 785, 786, 787, 788, 789, 790, 791, 792, 793, 794, 795, 796, 797, 798, 799, 800, 801, 802, 803, 804, 805, 806, 807, 808, 809, 810, 811, 812, 813, 814, 815, 816, 817, 818, 819, 820, 821, 822, 823, 824, 825, 826, 827, 828, 829, 830, 831, 832, 833, 834, 835, 836, 837, 838, 839, 840, 841, 842, 843, 844, 845] (by decide +kernel) (by decide +kernel)
set_option maxRecDepth 20000 in
theorem gL_law_X9_planned : GoodIn wsL_law (wsV RL 72 RX9 yX9_planned wsX9_planned) := goodIn_app (goodIn_of _ (by decide +kernel)) ggL_law_X9_planned
set_option maxRecDepth 20000 in
theorem ggL_law_X8_part : GoodIn wsL_law wsX8_part := goodIn_r _ [690, 691, 178, 163, 2, 164, 692, 693, 694, 695, 304, 320, 399, 322, 323, 324, 325, 22, 696, 697, 698, 699, 765, 766, 767, 768, 769, 770, 771, 772, 773, 774, 775, 776, 777, 778, 779, 780, 781, 782, 888, 889, 890, 891, 892, 893, 894, 895, 896, 897] (by decide +kernel) (by decide +kernel)
set_option maxRecDepth 20000 in
theorem gL_law_X8_part : GoodIn wsL_law (wsV RL 73 RX8 yX8_part wsX8_part) := goodIn_app (goodIn_of _ (by decide +kernel)) ggL_law_X8_part
set_option maxRecDepth 20000 in
theorem ggL_law_X9_part : GoodIn wsL_law wsX9_part := goodIn_r _ [703, 704, 151, 152, 705, 372, 373, 5, 374, 706, 707, 708, 709, 371, 131, 135, 783, 784, 785, 786, 787, 788, 789, 790, 791, 792, 793, 794, 795, 796, 797, 798, 799, 800, 801, 802, 803, 804, 805, 806, 807, 808, 809, 810, 811, 812, 813, 814, 815, 816, 817, 818, 819, 820, 821, 822, 823, 824, 825, 826, 827, 828, 829, 830, 831, 832, 833, 834, 835, 836, 837, 838, 839, 840, 841, 842, 843, 844, 845] (by decide +kernel) (by decide +kernel)
set_option maxRecDepth 20000 in
theorem gL_law_X9_part : GoodIn wsL_law (wsV RL 76 RX9 yX9_part wsX9_part) := goodIn_app (goodIn_of _ (by decide +kernel)) ggL_law_X9_part
set_option maxRecDepth 20000 in
theorem ggL_law_X8_look : GoodIn wsL_law wsX8_look := goodIn_r _ [713, 320, 567, 400, 321, 399, 714, 401, 403, 715, 322, 323, 324, 2, 325, 304, 22, 888, 889, 890, 891, 892, 893, 894, 895, 896, 897, 765, 766, 767, 768, 769, 770, 771, 772, 773, 774, 775, 776, 777, 778, 779, 780, 781, 782] (by decide +kernel) (by decide +kernel)
set_option maxRecDepth 20000 in
theorem gL_law_X8_look : GoodIn wsL_law (wsV RL 77 RX8 yX8_look wsX8_look) := goodIn_app (goodIn_of _ (by decide +kernel)) ggL_law_X8_look
set_option maxRecDepth 20000 in
theorem ggL_law_X9_look : GoodIn wsL_law wsX9_look := goodIn_r _ [719, 131, 132, 133, 134, 135, 136, 137, 139, 413, 414, 415, 5, 416, 371, 720, 721, 722, 723, 138, 783, 784, 785, 786, 787, 788, 789, 790, 791, 792, 793, 794, 795, 796, 797, 798, 799, 800, 801, 802, 803, 804, 805, 806, 807, 808, 809, 810, 811, 812, 813, 814, 815, 816, 817, 818, 819, 820, 821, 822, 823, 824, 825, 826, 827, 828, 829, 830, 831, 832, 833, 834, 835, 836, 837, 838, 839, 840, 841, 842, 843, 844, 845] (by decide +kernel) (by decide +kernel)
set_option maxRecDepth 20000 in
theorem gL_law_X9_look : GoodIn wsL_law (wsV RL 80 RX9 yX9_look wsX9_look) := goodIn_app (goodIn_of _ (by decide +kernel)) ggL_law_X9_look
set_option maxRecDepth 20000 in
theorem ggL_law_X8_at : GoodIn wsL_law wsX8_at := goodIn_r _ [727, 178, 163, 2, 164, 558, 559, 560, 561, 306, 304, 400, 321, 331, 332, 333, 334, 15, 16, 562, 340, 341, 50, 342, 65, 322, 323, 324, 325, 22, 326, 327, 328, 308, 329, 330, 846, 847, 848, 849, 850, 851, 852, 853, 854, 855, 765, 766, 767, 768, 769, 770, 771, 772, 773, 774, 775, 776, 777, 778, 779, 780, 781, 782, 888, 889, 890, 891, 892, 893, 894, 895, 896, 897, 887] (by decide +kernel) (by decide +kernel)
set_option maxRecDepth 20000 in
theorem gL_law_X8_at : GoodIn wsL_law (wsV RL 81 RX8 yX8_at wsX8_at) := goodIn_app (goodIn_of _ (by decide +kernel)) ggL_law_X8_at
set_option maxRecDepth 20000 in
theorem ggL_law_X9_at : GoodIn wsL_law wsX9_at := goodIn_r _ [731, 375, 376, 5, 377, 378, 379, 380, 381, 371, 135, 133, 134, 783, 784, 785, 786, 787, 788, 789, 790, 791, 792, 793, 794, 795, 796, 797, 798, 799, 800, 801, 802, 803, 804, 805, 806, 807, 808, 809, 810, 811, 812, 813, 814, 815, 816, 817, 818, 819, 820, 821, 822, 823, 824, 825, 826, 827, 828, 829, 830, 831, 832, 833, 834, 835, 836, 837, 838, 839, 840, 841, 842, 843, 844, 845] (by decide +kernel) (by decide +kernel)
set_option maxRecDepth 20000 in
theorem gL_law_X9_at : GoodIn wsL_law (wsV RL 84 RX9 yX9_at wsX9_at) := goodIn_app (goodIn_of _ (by decide +kernel)) ggL_law_X9_at
set_option maxRecDepth 20000 in
theorem ggL_law_X8_sheet : GoodIn wsL_law wsX8_sheet := goodIn_r _ [735, 736, 737, 738, 739, 740, 437, 303, 178, 163, 2, 164, 331, 332, 333, 334, 15, 16, 562, 340, 341, 50, 342, 65, 846, 847, 848, 849, 850, 851, 852, 853, 854, 855, 765, 766, 767, 768, 769, 770, 771, 772, 773, 774, 775, 776, 777, 778, 779, 780, 781, 782, 887] (by decide +kernel) (by decide +kernel)
set_option maxRecDepth 20000 in
theorem gL_law_X8_sheet : GoodIn wsL_law (wsV RL 85 RX8 yX8_sheet wsX8_sheet) := goodIn_app (goodIn_of _ (by decide +kernel)) ggL_law_X8_sheet
set_option maxRecDepth 20000 in
theorem ggL_law_X9_sheet : GoodIn wsL_law wsX9_sheet := goodIn_r _ [744, 122, 123, 124, 125, 126, 370, 375, 376, 5, 377, 382, 383, 384, 385, 386, 140, 141, 142, 783, 784, 785, 786, 787, 788, 789, 790, 791, 792, 793, 794, 795, 796, 797, 798, 799, 800, 801, 802, 803, 804, 805, 806, 807, 808, 809, 810, 811, 812, 813, 814, 815, 816, 817, 818, 819, 820, 821, 822, 823, 824, 825, 826, 827, 828, 829, 830, 831, 832, 833, 834, 835, 836, 837, 838, 839, 840, 841, 842, 843, 844, 845] (by decide +kernel) (by decide +kernel)
set_option maxRecDepth 20000 in
theorem gL_law_X9_sheet : GoodIn wsL_law (wsV RL 88 RX9 yX9_sheet wsX9_sheet) := goodIn_app (goodIn_of _ (by decide +kernel)) ggL_law_X9_sheet
set_option maxRecDepth 20000 in
theorem ggL_law_X8_club : GoodIn wsL_law wsX8_club := goodIn_r _ [748, 178, 163, 2, 164, 692, 693, 694, 695, 304, 320, 399, 322, 323, 324, 325, 22, 749, 750, 751, 752, 403, 765, 766, 767, 768, 769, 770, 771, 772, 773, 774, 775, 776, 777, 778, 779, 780, 781, 782, 888, 889, 890, 891, 892, 893, 894, 895, 896, 897] (by decide +kernel) (by decide +kernel)
set_option maxRecDepth 20000 in
theorem gL_law_X8_club : GoodIn wsL_law (wsV RL 89 RX8 yX8_club wsX8_club) := goodIn_app (goodIn_of _ (by decide +kernel)) ggL_law_X8_club
set_option maxRecDepth 20000 in
theorem ggL_law_X9_club : GoodIn wsL_law wsX9_club := goodIn_r _ [756, 371, 131, 372, 373, 5, 374, 706, 707, 708, 709, 135, 720, 721, 722, 723, 137, 138, 783, 784, 785, 786, 787, 788, 789, 790, 791, 792, 793, 794, 795, 796, 797, 798, 799, 800, 801, 802, 803, 804, 805, 806, 807, 808, 809, 810, 811, 812, 813, 814, 815, 816, 817, 818, 819, 820, 821, 822, 823, 824, 825, 826, 827, 828, 829, 830, 831, 832, 833, 834, 835, 836, 837, 838, 839, 840, 841, 842, 843, 844, 845] (by decide +kernel) (by decide +kernel)
set_option maxRecDepth 20000 in
theorem gL_law_X9_club : GoodIn wsL_law (wsV RL 92 RX9 yX9_club wsX9_club) := goodIn_app (goodIn_of _ (by decide +kernel)) ggL_law_X9_club
set_option maxRecDepth 20000 in
theorem ggL_law_X8_count : GoodIn wsL_law wsX8_count := goodIn_r _ [760, 303, 41, 543, 542, 594, 304, 42, 43, 44, 28, 158, 24, 765, 766, 767, 768, 769, 770, 771, 772, 773, 774, 775, 776, 777, 778, 779, 780, 781, 782, 862, 863] (by decide +kernel) (by decide +kernel)
set_option maxRecDepth 20000 in
theorem gL_law_X8_count : GoodIn wsL_law (wsV RL 93 RX8 yX8_count wsX8_count) := goodIn_app (goodIn_of _ (by decide +kernel)) ggL_law_X8_count
set_option maxRecDepth 20000 in
theorem ggL_law_X9_count : GoodIn wsL_law wsX9_count := goodIn_r _ [764, 370, 117, 611, 610, 633, 371, 118, 119, 120, 169, 121, 783, 784, 785, 786, 787, 788, 789, 790, 791, 792, 793, 794, 795, 796, 797, 798, 799, 800, 801, 802, 803, 804, 805, 806, 807, 808, 809, 810, 811, 812, 813, 814, 815, 816, 817, 818, 819, 820, 821, 822, 823, 824, 825, 826, 827, 828, 829, 830, 831, 832, 833, 834, 835, 836, 837, 838, 839, 840, 841, 842, 843, 844, 845] (by decide +kernel) (by decide +kernel)
set_option maxRecDepth 20000 in
theorem gL_law_X9_count : GoodIn wsL_law (wsV RL 96 RX9 yX9_count wsX9_count) := goodIn_app (goodIn_of _ (by decide +kernel)) ggL_law_X9_count

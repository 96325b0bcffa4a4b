set_option maxRecDepth 20000 in
theorem gL_law_X8_price : GoodIn wsL_law (wsV RL 32 RX8 yX8_price wsX8_price) := goodIn_app (goodIn_of _ (by decide +kernel)) ggL_law_X8_price
set_option maxRecDepth 20000 in
theorem ggL_law_X9_price : GoodIn wsL_law wsX9_price := goodIn_r _ [290, 121, 783, 784, 785, 786, 787, 788, 789, 790, 791, 792, 793, 794, 795, 796, 797, 798, 799, 800, 801, 802, 803, 804, 805, 806, 807, 808, 809, 810, 811, 812, 813, 814, 815, 816, 817, 818, 819, 820, 821, 822, 823, 824, 825, 826, 827, 828, 829, 830, 831, 832, 833, 834, 835, 836, 837, 838, 839, 840, 841, 842, 843, 844, 845] rfl (by decide +kernel)
set_option maxRecDepth 20000 in
theorem gL_law_X9_price : GoodIn wsL_law (wsV RL 36 RX9 yX9_price wsX9_price) := goodIn_app (goodIn_of _ (by decide +kernel)) ggL_law_X9_price
set_option maxRecDepth 20000 in
theorem ggL_law_X8_rest : GoodIn wsL_law wsX8_rest := goodIn_r _ [294, 44, 765, 766, 767, 768, 769, 770, 771, 772, 773, 774, 775, 776, 777, 778, 779, 780, 781, 782] rfl (by decide +kernel)
set_option maxRecDepth 20000 in
theorem gL_law_X8_rest : GoodIn wsL_law (wsV RL 37 RX8 yX8_rest wsX8_rest) := goodIn_app (goodIn_of _ (by decide +kernel)) ggL_law_X8_rest
set_option maxRecDepth 20000 in
theorem ggL_law_X9_rest : GoodIn wsL_law wsX9_rest := goodIn_r _ [298, 120, 783, 784, 785, 786, 787, 788, 789, 790, 791, 792, 793, 794, 795, 796, 797, 798, 799, 800, 801, 802, 803, 804, 805, 806, 807, 808, 809, 810, 811, 812, 813, 814, 815, 816, 817, 818, 819, 820, 821, 822, 823, 824, 825, 826, 827, 828, 829, 830, 831, 832, 833, 834, 835, 836, 837, 838, 839, 840, 841, 842, 843, 844, 845] rfl (by decide +kernel)
set_option maxRecDepth 20000 in
theorem gL_law_X9_rest : GoodIn wsL_law (wsV RL 40 RX9 yX9_rest wsX9_rest) := goodIn_app (goodIn_of _ (by decide +kernel)) ggL_law_X9_rest
set_option maxRecDepth 20000 in
theorem ggL_law_X8_book : GoodIn wsL_law wsX8_book := goodIn_r _ [302, 303, 304, 18, 305, 44, 306, 22, 21, 307, 308, 178, 163, 2, 164, 309, 310, 311, 20, 312, 70, 71, 72, 313, 314, 315, 316, 317, 318, 319, 320, 321, 322, 323, 324, 325, 326, 327, 328, 329, 330, 331, 332, 333, 334, 15, 16, 335, 336, 337, 14, 338, 51, 52, 339, 340, 341, 50, 342, 65, 343, 344, 345, 346, 347, 348, 349, 350, 351, 352, 353, 354, 10, 11, 355, 356, 357, 358, 359, 360, 361, 362, 363, 364, 365, 765, 766, 767, 768, 769, 770, 771, 772, 773, 774, 775, 776, 777, 778, 779, 780, 781, 782, 856, 857, 858, 859, 860, 861, 846, 847, 848, 849, 850, 851, 852, 853, 854, 855, 888, 889, 890, 891, 892, 893, 894, 895, 896, 897, 887] rfl (by decide +kernel)
set_option maxRecDepth 20000 in
theorem gL_law_X8_book : GoodIn wsL_law (wsV RL 41 RX8 yX8_book wsX8_book) := goodIn_app (goodIn_of _ (by decide +kernel)) ggL_law_X8_book
set_option maxRecDepth 20000 in
theorem ggL_law_X9_book : GoodIn wsL_law wsX9_book := goodIn_r _ [369, 370, 371, 111, 112, 113, 114, 120, 131, 132, 133, 134, 135, 136, 137, 115, 138, 116, 139, 372, 373, 5, 374, 375, 376, 377, 378, 379, 380, 381, 382, 383, 384, 385, 386, 140, 141, 142, 387, 388, 389, 390, 391, 392, 393, 394, 783, 784, 785, 786, 787, 788, 789, 790, 791, 792, 793, 794, 795, 796, 797, 798, 799, 800, 801, 802, 803, 804, 805, 806, 807, 808, 809, 810, 811, 812, 813, 814, 815, 816, 817, 818, 819, 820, 821, 822, 823, 824, 825, 826, 827, 828, 829, 830, 831, 832, 833, 834, 835, 836, 837, 838, 839, 840, 841, 842, 843, 844, 845] rfl (by decide +kernel)
set_option maxRecDepth 20000 in
theorem gL_law_X9_book : GoodIn wsL_law (wsV RL 45 RX9 yX9_book wsX9_book) := goodIn_app (goodIn_of _ (by decide +kernel)) ggL_law_X9_book
set_option maxRecDepth 20000 in
theorem ggL_law_X8_cancel : GoodIn wsL_law wsX8_cancel := goodIn_r _ [398, 399, 400, 306, 321, 401, 402, 403, 322, 323, 324, 2, 325, 304, 22, 331, 332, 333, 334, 15, 16, 404, 405, 406, 50, 407, 65, 408, 888, 889, 890, 891, 892, 893, 894, 895, 896, 897, 846, 847, 848, 849, 850, 851, 852, 853, 854, 855, 765, 766, 767, 768, 769, 770, 771, 772, 773, 774, 775, 776, 777, 778, 779, 780, 781, 782, 887] rfl (by decide +kernel)
set_option maxRecDepth 20000 in
theorem gL_law_X8_cancel : GoodIn wsL_law (wsV RL 46 RX8 yX8_cancel wsX8_cancel) := goodIn_app (goodIn_of _ (by decide +kernel)) ggL_law_X8_cancel
set_option maxRecDepth 20000 in
theorem ggL_law_X9_cancel : GoodIn wsL_law wsX9_cancel := goodIn_r _ [412, 135, 413, 414, 415, 5, 416, 371, 783, 784, 785, 786, 787, 788, 789, 790, 791, 792, 793, 794, 795, 796, 797, 798, 799, 800, 801, 802, 803, 804, 805, 806, 807, 808, 809, 810, 811, 812, 813, 814, 815, 816, 817, 818, 819, 820, 821, 822, 823, 824, 825, 826, 827, 828, 829, 830, 831, 832, 833, 834, 835, 836, 837, 838, 839, 840, 841, 842, 843, 844, 845] rfl (by decide +kernel)
set_option maxRecDepth 20000 in
theorem gL_law_X9_cancel : GoodIn wsL_law (wsV RL 49 RX9 yX9_cancel wsX9_cancel) := goodIn_app (goodIn_of _ (by decide +kernel)) ggL_law_X9_cancel
set_option maxRecDepth 20000 in
theorem ggL_law_X8_cut : GoodIn wsL_law wsX8_cut := goodIn_r _ [420, 178, 163, 2, 164, 421, 422, 423, 331, 332, 333, 334, 15, 16, 424, 425, 426, 14, 427, 59, 60, 765, 766, 767, 768, 769, 770, 771, 772, 773, 774, 775, 776, 777, 778, 779, 780, 781, 782, 846, 847, 848, 849, 850, 851, 852, 853, 854, 855] rfl (by decide +kernel)
set_option maxRecDepth 20000 in
theorem gL_law_X8_cut : GoodIn wsL_law (wsV RL 50 RX8 yX8_cut wsX8_cut) := goodIn_app (goodIn_of _ (by decide +kernel)) ggL_law_X8_cut
set_option maxRecDepth 20000 in
theorem ggL_law_X9_cut : GoodIn wsL_law wsX9_cut := goodIn_r _ [431, 130, 127, 128, 375, 376, 5, 377, 783, 784, 785, 786, 787, 788, 789, 790, 791, 792, 793, 794, 795, 796, 797, 798, 799, 800, 801, 802, 803, 804, 805, 806, 807, 808, 809, 810, 811, 812, 813, 814, 815, 816, 817, 818, 819, 820, 821, 822, 823, 824, 825, 826, 827, 828, 829, 830, 831, 832, 833, 834, 835, 836, 837, 838, 839, 840, 841, 842, 843, 844, 845] rfl (by decide +kernel)
set_option maxRecDepth 20000 in
theorem gL_law_X9_cut : GoodIn wsL_law (wsV RL 54 RX9 yX9_cut wsX9_cut) := goodIn_app (goodIn_of _ (by decide +kernel)) ggL_law_X9_cut
set_option maxRecDepth 20000 in
theorem ggL_law_X8_close : GoodIn wsL_law wsX8_close := goodIn_r _ [435, 303, 436, 306, 437, 36, 44, 178, 163, 2, 164, 331, 332, 333, 334, 15, 16, 438, 439, 440, 441, 304, 400, 321, 442, 443, 444, 35, 445, 446, 322, 323, 324, 325, 22, 326, 327, 328, 308, 329, 330, 447, 448, 449, 450, 92, 404, 405, 406, 50, 407, 65, 408, 347, 348, 349, 350, 451, 452, 453, 454, 455, 456, 457, 95, 458, 459, 460, 461, 462, 463, 464, 465, 466, 467, 468, 469, 470, 471, 472, 473, 474, 475, 476, 477, 96, 97, 478, 336, 337, 14, 338, 51, 52, 339, 340, 341, 342, 343, 344, 345, 346, 479, 480, 481, 482, 483, 484, 485, 486, 487, 488, 93, 489, 490, 491, 492, 493, 94, 494, 495, 496, 497, 498, 499, 500, 501, 502, 503, 504, 505, 506, 507, 508, 360, 361, 357, 765, 766, 767, 768, 769, 770, 771, 772, 773, 774, 775, 776, 777, 778, 779, 780, 781, 782, 846, 847, 848, 849, 850, 851, 852, 853, 854, 855, 888, 889, 890, 891, 892, 893, 894, 895, 896, 897, 868, 869, 870, 871, 872, 873, 874, 875, 876, 877, 887] rfl (by decide +kernel)

set_option maxRecDepth 20000 in
theorem gL_law_X8_close : GoodIn wsL_law (wsV RL 55 RX8 yX8_close wsX8_close) := goodIn_app (goodIn_of _ (by decide +kernel)) ggL_law_X8_close
set_option maxRecDepth 20000 in
theorem ggL_law_X9_close : GoodIn wsL_law wsX9_close := goodIn_r _ [512, 370, 386, 513, 371, 135, 133, 134, 143, 146, 140, 141, 142, 514, 144, 145, 139, 375, 376, 5, 377, 515, 516, 517, 518, 519, 520, 521, 522, 523, 524, 525, 526, 527, 528, 529, 530, 120, 382, 383, 384, 385, 378, 379, 380, 381, 391, 392, 393, 394, 783, 784, 785, 786, 787, 788, 789, 790, 791, 792, 793, 794, 795, 796, 797, 798, 799, 800, 801, 802, 803, 804, 805, 806, 807, 808, 809, 810, 811, 812, 813, 814, 815, 816, 817, 818, 819, 820, 821, 822, 823, 824, 825, 826, 827, 828, 829, 830, 831, 832, 833, 834, 835, 836, 837, 838, 839, 840, 841, 842, 843, 844, 845] rfl (by decide +kernel)
set_option maxRecDepth 20000 in
theorem gL_law_X9_close : GoodIn wsL_law (wsV RL 59 RX9 yX9_close wsX9_close) := goodIn_app (goodIn_of _ (by decide +kernel)) ggL_law_X9_close
set_option maxRecDepth 20000 in
theorem ggL_law_X8_step : GoodIn wsL_law wsX8_step := goodIn_r _ [534, 43, 303, 535, 536, 2, 537, 538, 539, 540, 541, 542, 24, 41, 42, 543, 544, 545, 546, 547, 548, 549, 550, 551, 552, 484, 553, 437, 331, 332, 333, 334, 15, 16, 554, 555, 556, 557, 558, 559, 560, 561, 306, 304, 400, 321, 562, 340, 341, 50, 342, 65, 322, 323, 324, 325, 22, 326, 327, 328, 308, 329, 330, 563, 564, 565, 566, 567, 568, 569, 570, 178, 163, 164, 571, 572, 573, 14, 574, 54, 575, 58, 576, 577, 578, 579, 55, 580, 581, 582, 583, 584, 355, 585, 586, 587, 588, 363, 356, 589, 590, 591, 592, 593, 594, 595, 596, 597, 598, 59, 56, 599, 600, 601, 602, 603, 604, 605, 57, 424, 425, 426, 427, 60, 765, 766, 767, 768, 769, 770, 771, 772, 773, 774, 775, 776, 777, 778, 779, 780, 781, 782, 846, 847, 848, 849, 850, 851, 852, 853, 854, 855, 888, 889, 890, 891, 892, 893, 894, 895, 896, 897, 887] rfl (by decide +kernel)
set_option maxRecDepth 20000 in
theorem gL_law_X8_step : GoodIn wsL_law (wsV RL 60 RX8 yX8_step wsX8_step) := goodIn_app (goodIn_of _ (by decide +kernel)) ggL_law_X8_step
set_option maxRecDepth 20000 in
theorem ggL_law_X9_step : GoodIn wsL_law wsX9_step := goodIn_r _ [609, 119, 370, 117, 610, 121, 118, 611, 132, 130, 378, 379, 380, 5, 381, 371, 135, 133, 134, 612, 613, 614, 615, 616, 617, 618, 619, 620, 621, 122, 126, 622, 623, 624, 625, 136, 123, 626, 627, 628, 382, 383, 384, 385, 386, 140, 141, 142, 629, 630, 631, 632, 127, 124, 128, 125, 633, 783, 784, 785, 786, 787, 788, 789, 790, 791, 792, 793, 794, 795, 796, 797, 798, 799, 800, 801, 802, 803, 804, 805, 806, 807, 808, 809, 810, 811, 812, 813, 814, 815, 816, 817, 818, 819, 820, 821, 822, 823, 824, 825, 826, 827, 828, 829, 830, 831, 832, 833, 834, 835, 836, 837, 838, 839, 840, 841, 842, 843, 844, 845] rfl (by decide +kernel)
set_option maxRecDepth 20000 in
theorem gL_law_X9_step : GoodIn wsL_law (wsV RL 63 RX9 yX9_step wsX9_step) := goodIn_app (goodIn_of _ (by decide +kernel)) ggL_law_X9_step
set_option maxRecDepth 20000 in
theorem ggL_law_X8_plan : GoodIn wsL_law wsX8_plan := goodIn_r _ [637, 40, 303, 24, 41, 42, 43, 535, 536, 2, 537, 638, 639, 640, 39, 641, 642, 554, 555, 556, 557, 558, 559, 560, 561, 306, 304, 400, 321, 331, 332, 333, 334, 15, 16, 562, 340, 341, 50, 342, 65, 322, 323, 324, 325, 22, 326, 327, 328, 308, 329, 330, 563, 564, 565, 566, 567, 568, 569, 570, 178, 163, 164, 544, 545, 546, 643, 644, 645, 646, 102, 101, 647, 648, 649, 650, 651, 652, 653, 103, 654, 655, 656, 657, 658, 659, 552, 484, 553, 660, 661, 662, 663, 664, 665, 666, 667, 105, 104, 668, 669, 670, 671, 765, 766, 767, 768, 769, 770, 771, 772, 773, 774, 775, 776, 777, 778, 779, 780, 781, 782, 878, 879, 880, 881, 882, 883, 884, 885, 886, 846, 847, 848, 849, 850, 851, 852, 853, 854, 855, 888, 889, 890, 891, 892, 893, 894, 895, 896, 897, 887] rfl (by decide +kernel)
set_option maxRecDepth 20000 in
theorem gL_law_X8_plan : GoodIn wsL_law (wsV RL 64 RX8 yX8_plan wsX8_plan) := goodIn_app (goodIn_of _ (by decide +kernel)) ggL_law_X8_plan
set_option maxRecDepth 20000 in
theorem ggL_law_X9_plan : GoodIn wsL_law wsX9_plan := goodIn_r _ [675, 147, 370, 132, 148, 117, 121, 119, 118, 149, 676, 150, 612, 613, 5, 614, 378, 379, 380, 381, 371, 135, 133, 134, 615, 616, 617, 783, 784, 785, 786, 787, 788, 789, 790, 791, 792, 793, 794, 795, 796, 797, 798, 799, 800, 801, 802, 803, 804, 805, 806, 807, 808, 809, 810, 811, 812, 813, 814, 815, 816, 817, 818, 819, 820, 821, 822, 823, 824, 825, 826, 827, 828, 829, 830, 831, 832, 833, 834, 835, 836, 837, 838, 839, 840, 841, 842, 843, 844, 845] rfl (by decide +kernel)
set_option maxRecDepth 20000 in
theorem gL_law_X9_plan : GoodIn wsL_law (wsV RL 67 RX9 yX9_plan wsX9_plan) := goodIn_app (goodIn_of _ (by decide +kernel)) ggL_law_X9_plan
set_option maxRecDepth 20000 in
theorem ggL_law_X8_planned : GoodIn wsL_law wsX8_planned := goodIn_r _ [680, 40, 681, 682, 178, 163, 2, 164, 765, 766, 767, 768, 769, 770, 771, 772, 773, 774, 775, 776, 777, 778, 779, 780, 781, 782, 878, 879, 880, 881, 882, 883, 884, 885, 886] rfl (by decide +kernel)
set_option maxRecDepth 20000 in
theorem gL_law_X8_planned : GoodIn wsL_law (wsV RL 68 RX8 yX8_planned wsX8_planned) := goodIn_app (goodIn_of _ (by decide +kernel)) ggL_law_X8_planned
set_option maxRecDepth 20000 in
theorem ggL_law_X9_planned : GoodIn wsL_law wsX9_planned := goodIn_r _ [686, 676, 150, 783, 784, 785, 786, 787, 788, 789, 790, 791, 792, 793, 794, 795, 796, 797, 798, 799, 800, 801, 802, 803, 804, 805, 806, 807, 808, 809, 810, 811, 812, 813, 814, 815, 816, 817, 818, 819, 820, 821, 822, 823, 824, 825, 826, 827, 828, 829, 830, 831, 832, 833, 834, 835, 836, 837, 838, 839, 840, 841, 842, 843, 844, 845] rfl (by decide +kernel)
set_option maxRecDepth 20000 in
theorem gL_law_X9_planned : GoodIn wsL_law (wsV RL 72 RX9 yX9_planned wsX9_planned) := goodIn_app (goodIn_of _ (by decide +kernel)) ggL_law_X9_planned
set_option maxRecDepth 20000 in
theorem ggL_law_X8_part : GoodIn wsL_law wsX8_part := goodIn_r _ [690, 691, 178, 163, 2, 164, 692, 693, 694, 695, 304, 320, 399, 322, 323, 324, 325, 22, 696, 697, 698, 699, 765, 766, 767, 768, 769, 770, 771, 772, 773, 774, 775, 776, 777, 778, 779, 780, 781, 782, 888, 889, 890, 891, 892, 893, 894, 895, 896, 897] rfl (by decide +kernel)
set_option maxRecDepth 20000 in
theorem gL_law_X8_part : GoodIn wsL_law (wsV RL 73 RX8 yX8_part wsX8_part) := goodIn_app (goodIn_of _ (by decide +kernel)) ggL_law_X8_part
set_option maxRecDepth 20000 in
theorem ggL_law_X9_part : GoodIn wsL_law wsX9_part := goodIn_r _ [703, 704, 151, 152, 705, 372, 373, 5, 374, 706, 707, 708, 709, 371, 131, 135, 783, 784, 785, 786, 787, 788, 789, 790, 791, 792, 793, 794, 795, 796, 797, 798, 799, 800, 801, 802, 803, 804, 805, 806, 807, 808, 809, 810, 811, 812, 813, 814, 815, 816, 817, 818, 819, 820, 821, 822, 823, 824, 825, 826, 827, 828, 829, 830, 831, 832, 833, 834, 835, 836, 837, 838, 839, 840, 841, 842, 843, 844, 845] rfl (by decide +kernel)

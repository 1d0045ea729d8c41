/-! the law's calls' words, to the end -/
set_option maxRecDepth 20000 in
theorem xg_1 : GoodIn wsL_law (.code yX8_digest cX8_digest 3 (some .long) :: wsX8_digest_r1) := goodIn_r _ [916, 44, 40, 917, 642, 643, 644, 2, 645, 172, 16, 36, 359, 360, 361, 362, 171, 363, 364, 365, 35, 366, 367, 79, 368] (by decide +kernel) (by decide +kernel)
set_option maxRecDepth 20000 in
theorem xg_2 : GoodIn wsL_law wsX8_digest_r2 := goodIn_r _ [160, 161, 15, 162, 163, 164, 165, 166, 49, 369, 370, 371, 372, 76, 77, 78, 236, 237, 233, 234, 646, 647, 648, 39] (by decide +kernel) (by decide +kernel)
set_option maxRecDepth 20000 in
theorem xg_3 : GoodIn wsL_law wsX8_digest_r3 := goodIn_r _ [649, 650, 651, 83, 652, 653, 654, 655, 656, 657, 658, 659, 85, 660, 661, 662, 374, 375, 376, 120, 121, 663, 288, 289] (by decide +kernel) (by decide +kernel)
set_option maxRecDepth 20000 in
theorem xg_4 : GoodIn wsL_law wsX8_digest_r4 := goodIn_r _ [290, 159, 664, 292, 293, 31, 294, 295, 296, 297, 298, 299, 300, 301, 302, 303, 304, 305, 306, 307, 308, 309, 310, 311] (by decide +kernel) (by decide +kernel)
set_option maxRecDepth 20000 in
theorem xg_5 : GoodIn wsL_law wsX8_digest_r5 := goodIn_r _ [312, 313, 314, 315, 316, 317, 318, 319, 320, 321, 322, 665, 666, 667, 43, 668, 89, 669, 670, 725, 726, 727, 728, 729] (by decide +kernel) (by decide +kernel)
set_option maxRecDepth 20000 in
theorem xg_6 : GoodIn wsL_law wsX8_digest_r6 := goodIn_r _ [730, 731, 732, 148, 149, 373, 733, 734, 735, 736, 91, 90, 737, 738, 739, 740, 741, 742, 683, 684, 685, 686, 687, 688] (by decide +kernel) (by decide +kernel)
set_option maxRecDepth 20000 in
theorem xg_7 : GoodIn wsL_law wsX8_digest_r7 := goodIn_r _ [689, 858, 859, 860, 861, 862, 863, 864, 865, 92, 866, 867, 868, 869, 918, 919, 920, 921, 228, 743, 744, 745, 746, 747] (by decide +kernel) (by decide +kernel)
set_option maxRecDepth 20000 in
theorem xg_8 : GoodIn wsL_law wsX8_digest_r8 := goodIn_r _ [284, 286, 150, 20, 603, 554, 555, 556, 557, 558, 559, 560, 561, 562, 563, 564, 748, 749, 750, 751, 752, 753, 754, 755] (by decide +kernel) (by decide +kernel)
set_option maxRecDepth 20000 in
theorem xg_9 : GoodIn wsL_law wsX8_digest_r9 := goodIn_r _ [756, 757, 758, 759, 922, 923, 924, 925, 232, 926, 927, 928, 929, 619, 620, 621, 622, 173, 256, 287, 930, 931, 932, 933] (by decide +kernel) (by decide +kernel)
set_option maxRecDepth 20000 in
theorem xg_10 : GoodIn wsL_law wsX8_digest_r10 := goodIn_r _ [671, 672, 673, 674, 675, 676, 677, 678, 679, 680, 681, 682, 690, 691, 692, 693, 870, 871, 872, 873, 934, 935, 936, 937] (by decide +kernel) (by decide +kernel)
set_option maxRecDepth 20000 in
theorem xg_11 : GoodIn wsL_law wsX8_digest_r11 := goodIn_r _ [825, 826, 827, 828, 32, 282, 283, 829, 830, 285, 291, 938, 939, 940, 941, 24, 28, 400, 798, 799, 800, 801, 802, 803] (by decide +kernel) (by decide +kernel)
set_option maxRecDepth 20000 in
theorem xg_12 : GoodIn wsL_law wsX8_digest_r12 := goodIn_r _ [804, 805, 806, 807, 808, 809, 885, 886, 887, 888, 901, 902, 903, 904, 942, 943, 944, 945, 946, 947, 583, 584, 585, 23] (by decide +kernel) (by decide +kernel)
set_option maxRecDepth 20000 in
theorem xg_13 : GoodIn wsL_law wsX8_digest_r13 := goodIn_r _ [586, 64, 547, 548, 948, 949, 950, 27, 951, 68] (by decide +kernel) (by decide +kernel)
set_option maxRecDepth 20000 in
theorem xf_X8 : GoodIn wsL_law wsX80 := goodIn_r _ [978, 979, 980, 981, 982, 983, 984, 985, 986, 987] (by decide +kernel) (by decide +kernel)
set_option maxRecDepth 20000 in
theorem xf_X2 : GoodIn wsL_law wsX20 := goodIn_r _ [1042, 1043, 1044, 1045, 1046] (by decide +kernel) (by decide +kernel)
set_option maxRecDepth 20000 in
theorem xf_X7 : GoodIn wsL_law wsX70 := goodIn_r _ [1014, 1015, 1016, 1017, 1018, 1019, 1020] (by decide +kernel) (by decide +kernel)
set_option maxRecDepth 20000 in
theorem xf_X4 : GoodIn wsL_law wsX40 := goodIn_r _ [1047, 1048, 1049] (by decide +kernel) (by decide +kernel)
set_option maxRecDepth 20000 in
theorem xf_X0 : GoodIn wsL_law wsX00 := goodIn_r _ [1035, 1036, 1037, 1038, 1039, 1040, 1041] (by decide +kernel) (by decide +kernel)
set_option maxRecDepth 20000 in
theorem xf_X5 : GoodIn wsL_law wsX50 := goodIn_r _ [1050, 1051, 1052, 1053, 1054] (by decide +kernel) (by decide +kernel)
set_option maxRecDepth 20000 in
theorem xf_X1 : GoodIn wsL_law wsX10 := goodIn_r _ [1021, 1022] (by decide +kernel) (by decide +kernel)
set_option maxRecDepth 20000 in
theorem xf_X3 : GoodIn wsL_law wsX30 := goodIn_r _ [1025, 1026, 1027, 1028, 1029, 1030, 1031, 1032, 1033, 1034] (by decide +kernel) (by decide +kernel)
set_option maxRecDepth 20000 in
theorem xf_X6 : GoodIn wsL_law wsX60 := goodIn_r _ [1023, 1024] (by decide +kernel) (by decide +kernel)
theorem ggL_law_X8_digest : GoodIn wsL_law wsX8_digest := (goodIn_ca (goodIn_ca (goodIn_ca (goodIn_ca (goodIn_ca (goodIn_ca (goodIn_ca (goodIn_ca (goodIn_ca (goodIn_ca xg_1 (goodIn_app xg_2 (goodIn_app xg_3 (goodIn_app xg_4 (goodIn_app xg_5 (goodIn_app xg_6 (goodIn_app xg_7 (goodIn_app xg_8 (goodIn_app xg_9 (goodIn_app xg_10 (goodIn_app xg_11 (goodIn_app xg_12 xg_13)))))))))))) xf_X8) xf_X2) xf_X7) xf_X4) xf_X0) xf_X5) xf_X1) xf_X3) xf_X6)
set_option maxRecDepth 20000 in
theorem gL_law_X8_digest : GoodIn wsL_law (wsV RL 163 RX8 yX8_digest wsX8_digest) := goodIn_app (goodIn_of _ (by decide +kernel)) ggL_law_X8_digest
set_option maxRecDepth 20000 in
theorem ggL_law_X9_digest : GoodIn wsL_law wsX9_digest := goodIn_r _ [955, 188, 956, 957, 97, 100, 427, 101, 702, 703, 704, 5, 705, 385, 105, 102, 331, 332, 381, 382, 383, 384, 103, 104, 205, 206, 207, 208, 209, 210, 211, 212, 178, 179, 180, 181, 182, 183, 334, 335, 336, 337, 338, 339, 333, 340, 341, 342, 343, 344, 345, 346, 347, 348, 349, 350, 351, 386, 387, 388, 389, 764, 765, 766, 767, 193, 572, 573, 574, 575, 768, 769, 770, 771, 772, 773, 774, 775, 106, 776, 777, 778, 779, 714, 715, 716, 717, 958, 959, 960, 961, 962, 627, 628, 629, 630, 963, 964, 965, 966, 706, 707, 708, 709, 710, 711, 712, 713, 967, 968, 969, 970, 835, 836, 837, 838, 814, 815, 816, 817, 893, 894, 895, 896, 107, 909, 910, 911, 912, 971, 972, 973, 974, 975, 976, 977, 988, 989, 990, 991, 992, 993, 994, 995, 996, 997, 998, 999, 1000, 1001, 1002, 1003, 1004, 1005, 1006, 1007, 1008, 1009, 1010, 1011, 1012, 1013] (by decide +kernel) (by decide +kernel)
set_option maxRecDepth 20000 in
theorem gL_law_X9_digest : GoodIn wsL_law (wsV RL 167 RX9 yX9_digest wsX9_digest) := goodIn_app (goodIn_of _ (by decide +kernel)) ggL_law_X9_digest

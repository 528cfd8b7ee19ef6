set_option maxRecDepth 20000 in
theorem dg_wsX6_digest_r1 : GoodIn wsL_law wsX6_digest_r1 := goodIn_r _ [939, 34, 16, 140, 618, 619, 887, 18, 940, 758, 759, 2, 760, 442, 761, 762, 763, 495, 764, 745, 765, 22, 685, 147] (by decide +kernel) (by decide +kernel)
set_option maxRecDepth 20000 in
theorem dg_wsX6_digest_r2 : GoodIn wsL_law wsX6_digest_r2 := goodIn_r _ [148, 149, 150, 151, 766, 767, 768, 29, 769, 59, 770, 771, 772, 773, 63, 401, 402, 403, 404, 66, 774, 775, 776, 777] (by decide +kernel) (by decide +kernel)
set_option maxRecDepth 20000 in
theorem dg_wsX6_digest_r3 : GoodIn wsL_law wsX6_digest_r3 := goodIn_r _ [778, 779, 780, 781, 941, 942, 943, 944, 862, 863, 864, 33, 865, 118, 119, 120, 866, 186, 187, 188, 189, 182, 183, 184] (by decide +kernel) (by decide +kernel)
set_option maxRecDepth 20000 in
theorem dg_wsX6_digest_r4 : GoodIn wsL_law wsX6_digest_r4 := goodIn_r _ [60, 61, 64, 65, 867, 68, 69, 70, 868, 869, 870, 871, 872, 873, 501, 502, 503, 79, 80, 81, 82, 71, 72, 73] (by decide +kernel) (by decide +kernel)
set_option maxRecDepth 20000 in
theorem dg_wsX6_digest_r5 : GoodIn wsL_law wsX6_digest_r5 := goodIn_r _ [74, 75, 76, 77, 78, 83, 84, 85, 86, 87, 88, 89, 90, 91, 92, 93, 874, 505, 506, 507, 508, 509, 510, 511] (by decide +kernel) (by decide +kernel)
set_option maxRecDepth 20000 in
theorem dg_wsX6_digest_r6 : GoodIn wsL_law wsX6_digest_r6 := goodIn_r _ [512, 513, 514, 515, 945, 946, 947, 948, 861, 949, 698, 699, 700, 141, 324, 344, 285, 440, 441, 142, 143, 144, 145, 146] (by decide +kernel) (by decide +kernel)
set_option maxRecDepth 20000 in
theorem dg_wsX6_digest_r7 : GoodIn wsL_law wsX6_digest_r7 := goodIn_r _ [701, 702, 703, 704, 705, 706, 443, 444, 445, 15, 446, 39, 447, 45, 47, 46, 707, 368, 369, 370, 363, 364, 365, 366] (by decide +kernel) (by decide +kernel)
set_option maxRecDepth 20000 in
theorem dg_wsX6_digest_r8 : GoodIn wsL_law wsX6_digest_r8 := goodIn_r _ [367, 950, 810, 811, 812, 360, 361, 362, 158, 159, 160, 161, 162, 163, 164, 165, 166, 167, 168, 900, 836, 837, 838, 30] (by decide +kernel) (by decide +kernel)
set_option maxRecDepth 20000 in
theorem dg_wsX6_digest_r9 : GoodIn wsL_law wsX6_digest_r9 := goodIn_r _ [839, 840, 841, 842, 843, 844, 845, 727, 728, 729, 951, 952, 953, 954, 955, 720, 721, 722, 723, 724, 428, 725, 726, 956] (by decide +kernel) (by decide +kernel)
set_option maxRecDepth 20000 in
theorem dg_wsX6_digest_r10 : GoodIn wsL_law wsX6_digest_r10 := goodIn_r _ [957, 958, 959, 746, 747, 748, 42, 749, 100, 97, 98, 99, 960, 897, 898, 899, 961, 910, 911, 912, 913, 962, 963, 964] (by decide +kernel) (by decide +kernel)
set_option maxRecDepth 20000 in
theorem dg_wsX6_digest_r11 : GoodIn wsL_law wsX6_digest_r11 := goodIn_r _ [965, 966, 967, 924, 925, 926, 968, 969, 970, 971, 972, 973, 974, 975, 26, 547, 640, 629, 630, 25, 631, 112, 111] (by decide +kernel) (by decide +kernel)
set_option maxRecDepth 20000 in
theorem dg_wsX7_digest_r1 : GoodIn wsL_law wsX7_digest_r1 := goodIn_r _ [256, 980, 981, 126, 666, 556, 127, 786, 787, 788, 5, 789, 261, 790, 791, 792, 793, 221, 222, 223, 224, 794, 795, 796] (by decide +kernel) (by decide +kernel)
set_option maxRecDepth 20000 in
theorem dg_wsX7_digest_r2 : GoodIn wsL_law wsX7_digest_r2 := goodIn_r _ [797, 241, 242, 243, 244, 417, 418, 419, 420, 128, 229, 230, 231, 232, 233, 234, 235, 236, 237, 238, 239, 240, 245, 246] (by decide +kernel) (by decide +kernel)
set_option maxRecDepth 20000 in
theorem dg_wsX7_digest_r3 : GoodIn wsL_law wsX7_digest_r3 := goodIn_r _ [247, 248, 249, 250, 251, 798, 799, 800, 801, 802, 803, 804, 805, 982, 983, 984, 985, 986, 987, 988, 989, 990, 712, 713] (by decide +kernel) (by decide +kernel)
set_option maxRecDepth 20000 in
theorem dg_wsX7_digest_r4 : GoodIn wsL_law wsX7_digest_r4 := goodIn_r _ [714, 715, 225, 226, 227, 228, 452, 453, 454, 455, 390, 391, 392, 393, 382, 383, 384, 385, 386, 387, 388, 389, 817, 818] (by decide +kernel) (by decide +kernel)

/-! the law's words among the tables' -/
set_option maxRecDepth 20000 in
theorem tl_wsL_law_r1 : GoodIn lw_tbl wsL_law_r1 := goodIn_r _ [60, 61, 43, 717, 718, 56, 62, 63, 64, 65, 66, 67, 68, 69, 44, 257, 95, 96, 45, 258, 106, 107, 46, 259] (by decide +kernel) (by decide +kernel)
set_option maxRecDepth 20000 in
theorem tl_wsL_law_r2 : GoodIn lw_tbl wsL_law_r2 := goodIn_r _ [130, 131, 47, 260, 143, 145, 48, 165, 166, 49, 173, 174, 50, 181, 182, 51, 189, 190, 52, 197, 198, 53, 261, 94] (by decide +kernel) (by decide +kernel)
set_option maxRecDepth 20000 in
theorem tl_wsL_law_r3 : GoodIn lw_tbl wsL_law_r3 := goodIn_r _ [262, 263, 264, 265, 205, 206, 54, 266, 267, 71, 72, 73, 74, 98, 99, 100, 101, 109, 110, 111, 112, 113, 129, 114] (by decide +kernel) (by decide +kernel)
set_option maxRecDepth 20000 in
theorem tl_wsL_law_r4 : GoodIn lw_tbl wsL_law_r4 := goodIn_r _ [133, 134, 135, 136, 137, 147, 148, 149, 168, 169, 176, 177, 184, 185, 192, 193, 200, 201, 208, 209, 210, 211, 214, 216] (by decide +kernel) (by decide +kernel)
set_option maxRecDepth 20000 in
theorem tl_wsL_law_r5 : GoodIn lw_tbl wsL_law_r5 := goodIn_r _ [223, 238, 239, 240, 241, 242, 243, 55, 244, 245, 246, 247, 248, 219, 249, 250, 251, 252, 253, 254, 255, 256, 719, 720] (by decide +kernel) (by decide +kernel)
set_option maxRecDepth 20000 in
theorem tl_wsL_law_r6 : GoodIn lw_tbl wsL_law_r6 := goodIn_r _ [721, 722, 731, 737, 738, 739, 740, 742, 743, 745, 746, 748, 723, 725, 17, 726, 727, 729, 18, 730, 744, 741, 297, 298] (by decide +kernel) (by decide +kernel)
set_option maxRecDepth 20000 in
theorem tl_wsL_law_r7 : GoodIn lw_tbl wsL_law_r7 := goodIn_r _ [299, 300, 76, 301, 302, 303, 304, 75, 786, 787, 788, 789, 790, 732, 791, 792, 793, 305, 306, 307, 308, 309, 310, 311] (by decide +kernel) (by decide +kernel)
set_option maxRecDepth 20000 in
theorem tl_wsL_law_r8 : GoodIn lw_tbl wsL_law_r8 := goodIn_r _ [312, 794, 795, 796, 797, 313, 314, 315, 316, 268, 317, 318, 319, 320, 77, 78, 79, 321, 322, 323, 324, 325, 326, 328] (by decide +kernel) (by decide +kernel)
set_option maxRecDepth 20000 in
theorem tl_wsL_law_r9 : GoodIn lw_tbl wsL_law_r9 := goodIn_r _ [0, 329, 330, 331, 332, 333, 335, 1, 336, 80, 337, 338, 339, 340, 342, 2, 343, 220, 344, 346, 3, 347, 225, 348] (by decide +kernel) (by decide +kernel)
set_option maxRecDepth 20000 in
theorem tl_wsL_law_r10 : GoodIn lw_tbl wsL_law_r10 := goodIn_r _ [350, 4, 351, 352, 354, 5, 355, 356, 358, 6, 359, 360, 361, 362, 363, 364, 366, 7, 367, 368, 369, 370, 371, 372] (by decide +kernel) (by decide +kernel)
set_option maxRecDepth 20000 in
theorem tl_wsL_law_r11 : GoodIn lw_tbl wsL_law_r11 := goodIn_r _ [373, 374, 375, 115, 798, 799, 800, 801, 733, 735, 734, 802, 804, 19, 805, 736, 806, 807, 808, 809, 810, 811, 813, 20] (by decide +kernel) (by decide +kernel)
set_option maxRecDepth 20000 in
theorem tl_wsL_law_r12 : GoodIn lw_tbl wsL_law_r12 := goodIn_r _ [814, 815, 817, 21, 818, 819, 821, 22, 822, 823, 825, 23, 826, 376, 377, 378, 379, 213, 215, 380, 381, 382, 383, 384] (by decide +kernel) (by decide +kernel)
set_option maxRecDepth 20000 in
theorem tl_wsL_law_r13 : GoodIn lw_tbl wsL_law_r13 := goodIn_r _ [385, 387, 8, 388, 226, 389, 390, 391, 392, 393, 394, 395, 396, 397, 827, 828, 829, 830, 835, 831, 833, 24, 834, 836] (by decide +kernel) (by decide +kernel)
set_option maxRecDepth 20000 in
theorem tl_wsL_law_r14 : GoodIn lw_tbl wsL_law_r14 := goodIn_r _ [838, 25, 839, 840, 842, 26, 843, 398, 399, 400, 401, 217, 402, 403, 404, 844, 845, 846, 847, 848, 849, 850, 851, 405] (by decide +kernel) (by decide +kernel)
set_option maxRecDepth 20000 in
theorem tl_wsL_law_r15 : GoodIn lw_tbl wsL_law_r15 := goodIn_r _ [406, 407, 408, 409, 410, 411, 412, 413, 414, 415, 416, 417, 418, 419, 420, 421, 852, 853, 854, 855, 860, 856, 858, 27] (by decide +kernel) (by decide +kernel)
set_option maxRecDepth 20000 in
theorem tl_wsL_law_r16 : GoodIn lw_tbl wsL_law_r16 := goodIn_r _ [859, 861, 863, 28, 864, 865, 867, 29, 868, 869, 871, 30, 872, 422, 423, 424, 425, 426, 873, 874, 875, 876, 427, 428] (by decide +kernel) (by decide +kernel)
set_option maxRecDepth 20000 in
theorem tl_wsL_law_r17 : GoodIn lw_tbl wsL_law_r17 := goodIn_r _ [429, 430, 116, 431, 432, 433, 434, 435, 436, 437, 438, 439, 440, 441, 442, 443, 444, 445, 446, 447, 448, 449, 450, 451] (by decide +kernel) (by decide +kernel)
set_option maxRecDepth 20000 in
theorem tl_wsL_law_r18 : GoodIn lw_tbl wsL_law_r18 := goodIn_r _ [452, 453, 57, 454, 455, 456, 457, 458, 459, 460, 461, 877, 878, 879, 880, 881, 883, 31, 884, 885, 887, 32, 888, 889] (by decide +kernel) (by decide +kernel)
set_option maxRecDepth 20000 in
theorem tl_wsL_law_r19 : GoodIn lw_tbl wsL_law_r19 := goodIn_r _ [890, 891, 892, 894, 33, 895, 462, 463, 464, 465, 466, 467, 468, 469, 102, 117, 470, 472, 471, 58, 473, 474, 59, 475] (by decide +kernel) (by decide +kernel)
set_option maxRecDepth 20000 in
theorem tl_wsL_law_r20 : GoodIn lw_tbl wsL_law_r20 := goodIn_r _ [476, 896, 897, 898, 899, 900, 902, 34, 903, 477, 478, 479, 480, 481, 482, 483, 484, 485, 486, 487, 222, 488, 489, 490] (by decide +kernel) (by decide +kernel)
set_option maxRecDepth 20000 in
theorem tl_wsL_law_r21 : GoodIn lw_tbl wsL_law_r21 := goodIn_r _ [491, 492, 493, 494, 495, 496, 497, 498, 499, 500, 501, 503, 9, 504, 505, 507, 10, 508, 509, 904, 905, 906, 907, 908] (by decide +kernel) (by decide +kernel)
set_option maxRecDepth 20000 in
theorem tl_wsL_law_r22 : GoodIn lw_tbl wsL_law_r22 := goodIn_r _ [909, 911, 35, 912, 913, 915, 36, 916, 917, 918, 919, 920, 921, 510, 511, 512, 513, 514, 515, 516, 517, 518, 922, 923] (by decide +kernel) (by decide +kernel)
set_option maxRecDepth 20000 in
theorem tl_wsL_law_r23 : GoodIn lw_tbl wsL_law_r23 := goodIn_r _ [924, 925, 519, 520, 521, 522, 523, 525, 11, 526, 527, 528, 529, 530, 926, 927, 928, 929, 531, 532, 533, 534, 535, 536] (by decide +kernel) (by decide +kernel)
set_option maxRecDepth 20000 in
theorem tl_wsL_law_r24 : GoodIn lw_tbl wsL_law_r24 := goodIn_r _ [537, 538, 930, 931, 932, 933, 539, 540, 541, 542, 543, 544, 545, 546, 934, 935, 936, 937, 547, 548, 549, 550, 221, 551] (by decide +kernel) (by decide +kernel)
set_option maxRecDepth 20000 in
theorem tl_wsL_law_r25 : GoodIn lw_tbl wsL_law_r25 := goodIn_r _ [552, 553, 554, 555, 556, 938, 939, 940, 941, 557, 558, 559, 560, 561, 562, 563, 564, 565, 566, 567, 568, 942, 943, 944] (by decide +kernel) (by decide +kernel)
set_option maxRecDepth 20000 in
theorem tl_wsL_law_r26 : GoodIn lw_tbl wsL_law_r26 := goodIn_r _ [945, 569, 570, 571, 572, 946, 947, 948, 949, 573, 574, 575, 576, 577, 578, 579, 580, 218, 212, 581, 582, 583, 585, 12] (by decide +kernel) (by decide +kernel)
set_option maxRecDepth 20000 in
theorem tl_wsL_law_r27 : GoodIn lw_tbl wsL_law_r27 := goodIn_r _ [586, 224, 591, 592, 593, 587, 589, 13, 590, 594, 595, 596, 597, 598, 599, 600, 601, 602, 604, 14, 605, 950, 951, 952] (by decide +kernel) (by decide +kernel)
set_option maxRecDepth 20000 in
theorem tl_wsL_law_r28 : GoodIn lw_tbl wsL_law_r28 := goodIn_r _ [953, 954, 956, 37, 957, 958, 960, 38, 961, 606, 607, 608, 609, 610, 962, 963, 964, 965, 611, 612, 613, 614, 966, 967] (by decide +kernel) (by decide +kernel)
set_option maxRecDepth 20000 in
theorem tl_wsL_law_r29 : GoodIn lw_tbl wsL_law_r29 := goodIn_r _ [968, 969, 615, 616, 617, 618, 619, 621, 15, 622, 623, 624, 970, 971, 972, 973, 974, 975, 977, 39, 978, 979, 981, 40] (by decide +kernel) (by decide +kernel)
set_option maxRecDepth 20000 in
theorem tl_wsL_law_r30 : GoodIn lw_tbl wsL_law_r30 := goodIn_r _ [982, 625, 626, 627, 628, 983, 984, 985, 986, 629, 630, 631, 632, 987, 988, 989, 990, 633, 634, 635, 636, 637, 639, 16] (by decide +kernel) (by decide +kernel)
set_option maxRecDepth 20000 in
theorem tl_wsL_law_r31 : GoodIn lw_tbl wsL_law_r31 := goodIn_r _ [640, 991, 992, 993, 994, 995, 997, 41, 998, 641, 642, 643, 644, 645, 646, 647, 648, 649, 650, 651, 999, 1000, 1001, 1002] (by decide +kernel) (by decide +kernel)
set_option maxRecDepth 20000 in
theorem tl_wsL_law_r32 : GoodIn lw_tbl wsL_law_r32 := goodIn_r _ [1003, 1004, 1005, 652, 653, 654, 655, 656, 161, 269, 657, 660, 658, 661, 662, 663, 151, 152, 664, 665, 204, 658, 690, 150] (by decide +kernel) (by decide +kernel)
set_option maxRecDepth 20000 in
theorem tl_wsL_law_r33 : GoodIn lw_tbl wsL_law_r33 := goodIn_r _ [691, 692, 666, 667, 668, 669, 153, 154, 670, 671, 180, 672, 673, 674, 675, 676, 155, 156, 677, 678, 172, 679, 680, 681] (by decide +kernel) (by decide +kernel)
set_option maxRecDepth 20000 in
theorem tl_wsL_law_r34 : GoodIn lw_tbl wsL_law_r34 := goodIn_r _ [682, 157, 158, 683, 684, 1032, 188, 685, 686, 687, 159, 160, 688, 689, 1033, 196, 657, 659, 1006, 1007, 1008, 1009, 1010, 747] (by decide +kernel) (by decide +kernel)
set_option maxRecDepth 20000 in
theorem tl_wsL_law_r35 : GoodIn lw_tbl wsL_law_r35 := goodIn_r _ [1011, 1012, 1013, 1014, 1015, 693, 694, 695, 696, 697, 698, 699, 700, 1020, 1021, 1022, 1023, 701, 702, 703, 704, 705, 706, 707] (by decide +kernel) (by decide +kernel)
set_option maxRecDepth 20000 in
theorem tl_wsL_law_r36 : GoodIn lw_tbl wsL_law_r36 := goodIn_r _ [708, 1024, 1025, 1026, 1027, 709, 710, 711, 712, 1028, 1029, 1030, 1031, 713, 714, 715, 716, 1016, 1017, 1018, 1019] (by decide +kernel) (by decide +kernel)
set_option maxRecDepth 20000 in
theorem tl_wsX110 : GoodIn lw_tbl wsX110 := goodIn_r _ [270, 272, 274, 276, 278, 280, 282, 284, 286, 288, 290, 292, 294] (by decide +kernel) (by decide +kernel)
set_option maxRecDepth 20000 in
theorem tl_wsX120 : GoodIn lw_tbl wsX120 := goodIn_r _ [749, 751, 753, 755, 757, 759, 761, 763, 765, 767, 769, 771, 773, 775, 777, 779, 781, 783] (by decide +kernel) (by decide +kernel)
set_option maxRecDepth 20000 in
theorem tl_wsX70 : GoodIn lw_tbl wsX70 := goodIn_r _ [81, 83, 85, 87, 89, 91] (by decide +kernel) (by decide +kernel)
set_option maxRecDepth 20000 in
theorem tl_wsX80 : GoodIn lw_tbl wsX80 := goodIn_r _ [103] (by decide +kernel) (by decide +kernel)
set_option maxRecDepth 20000 in
theorem tl_wsX90 : GoodIn lw_tbl wsX90 := goodIn_r _ [118, 120, 122, 124, 126] (by decide +kernel) (by decide +kernel)
set_option maxRecDepth 20000 in
theorem tl_wsX00 : GoodIn lw_tbl wsX00 := goodIn_r _ [138, 140] (by decide +kernel) (by decide +kernel)
set_option maxRecDepth 20000 in
theorem tl_wsX60 : GoodIn lw_tbl wsX60 := goodIn_r _ [162] (by decide +kernel) (by decide +kernel)
set_option maxRecDepth 20000 in
theorem tl_wsX30 : GoodIn lw_tbl wsX30 := goodIn_r _ [171] (by decide +kernel) (by decide +kernel)
set_option maxRecDepth 20000 in
theorem tl_wsX20 : GoodIn lw_tbl wsX20 := goodIn_r _ [179] (by decide +kernel) (by decide +kernel)
set_option maxRecDepth 20000 in
theorem tl_wsX40 : GoodIn lw_tbl wsX40 := goodIn_r _ [187] (by decide +kernel) (by decide +kernel)
set_option maxRecDepth 20000 in
theorem tl_wsX50 : GoodIn lw_tbl wsX50 := goodIn_r _ [195] (by decide +kernel) (by decide +kernel)
set_option maxRecDepth 20000 in
theorem tl_wsX10 : GoodIn lw_tbl wsX10 := goodIn_r _ [203] (by decide +kernel) (by decide +kernel)
set_option maxRecDepth 20000 in
theorem tl_wsX100 : GoodIn lw_tbl wsX100 := goodIn_r _ [227, 229, 231, 233, 235] (by decide +kernel) (by decide +kernel)
theorem tl_nil : GoodIn lw_tbl ([] : List Cond) := fun _ h => absurd h List.not_mem_nil
theorem wsL_law_in : ∀ w ∈ wsL_law, w ∈ lw_tbl := fun w h => (show GoodIn lw_tbl wsL_law from goodIn_app (goodIn_app (goodIn_app (goodIn_app (goodIn_app (goodIn_app (goodIn_app (goodIn_app (goodIn_app (goodIn_app (goodIn_app (goodIn_app (goodIn_app (goodIn_app (goodIn_app tl_wsL_law_r1 (goodIn_app tl_wsL_law_r2 (goodIn_app tl_wsL_law_r3 (goodIn_app tl_wsL_law_r4 (goodIn_app tl_wsL_law_r5 (goodIn_app tl_wsL_law_r6 (goodIn_app tl_wsL_law_r7 (goodIn_app tl_wsL_law_r8 (goodIn_app tl_wsL_law_r9 (goodIn_app tl_wsL_law_r10 (goodIn_app tl_wsL_law_r11 (goodIn_app tl_wsL_law_r12 (goodIn_app tl_wsL_law_r13 (goodIn_app tl_wsL_law_r14 (goodIn_app tl_wsL_law_r15 (goodIn_app tl_wsL_law_r16 (goodIn_app tl_wsL_law_r17 (goodIn_app tl_wsL_law_r18 (goodIn_app tl_wsL_law_r19 (goodIn_app tl_wsL_law_r20 (goodIn_app tl_wsL_law_r21 (goodIn_app tl_wsL_law_r22 (goodIn_app tl_wsL_law_r23 (goodIn_app tl_wsL_law_r24 (goodIn_app tl_wsL_law_r25 (goodIn_app tl_wsL_law_r26 (goodIn_app tl_wsL_law_r27 (goodIn_app tl_wsL_law_r28 (goodIn_app tl_wsL_law_r29 (goodIn_app tl_wsL_law_r30 (goodIn_app tl_wsL_law_r31 (goodIn_app tl_wsL_law_r32 (goodIn_app tl_wsL_law_r33 (goodIn_app tl_wsL_law_r34 (goodIn_app tl_wsL_law_r35 (tl_wsL_law_r36)))))))))))))))))))))))))))))))))))) tl_wsX110) tl_wsX120) tl_wsX70) tl_wsX80) tl_wsX90) tl_wsX00) tl_wsX60) tl_wsX30) tl_wsX20) tl_wsX40) tl_wsX50) tl_wsX10) tl_wsX100) tl_nil) w h |>.1
theorem nwX11_in : ∀ w ∈ nwX11, w ∈ lw_tbl := by
  intro x hx
  simp only [nwX11, List.mem_cons, List.not_mem_nil, or_false] at hx
  rcases hx with rfl | rfl | rfl | rfl | rfl | rfl | rfl | rfl | rfl | rfl | rfl | rfl | rfl | rfl | rfl | rfl | rfl | rfl | rfl | rfl | rfl | rfl
  · exact List.mem_of_getElem? (i := 144) (by decide +kernel)
  · exact List.mem_of_getElem? (i := 1038) (by decide +kernel)
  · exact List.mem_of_getElem? (i := 1035) (by decide +kernel)
  · exact List.mem_of_getElem? (i := 1034) (by decide +kernel)
  · exact List.mem_of_getElem? (i := 1036) (by decide +kernel)
  · exact List.mem_of_getElem? (i := 1037) (by decide +kernel)
  · exact List.mem_of_getElem? (i := 70) (by decide +kernel)
  · exact List.mem_of_getElem? (i := 97) (by decide +kernel)
  · exact List.mem_of_getElem? (i := 108) (by decide +kernel)
  · exact List.mem_of_getElem? (i := 132) (by decide +kernel)
  · exact List.mem_of_getElem? (i := 146) (by decide +kernel)
  · exact List.mem_of_getElem? (i := 167) (by decide +kernel)
  · exact List.mem_of_getElem? (i := 170) (by decide +kernel)
  · exact List.mem_of_getElem? (i := 175) (by decide +kernel)
  · exact List.mem_of_getElem? (i := 178) (by decide +kernel)
  · exact List.mem_of_getElem? (i := 183) (by decide +kernel)
  · exact List.mem_of_getElem? (i := 186) (by decide +kernel)
  · exact List.mem_of_getElem? (i := 191) (by decide +kernel)
  · exact List.mem_of_getElem? (i := 194) (by decide +kernel)
  · exact List.mem_of_getElem? (i := 199) (by decide +kernel)
  · exact List.mem_of_getElem? (i := 202) (by decide +kernel)
  · exact List.mem_of_getElem? (i := 207) (by decide +kernel)

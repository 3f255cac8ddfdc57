/-! the law: its callees' words among its own -/
theorem inlX0 : ∀ w ∈ wsX00, w ∈ wsL_law := fun _ h => List.mem_append_left _ (List.mem_append_left _ (List.mem_append_left _ (List.mem_append_left _ (List.mem_append_left _ (List.mem_append_left _ (List.mem_append_left _ (List.mem_append_left _ (List.mem_append_right _ h))))))))
theorem inlX1 : ∀ w ∈ wsX10, w ∈ wsL_law := fun _ h => List.mem_append_left _ (List.mem_append_left _ (List.mem_append_right _ h))
theorem inlX2 : ∀ w ∈ wsX20, w ∈ wsL_law := fun _ h => List.mem_append_left _ (List.mem_append_left _ (List.mem_append_left _ (List.mem_append_left _ (List.mem_append_left _ (List.mem_append_right _ h)))))
theorem inlX3 : ∀ w ∈ wsX30, w ∈ wsL_law := fun _ h => List.mem_append_left _ (List.mem_append_left _ (List.mem_append_left _ (List.mem_append_left _ (List.mem_append_left _ (List.mem_append_left _ (List.mem_append_right _ h))))))
theorem inlX4 : ∀ w ∈ wsX40, w ∈ wsL_law := fun _ h => List.mem_append_left _ (List.mem_append_left _ (List.mem_append_left _ (List.mem_append_left _ (List.mem_append_right _ h))))
theorem inlX5 : ∀ w ∈ wsX50, w ∈ wsL_law := fun _ h => List.mem_append_left _ (List.mem_append_left _ (List.mem_append_left _ (List.mem_append_right _ h)))
theorem inlX6 : ∀ w ∈ wsX60, w ∈ wsL_law := fun _ h => List.mem_append_left _ (List.mem_append_left _ (List.mem_append_left _ (List.mem_append_left _ (List.mem_append_left _ (List.mem_append_left _ (List.mem_append_left _ (List.mem_append_right _ h)))))))
theorem inlX7 : ∀ w ∈ wsX70, w ∈ wsL_law := fun _ h => List.mem_append_left _ (List.mem_append_left _ (List.mem_append_left _ (List.mem_append_left _ (List.mem_append_left _ (List.mem_append_left _ (List.mem_append_left _ (List.mem_append_left _ (List.mem_append_left _ (List.mem_append_left _ (List.mem_append_left _ (List.mem_append_right _ h)))))))))))
theorem inlX8 : ∀ w ∈ wsX80, w ∈ wsL_law := fun _ h => List.mem_append_left _ (List.mem_append_left _ (List.mem_append_left _ (List.mem_append_left _ (List.mem_append_left _ (List.mem_append_left _ (List.mem_append_left _ (List.mem_append_left _ (List.mem_append_left _ (List.mem_append_left _ (List.mem_append_right _ h))))))))))
theorem inlX9 : ∀ w ∈ wsX90, w ∈ wsL_law := fun _ h => List.mem_append_left _ (List.mem_append_left _ (List.mem_append_left _ (List.mem_append_left _ (List.mem_append_left _ (List.mem_append_left _ (List.mem_append_left _ (List.mem_append_left _ (List.mem_append_left _ (List.mem_append_right _ h)))))))))
theorem inlX10 : ∀ w ∈ wsX100, w ∈ wsL_law := fun _ h => List.mem_append_left _ (List.mem_append_right _ h)
theorem inlX11 : ∀ w ∈ wsX110, w ∈ wsL_law := fun _ h => List.mem_append_left _ (List.mem_append_left _ (List.mem_append_left _ (List.mem_append_left _ (List.mem_append_left _ (List.mem_append_left _ (List.mem_append_left _ (List.mem_append_left _ (List.mem_append_left _ (List.mem_append_left _ (List.mem_append_left _ (List.mem_append_left _ (List.mem_append_left _ (List.mem_append_right _ h)))))))))))))
theorem inlX12 : ∀ w ∈ wsX120, w ∈ wsL_law := fun _ h => List.mem_append_left _ (List.mem_append_left _ (List.mem_append_left _ (List.mem_append_left _ (List.mem_append_left _ (List.mem_append_left _ (List.mem_append_left _ (List.mem_append_left _ (List.mem_append_left _ (List.mem_append_left _ (List.mem_append_left _ (List.mem_append_left _ (List.mem_append_right _ h))))))))))))
set_option maxRecDepth 20000 in
theorem ggL_law_X11_init : GoodIn wsL_law wsX11_init := goodIn_r _ [8, 9, 10, 11, 12, 13, 14, 15, 16, 17, 18, 19, 20, 21, 22, 23, 24, 25, 26, 27, 28, 29, 30, 31, 32, 33, 34, 35, 36, 37, 38, 39, 40, 41, 42, 43, 44, 45, 46, 47, 48, 49, 50, 51, 52, 53, 54, 55, 56, 57, 58, 59, 60, 61, 62, 63, 64, 65, 66, 67, 68, 69, 70, 71, 72, 73, 74, 75, 76, 77, 78, 79, 80, 81, 82, 83, 84, 85, 86, 87, 88, 89, 90, 91, 92, 93, 94, 95, 96, 97, 98, 99, 100, 101, 102, 103, 104, 105, 106, 107, 108, 109, 110, 111, 112, 113, 114, 115, 116, 117, 892, 893, 894, 895, 896, 897, 861, 862, 863, 864, 865, 866, 867, 868, 869, 870, 871, 872, 873, 898, 899, 900, 901, 902, 903, 904, 905, 906, 907, 908, 909, 910, 911, 912, 913, 914, 915, 916] (by decide +kernel) (by decide +kernel)
set_option maxRecDepth 20000 in
theorem gL_law_X11_init : GoodIn wsL_law (wsX11_init) := ggL_law_X11_init
set_option maxRecDepth 20000 in
theorem ggL_law_X12_init : GoodIn wsL_law wsX12_init := goodIn_r _ [120, 121, 10, 11, 47, 122, 123, 124, 125, 126, 127, 128, 129, 130, 131, 132, 133, 134, 5, 135, 136, 137, 138, 139, 140, 141, 874, 875, 876, 877, 878, 879, 880, 881, 882, 883, 884, 885, 886, 887, 888, 889, 890, 891] (by decide +kernel) (by decide +kernel)
set_option maxRecDepth 20000 in
theorem gL_law_X12_init : GoodIn wsL_law (wsX12_init) := ggL_law_X12_init
set_option maxRecDepth 20000 in
theorem ggL_law_X11_type : GoodIn wsL_law wsX11_type := goodIn_r _ [145, 15, 146, 147, 148, 149, 14, 150, 151, 60, 861, 862, 863, 864, 865, 866, 867, 868, 869, 870, 871, 872, 873, 892, 893, 894, 895, 896, 897] (by decide +kernel) (by decide +kernel)
set_option maxRecDepth 20000 in
theorem gL_law_X11_type : GoodIn wsL_law (wsV RL 13 RX11 yX11_type wsX11_type) := goodIn_app (goodIn_of _ (by decide +kernel)) ggL_law_X11_type
set_option maxRecDepth 20000 in
theorem ggL_law_X12_type : GoodIn wsL_law wsX12_type := goodIn_r _ [155, 156, 157, 122, 158, 159, 5, 160, 874, 875, 876, 877, 878, 879, 880, 881, 882, 883, 884, 885, 886, 887, 888, 889, 890, 891] (by decide +kernel) (by decide +kernel)
set_option maxRecDepth 20000 in
theorem gL_law_X12_type : GoodIn wsL_law (wsV RL 17 RX12 yX12_type wsX12_type) := goodIn_app (goodIn_of _ (by decide +kernel)) ggL_law_X12_type
set_option maxRecDepth 20000 in
theorem ggL_law_X11_clear : GoodIn wsL_law wsX11_clear := goodIn_r _ [164, 15, 165, 166, 167, 14, 168, 151, 861, 862, 863, 864, 865, 866, 867, 868, 869, 870, 871, 872, 873, 892, 893, 894, 895, 896, 897] (by decide +kernel) (by decide +kernel)
set_option maxRecDepth 20000 in
theorem gL_law_X11_clear : GoodIn wsL_law (wsV RL 18 RX11 yX11_clear wsX11_clear) := goodIn_app (goodIn_of _ (by decide +kernel)) ggL_law_X11_clear
set_option maxRecDepth 20000 in
theorem ggL_law_X12_clear : GoodIn wsL_law wsX12_clear := goodIn_r _ [172, 157, 874, 875, 876, 877, 878, 879, 880, 881, 882, 883, 884, 885, 886, 887, 888, 889, 890, 891] (by decide +kernel) (by decide +kernel)
set_option maxRecDepth 20000 in
theorem gL_law_X12_clear : GoodIn wsL_law (wsV RL 22 RX12 yX12_clear wsX12_clear) := goodIn_app (goodIn_of _ (by decide +kernel)) ggL_law_X12_clear
set_option maxRecDepth 20000 in
theorem ggL_law_X11_court : GoodIn wsL_law wsX11_court := goodIn_r _ [176, 15, 56, 55, 19, 23, 177, 178, 179, 180, 14, 181, 182, 183, 184, 185, 186, 187, 54, 188, 95, 109, 96, 189, 102, 103, 104, 190, 191, 192, 193, 151, 60, 194, 195, 196, 197, 198, 199, 200, 201, 202, 203, 204, 205, 206, 207, 208, 209, 210, 211, 212, 213, 214, 215, 216, 217, 218, 219, 220, 221, 222, 223, 224, 225, 226, 227, 228, 229, 230, 93, 94, 231, 232, 233, 234, 235, 236, 237, 238, 165, 166, 167, 168, 97, 98, 99, 18, 100, 64, 101, 105, 106, 107, 108, 110, 111, 112, 113, 114, 115, 116, 117, 239, 240, 241, 22, 242, 243, 71, 861, 862, 863, 864, 865, 866, 867, 868, 869, 870, 871, 872, 873, 892, 893, 894, 895, 896, 897, 912, 913, 914, 915, 916, 898, 899, 900, 901, 902, 903] (by decide +kernel) (by decide +kernel)
set_option maxRecDepth 20000 in
theorem gL_law_X11_court : GoodIn wsL_law (wsV RL 23 RX11 yX11_court wsX11_court) := goodIn_app (goodIn_of _ (by decide +kernel)) ggL_law_X11_court
set_option maxRecDepth 20000 in
theorem ggL_law_X12_court : GoodIn wsL_law wsX12_court := goodIn_r _ [247, 248, 249, 250, 157, 132, 133, 134, 5, 135, 123, 251, 252, 253, 254, 122, 255, 256, 257, 258, 259, 260, 158, 159, 160, 261, 262, 263, 264, 265, 266, 267, 268, 269, 270, 271, 272, 273, 274, 275, 276, 136, 137, 138, 139, 124, 125, 140, 141, 131, 874, 875, 876, 877, 878, 879, 880, 881, 882, 883, 884, 885, 886, 887, 888, 889, 890, 891] (by decide +kernel) (by decide +kernel)
set_option maxRecDepth 20000 in
theorem gL_law_X12_court : GoodIn wsL_law (wsV RL 26 RX12 yX12_court wsX12_court) := goodIn_app (goodIn_of _ (by decide +kernel)) ggL_law_X12_court
set_option maxRecDepth 20000 in
theorem ggL_law_X11_person : GoodIn wsL_law wsX11_person := goodIn_r _ [280, 55, 281, 282, 19, 283, 106, 107, 54, 108, 109, 284, 285, 286, 18, 287, 64, 288, 289, 290, 2, 291, 292, 293, 294, 295, 296, 297, 298, 299, 300, 301, 93, 861, 862, 863, 864, 865, 866, 867, 868, 869, 870, 871, 872, 873, 912, 913, 914, 915, 916, 898] (by decide +kernel) (by decide +kernel)
set_option maxRecDepth 20000 in
theorem gL_law_X11_person : GoodIn wsL_law (wsV RL 27 RX11 yX11_person wsX11_person) := goodIn_app (goodIn_of _ (by decide +kernel)) ggL_law_X11_person
set_option maxRecDepth 20000 in
theorem ggL_law_X12_person : GoodIn wsL_law wsX12_person := goodIn_r _ [305, 306, 124, 125, 307, 308, 309, 5, 310, 158, 159, 160, 311, 312, 313, 314, 315, 316, 317, 318, 874, 875, 876, 877, 878, 879, 880, 881, 882, 883, 884, 885, 886, 887, 888, 889, 890, 891] (by decide +kernel) (by decide +kernel)
set_option maxRecDepth 20000 in
theorem gL_law_X12_person : GoodIn wsL_law (wsV RL 31 RX12 yX12_person wsX12_person) := goodIn_app (goodIn_of _ (by decide +kernel)) ggL_law_X12_person
set_option maxRecDepth 20000 in
theorem ggL_law_X11_clashes : GoodIn wsL_law wsX11_clashes := goodIn_r _ [322, 55, 323, 324, 325, 2, 326, 861, 862, 863, 864, 865, 866, 867, 868, 869, 870, 871, 872, 873, 912, 913, 914, 915, 916] (by decide +kernel) (by decide +kernel)
set_option maxRecDepth 20000 in
theorem gL_law_X11_clashes : GoodIn wsL_law (wsV RL 32 RX11 yX11_clashes wsX11_clashes) := goodIn_app (goodIn_of _ (by decide +kernel)) ggL_law_X11_clashes
set_option maxRecDepth 20000 in
theorem ggL_law_X12_clashes : GoodIn wsL_law wsX12_clashes := goodIn_r _ [330, 124, 331, 332, 5, 333, 334, 158, 159, 160, 874, 875, 876, 877, 878, 879, 880, 881, 882, 883, 884, 885, 886, 887, 888, 889, 890, 891] (by decide +kernel) (by decide +kernel)
set_option maxRecDepth 20000 in
theorem gL_law_X12_clashes : GoodIn wsL_law (wsV RL 35 RX12 yX12_clashes wsX12_clashes) := goodIn_app (goodIn_of _ (by decide +kernel)) ggL_law_X12_clashes
set_option maxRecDepth 20000 in
theorem ggL_law_X11_pillow : GoodIn wsL_law wsX11_pillow := goodIn_r _ [338, 55, 19, 339, 111, 112, 54, 113, 96, 340, 341, 342, 18, 343, 344, 345, 346, 347, 64, 293, 294, 295, 296, 297, 285, 286, 287, 348, 349, 350, 351, 861, 862, 863, 864, 865, 866, 867, 868, 869, 870, 871, 872, 873, 912, 913, 914, 915, 916, 898] (by decide +kernel) (by decide +kernel)
set_option maxRecDepth 20000 in
theorem gL_law_X11_pillow : GoodIn wsL_law (wsV RL 36 RX11 yX11_pillow wsX11_pillow) := goodIn_app (goodIn_of _ (by decide +kernel)) ggL_law_X11_pillow
set_option maxRecDepth 20000 in
theorem ggL_law_X12_pillow : GoodIn wsL_law wsX12_pillow := goodIn_r _ [355, 356, 125, 357, 358, 359, 5, 360, 124, 158, 159, 160, 361, 362, 363, 364, 365, 366, 367, 368, 369, 370, 371, 372, 874, 875, 876, 877, 878, 879, 880, 881, 882, 883, 884, 885, 886, 887, 888, 889, 890, 891] (by decide +kernel) (by decide +kernel)
set_option maxRecDepth 20000 in
theorem gL_law_X12_pillow : GoodIn wsL_law (wsV RL 39 RX12 yX12_pillow wsX12_pillow) := goodIn_app (goodIn_of _ (by decide +kernel)) ggL_law_X12_pillow
set_option maxRecDepth 20000 in
theorem ggL_law_X11_heard : GoodIn wsL_law wsX11_heard := goodIn_r _ [376, 55, 19, 339, 111, 112, 54, 113, 96, 324, 325, 2, 326, 377, 345, 346, 18, 347, 64, 861, 862, 863, 864, 865, 866, 867, 868, 869, 870, 871, 872, 873, 912, 913, 914, 915, 916, 898] (by decide +kernel) (by decide +kernel)
set_option maxRecDepth 20000 in
theorem gL_law_X11_heard : GoodIn wsL_law (wsV RL 40 RX11 yX11_heard wsX11_heard) := goodIn_app (goodIn_of _ (by decide +kernel)) ggL_law_X11_heard
set_option maxRecDepth 20000 in
theorem ggL_law_X12_heard : GoodIn wsL_law wsX12_heard := goodIn_r _ [381, 357, 358, 359, 5, 360, 124, 158, 159, 160, 331, 332, 333, 334, 365, 366, 367, 368, 125, 874, 875, 876, 877, 878, 879, 880, 881, 882, 883, 884, 885, 886, 887, 888, 889, 890, 891] (by decide +kernel) (by decide +kernel)
set_option maxRecDepth 20000 in
theorem gL_law_X12_heard : GoodIn wsL_law (wsV RL 43 RX12 yX12_heard wsX12_heard) := goodIn_app (goodIn_of _ (by decide +kernel)) ggL_law_X12_heard
set_option maxRecDepth 20000 in
theorem ggL_law_X11_now : GoodIn wsL_law wsX11_now := goodIn_r _ [385, 19, 55, 23, 386, 387, 388, 389, 18, 390, 64, 391, 392, 393, 394, 395, 396, 397, 398, 399, 341, 342, 343, 344, 345, 346, 347, 400, 401, 402, 403, 404, 405, 406, 54, 407, 95, 408, 409, 410, 411, 412, 413, 414, 415, 416, 417, 418, 109, 93, 861, 862, 863, 864, 865, 866, 867, 868, 869, 870, 871, 872, 873, 899, 900, 901, 902, 903, 898, 912, 913, 914, 915, 916] (by decide +kernel) (by decide +kernel)
set_option maxRecDepth 20000 in
theorem gL_law_X11_now : GoodIn wsL_law (wsV RL 44 RX11 yX11_now wsX11_now) := goodIn_app (goodIn_of _ (by decide +kernel)) ggL_law_X11_now
set_option maxRecDepth 20000 in
theorem ggL_law_X12_now : GoodIn wsL_law wsX12_now := goodIn_r _ [422, 125, 141, 423, 424, 425, 5, 426, 124, 361, 362, 363, 364, 365, 366, 367, 368, 427, 428, 429, 430, 431, 432, 433, 434, 435, 436, 437, 315, 316, 317, 318, 874, 875, 876, 877, 878, 879, 880, 881, 882, 883, 884, 885, 886, 887, 888, 889, 890, 891] (by decide +kernel) (by decide +kernel)
set_option maxRecDepth 20000 in
theorem gL_law_X12_now : GoodIn wsL_law (wsV RL 47 RX12 yX12_now wsX12_now) := goodIn_app (goodIn_of _ (by decide +kernel)) ggL_law_X12_now
set_option maxRecDepth 20000 in
theorem ggL_law_X11_lays : GoodIn wsL_law wsX11_lays := goodIn_r _ [441, 55, 19, 23, 283, 106, 107, 54, 108, 109, 339, 111, 112, 113, 96, 284, 285, 286, 18, 287, 64, 442, 443, 444, 22, 445, 446, 68, 447, 448, 449, 450, 451, 243, 452, 453, 454, 455, 456, 115, 116, 117, 861, 862, 863, 864, 865, 866, 867, 868, 869, 870, 871, 872, 873, 912, 913, 914, 915, 916, 898, 899, 900, 901, 902, 903] (by decide +kernel) (by decide +kernel)
set_option maxRecDepth 20000 in
theorem gL_law_X11_lays : GoodIn wsL_law (wsV RL 48 RX11 yX11_lays wsX11_lays) := goodIn_app (goodIn_of _ (by decide +kernel)) ggL_law_X11_lays
set_option maxRecDepth 20000 in
theorem ggL_law_X12_lays : GoodIn wsL_law wsX12_lays := goodIn_r _ [460, 125, 307, 308, 309, 5, 310, 124, 158, 159, 160, 357, 358, 359, 360, 461, 462, 463, 464, 141, 126, 874, 875, 876, 877, 878, 879, 880, 881, 882, 883, 884, 885, 886, 887, 888, 889, 890, 891] (by decide +kernel) (by decide +kernel)
set_option maxRecDepth 20000 in
theorem gL_law_X12_lays : GoodIn wsL_law (wsV RL 51 RX12 yX12_lays wsX12_lays) := goodIn_app (goodIn_of _ (by decide +kernel)) ggL_law_X12_lays
set_option maxRecDepth 20000 in
theorem ggL_law_X11_night : GoodIn wsL_law wsX11_night := goodIn_r _ [468, 19, 23, 55, 469, 470, 2, 471, 387, 388, 389, 18, 390, 64, 442, 443, 444, 22, 445, 446, 68, 447, 448, 449, 450, 451, 243, 452, 453, 454, 455, 472, 473, 474, 475, 476, 477, 478, 479, 480, 54, 481, 93, 482, 483, 484, 485, 486, 94, 408, 409, 410, 411, 412, 413, 414, 487, 488, 489, 297, 285, 286, 287, 490, 491, 492, 493, 344, 345, 346, 347, 494, 495, 496, 497, 498, 861, 862, 863, 864, 865, 866, 867, 868, 869, 870, 871, 872, 873, 898, 899, 900, 901, 902, 903, 912, 913, 914, 915, 916] (by decide +kernel) (by decide +kernel)
set_option maxRecDepth 20000 in
theorem gL_law_X11_night : GoodIn wsL_law (wsV RL 52 RX11 yX11_night wsX11_night) := goodIn_app (goodIn_of _ (by decide +kernel)) ggL_law_X11_night
set_option maxRecDepth 20000 in
theorem ggL_law_X12_night : GoodIn wsL_law wsX12_night := goodIn_r _ [502, 503, 125, 158, 159, 5, 160, 461, 462, 463, 464, 141, 126, 504, 505, 506, 507, 124, 508, 509, 510, 511, 512, 513, 514, 515, 516, 315, 316, 317, 318, 431, 432, 433, 874, 875, 876, 877, 878, 879, 880, 881, 882, 883, 884, 885, 886, 887, 888, 889, 890, 891] (by decide +kernel) (by decide +kernel)
set_option maxRecDepth 20000 in
theorem gL_law_X12_night : GoodIn wsL_law (wsV RL 55 RX12 yX12_night wsX12_night) := goodIn_app (goodIn_of _ (by decide +kernel)) ggL_law_X12_night
set_option maxRecDepth 20000 in
theorem ggL_law_X11_slips : GoodIn wsL_law wsX11_slips := goodIn_r _ [520, 55, 19, 23, 339, 111, 112, 54, 113, 96, 340, 341, 342, 18, 343, 344, 345, 346, 347, 64, 442, 443, 444, 22, 445, 446, 68, 447, 448, 449, 450, 451, 243, 452, 453, 454, 455, 521, 522, 523, 524, 494, 495, 496, 497, 498, 525, 409, 410, 411, 412, 413, 414, 861, 862, 863, 864, 865, 866, 867, 868, 869, 870, 871, 872, 873, 912, 913, 914, 915, 916, 898, 899, 900, 901, 902, 903] (by decide +kernel) (by decide +kernel)
set_option maxRecDepth 20000 in
theorem gL_law_X11_slips : GoodIn wsL_law (wsV RL 56 RX11 yX11_slips wsX11_slips) := goodIn_app (goodIn_of _ (by decide +kernel)) ggL_law_X11_slips
set_option maxRecDepth 20000 in
theorem ggL_law_X12_slips : GoodIn wsL_law wsX12_slips := goodIn_r _ [529, 125, 357, 358, 359, 5, 360, 124, 158, 159, 160, 461, 462, 463, 464, 141, 126, 361, 362, 363, 364, 365, 366, 367, 368, 431, 432, 433, 874, 875, 876, 877, 878, 879, 880, 881, 882, 883, 884, 885, 886, 887, 888, 889, 890, 891] (by decide +kernel) (by decide +kernel)
set_option maxRecDepth 20000 in
theorem gL_law_X12_slips : GoodIn wsL_law (wsV RL 59 RX12 yX12_slips wsX12_slips) := goodIn_app (goodIn_of _ (by decide +kernel)) ggL_law_X12_slips
set_option maxRecDepth 20000 in
theorem ggL_law_X11_mixes : GoodIn wsL_law wsX11_mixes := goodIn_r _ [533, 23, 19, 534, 535, 536, 2, 537, 55, 339, 111, 112, 54, 113, 96, 442, 443, 444, 22, 445, 446, 68, 447, 448, 449, 450, 451, 243, 452, 453, 454, 455, 538, 539, 540, 18, 541, 344, 345, 346, 347, 64, 494, 495, 496, 497, 498, 340, 341, 342, 343, 525, 409, 410, 411, 412, 413, 414, 861, 862, 863, 864, 865, 866, 867, 868, 869, 870, 871, 872, 873, 912, 913, 914, 915, 916, 898, 899, 900, 901, 902, 903] (by decide +kernel) (by decide +kernel)
set_option maxRecDepth 20000 in
theorem gL_law_X11_mixes : GoodIn wsL_law (wsV RL 60 RX11 yX11_mixes wsX11_mixes) := goodIn_app (goodIn_of _ (by decide +kernel)) ggL_law_X11_mixes
set_option maxRecDepth 20000 in
theorem ggL_law_X12_mixes : GoodIn wsL_law wsX12_mixes := goodIn_r _ [545, 125, 357, 358, 359, 5, 360, 124, 158, 159, 160, 461, 462, 463, 464, 141, 126, 365, 366, 367, 368, 361, 362, 363, 364, 431, 432, 433, 874, 875, 876, 877, 878, 879, 880, 881, 882, 883, 884, 885, 886, 887, 888, 889, 890, 891] (by decide +kernel) (by decide +kernel)
set_option maxRecDepth 20000 in
theorem gL_law_X12_mixes : GoodIn wsL_law (wsV RL 63 RX12 yX12_mixes wsX12_mixes) := goodIn_app (goodIn_of _ (by decide +kernel)) ggL_law_X12_mixes
set_option maxRecDepth 20000 in
theorem ggL_law_X11_examines : GoodIn wsL_law wsX11_examines := goodIn_r _ [549, 55, 19, 23, 339, 111, 112, 54, 113, 96, 348, 349, 350, 18, 351, 64, 391, 392, 393, 394, 395, 396, 397, 398, 399, 341, 342, 343, 344, 345, 346, 347, 442, 443, 444, 22, 445, 446, 68, 447, 448, 449, 450, 451, 243, 452, 453, 454, 455, 550, 551, 552, 553, 525, 409, 410, 411, 412, 413, 414, 861, 862, 863, 864, 865, 866, 867, 868, 869, 870, 871, 872, 873, 912, 913, 914, 915, 916, 898, 899, 900, 901, 902, 903] (by decide +kernel) (by decide +kernel)
set_option maxRecDepth 20000 in
theorem gL_law_X11_examines : GoodIn wsL_law (wsV RL 64 RX11 yX11_examines wsX11_examines) := goodIn_app (goodIn_of _ (by decide +kernel)) ggL_law_X11_examines
set_option maxRecDepth 20000 in
theorem ggL_law_X12_examines : GoodIn wsL_law wsX12_examines := goodIn_r _ [557, 125, 357, 358, 359, 5, 360, 124, 158, 159, 160, 461, 462, 463, 464, 141, 126, 423, 424, 425, 426, 361, 362, 363, 364, 365, 366, 367, 368, 431, 432, 433, 874, 875, 876, 877, 878, 879, 880, 881, 882, 883, 884, 885, 886, 887, 888, 889, 890, 891] (by decide +kernel) (by decide +kernel)
set_option maxRecDepth 20000 in
theorem gL_law_X12_examines : GoodIn wsL_law (wsV RL 67 RX12 yX12_examines wsX12_examines) := goodIn_app (goodIn_of _ (by decide +kernel)) ggL_law_X12_examines
set_option maxRecDepth 20000 in
theorem ggL_law_X11_undo : GoodIn wsL_law wsX11_undo := goodIn_r _ [561, 23, 19, 386, 562, 563, 564, 22, 565, 243, 447, 68, 446, 448, 449, 450, 451, 861, 862, 863, 864, 865, 866, 867, 868, 869, 870, 871, 872, 873, 899, 900, 901, 902, 903, 898] (by decide +kernel) (by decide +kernel)
set_option maxRecDepth 20000 in
theorem gL_law_X11_undo : GoodIn wsL_law (wsV RL 68 RX11 yX11_undo wsX11_undo) := goodIn_app (goodIn_of _ (by decide +kernel)) ggL_law_X11_undo
set_option maxRecDepth 20000 in
theorem ggL_law_X12_undo : GoodIn wsL_law wsX12_undo := goodIn_r _ [569, 141, 125, 126, 874, 875, 876, 877, 878, 879, 880, 881, 882, 883, 884, 885, 886, 887, 888, 889, 890, 891] (by decide +kernel) (by decide +kernel)
set_option maxRecDepth 20000 in
theorem gL_law_X12_undo : GoodIn wsL_law (wsV RL 71 RX12 yX12_undo wsX12_undo) := goodIn_app (goodIn_of _ (by decide +kernel)) ggL_law_X12_undo
set_option maxRecDepth 20000 in
theorem ggL_law_X11_whose : GoodIn wsL_law wsX11_whose := goodIn_r _ [573, 55, 19, 574, 339, 111, 112, 54, 113, 96, 575, 576, 2, 577, 340, 341, 342, 18, 343, 344, 345, 346, 347, 64, 298, 299, 300, 301, 109, 93, 578, 579, 580, 525, 409, 410, 411, 412, 413, 414, 861, 862, 863, 864, 865, 866, 867, 868, 869, 870, 871, 872, 873, 912, 913, 914, 915, 916, 898] (by decide +kernel) (by decide +kernel)
set_option maxRecDepth 20000 in
theorem gL_law_X11_whose : GoodIn wsL_law (wsV RL 72 RX11 yX11_whose wsX11_whose) := goodIn_app (goodIn_of _ (by decide +kernel)) ggL_law_X11_whose
set_option maxRecDepth 20000 in
theorem ggL_law_X12_whose : GoodIn wsL_law wsX12_whose := goodIn_r _ [584, 124, 357, 358, 359, 5, 360, 158, 159, 160, 361, 362, 363, 364, 365, 366, 367, 368, 125, 315, 316, 317, 318, 431, 432, 433, 874, 875, 876, 877, 878, 879, 880, 881, 882, 883, 884, 885, 886, 887, 888, 889, 890, 891] (by decide +kernel) (by decide +kernel)
set_option maxRecDepth 20000 in
theorem gL_law_X12_whose : GoodIn wsL_law (wsV RL 75 RX12 yX12_whose wsX12_whose) := goodIn_app (goodIn_of _ (by decide +kernel)) ggL_law_X12_whose
set_option maxRecDepth 20000 in
theorem ggL_law_X11_so : GoodIn wsL_law wsX11_so := goodIn_r _ [588, 55, 19, 575, 576, 2, 577, 404, 405, 406, 54, 407, 95, 408, 409, 410, 411, 412, 413, 414, 589, 590, 591, 18, 592, 593, 594, 595, 596, 344, 345, 346, 347, 64, 861, 862, 863, 864, 865, 866, 867, 868, 869, 870, 871, 872, 873, 912, 913, 914, 915, 916, 898] (by decide +kernel) (by decide +kernel)
set_option maxRecDepth 20000 in
theorem gL_law_X11_so : GoodIn wsL_law (wsV RL 76 RX11 yX11_so wsX11_so) := goodIn_app (goodIn_of _ (by decide +kernel)) ggL_law_X11_so
set_option maxRecDepth 20000 in
theorem ggL_law_X12_so : GoodIn wsL_law wsX12_so := goodIn_r _ [600, 124, 158, 159, 5, 160, 365, 366, 367, 368, 125, 874, 875, 876, 877, 878, 879, 880, 881, 882, 883, 884, 885, 886, 887, 888, 889, 890, 891] (by decide +kernel) (by decide +kernel)
set_option maxRecDepth 20000 in
theorem gL_law_X12_so : GoodIn wsL_law (wsV RL 79 RX12 yX12_so wsX12_so) := goodIn_app (goodIn_of _ (by decide +kernel)) ggL_law_X12_so
set_option maxRecDepth 20000 in
theorem ggL_law_X11_tally : GoodIn wsL_law wsX11_tally := goodIn_r _ [604, 19, 534, 535, 536, 2, 537, 55, 339, 111, 112, 54, 113, 96, 340, 341, 342, 18, 343, 344, 345, 346, 347, 64, 525, 409, 410, 411, 412, 413, 414, 861, 862, 863, 864, 865, 866, 867, 868, 869, 870, 871, 872, 873, 912, 913, 914, 915, 916, 898] (by decide +kernel) (by decide +kernel)
set_option maxRecDepth 20000 in
theorem gL_law_X11_tally : GoodIn wsL_law (wsV RL 80 RX11 yX11_tally wsX11_tally) := goodIn_app (goodIn_of _ (by decide +kernel)) ggL_law_X11_tally
set_option maxRecDepth 20000 in
theorem ggL_law_X12_tally : GoodIn wsL_law wsX12_tally := goodIn_r _ [608, 357, 358, 359, 5, 360, 124, 158, 159, 160, 361, 362, 363, 364, 365, 366, 367, 368, 125, 431, 432, 433, 874, 875, 876, 877, 878, 879, 880, 881, 882, 883, 884, 885, 886, 887, 888, 889, 890, 891] (by decide +kernel) (by decide +kernel)
set_option maxRecDepth 20000 in
theorem gL_law_X12_tally : GoodIn wsL_law (wsV RL 83 RX12 yX12_tally wsX12_tally) := goodIn_app (goodIn_of _ (by decide +kernel)) ggL_law_X12_tally
set_option maxRecDepth 20000 in
theorem ggL_law_X11_fit : GoodIn wsL_law wsX11_fit := goodIn_r _ [612, 55, 27, 19, 283, 106, 107, 54, 108, 109, 613, 614, 615, 26, 616, 76, 617, 75, 618, 619, 102, 103, 104, 620, 594, 595, 18, 596, 344, 345, 346, 347, 64, 621, 622, 623, 624, 625, 626, 627, 454, 628, 629, 630, 631, 632, 633, 634, 635, 636, 637, 638, 639, 640, 641, 642, 643, 644, 861, 862, 863, 864, 865, 866, 867, 868, 869, 870, 871, 872, 873, 912, 913, 914, 915, 916, 904, 905, 898] (by decide +kernel) (by decide +kernel)
set_option maxRecDepth 20000 in
theorem gL_law_X11_fit : GoodIn wsL_law (wsV RL 84 RX11 yX11_fit wsX11_fit) := goodIn_app (goodIn_of _ (by decide +kernel)) ggL_law_X11_fit
set_option maxRecDepth 20000 in
theorem ggL_law_X12_fit : GoodIn wsL_law wsX12_fit := goodIn_r _ [648, 124, 127, 307, 308, 309, 5, 310, 158, 159, 160, 649, 650, 651, 652, 653, 654, 655, 656, 315, 316, 317, 318, 365, 366, 367, 368, 125, 874, 875, 876, 877, 878, 879, 880, 881, 882, 883, 884, 885, 886, 887, 888, 889, 890, 891] (by decide +kernel) (by decide +kernel)
set_option maxRecDepth 20000 in
theorem gL_law_X12_fit : GoodIn wsL_law (wsV RL 87 RX12 yX12_fit wsX12_fit) := goodIn_app (goodIn_of _ (by decide +kernel)) ggL_law_X12_fit
set_option maxRecDepth 20000 in
theorem ggL_law_X11_looks : GoodIn wsL_law wsX11_looks := goodIn_r _ [660, 19, 55, 292, 400, 401, 402, 18, 403, 395, 396, 397, 398, 399, 341, 342, 343, 344, 345, 346, 347, 64, 391, 392, 393, 394, 661, 578, 579, 2, 580, 525, 409, 410, 411, 412, 413, 414, 861, 862, 863, 864, 865, 866, 867, 868, 869, 870, 871, 872, 873, 912, 913, 914, 915, 916, 898] (by decide +kernel) (by decide +kernel)
set_option maxRecDepth 20000 in
theorem gL_law_X11_looks : GoodIn wsL_law (wsV RL 88 RX11 yX11_looks wsX11_looks) := goodIn_app (goodIn_of _ (by decide +kernel)) ggL_law_X11_looks
set_option maxRecDepth 20000 in
theorem ggL_law_X12_looks : GoodIn wsL_law wsX12_looks := goodIn_r _ [665, 124, 125, 423, 424, 425, 5, 426, 361, 362, 363, 364, 365, 366, 367, 368, 431, 432, 433, 874, 875, 876, 877, 878, 879, 880, 881, 882, 883, 884, 885, 886, 887, 888, 889, 890, 891] (by decide +kernel) (by decide +kernel)
set_option maxRecDepth 20000 in
theorem gL_law_X12_looks : GoodIn wsL_law (wsV RL 91 RX12 yX12_looks wsX12_looks) := goodIn_app (goodIn_of _ (by decide +kernel)) ggL_law_X12_looks
set_option maxRecDepth 20000 in
theorem ggL_law_X11_next : GoodIn wsL_law wsX11_next := goodIn_r _ [669, 19, 55, 292, 391, 392, 393, 18, 394, 64, 395, 396, 397, 398, 399, 341, 342, 343, 344, 345, 346, 347, 340, 525, 409, 410, 411, 412, 413, 414, 348, 349, 350, 351, 861, 862, 863, 864, 865, 866, 867, 868, 869, 870, 871, 872, 873, 912, 913, 914, 915, 916, 898] (by decide +kernel) (by decide +kernel)
set_option maxRecDepth 20000 in
theorem gL_law_X11_next : GoodIn wsL_law (wsV RL 92 RX11 yX11_next wsX11_next) := goodIn_app (goodIn_of _ (by decide +kernel)) ggL_law_X11_next
set_option maxRecDepth 20000 in
theorem ggL_law_X12_next : GoodIn wsL_law wsX12_next := goodIn_r _ [673, 125, 124, 423, 424, 425, 5, 426, 361, 362, 363, 364, 365, 366, 367, 368, 431, 432, 433, 874, 875, 876, 877, 878, 879, 880, 881, 882, 883, 884, 885, 886, 887, 888, 889, 890, 891] (by decide +kernel) (by decide +kernel)
set_option maxRecDepth 20000 in
theorem gL_law_X12_next : GoodIn wsL_law (wsV RL 95 RX12 yX12_next wsX12_next) := goodIn_app (goodIn_of _ (by decide +kernel)) ggL_law_X12_next
set_option maxRecDepth 20000 in
theorem ggL_law_X11_inNights : GoodIn wsL_law wsX11_inNights := goodIn_r _ [677, 55, 19, 51, 469, 470, 2, 471, 339, 111, 112, 54, 113, 96, 340, 341, 342, 18, 343, 344, 345, 346, 347, 64, 387, 388, 389, 390, 678, 679, 680, 681, 574, 682, 102, 103, 104, 284, 285, 286, 287, 683, 479, 480, 481, 93, 482, 483, 484, 485, 486, 94, 408, 409, 410, 411, 412, 413, 414, 487, 488, 489, 861, 862, 863, 864, 865, 866, 867, 868, 869, 870, 871, 872, 873, 912, 913, 914, 915, 916, 898] (by decide +kernel) (by decide +kernel)
set_option maxRecDepth 20000 in
theorem gL_law_X11_inNights : GoodIn wsL_law (wsV RL 96 RX11 yX11_inNights wsX11_inNights) := goodIn_app (goodIn_of _ (by decide +kernel)) ggL_law_X11_inNights
set_option maxRecDepth 20000 in
theorem ggL_law_X12_inNights : GoodIn wsL_law wsX12_inNights := goodIn_r _ [687, 503, 688, 158, 159, 5, 160, 357, 358, 359, 360, 124, 689, 690, 691, 692, 128, 125, 504, 505, 506, 507, 508, 509, 510, 511, 512, 513, 514, 515, 516, 315, 316, 317, 318, 431, 432, 433, 361, 362, 363, 364, 365, 366, 367, 368, 693, 694, 695, 696, 874, 875, 876, 877, 878, 879, 880, 881, 882, 883, 884, 885, 886, 887, 888, 889, 890, 891] (by decide +kernel) (by decide +kernel)
set_option maxRecDepth 20000 in
theorem gL_law_X12_inNights : GoodIn wsL_law (wsV RL 100 RX12 yX12_inNights wsX12_inNights) := goodIn_app (goodIn_of _ (by decide +kernel)) ggL_law_X12_inNights
set_option maxRecDepth 20000 in
theorem ggL_law_X11_notes : GoodIn wsL_law wsX11_notes := goodIn_r _ [700, 55, 177, 48, 49, 50, 339, 111, 112, 54, 113, 96, 324, 325, 2, 326, 575, 576, 577, 861, 862, 863, 864, 865, 866, 867, 868, 869, 870, 871, 872, 873, 912, 913, 914, 915, 916] (by decide +kernel) (by decide +kernel)
set_option maxRecDepth 20000 in
theorem gL_law_X11_notes : GoodIn wsL_law (wsV RL 101 RX11 yX11_notes wsX11_notes) := goodIn_app (goodIn_of _ (by decide +kernel)) ggL_law_X11_notes
set_option maxRecDepth 20000 in
theorem ggL_law_X12_notes : GoodIn wsL_law wsX12_notes := goodIn_r _ [704, 140, 129, 357, 358, 359, 5, 360, 124, 158, 159, 160, 331, 332, 333, 334, 874, 875, 876, 877, 878, 879, 880, 881, 882, 883, 884, 885, 886, 887, 888, 889, 890, 891] (by decide +kernel) (by decide +kernel)
set_option maxRecDepth 20000 in
theorem gL_law_X12_notes : GoodIn wsL_law (wsV RL 104 RX12 yX12_notes wsX12_notes) := goodIn_app (goodIn_of _ (by decide +kernel)) ggL_law_X12_notes
set_option maxRecDepth 20000 in
theorem ggL_law_X11_forget : GoodIn wsL_law wsX11_forget := goodIn_r _ [708, 177, 861, 862, 863, 864, 865, 866, 867, 868, 869, 870, 871, 872, 873] (by decide +kernel) (by decide +kernel)
set_option maxRecDepth 20000 in
theorem gL_law_X11_forget : GoodIn wsL_law (wsV RL 105 RX11 yX11_forget wsX11_forget) := goodIn_app (goodIn_of _ (by decide +kernel)) ggL_law_X11_forget
set_option maxRecDepth 20000 in
theorem ggL_law_X12_forget : GoodIn wsL_law wsX12_forget := goodIn_r _ [712, 140, 874, 875, 876, 877, 878, 879, 880, 881, 882, 883, 884, 885, 886, 887, 888, 889, 890, 891] (by decide +kernel) (by decide +kernel)
set_option maxRecDepth 20000 in
theorem gL_law_X12_forget : GoodIn wsL_law (wsV RL 108 RX12 yX12_forget wsX12_forget) := goodIn_app (goodIn_of _ (by decide +kernel)) ggL_law_X12_forget
set_option maxRecDepth 20000 in
theorem ggL_law_X11_which : GoodIn wsL_law wsX11_which := goodIn_r _ [716, 19, 575, 576, 2, 577, 387, 388, 389, 18, 390, 64, 678, 679, 680, 681, 51, 55, 574, 682, 102, 103, 104, 284, 285, 286, 287, 683, 479, 480, 54, 481, 93, 482, 483, 484, 485, 486, 94, 408, 409, 410, 411, 412, 413, 414, 487, 488, 489, 717, 718, 719, 720, 177, 48, 49, 50, 861, 862, 863, 864, 865, 866, 867, 868, 869, 870, 871, 872, 873, 898, 912, 913, 914, 915, 916] (by decide +kernel) (by decide +kernel)
set_option maxRecDepth 20000 in
theorem gL_law_X11_which : GoodIn wsL_law (wsV RL 109 RX11 yX11_which wsX11_which) := goodIn_app (goodIn_of _ (by decide +kernel)) ggL_law_X11_which
set_option maxRecDepth 20000 in
theorem ggL_law_X12_which : GoodIn wsL_law wsX12_which := goodIn_r _ [724, 158, 159, 5, 160, 725, 726, 727, 728, 130, 124, 125, 140, 129, 508, 509, 510, 511, 512, 513, 514, 515, 516, 315, 316, 317, 318, 431, 432, 433, 874, 875, 876, 877, 878, 879, 880, 881, 882, 883, 884, 885, 886, 887, 888, 889, 890, 891] (by decide +kernel) (by decide +kernel)
set_option maxRecDepth 20000 in
theorem gL_law_X12_which : GoodIn wsL_law (wsV RL 112 RX12 yX12_which wsX12_which) := goodIn_app (goodIn_of _ (by decide +kernel)) ggL_law_X12_which
set_option maxRecDepth 20000 in
theorem ggL_law_X11_odds : GoodIn wsL_law wsX11_odds := goodIn_r _ [732, 55, 733, 281, 282, 283, 106, 107, 54, 108, 109, 324, 325, 2, 326, 575, 576, 577, 525, 409, 410, 411, 412, 413, 414, 734, 735, 736, 737, 738, 739, 861, 862, 863, 864, 865, 866, 867, 868, 869, 870, 871, 872, 873, 912, 913, 914, 915, 916] (by decide +kernel) (by decide +kernel)
set_option maxRecDepth 20000 in
theorem gL_law_X11_odds : GoodIn wsL_law (wsV RL 113 RX11 yX11_odds wsX11_odds) := goodIn_app (goodIn_of _ (by decide +kernel)) ggL_law_X11_odds
set_option maxRecDepth 20000 in
theorem ggL_law_X12_odds : GoodIn wsL_law wsX12_odds := goodIn_r _ [743, 744, 745, 746, 124, 307, 308, 309, 5, 310, 158, 159, 160, 331, 332, 333, 334, 315, 316, 317, 318, 431, 432, 433, 874, 875, 876, 877, 878, 879, 880, 881, 882, 883, 884, 885, 886, 887, 888, 889, 890, 891] (by decide +kernel) (by decide +kernel)
set_option maxRecDepth 20000 in
theorem gL_law_X12_odds : GoodIn wsL_law (wsV RL 117 RX12 yX12_odds wsX12_odds) := goodIn_app (goodIn_of _ (by decide +kernel)) ggL_law_X12_odds
set_option maxRecDepth 20000 in
theorem ggL_law_X11_rate : GoodIn wsL_law wsX11_rate := goodIn_r _ [750, 46, 55, 751, 752, 19, 753, 339, 111, 112, 54, 113, 96, 754, 755, 756, 757, 758, 45, 759, 760, 761, 762, 763, 764, 765, 30, 766, 767, 768, 341, 342, 18, 343, 344, 345, 346, 347, 64, 769, 409, 410, 411, 412, 413, 414, 770, 388, 389, 390, 771, 772, 36, 773, 774, 775, 776, 777, 778, 779, 294, 295, 296, 297, 285, 286, 287, 780, 781, 782, 33, 783, 784, 785, 786, 787, 788, 789, 594, 595, 596, 790, 791, 39, 792, 793, 794, 795, 796, 797, 798, 799, 800, 42, 801, 802, 803, 804, 805, 806, 807, 808, 809, 861, 862, 863, 864, 865, 866, 867, 868, 869, 870, 871, 872, 873, 911, 908, 907, 909, 910, 906, 912, 913, 914, 915, 916, 898] (by decide +kernel) (by decide +kernel)
set_option maxRecDepth 20000 in
theorem gL_law_X11_rate : GoodIn wsL_law (wsV RL 118 RX11 yX11_rate wsX11_rate) := goodIn_app (goodIn_of _ (by decide +kernel)) ggL_law_X11_rate
set_option maxRecDepth 20000 in
theorem ggL_law_X12_rate : GoodIn wsL_law wsX12_rate := goodIn_r _ [813, 744, 814, 815, 816, 817, 818, 819, 820, 125, 158, 159, 5, 160, 357, 358, 359, 360, 124, 361, 362, 363, 364, 365, 366, 367, 368, 431, 432, 433, 369, 370, 371, 372, 874, 875, 876, 877, 878, 879, 880, 881, 882, 883, 884, 885, 886, 887, 888, 889, 890, 891] (by decide +kernel) (by decide +kernel)
set_option maxRecDepth 20000 in
theorem gL_law_X12_rate : GoodIn wsL_law (wsV RL 121 RX12 yX12_rate wsX12_rate) := goodIn_app (goodIn_of _ (by decide +kernel)) ggL_law_X12_rate
set_option maxRecDepth 20000 in
theorem ggL_law_X11_keep : GoodIn wsL_law wsX11_keep := goodIn_r _ [824, 23, 19, 575, 576, 2, 577, 825, 826, 827, 22, 828, 446, 69, 448, 449, 450, 451, 71, 387, 388, 389, 18, 390, 64, 861, 862, 863, 864, 865, 866, 867, 868, 869, 870, 871, 872, 873, 898, 899, 900, 901, 902, 903] (by decide +kernel) (by decide +kernel)
set_option maxRecDepth 20000 in
theorem gL_law_X11_keep : GoodIn wsL_law (wsV RL 122 RX11 yX11_keep wsX11_keep) := goodIn_app (goodIn_of _ (by decide +kernel)) ggL_law_X11_keep
set_option maxRecDepth 20000 in
theorem ggL_law_X12_keep : GoodIn wsL_law wsX12_keep := goodIn_r _ [832, 131, 125, 158, 159, 5, 160, 874, 875, 876, 877, 878, 879, 880, 881, 882, 883, 884, 885, 886, 887, 888, 889, 890, 891] (by decide +kernel) (by decide +kernel)
set_option maxRecDepth 20000 in
theorem gL_law_X12_keep : GoodIn wsL_law (wsV RL 125 RX12 yX12_keep wsX12_keep) := goodIn_app (goodIn_of _ (by decide +kernel)) ggL_law_X12_keep
set_option maxRecDepth 20000 in
theorem ggL_law_X11_back : GoodIn wsL_law wsX11_back := goodIn_r _ [836, 23, 19, 575, 576, 2, 577, 837, 838, 839, 22, 840, 71, 69, 446, 448, 449, 450, 451, 243, 387, 388, 389, 18, 390, 64, 861, 862, 863, 864, 865, 866, 867, 868, 869, 870, 871, 872, 873, 899, 900, 901, 902, 903, 898] (by decide +kernel) (by decide +kernel)
set_option maxRecDepth 20000 in
theorem gL_law_X11_back : GoodIn wsL_law (wsV RL 126 RX11 yX11_back wsX11_back) := goodIn_app (goodIn_of _ (by decide +kernel)) ggL_law_X11_back
set_option maxRecDepth 20000 in
theorem ggL_law_X12_back : GoodIn wsL_law wsX12_back := goodIn_r _ [844, 131, 125, 141, 158, 159, 5, 160, 874, 875, 876, 877, 878, 879, 880, 881, 882, 883, 884, 885, 886, 887, 888, 889, 890, 891] (by decide +kernel) (by decide +kernel)
set_option maxRecDepth 20000 in
theorem gL_law_X12_back : GoodIn wsL_law (wsV RL 129 RX12 yX12_back wsX12_back) := goodIn_app (goodIn_of _ (by decide +kernel)) ggL_law_X12_back
set_option maxRecDepth 20000 in
theorem ggL_law_X11_count : GoodIn wsL_law wsX11_count := goodIn_r _ [848, 55, 574, 292, 177, 15, 146, 861, 862, 863, 864, 865, 866, 867, 868, 869, 870, 871, 872, 873, 912, 913, 914, 915, 916, 892, 893, 894, 895, 896, 897] (by decide +kernel) (by decide +kernel)
set_option maxRecDepth 20000 in
theorem gL_law_X11_count : GoodIn wsL_law (wsV RL 130 RX11 yX11_count wsX11_count) := goodIn_app (goodIn_of _ (by decide +kernel)) ggL_law_X11_count
set_option maxRecDepth 20000 in
theorem ggL_law_X12_count : GoodIn wsL_law wsX12_count := goodIn_r _ [852, 124, 140, 157, 874, 875, 876, 877, 878, 879, 880, 881, 882, 883, 884, 885, 886, 887, 888, 889, 890, 891] (by decide +kernel) (by decide +kernel)
set_option maxRecDepth 20000 in
theorem gL_law_X12_count : GoodIn wsL_law (wsV RL 133 RX12 yX12_count wsX12_count) := goodIn_app (goodIn_of _ (by decide +kernel)) ggL_law_X12_count
set_option maxRecDepth 20000 in
theorem ggL_law_X11_trace : GoodIn wsL_law wsX11_trace := goodIn_r _ [856, 753, 861, 862, 863, 864, 865, 866, 867, 868, 869, 870, 871, 872, 873] (by decide +kernel) (by decide +kernel)
set_option maxRecDepth 20000 in
theorem gL_law_X11_trace : GoodIn wsL_law (wsV RL 134 RX11 yX11_trace wsX11_trace) := goodIn_app (goodIn_of _ (by decide +kernel)) ggL_law_X11_trace
set_option maxRecDepth 20000 in
theorem ggL_law_X12_trace : GoodIn wsL_law wsX12_trace := goodIn_r _ [860, 815, 874, 875, 876, 877, 878, 879, 880, 881, 882, 883, 884, 885, 886, 887, 888, 889, 890, 891] (by decide +kernel) (by decide +kernel)
set_option maxRecDepth 20000 in
theorem gL_law_X12_trace : GoodIn wsL_law (wsV RL 138 RX12 yX12_trace wsX12_trace) := goodIn_app (goodIn_of _ (by decide +kernel)) ggL_law_X12_trace

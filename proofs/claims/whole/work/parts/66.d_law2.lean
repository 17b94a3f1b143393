theorem inlX0 : ∀ w ∈ wsX00, w ∈ wsL_law := fun _ h => List.mem_append_left _ (List.mem_append_left _ (List.mem_append_left _ (List.mem_append_left _ (List.mem_append_right _ h))))
theorem inX0 : ∀ w ∈ wsX00, w ∈ lw_tbl := fun w h => wsL_law_in w (inlX0 w h)
theorem inlX1 : ∀ w ∈ wsX10, w ∈ wsL_law := fun _ h => List.mem_append_left _ (List.mem_append_left _ (List.mem_append_left _ (List.mem_append_right _ h)))
theorem inX1 : ∀ w ∈ wsX10, w ∈ lw_tbl := fun w h => wsL_law_in w (inlX1 w h)
theorem inlX2 : ∀ w ∈ wsX20, w ∈ wsL_law := fun _ h => List.mem_append_left _ (List.mem_append_left _ (List.mem_append_right _ h))
theorem inX2 : ∀ w ∈ wsX20, w ∈ lw_tbl := fun w h => wsL_law_in w (inlX2 w h)
theorem inlX3 : ∀ w ∈ wsX30, w ∈ wsL_law := fun _ h => List.mem_append_left _ (List.mem_append_left _ (List.mem_append_left _ (List.mem_append_left _ (List.mem_append_left _ (List.mem_append_right _ h)))))
theorem inX3 : ∀ w ∈ wsX30, w ∈ lw_tbl := fun w h => wsL_law_in w (inlX3 w h)
theorem inlX4 : ∀ w ∈ wsX40, w ∈ wsL_law := fun _ h => List.mem_append_left _ (List.mem_append_left _ (List.mem_append_left _ (List.mem_append_left _ (List.mem_append_left _ (List.mem_append_left _ (List.mem_append_left _ (List.mem_append_left _ (List.mem_append_right _ h))))))))
theorem inX4 : ∀ w ∈ wsX40, w ∈ lw_tbl := fun w h => wsL_law_in w (inlX4 w h)
theorem inlX5 : ∀ w ∈ wsX50, w ∈ wsL_law := fun _ h => List.mem_append_left _ (List.mem_append_right _ h)
theorem inX5 : ∀ w ∈ wsX50, w ∈ lw_tbl := fun w h => wsL_law_in w (inlX5 w h)
theorem inlX6 : ∀ w ∈ wsX60, w ∈ wsL_law := fun _ h => List.mem_append_left _ (List.mem_append_left _ (List.mem_append_left _ (List.mem_append_left _ (List.mem_append_left _ (List.mem_append_left _ (List.mem_append_right _ h))))))
theorem inX6 : ∀ w ∈ wsX60, w ∈ lw_tbl := fun w h => wsL_law_in w (inlX6 w h)
theorem inlX7 : ∀ w ∈ wsX70, w ∈ wsL_law := fun _ h => List.mem_append_left _ (List.mem_append_left _ (List.mem_append_left _ (List.mem_append_left _ (List.mem_append_left _ (List.mem_append_left _ (List.mem_append_left _ (List.mem_append_right _ h)))))))
theorem inX7 : ∀ w ∈ wsX70, w ∈ lw_tbl := fun w h => wsL_law_in w (inlX7 w h)
theorem inlX8 : ∀ w ∈ wsX80, w ∈ wsL_law := fun _ h => List.mem_append_left _ (List.mem_append_left _ (List.mem_append_left _ (List.mem_append_left _ (List.mem_append_left _ (List.mem_append_left _ (List.mem_append_left _ (List.mem_append_left _ (List.mem_append_left _ (List.mem_append_left _ (List.mem_append_right _ h))))))))))
theorem inX8 : ∀ w ∈ wsX80, w ∈ lw_tbl := fun w h => wsL_law_in w (inlX8 w h)
theorem inlX9 : ∀ w ∈ wsX90, w ∈ wsL_law := fun _ h => List.mem_append_left _ (List.mem_append_left _ (List.mem_append_left _ (List.mem_append_left _ (List.mem_append_left _ (List.mem_append_left _ (List.mem_append_left _ (List.mem_append_left _ (List.mem_append_left _ (List.mem_append_right _ h)))))))))
theorem inX9 : ∀ w ∈ wsX90, w ∈ lw_tbl := fun w h => wsL_law_in w (inlX9 w h)
theorem inJ6 : ∀ w ∈ wsJ60, w ∈ lw_tbl := by decide +kernel
theorem inJ9 : ∀ w ∈ wsJ90, w ∈ lw_tbl := by decide +kernel
theorem inJ10 : ∀ w ∈ wsJ100, w ∈ lw_tbl := by decide +kernel
set_option maxRecDepth 20000 in
theorem ggL_law_X8_init : GoodIn wsL_law wsX8_init := goodIn_r _ [8, 9, 10, 11, 12, 13, 14, 15, 16, 17, 18, 19, 20, 21, 22, 23, 24, 25, 26, 27, 28, 29, 30, 31, 32, 33, 34, 35, 36, 37, 38, 39, 40, 41, 42, 43, 44, 45, 46, 47, 48, 49, 50, 51, 52, 53, 54, 55, 56, 57, 58, 59, 60, 61, 62, 63, 64, 65, 66, 67, 68, 69, 70, 71, 72, 73, 74, 75, 76, 77, 78, 79, 80, 81, 82, 83, 84, 85, 86, 87, 88, 89, 90, 91, 92, 93, 980, 981, 982, 983, 984, 985, 932, 933, 934, 935, 936, 937, 938, 939, 940, 941, 986, 987, 988, 989, 990, 991, 992, 993, 994, 995, 996, 997, 998, 999, 1000, 1001, 1002, 1003, 1004, 1005, 1006, 1007, 1008, 1009, 1010, 1011, 1012, 1013, 1014, 1015, 1016, 1017, 1018, 1019, 1020] (by decide +kernel) (by decide +kernel)
set_option maxRecDepth 20000 in
theorem gL_law_X8_init : GoodIn wsL_law (wsX8_init) := ggL_law_X8_init
set_option maxRecDepth 20000 in
theorem ggL_law_X9_init : GoodIn wsL_law wsX9_init := goodIn_r _ [96, 97, 10, 11, 49, 98, 99, 100, 101, 102, 103, 104, 105, 106, 107, 108, 109, 110, 111, 112, 113, 77, 114, 115, 116, 117, 942, 943, 944, 945, 946, 947, 948, 949, 950, 951, 952, 953, 954, 955, 956, 957, 958, 959, 960, 961, 962, 963, 964, 965, 966, 967, 968, 969, 970, 971, 972, 973, 974, 975, 976, 977, 978, 979] (by decide +kernel) (by decide +kernel)
set_option maxRecDepth 20000 in
theorem gL_law_X9_init : GoodIn wsL_law (wsX9_init) := ggL_law_X9_init
set_option maxRecDepth 20000 in
theorem ggL_law_X8_feed : GoodIn wsL_law wsX8_feed := goodIn_r _ [121, 122, 15, 123, 124, 125, 126, 127, 14, 128, 129, 50, 932, 933, 934, 935, 936, 937, 938, 939, 940, 941, 980, 981, 982, 983, 984, 985] (by decide +kernel) (by decide +kernel)
set_option maxRecDepth 20000 in
theorem gL_law_X8_feed : GoodIn wsL_law (wsV RL 13 RX8 yX8_feed wsX8_feed) := goodIn_app (goodIn_of _ (by decide +kernel)) ggL_law_X8_feed
set_option maxRecDepth 20000 in
theorem ggL_law_X9_feed : GoodIn wsL_law wsX9_feed := goodIn_r _ [133, 134, 135, 136, 137, 104, 138, 139, 5, 140, 942, 943, 944, 945, 946, 947, 948, 949, 950, 951, 952, 953, 954, 955, 956, 957, 958, 959, 960, 961, 962, 963, 964, 965, 966, 967, 968, 969, 970, 971, 972, 973, 974, 975, 976, 977, 978, 979] (by decide +kernel) (by decide +kernel)
set_option maxRecDepth 20000 in
theorem gL_law_X9_feed : GoodIn wsL_law (wsV RL 17 RX9 yX9_feed wsX9_feed) := goodIn_app (goodIn_of _ (by decide +kernel)) ggL_law_X9_feed
set_option maxRecDepth 20000 in
theorem ggL_law_X8_yard : GoodIn wsL_law wsX8_yard := goodIn_r _ [144, 15, 20, 19, 24, 29, 33, 145, 41, 146, 147, 148, 149, 14, 150, 151, 152, 51, 129, 153, 154, 155, 18, 156, 157, 158, 159, 160, 161, 162, 163, 164, 165, 166, 167, 168, 169, 170, 50, 171, 172, 173, 174, 175, 176, 177, 178, 179, 180, 181, 182, 183, 184, 185, 186, 187, 188, 189, 190, 191, 192, 193, 194, 195, 196, 197, 198, 199, 200, 201, 202, 203, 204, 205, 206, 207, 208, 209, 210, 211, 55, 212, 213, 214, 215, 216, 217, 218, 219, 56, 57, 58, 59, 220, 221, 222, 223, 224, 225, 226, 227, 228, 229, 230, 231, 232, 233, 234, 235, 236, 237, 238, 239, 240, 241, 23, 242, 243, 244, 245, 246, 247, 248, 249, 250, 64, 251, 252, 253, 28, 254, 255, 256, 257, 258, 40, 259, 89, 932, 933, 934, 935, 936, 937, 938, 939, 940, 941, 1011, 1012, 1013, 986, 987, 988, 989, 990, 991, 992, 993, 994, 995, 996, 997, 980, 981, 982, 983, 984, 985, 998, 999, 1000, 1001, 1002, 1003, 1004, 1005, 1006, 1007, 1008, 1009, 1010, 1015, 1016, 1017] (by decide +kernel) (by decide +kernel)
set_option maxRecDepth 20000 in
theorem gL_law_X8_yard : GoodIn wsL_law (wsV RL 18 RX8 yX8_yard wsX8_yard) := goodIn_app (goodIn_of _ (by decide +kernel)) ggL_law_X8_yard
set_option maxRecDepth 20000 in
theorem ggL_law_X9_yard : GoodIn wsL_law wsX9_yard := goodIn_r _ [263, 105, 264, 265, 266, 267, 268, 136, 269, 270, 116, 271, 272, 273, 274, 5, 275, 104, 276, 277, 278, 279, 280, 281, 282, 283, 284, 285, 286, 287, 288, 289, 290, 291, 292, 293, 294, 295, 296, 297, 298, 299, 300, 301, 138, 139, 140, 302, 303, 304, 305, 106, 306, 307, 308, 309, 310, 311, 312, 313, 110, 107, 108, 109, 314, 315, 316, 317, 318, 319, 320, 321, 322, 323, 324, 117, 325, 326, 327, 328, 98, 99, 100, 101, 102, 103, 329, 330, 331, 942, 943, 944, 945, 946, 947, 948, 949, 950, 951, 952, 953, 954, 955, 956, 957, 958, 959, 960, 961, 962, 963, 964, 965, 966, 967, 968, 969, 970, 971, 972, 973, 974, 975, 976, 977, 978, 979] (by decide +kernel) (by decide +kernel)
set_option maxRecDepth 20000 in
theorem gL_law_X9_yard : GoodIn wsL_law (wsV RL 22 RX9 yX9_yard wsX9_yard) := goodIn_app (goodIn_of _ (by decide +kernel)) ggL_law_X9_yard
set_option maxRecDepth 20000 in
theorem ggL_law_X8_fault : GoodIn wsL_law wsX8_fault := goodIn_r _ [335, 15, 336, 932, 933, 934, 935, 936, 937, 938, 939, 940, 941, 980, 981, 982, 983, 984, 985] (by decide +kernel) (by decide +kernel)
set_option maxRecDepth 20000 in
theorem gL_law_X8_fault : GoodIn wsL_law (wsV RL 23 RX8 yX8_fault wsX8_fault) := goodIn_app (goodIn_of _ (by decide +kernel)) ggL_law_X8_fault
set_option maxRecDepth 20000 in
theorem ggL_law_X9_fault : GoodIn wsL_law wsX9_fault := goodIn_r _ [340, 105, 942, 943, 944, 945, 946, 947, 948, 949, 950, 951, 952, 953, 954, 955, 956, 957, 958, 959, 960, 961, 962, 963, 964, 965, 966, 967, 968, 969, 970, 971, 972, 973, 974, 975, 976, 977, 978, 979] (by decide +kernel) (by decide +kernel)
set_option maxRecDepth 20000 in
theorem gL_law_X9_fault : GoodIn wsL_law (wsV RL 26 RX9 yX9_fault wsX9_fault) := goodIn_app (goodIn_of _ (by decide +kernel)) ggL_law_X9_fault
set_option maxRecDepth 20000 in
theorem ggL_law_X8_told : GoodIn wsL_law wsX8_told := goodIn_r _ [344, 19, 345, 146, 346, 15, 123, 24, 347, 348, 349, 350, 351, 352, 353, 33, 145, 29, 354, 355, 122, 356, 357, 358, 18, 359, 161, 59, 232, 233, 234, 360, 361, 362, 363, 58, 364, 365, 366, 367, 368, 369, 370, 371, 372, 373, 374, 375, 376, 377, 378, 379, 932, 933, 934, 935, 936, 937, 938, 939, 940, 941, 986, 987, 988, 989, 990, 991, 992, 993, 994, 995, 996, 997, 980, 981, 982, 983, 984, 985, 998, 999, 1000, 1001, 1002, 1003, 1004, 1005, 1006, 1007, 1011, 1012, 1013, 1008, 1009, 1010] (by decide +kernel) (by decide +kernel)
set_option maxRecDepth 20000 in
theorem gL_law_X8_told : GoodIn wsL_law (wsV RL 27 RX8 yX8_told wsX8_told) := goodIn_app (goodIn_of _ (by decide +kernel)) ggL_law_X8_told
set_option maxRecDepth 20000 in
theorem ggL_law_X9_told : GoodIn wsL_law wsX9_told := goodIn_r _ [383, 327, 271, 328, 136, 103, 269, 270, 326, 135, 384, 385, 386, 5, 387, 388, 389, 390, 391, 102, 318, 319, 320, 392, 393, 394, 395, 101, 396, 397, 398, 399, 400, 401, 402, 403, 404, 405, 406, 942, 943, 944, 945, 946, 947, 948, 949, 950, 951, 952, 953, 954, 955, 956, 957, 958, 959, 960, 961, 962, 963, 964, 965, 966, 967, 968, 969, 970, 971, 972, 973, 974, 975, 976, 977, 978, 979] (by decide +kernel) (by decide +kernel)
set_option maxRecDepth 20000 in
theorem gL_law_X9_told : GoodIn wsL_law (wsV RL 30 RX9 yX9_told wsX9_told) := goodIn_app (goodIn_of _ (by decide +kernel)) ggL_law_X9_told
set_option maxRecDepth 20000 in
theorem ggL_law_X8_saying : GoodIn wsL_law wsX8_saying := goodIn_r _ [410, 19, 411, 412, 413, 414, 24, 415, 350, 416, 122, 417, 229, 230, 18, 231, 161, 418, 419, 420, 421, 59, 60, 422, 423, 424, 425, 232, 233, 234, 426, 427, 428, 429, 430, 369, 370, 371, 372, 357, 358, 359, 932, 933, 934, 935, 936, 937, 938, 939, 940, 941, 986, 987, 988, 989, 990, 991, 992, 993, 994, 995, 996, 997, 998, 999, 1000, 1001, 1002, 1003, 1004, 1005, 1006, 1007] (by decide +kernel) (by decide +kernel)
set_option maxRecDepth 20000 in
theorem gL_law_X8_saying : GoodIn wsL_law (wsV RL 31 RX8 yX8_saying wsX8_saying) := goodIn_app (goodIn_of _ (by decide +kernel)) ggL_law_X8_saying
set_option maxRecDepth 20000 in
theorem ggL_law_X9_saying : GoodIn wsL_law wsX9_saying := goodIn_r _ [434, 435, 99, 100, 101, 103, 102, 135, 436, 437, 438, 5, 439, 271, 138, 139, 140, 440, 441, 442, 443, 111, 318, 319, 320, 444, 445, 446, 447, 400, 401, 402, 403, 384, 385, 386, 387, 388, 389, 390, 391, 942, 943, 944, 945, 946, 947, 948, 949, 950, 951, 952, 953, 954, 955, 956, 957, 958, 959, 960, 961, 962, 963, 964, 965, 966, 967, 968, 969, 970, 971, 972, 973, 974, 975, 976, 977, 978, 979] (by decide +kernel) (by decide +kernel)
set_option maxRecDepth 20000 in
theorem gL_law_X9_saying : GoodIn wsL_law (wsV RL 35 RX9 yX9_saying wsX9_saying) := goodIn_app (goodIn_of _ (by decide +kernel)) ggL_law_X9_saying
set_option maxRecDepth 20000 in
theorem ggL_law_X8_person : GoodIn wsL_law wsX8_person := goodIn_r _ [451, 19, 411, 452, 24, 348, 122, 453, 454, 455, 18, 456, 160, 457, 458, 459, 460, 161, 56, 461, 462, 463, 464, 59, 232, 233, 234, 465, 466, 467, 468, 55, 469, 932, 933, 934, 935, 936, 937, 938, 939, 940, 941, 986, 987, 988, 989, 990, 991, 992, 993, 994, 995, 996, 997, 998, 999, 1000, 1001, 1002, 1003, 1004, 1005, 1006, 1007] (by decide +kernel) (by decide +kernel)
set_option maxRecDepth 20000 in
theorem gL_law_X8_person : GoodIn wsL_law (wsV RL 36 RX8 yX8_person wsX8_person) := goodIn_app (goodIn_of _ (by decide +kernel)) ggL_law_X8_person
set_option maxRecDepth 20000 in
theorem ggL_law_X9_person : GoodIn wsL_law wsX9_person := goodIn_r _ [473, 435, 98, 135, 474, 475, 476, 5, 477, 327, 138, 139, 140, 478, 479, 480, 481, 271, 99, 482, 483, 484, 485, 102, 318, 319, 320, 486, 487, 488, 489, 103, 490, 491, 492, 493, 942, 943, 944, 945, 946, 947, 948, 949, 950, 951, 952, 953, 954, 955, 956, 957, 958, 959, 960, 961, 962, 963, 964, 965, 966, 967, 968, 969, 970, 971, 972, 973, 974, 975, 976, 977, 978, 979] (by decide +kernel) (by decide +kernel)
set_option maxRecDepth 20000 in
theorem gL_law_X9_person : GoodIn wsL_law (wsV RL 39 RX9 yX9_person wsX9_person) := goodIn_app (goodIn_of _ (by decide +kernel)) ggL_law_X9_person
set_option maxRecDepth 20000 in
theorem ggL_law_X8_queued : GoodIn wsL_law wsX8_queued := goodIn_r _ [497, 122, 24, 353, 498, 499, 932, 933, 934, 935, 936, 937, 938, 939, 940, 941, 998, 999, 1000, 1001, 1002, 1003, 1004, 1005, 1006, 1007] (by decide +kernel) (by decide +kernel)
set_option maxRecDepth 20000 in
theorem gL_law_X8_queued : GoodIn wsL_law (wsV RL 40 RX8 yX8_queued wsX8_queued) := goodIn_app (goodIn_of _ (by decide +kernel)) ggL_law_X8_queued
set_option maxRecDepth 20000 in
theorem ggL_law_X9_queued : GoodIn wsL_law wsX9_queued := goodIn_r _ [503, 135, 103, 138, 139, 5, 140, 942, 943, 944, 945, 946, 947, 948, 949, 950, 951, 952, 953, 954, 955, 956, 957, 958, 959, 960, 961, 962, 963, 964, 965, 966, 967, 968, 969, 970, 971, 972, 973, 974, 975, 976, 977, 978, 979] (by decide +kernel) (by decide +kernel)
set_option maxRecDepth 20000 in
theorem gL_law_X9_queued : GoodIn wsL_law (wsV RL 43 RX9 yX9_queued wsX9_queued) := goodIn_app (goodIn_of _ (by decide +kernel)) ggL_law_X9_queued
set_option maxRecDepth 20000 in
theorem ggL_law_X8_pour : GoodIn wsL_law wsX8_pour := goodIn_r _ [507, 19, 411, 24, 508, 29, 453, 454, 455, 18, 456, 160, 417, 229, 230, 231, 161, 509, 510, 511, 23, 512, 248, 249, 513, 64, 514, 244, 515, 516, 424, 517, 518, 519, 520, 521, 233, 234, 522, 523, 524, 28, 525, 72, 526, 255, 527, 528, 529, 530, 531, 245, 246, 247, 250, 532, 533, 534, 535, 65, 66, 536, 537, 538, 539, 540, 932, 933, 934, 935, 936, 937, 938, 939, 940, 941, 986, 987, 988, 989, 990, 991, 992, 993, 994, 995, 996, 997, 998, 999, 1000, 1001, 1002, 1003, 1004, 1005, 1006, 1007, 1008, 1009, 1010] (by decide +kernel) (by decide +kernel)
set_option maxRecDepth 20000 in
theorem gL_law_X8_pour : GoodIn wsL_law (wsV RL 44 RX8 yX8_pour wsX8_pour) := goodIn_app (goodIn_of _ (by decide +kernel)) ggL_law_X8_pour
set_option maxRecDepth 20000 in
theorem ggL_law_X9_pour : GoodIn wsL_law wsX9_pour := goodIn_r _ [544, 435, 545, 474, 475, 476, 5, 477, 327, 138, 139, 140, 436, 437, 438, 439, 271, 546, 547, 548, 549, 103, 318, 319, 320, 550, 551, 552, 553, 99, 100, 98, 554, 555, 556, 557, 270, 112, 558, 559, 560, 561, 942, 943, 944, 945, 946, 947, 948, 949, 950, 951, 952, 953, 954, 955, 956, 957, 958, 959, 960, 961, 962, 963, 964, 965, 966, 967, 968, 969, 970, 971, 972, 973, 974, 975, 976, 977, 978, 979] (by decide +kernel) (by decide +kernel)
set_option maxRecDepth 20000 in
theorem gL_law_X9_pour : GoodIn wsL_law (wsV RL 47 RX9 yX9_pour wsX9_pour) := goodIn_app (goodIn_of _ (by decide +kernel)) ggL_law_X9_pour
set_option maxRecDepth 20000 in
theorem ggL_law_X8_say : GoodIn wsL_law wsX8_say := goodIn_r _ [565, 19, 411, 29, 24, 417, 229, 230, 18, 231, 161, 522, 523, 524, 28, 525, 72, 526, 255, 527, 516, 424, 517, 528, 529, 530, 23, 531, 244, 245, 246, 247, 248, 249, 250, 64, 532, 533, 534, 535, 65, 66, 566, 567, 568, 569, 932, 933, 934, 935, 936, 937, 938, 939, 940, 941, 986, 987, 988, 989, 990, 991, 992, 993, 994, 995, 996, 997, 1008, 1009, 1010, 998, 999, 1000, 1001, 1002, 1003, 1004, 1005, 1006, 1007] (by decide +kernel) (by decide +kernel)
set_option maxRecDepth 20000 in
theorem gL_law_X8_say : GoodIn wsL_law (wsV RL 48 RX8 yX8_say wsX8_say) := goodIn_app (goodIn_of _ (by decide +kernel)) ggL_law_X8_say
set_option maxRecDepth 20000 in
theorem ggL_law_X9_say : GoodIn wsL_law wsX9_say := goodIn_r _ [573, 435, 436, 437, 438, 5, 439, 271, 138, 139, 140, 554, 555, 556, 557, 270, 112, 103, 574, 575, 576, 577, 942, 943, 944, 945, 946, 947, 948, 949, 950, 951, 952, 953, 954, 955, 956, 957, 958, 959, 960, 961, 962, 963, 964, 965, 966, 967, 968, 969, 970, 971, 972, 973, 974, 975, 976, 977, 978, 979] (by decide +kernel) (by decide +kernel)
set_option maxRecDepth 20000 in
theorem gL_law_X9_say : GoodIn wsL_law (wsV RL 51 RX9 yX9_say wsX9_say) := goodIn_app (goodIn_of _ (by decide +kernel)) ggL_law_X9_say
set_option maxRecDepth 20000 in
theorem ggL_law_X8_vow : GoodIn wsL_law wsX8_vow := goodIn_r _ [581, 19, 411, 29, 24, 351, 417, 229, 230, 18, 231, 161, 522, 523, 524, 28, 525, 72, 526, 255, 527, 516, 424, 517, 528, 529, 530, 23, 531, 244, 245, 246, 247, 248, 249, 250, 64, 532, 533, 534, 535, 65, 66, 932, 933, 934, 935, 936, 937, 938, 939, 940, 941, 998, 999, 1000, 1001, 1002, 1003, 1004, 1005, 1006, 1007, 986, 987, 988, 989, 990, 991, 992, 993, 994, 995, 996, 997, 1008, 1009, 1010] (by decide +kernel) (by decide +kernel)
set_option maxRecDepth 20000 in
theorem gL_law_X8_vow : GoodIn wsL_law (wsV RL 52 RX8 yX8_vow wsX8_vow) := goodIn_app (goodIn_of _ (by decide +kernel)) ggL_law_X8_vow
set_option maxRecDepth 20000 in
theorem ggL_law_X9_vow : GoodIn wsL_law wsX9_vow := goodIn_r _ [585, 435, 103, 436, 437, 438, 5, 439, 271, 138, 139, 140, 554, 555, 556, 557, 270, 112, 942, 943, 944, 945, 946, 947, 948, 949, 950, 951, 952, 953, 954, 955, 956, 957, 958, 959, 960, 961, 962, 963, 964, 965, 966, 967, 968, 969, 970, 971, 972, 973, 974, 975, 976, 977, 978, 979] (by decide +kernel) (by decide +kernel)
set_option maxRecDepth 20000 in
theorem gL_law_X9_vow : GoodIn wsL_law (wsV RL 56 RX9 yX9_vow wsX9_vow) := goodIn_app (goodIn_of _ (by decide +kernel)) ggL_law_X9_vow
set_option maxRecDepth 20000 in
theorem ggL_law_X8_night : GoodIn wsL_law wsX8_night := goodIn_r _ [589, 29, 24, 19, 355, 348, 590, 591, 592, 2, 593, 122, 594, 508, 347, 124, 522, 523, 524, 28, 525, 72, 526, 255, 527, 516, 424, 517, 528, 529, 530, 23, 531, 244, 245, 246, 247, 248, 249, 250, 64, 532, 533, 534, 535, 65, 66, 595, 596, 597, 598, 515, 932, 933, 934, 935, 936, 937, 938, 939, 940, 941, 986, 987, 988, 989, 990, 991, 992, 993, 994, 995, 996, 997, 998, 999, 1000, 1001, 1002, 1003, 1004, 1005, 1006, 1007, 1008, 1009, 1010] (by decide +kernel) (by decide +kernel)
set_option maxRecDepth 20000 in
theorem gL_law_X8_night : GoodIn wsL_law (wsV RL 57 RX8 yX8_night wsX8_night) := goodIn_app (goodIn_of _ (by decide +kernel)) ggL_law_X8_night
set_option maxRecDepth 20000 in
theorem ggL_law_X9_night : GoodIn wsL_law wsX9_night := goodIn_r _ [602, 103, 603, 604, 605, 5, 606, 607, 135, 117, 545, 137, 138, 139, 140, 554, 555, 556, 557, 270, 112, 608, 609, 610, 611, 326, 612, 613, 614, 942, 943, 944, 945, 946, 947, 948, 949, 950, 951, 952, 953, 954, 955, 956, 957, 958, 959, 960, 961, 962, 963, 964, 965, 966, 967, 968, 969, 970, 971, 972, 973, 974, 975, 976, 977, 978, 979] (by decide +kernel) (by decide +kernel)
set_option maxRecDepth 20000 in
theorem gL_law_X9_night : GoodIn wsL_law (wsV RL 60 RX9 yX9_night wsX9_night) := goodIn_app (goodIn_of _ (by decide +kernel)) ggL_law_X9_night
set_option maxRecDepth 20000 in
theorem ggL_law_X8_rain : GoodIn wsL_law wsX8_rain := goodIn_r _ [618, 122, 19, 594, 508, 29, 24, 349, 522, 523, 524, 28, 525, 72, 526, 255, 527, 516, 424, 517, 528, 529, 530, 23, 531, 244, 245, 246, 247, 248, 249, 250, 64, 532, 533, 534, 535, 65, 66, 932, 933, 934, 935, 936, 937, 938, 939, 940, 941, 986, 987, 988, 989, 990, 991, 992, 993, 994, 995, 996, 997, 998, 999, 1000, 1001, 1002, 1003, 1004, 1005, 1006, 1007, 1008, 1009, 1010] (by decide +kernel) (by decide +kernel)
set_option maxRecDepth 20000 in
theorem gL_law_X8_rain : GoodIn wsL_law (wsV RL 61 RX8 yX8_rain wsX8_rain) := goodIn_app (goodIn_of _ (by decide +kernel)) ggL_law_X8_rain
set_option maxRecDepth 20000 in
theorem ggL_law_X9_rain : GoodIn wsL_law wsX9_rain := goodIn_r _ [622, 623, 135, 117, 545, 103, 138, 139, 5, 140, 554, 555, 556, 557, 270, 112, 942, 943, 944, 945, 946, 947, 948, 949, 950, 951, 952, 953, 954, 955, 956, 957, 958, 959, 960, 961, 962, 963, 964, 965, 966, 967, 968, 969, 970, 971, 972, 973, 974, 975, 976, 977, 978, 979] (by decide +kernel) (by decide +kernel)
set_option maxRecDepth 20000 in
theorem gL_law_X9_rain : GoodIn wsL_law (wsV RL 64 RX9 yX9_rain wsX9_rain) := goodIn_app (goodIn_of _ (by decide +kernel)) ggL_law_X9_rain
set_option maxRecDepth 20000 in
theorem ggL_law_X8_queue : GoodIn wsL_law wsX8_queue := goodIn_r _ [627, 19, 411, 24, 353, 124, 29, 453, 454, 455, 18, 456, 160, 417, 229, 230, 231, 161, 522, 523, 524, 28, 525, 72, 526, 255, 527, 516, 424, 517, 528, 529, 530, 23, 531, 244, 245, 246, 247, 248, 249, 250, 64, 532, 533, 534, 535, 65, 66, 628, 629, 630, 631, 932, 933, 934, 935, 936, 937, 938, 939, 940, 941, 998, 999, 1000, 1001, 1002, 1003, 1004, 1005, 1006, 1007, 986, 987, 988, 989, 990, 991, 992, 993, 994, 995, 996, 997, 1008, 1009, 1010] (by decide +kernel) (by decide +kernel)
set_option maxRecDepth 20000 in
theorem gL_law_X8_queue : GoodIn wsL_law (wsV RL 65 RX8 yX8_queue wsX8_queue) := goodIn_app (goodIn_of _ (by decide +kernel)) ggL_law_X8_queue
set_option maxRecDepth 20000 in
theorem ggL_law_X9_queue : GoodIn wsL_law wsX9_queue := goodIn_r _ [635, 435, 103, 137, 474, 475, 476, 5, 477, 327, 138, 139, 140, 436, 437, 438, 439, 271, 554, 555, 556, 557, 270, 112, 636, 637, 638, 639, 942, 943, 944, 945, 946, 947, 948, 949, 950, 951, 952, 953, 954, 955, 956, 957, 958, 959, 960, 961, 962, 963, 964, 965, 966, 967, 968, 969, 970, 971, 972, 973, 974, 975, 976, 977, 978, 979] (by decide +kernel) (by decide +kernel)
set_option maxRecDepth 20000 in
theorem gL_law_X9_queue : GoodIn wsL_law (wsV RL 68 RX9 yX9_queue wsX9_queue) := goodIn_app (goodIn_of _ (by decide +kernel)) ggL_law_X9_queue
set_option maxRecDepth 20000 in
theorem ggL_law_X8_turn : GoodIn wsL_law wsX8_turn := goodIn_r _ [643, 24, 353, 508, 29, 19, 522, 523, 524, 28, 525, 72, 526, 255, 527, 516, 424, 517, 528, 529, 530, 23, 531, 244, 245, 246, 247, 248, 249, 250, 64, 532, 533, 534, 535, 65, 66, 644, 645, 646, 647, 648, 537, 538, 539, 518, 513, 540, 510, 511, 512, 514, 515, 519, 454, 455, 18, 456, 160, 520, 229, 230, 231, 161, 521, 233, 234, 649, 650, 651, 652, 653, 423, 425, 654, 629, 630, 631, 932, 933, 934, 935, 936, 937, 938, 939, 940, 941, 998, 999, 1000, 1001, 1002, 1003, 1004, 1005, 1006, 1007, 1008, 1009, 1010, 986, 987, 988, 989, 990, 991, 992, 993, 994, 995, 996, 997] (by decide +kernel) (by decide +kernel)
set_option maxRecDepth 20000 in
theorem gL_law_X8_turn : GoodIn wsL_law (wsV RL 69 RX8 yX8_turn wsX8_turn) := goodIn_app (goodIn_of _ (by decide +kernel)) ggL_law_X8_turn
set_option maxRecDepth 20000 in
theorem ggL_law_X9_turn : GoodIn wsL_law wsX9_turn := goodIn_r _ [658, 103, 545, 554, 555, 556, 5, 557, 270, 112, 558, 559, 560, 561, 99, 100, 546, 547, 548, 549, 318, 319, 320, 550, 551, 552, 553, 98, 636, 637, 638, 639, 942, 943, 944, 945, 946, 947, 948, 949, 950, 951, 952, 953, 954, 955, 956, 957, 958, 959, 960, 961, 962, 963, 964, 965, 966, 967, 968, 969, 970, 971, 972, 973, 974, 975, 976, 977, 978, 979] (by decide +kernel) (by decide +kernel)
set_option maxRecDepth 20000 in
theorem gL_law_X9_turn : GoodIn wsL_law (wsV RL 72 RX9 yX9_turn wsX9_turn) := goodIn_app (goodIn_of _ (by decide +kernel)) ggL_law_X9_turn
set_option maxRecDepth 20000 in
theorem ggL_law_X8_drift : GoodIn wsL_law wsX8_drift := goodIn_r _ [662, 29, 24, 19, 37, 355, 348, 590, 591, 592, 2, 593, 122, 594, 508, 347, 124, 522, 523, 524, 28, 525, 72, 526, 255, 527, 516, 424, 517, 528, 529, 530, 23, 531, 244, 245, 246, 247, 248, 249, 250, 64, 532, 533, 534, 535, 65, 66, 663, 664, 665, 666, 667, 668, 669, 670, 671, 36, 672, 673, 674, 675, 676, 677, 648, 537, 538, 539, 518, 513, 540, 510, 511, 512, 514, 515, 519, 454, 455, 18, 456, 160, 520, 229, 230, 231, 161, 521, 233, 234, 678, 567, 568, 569, 595, 596, 597, 598, 932, 933, 934, 935, 936, 937, 938, 939, 940, 941, 986, 987, 988, 989, 990, 991, 992, 993, 994, 995, 996, 997, 998, 999, 1000, 1001, 1002, 1003, 1004, 1005, 1006, 1007, 1008, 1009, 1010, 1014] (by decide +kernel) (by decide +kernel)
set_option maxRecDepth 20000 in
theorem gL_law_X8_drift : GoodIn wsL_law (wsV RL 73 RX8 yX8_drift wsX8_drift) := goodIn_app (goodIn_of _ (by decide +kernel)) ggL_law_X8_drift
set_option maxRecDepth 20000 in
theorem ggL_law_X9_drift : GoodIn wsL_law wsX9_drift := goodIn_r _ [682, 103, 603, 604, 605, 5, 606, 607, 135, 117, 545, 137, 138, 139, 140, 554, 555, 556, 557, 270, 112, 683, 684, 685, 686, 327, 271, 687, 688, 689, 690, 691, 692, 693, 694, 695, 558, 559, 560, 561, 99, 100, 546, 547, 548, 549, 318, 319, 320, 550, 551, 552, 553, 98, 574, 575, 576, 577, 608, 609, 610, 611, 326, 612, 613, 614, 942, 943, 944, 945, 946, 947, 948, 949, 950, 951, 952, 953, 954, 955, 956, 957, 958, 959, 960, 961, 962, 963, 964, 965, 966, 967, 968, 969, 970, 971, 972, 973, 974, 975, 976, 977, 978, 979] (by decide +kernel) (by decide +kernel)
set_option maxRecDepth 20000 in
theorem gL_law_X9_drift : GoodIn wsL_law (wsV RL 76 RX9 yX9_drift wsX9_drift) := goodIn_app (goodIn_of _ (by decide +kernel)) ggL_law_X9_drift
set_option maxRecDepth 20000 in
theorem ggL_law_X8_undo : GoodIn wsL_law wsX8_undo := goodIn_r _ [699, 29, 354, 508, 24, 700, 701, 702, 28, 703, 526, 72, 255, 528, 529, 530, 23, 531, 244, 245, 246, 247, 248, 249, 250, 64, 532, 533, 534, 535, 65, 66, 932, 933, 934, 935, 936, 937, 938, 939, 940, 941, 1008, 1009, 1010, 998, 999, 1000, 1001, 1002, 1003, 1004, 1005, 1006, 1007] (by decide +kernel) (by decide +kernel)
set_option maxRecDepth 20000 in
theorem gL_law_X8_undo : GoodIn wsL_law (wsV RL 77 RX8 yX8_undo wsX8_undo) := goodIn_app (goodIn_of _ (by decide +kernel)) ggL_law_X8_undo
set_option maxRecDepth 20000 in
theorem ggL_law_X9_undo : GoodIn wsL_law wsX9_undo := goodIn_r _ [707, 270, 545, 103, 112, 942, 943, 944, 945, 946, 947, 948, 949, 950, 951, 952, 953, 954, 955, 956, 957, 958, 959, 960, 961, 962, 963, 964, 965, 966, 967, 968, 969, 970, 971, 972, 973, 974, 975, 976, 977, 978, 979] (by decide +kernel) (by decide +kernel)
set_option maxRecDepth 20000 in
theorem gL_law_X9_undo : GoodIn wsL_law (wsV RL 80 RX9 yX9_undo wsX9_undo) := goodIn_app (goodIn_of _ (by decide +kernel)) ggL_law_X9_undo
set_option maxRecDepth 20000 in
theorem ggL_law_X8_state : GoodIn wsL_law wsX8_state := goodIn_r _ [711, 19, 411, 122, 24, 712, 713, 714, 18, 715, 161, 716, 717, 718, 23, 719, 668, 720, 721, 722, 723, 248, 249, 724, 725, 726, 727, 728, 357, 358, 359, 59, 232, 233, 234, 729, 730, 731, 732, 513, 64, 521, 733, 932, 933, 934, 935, 936, 937, 938, 939, 940, 941, 986, 987, 988, 989, 990, 991, 992, 993, 994, 995, 996, 997, 998, 999, 1000, 1001, 1002, 1003, 1004, 1005, 1006, 1007] (by decide +kernel) (by decide +kernel)
set_option maxRecDepth 20000 in
theorem gL_law_X8_state : GoodIn wsL_law (wsV RL 81 RX8 yX8_state wsX8_state) := goodIn_app (goodIn_of _ (by decide +kernel)) ggL_law_X8_state
set_option maxRecDepth 20000 in
theorem ggL_law_X9_state : GoodIn wsL_law wsX9_state := goodIn_r _ [737, 435, 135, 738, 271, 103, 739, 740, 741, 5, 742, 138, 139, 140, 388, 389, 390, 391, 102, 318, 319, 320, 743, 744, 745, 746, 747, 748, 749, 750, 100, 942, 943, 944, 945, 946, 947, 948, 949, 950, 951, 952, 953, 954, 955, 956, 957, 958, 959, 960, 961, 962, 963, 964, 965, 966, 967, 968, 969, 970, 971, 972, 973, 974, 975, 976, 977, 978, 979] (by decide +kernel) (by decide +kernel)
set_option maxRecDepth 20000 in
theorem gL_law_X9_state : GoodIn wsL_law (wsV RL 85 RX9 yX9_state wsX9_state) := goodIn_app (goodIn_of _ (by decide +kernel)) ggL_law_X9_state
set_option maxRecDepth 20000 in
theorem ggL_law_X8_best : GoodIn wsL_law wsX8_best := goodIn_r _ [754, 122, 24, 19, 755, 756, 757, 23, 758, 668, 759, 760, 761, 762, 248, 728, 357, 358, 18, 359, 161, 59, 232, 233, 234, 763, 361, 362, 363, 58, 720, 721, 722, 723, 249, 729, 730, 731, 732, 513, 64, 521, 764, 932, 933, 934, 935, 936, 937, 938, 939, 940, 941, 986, 987, 988, 989, 990, 991, 992, 993, 994, 995, 996, 997, 998, 999, 1000, 1001, 1002, 1003, 1004, 1005, 1006, 1007] (by decide +kernel) (by decide +kernel)
set_option maxRecDepth 20000 in
theorem gL_law_X8_best : GoodIn wsL_law (wsV RL 86 RX8 yX8_best wsX8_best) := goodIn_app (goodIn_of _ (by decide +kernel)) ggL_law_X8_best
set_option maxRecDepth 20000 in
theorem ggL_law_X9_best : GoodIn wsL_law wsX9_best := goodIn_r _ [768, 623, 135, 271, 103, 769, 138, 139, 5, 140, 384, 385, 386, 387, 388, 389, 390, 391, 102, 318, 319, 320, 392, 393, 394, 395, 101, 743, 744, 745, 746, 747, 748, 749, 750, 100, 942, 943, 944, 945, 946, 947, 948, 949, 950, 951, 952, 953, 954, 955, 956, 957, 958, 959, 960, 961, 962, 963, 964, 965, 966, 967, 968, 969, 970, 971, 972, 973, 974, 975, 976, 977, 978, 979] (by decide +kernel) (by decide +kernel)
set_option maxRecDepth 20000 in
theorem gL_law_X9_best : GoodIn wsL_law (wsV RL 89 RX9 yX9_best wsX9_best) := goodIn_app (goodIn_of _ (by decide +kernel)) ggL_law_X9_best
set_option maxRecDepth 20000 in
theorem ggL_law_X8_alone : GoodIn wsL_law wsX8_alone := goodIn_r _ [773, 19, 411, 25, 24, 453, 454, 455, 18, 456, 160, 417, 229, 230, 231, 161, 774, 529, 530, 23, 531, 244, 245, 246, 247, 248, 249, 250, 64, 532, 533, 534, 535, 65, 66, 775, 776, 777, 778, 779, 521, 233, 234, 540, 510, 511, 512, 513, 514, 515, 516, 424, 517, 518, 519, 520, 648, 537, 538, 539, 780, 596, 597, 598, 932, 933, 934, 935, 936, 937, 938, 939, 940, 941, 986, 987, 988, 989, 990, 991, 992, 993, 994, 995, 996, 997, 998, 999, 1000, 1001, 1002, 1003, 1004, 1005, 1006, 1007] (by decide +kernel) (by decide +kernel)
set_option maxRecDepth 20000 in
theorem gL_law_X8_alone : GoodIn wsL_law (wsV RL 90 RX8 yX8_alone wsX8_alone) := goodIn_app (goodIn_of _ (by decide +kernel)) ggL_law_X8_alone
set_option maxRecDepth 20000 in
theorem ggL_law_X9_alone : GoodIn wsL_law wsX9_alone := goodIn_r _ [784, 435, 103, 99, 100, 326, 474, 475, 476, 5, 477, 327, 138, 139, 140, 436, 437, 438, 439, 271, 318, 319, 320, 550, 551, 552, 553, 98, 612, 613, 614, 942, 943, 944, 945, 946, 947, 948, 949, 950, 951, 952, 953, 954, 955, 956, 957, 958, 959, 960, 961, 962, 963, 964, 965, 966, 967, 968, 969, 970, 971, 972, 973, 974, 975, 976, 977, 978, 979] (by decide +kernel) (by decide +kernel)
set_option maxRecDepth 20000 in
theorem gL_law_X9_alone : GoodIn wsL_law (wsV RL 93 RX9 yX9_alone wsX9_alone) := goodIn_app (goodIn_of _ (by decide +kernel)) ggL_law_X9_alone
set_option maxRecDepth 20000 in
theorem ggL_law_X8_wasUnsaid : GoodIn wsL_law wsX8_wasUnsaid := goodIn_r _ [788, 19, 411, 122, 45, 789, 790, 146, 712, 713, 714, 18, 715, 161, 791, 792, 793, 44, 794, 795, 796, 93, 797, 798, 799, 800, 801, 57, 232, 233, 234, 802, 357, 358, 359, 59, 803, 804, 805, 806, 807, 808, 809, 810, 811, 423, 424, 425, 932, 933, 934, 935, 936, 937, 938, 939, 940, 941, 1018, 1019, 1020, 986, 987, 988, 989, 990, 991, 992, 993, 994, 995, 996, 997] (by decide +kernel) (by decide +kernel)
set_option maxRecDepth 20000 in
theorem gL_law_X8_wasUnsaid : GoodIn wsL_law (wsV RL 94 RX8 yX8_wasUnsaid wsX8_wasUnsaid) := goodIn_app (goodIn_of _ (by decide +kernel)) ggL_law_X8_wasUnsaid
set_option maxRecDepth 20000 in
theorem ggL_law_X9_wasUnsaid : GoodIn wsL_law wsX9_wasUnsaid := goodIn_r _ [815, 435, 816, 817, 135, 739, 740, 741, 5, 742, 271, 138, 139, 140, 818, 819, 820, 821, 822, 823, 824, 825, 826, 827, 828, 829, 100, 318, 319, 320, 388, 389, 390, 391, 102, 830, 831, 832, 833, 834, 835, 836, 837, 942, 943, 944, 945, 946, 947, 948, 949, 950, 951, 952, 953, 954, 955, 956, 957, 958, 959, 960, 961, 962, 963, 964, 965, 966, 967, 968, 969, 970, 971, 972, 973, 974, 975, 976, 977, 978, 979] (by decide +kernel) (by decide +kernel)
set_option maxRecDepth 20000 in
theorem gL_law_X9_wasUnsaid : GoodIn wsL_law (wsV RL 97 RX9 yX9_wasUnsaid wsX9_wasUnsaid) := goodIn_app (goodIn_of _ (by decide +kernel)) ggL_law_X9_wasUnsaid
set_option maxRecDepth 20000 in
theorem ggL_law_X8_drought : GoodIn wsL_law wsX8_drought := goodIn_r _ [841, 122, 19, 594, 508, 24, 348, 355, 932, 933, 934, 935, 936, 937, 938, 939, 940, 941, 986, 987, 988, 989, 990, 991, 992, 993, 994, 995, 996, 997, 998, 999, 1000, 1001, 1002, 1003, 1004, 1005, 1006, 1007] (by decide +kernel) (by decide +kernel)
set_option maxRecDepth 20000 in
theorem gL_law_X8_drought : GoodIn wsL_law (wsV RL 98 RX8 yX8_drought wsX8_drought) := goodIn_app (goodIn_of _ (by decide +kernel)) ggL_law_X8_drought
set_option maxRecDepth 20000 in
theorem ggL_law_X9_drought : GoodIn wsL_law wsX9_drought := goodIn_r _ [845, 623, 135, 117, 545, 103, 326, 138, 139, 5, 140, 612, 613, 614, 942, 943, 944, 945, 946, 947, 948, 949, 950, 951, 952, 953, 954, 955, 956, 957, 958, 959, 960, 961, 962, 963, 964, 965, 966, 967, 968, 969, 970, 971, 972, 973, 974, 975, 976, 977, 978, 979] (by decide +kernel) (by decide +kernel)
set_option maxRecDepth 20000 in
theorem gL_law_X9_drought : GoodIn wsL_law (wsV RL 101 RX9 yX9_drought wsX9_drought) := goodIn_app (goodIn_of _ (by decide +kernel)) ggL_law_X9_drought
set_option maxRecDepth 20000 in
theorem ggL_law_X8_rainy : GoodIn wsL_law wsX8_rainy := goodIn_r _ [849, 122, 850, 851] (by decide +kernel) (by decide +kernel)
set_option maxRecDepth 20000 in
theorem gL_law_X8_rainy : GoodIn wsL_law (wsV RL 102 RX8 yX8_rainy wsX8_rainy) := goodIn_app (goodIn_of _ (by decide +kernel)) ggL_law_X8_rainy
set_option maxRecDepth 20000 in
theorem ggL_law_X9_rainy : GoodIn wsL_law wsX9_rainy := goodIn_r _ [855, 607, 856, 135, 857, 138, 139, 5, 140] (by decide +kernel) (by decide +kernel)
set_option maxRecDepth 20000 in
theorem gL_law_X9_rainy : GoodIn wsL_law (wsV RL 105 RX9 yX9_rainy wsX9_rainy) := goodIn_app (goodIn_of _ (by decide +kernel)) ggL_law_X9_rainy
set_option maxRecDepth 20000 in
theorem ggL_law_X8_write : GoodIn wsL_law wsX8_write := goodIn_r _ [861, 19, 411, 33, 145, 124, 417, 229, 230, 18, 231, 161, 862, 863, 864, 32, 865, 866, 76, 78, 932, 933, 934, 935, 936, 937, 938, 939, 940, 941, 1011, 1012, 1013, 986, 987, 988, 989, 990, 991, 992, 993, 994, 995, 996, 997] (by decide +kernel) (by decide +kernel)
set_option maxRecDepth 20000 in
theorem gL_law_X8_write : GoodIn wsL_law (wsV RL 106 RX8 yX8_write wsX8_write) := goodIn_app (goodIn_of _ (by decide +kernel)) ggL_law_X8_write
set_option maxRecDepth 20000 in
theorem ggL_law_X9_write : GoodIn wsL_law wsX9_write := goodIn_r _ [870, 435, 269, 137, 113, 114, 436, 437, 438, 5, 439, 271, 138, 139, 140, 942, 943, 944, 945, 946, 947, 948, 949, 950, 951, 952, 953, 954, 955, 956, 957, 958, 959, 960, 961, 962, 963, 964, 965, 966, 967, 968, 969, 970, 971, 972, 973, 974, 975, 976, 977, 978, 979] (by decide +kernel) (by decide +kernel)
set_option maxRecDepth 20000 in
theorem gL_law_X9_write : GoodIn wsL_law (wsV RL 109 RX9 yX9_write wsX9_write) := goodIn_app (goodIn_of _ (by decide +kernel)) ggL_law_X9_write
set_option maxRecDepth 20000 in
theorem ggL_law_X8_tear : GoodIn wsL_law wsX8_tear := goodIn_r _ [874, 33, 145, 932, 933, 934, 935, 936, 937, 938, 939, 940, 941, 1011, 1012, 1013] (by decide +kernel) (by decide +kernel)
set_option maxRecDepth 20000 in
theorem gL_law_X8_tear : GoodIn wsL_law (wsV RL 110 RX8 yX8_tear wsX8_tear) := goodIn_app (goodIn_of _ (by decide +kernel)) ggL_law_X8_tear
set_option maxRecDepth 20000 in
theorem ggL_law_X9_tear : GoodIn wsL_law wsX9_tear := goodIn_r _ [878, 269, 942, 943, 944, 945, 946, 947, 948, 949, 950, 951, 952, 953, 954, 955, 956, 957, 958, 959, 960, 961, 962, 963, 964, 965, 966, 967, 968, 969, 970, 971, 972, 973, 974, 975, 976, 977, 978, 979] (by decide +kernel) (by decide +kernel)
set_option maxRecDepth 20000 in
theorem gL_law_X9_tear : GoodIn wsL_law (wsV RL 113 RX9 yX9_tear wsX9_tear) := goodIn_app (goodIn_of _ (by decide +kernel)) ggL_law_X9_tear
set_option maxRecDepth 20000 in
theorem ggL_law_X8_judge : GoodIn wsL_law wsX8_judge := goodIn_r _ [882, 33, 19, 24, 350, 356, 357, 358, 18, 359, 161, 59, 232, 233, 234, 883, 884, 885, 32, 886, 866, 76, 78, 887, 932, 933, 934, 935, 936, 937, 938, 939, 940, 941, 998, 999, 1000, 1001, 1002, 1003, 1004, 1005, 1006, 1007, 986, 987, 988, 989, 990, 991, 992, 993, 994, 995, 996, 997, 1011, 1012, 1013] (by decide +kernel) (by decide +kernel)
set_option maxRecDepth 20000 in
theorem gL_law_X8_judge : GoodIn wsL_law (wsV RL 114 RX8 yX8_judge wsX8_judge) := goodIn_app (goodIn_of _ (by decide +kernel)) ggL_law_X8_judge
set_option maxRecDepth 20000 in
theorem ggL_law_X9_judge : GoodIn wsL_law wsX9_judge := goodIn_r _ [891, 269, 113, 114, 384, 385, 386, 5, 387, 103, 388, 389, 390, 391, 271, 102, 318, 319, 320, 942, 943, 944, 945, 946, 947, 948, 949, 950, 951, 952, 953, 954, 955, 956, 957, 958, 959, 960, 961, 962, 963, 964, 965, 966, 967, 968, 969, 970, 971, 972, 973, 974, 975, 976, 977, 978, 979] (by decide +kernel) (by decide +kernel)
set_option maxRecDepth 20000 in
theorem gL_law_X9_judge : GoodIn wsL_law (wsV RL 117 RX9 yX9_judge wsX9_judge) := goodIn_app (goodIn_of _ (by decide +kernel)) ggL_law_X9_judge
set_option maxRecDepth 20000 in
theorem ggL_law_X8_seed : GoodIn wsL_law wsX8_seed := goodIn_r _ [895, 122, 37, 896, 932, 933, 934, 935, 936, 937, 938, 939, 940, 941, 1014] (by decide +kernel) (by decide +kernel)
set_option maxRecDepth 20000 in
theorem gL_law_X8_seed : GoodIn wsL_law (wsV RL 118 RX8 yX8_seed wsX8_seed) := goodIn_app (goodIn_of _ (by decide +kernel)) ggL_law_X8_seed
set_option maxRecDepth 20000 in
theorem ggL_law_X9_seed : GoodIn wsL_law wsX9_seed := goodIn_r _ [900, 135, 691, 942, 943, 944, 945, 946, 947, 948, 949, 950, 951, 952, 953, 954, 955, 956, 957, 958, 959, 960, 961, 962, 963, 964, 965, 966, 967, 968, 969, 970, 971, 972, 973, 974, 975, 976, 977, 978, 979] (by decide +kernel) (by decide +kernel)
set_option maxRecDepth 20000 in
theorem gL_law_X9_seed : GoodIn wsL_law (wsV RL 121 RX9 yX9_seed wsX9_seed) := goodIn_app (goodIn_of _ (by decide +kernel)) ggL_law_X9_seed
set_option maxRecDepth 20000 in
theorem ggL_law_X8_keep : GoodIn wsL_law wsX8_keep := goodIn_r _ [904, 411, 41, 24, 37, 29, 905, 906, 907, 40, 908, 87, 88, 909, 89, 910, 529, 530, 23, 531, 244, 245, 246, 247, 248, 249, 250, 64, 532, 533, 534, 535, 65, 66, 251, 252, 253, 28, 254, 255, 932, 933, 934, 935, 936, 937, 938, 939, 940, 941, 1015, 1016, 1017, 1014, 998, 999, 1000, 1001, 1002, 1003, 1004, 1005, 1006, 1007, 1008, 1009, 1010] (by decide +kernel) (by decide +kernel)
set_option maxRecDepth 20000 in
theorem gL_law_X8_keep : GoodIn wsL_law (wsV RL 122 RX8 yX8_keep wsX8_keep) := goodIn_app (goodIn_of _ (by decide +kernel)) ggL_law_X8_keep
set_option maxRecDepth 20000 in
theorem ggL_law_X9_keep : GoodIn wsL_law wsX9_keep := goodIn_r _ [914, 435, 115, 103, 691, 116, 270, 138, 139, 5, 140, 942, 943, 944, 945, 946, 947, 948, 949, 950, 951, 952, 953, 954, 955, 956, 957, 958, 959, 960, 961, 962, 963, 964, 965, 966, 967, 968, 969, 970, 971, 972, 973, 974, 975, 976, 977, 978, 979] (by decide +kernel) (by decide +kernel)
set_option maxRecDepth 20000 in
theorem gL_law_X9_keep : GoodIn wsL_law (wsV RL 125 RX9 yX9_keep wsX9_keep) := goodIn_app (goodIn_of _ (by decide +kernel)) ggL_law_X9_keep
set_option maxRecDepth 20000 in
theorem ggL_law_X8_goBack : GoodIn wsL_law wsX8_goBack := goodIn_r _ [918, 411, 41, 508, 24, 37, 29, 919, 920, 921, 40, 922, 87, 89, 923, 924, 925, 926, 88, 909, 927, 910, 529, 530, 23, 531, 244, 245, 246, 247, 248, 249, 250, 64, 532, 533, 534, 535, 65, 66, 251, 252, 253, 28, 254, 255, 932, 933, 934, 935, 936, 937, 938, 939, 940, 941, 1015, 1016, 1017, 1014, 998, 999, 1000, 1001, 1002, 1003, 1004, 1005, 1006, 1007, 1008, 1009, 1010] (by decide +kernel) (by decide +kernel)
set_option maxRecDepth 20000 in
theorem gL_law_X8_goBack : GoodIn wsL_law (wsV RL 126 RX8 yX8_goBack wsX8_goBack) := goodIn_app (goodIn_of _ (by decide +kernel)) ggL_law_X8_goBack
set_option maxRecDepth 20000 in
theorem ggL_law_X9_goBack : GoodIn wsL_law wsX9_goBack := goodIn_r _ [931, 435, 116, 545, 103, 115, 691, 270, 138, 139, 5, 140, 942, 943, 944, 945, 946, 947, 948, 949, 950, 951, 952, 953, 954, 955, 956, 957, 958, 959, 960, 961, 962, 963, 964, 965, 966, 967, 968, 969, 970, 971, 972, 973, 974, 975, 976, 977, 978, 979] (by decide +kernel) (by decide +kernel)
set_option maxRecDepth 20000 in
theorem gL_law_X9_goBack : GoodIn wsL_law (wsV RL 129 RX9 yX9_goBack wsX9_goBack) := goodIn_app (goodIn_of _ (by decide +kernel)) ggL_law_X9_goBack

theorem inlX0 : ∀ w ∈ wsX00, w ∈ wsL_law := fun _ h => List.mem_append_left _ (List.mem_append_left _ (List.mem_append_left _ (List.mem_append_left _ (List.mem_append_left _ (List.mem_append_right _ h)))))
theorem inX0 : ∀ w ∈ wsX00, w ∈ lw_tbl := fun w h => wsL_law_in w (inlX0 w h)
theorem inlX1 : ∀ w ∈ wsX10, w ∈ wsL_law := fun _ h => List.mem_append_left _ (List.mem_append_right _ h)
theorem inX1 : ∀ w ∈ wsX10, w ∈ lw_tbl := fun w h => wsL_law_in w (inlX1 w h)
theorem inlX2 : ∀ w ∈ wsX20, w ∈ wsL_law := fun _ h => List.mem_append_left _ (List.mem_append_left _ (List.mem_append_left _ (List.mem_append_right _ h)))
theorem inX2 : ∀ w ∈ wsX20, w ∈ lw_tbl := fun w h => wsL_law_in w (inlX2 w h)
theorem inlX3 : ∀ w ∈ wsX30, w ∈ wsL_law := fun _ h => List.mem_append_left _ (List.mem_append_left _ (List.mem_append_left _ (List.mem_append_left _ (List.mem_append_right _ h))))
theorem inX3 : ∀ w ∈ wsX30, w ∈ lw_tbl := fun w h => wsL_law_in w (inlX3 w h)
theorem inlX4 : ∀ w ∈ wsX40, w ∈ wsL_law := fun _ h => List.mem_append_left _ (List.mem_append_left _ (List.mem_append_right _ h))
theorem inX4 : ∀ w ∈ wsX40, w ∈ lw_tbl := fun w h => wsL_law_in w (inlX4 w h)
theorem inlX5 : ∀ w ∈ wsX50, w ∈ wsL_law := fun _ h => List.mem_append_left _ (List.mem_append_left _ (List.mem_append_left _ (List.mem_append_left _ (List.mem_append_left _ (List.mem_append_left _ (List.mem_append_left _ (List.mem_append_right _ h)))))))
theorem inX5 : ∀ w ∈ wsX50, w ∈ lw_tbl := fun w h => wsL_law_in w (inlX5 w h)
theorem inlX6 : ∀ w ∈ wsX60, w ∈ wsL_law := fun _ h => List.mem_append_left _ (List.mem_append_left _ (List.mem_append_left _ (List.mem_append_left _ (List.mem_append_left _ (List.mem_append_left _ (List.mem_append_right _ h))))))
theorem inX6 : ∀ w ∈ wsX60, w ∈ lw_tbl := fun w h => wsL_law_in w (inlX6 w h)
theorem inJ9 : ∀ w ∈ wsJ90, w ∈ lw_tbl := by decide +kernel
theorem inJ10 : ∀ w ∈ wsJ100, w ∈ lw_tbl := by decide +kernel
set_option maxRecDepth 20000 in
theorem ggL_law_X5_init : GoodIn wsL_law wsX5_init := goodIn_r _ [8, 9, 10, 11, 12, 13, 14, 15, 16, 17, 18, 19, 20, 21, 22, 23, 24, 25, 26, 27, 28, 29, 30, 31, 32, 33, 34, 35, 36, 37, 38, 39, 40, 41, 42, 43, 44, 45, 46, 47, 48, 49, 50, 51, 52, 53, 54, 55, 56, 57, 58, 59, 60, 61, 62, 63, 64, 65, 66, 67, 68, 69, 70, 71, 72, 73, 74, 75, 76, 77, 78, 79, 80, 81, 82, 83, 84, 85, 832, 833, 834, 835, 836, 837, 838, 839, 806, 807, 808, 809, 810, 811, 812, 813, 814, 815, 816, 840, 841, 842, 843, 844, 845, 846, 847, 848, 849, 850, 851] (by decide +kernel) (by decide +kernel)
set_option maxRecDepth 20000 in
theorem gL_law_X5_init : GoodIn wsL_law (wsX5_init) := ggL_law_X5_init
set_option maxRecDepth 20000 in
theorem ggL_law_X6_init : GoodIn wsL_law wsX6_init := goodIn_r _ [88, 89, 10, 11, 44, 90, 91, 92, 22, 93, 94, 95, 96, 97, 817, 818, 819, 820, 821, 822, 823, 824, 825, 826, 827, 828, 829, 830, 831] (by decide +kernel) (by decide +kernel)
set_option maxRecDepth 20000 in
theorem gL_law_X6_init : GoodIn wsL_law (wsX6_init) := ggL_law_X6_init
set_option maxRecDepth 20000 in
theorem ggL_law_X5_put : GoodIn wsL_law wsX5_put := goodIn_r _ [101, 15, 102, 19, 103, 104, 2, 105, 106, 107, 108, 109, 110, 111, 18, 112, 60, 62, 113, 114, 115, 116, 117, 118, 119, 14, 120, 43, 45, 52, 53, 54, 55, 46, 47, 48, 49, 50, 51, 121, 122, 123, 124, 125, 126, 127, 128, 806, 807, 808, 809, 810, 811, 812, 813, 814, 815, 816, 832, 833, 834, 835, 836, 837, 838, 839, 840, 841] (by decide +kernel) (by decide +kernel)
set_option maxRecDepth 20000 in
theorem gL_law_X5_put : GoodIn wsL_law (wsV RL 13 RX5 yX5_put wsX5_put) := goodIn_app (goodIn_of _ (by decide +kernel)) ggL_law_X5_put
set_option maxRecDepth 20000 in
theorem ggL_law_X6_put : GoodIn wsL_law wsX6_put := goodIn_r _ [132, 90, 133, 134, 5, 135, 136, 137, 138, 139, 140, 141, 142, 143, 91, 144, 145, 146, 147, 148, 149, 150, 151, 152, 153, 154, 817, 818, 819, 820, 821, 822, 823, 824, 825, 826, 827, 828, 829, 830, 831] (by decide +kernel) (by decide +kernel)
set_option maxRecDepth 20000 in
theorem gL_law_X6_put : GoodIn wsL_law (wsV RL 17 RX6 yX6_put wsX6_put) := goodIn_app (goodIn_of _ (by decide +kernel)) ggL_law_X6_put
set_option maxRecDepth 20000 in
theorem ggL_law_X5_load : GoodIn wsL_law wsX5_load := goodIn_r _ [158, 25, 15, 38, 23, 24, 159, 19, 102, 160, 118, 119, 14, 120, 43, 45, 52, 53, 54, 55, 46, 47, 48, 49, 50, 51, 161, 162, 163, 164, 165, 166, 167, 37, 168, 82, 169, 170, 171, 172, 83, 84, 173, 174, 175, 176, 177, 178, 179, 180, 85, 181, 182, 183, 184, 81, 185, 186, 122, 123, 124, 125, 126, 127, 128, 187, 188, 189, 190, 191, 192, 193, 194, 195, 196, 197, 198, 199, 200, 201, 202, 203, 204, 205, 206, 207, 208, 209, 210, 211, 212, 213, 214, 215, 216, 217, 218, 109, 110, 111, 18, 112, 60, 62, 113, 114, 115, 116, 117, 806, 807, 808, 809, 810, 811, 812, 813, 814, 815, 816, 847, 848, 849, 850, 851, 832, 833, 834, 835, 836, 837, 838, 839, 840, 841] (by decide +kernel) (by decide +kernel)
set_option maxRecDepth 20000 in
theorem gL_law_X5_load : GoodIn wsL_law (wsV RL 18 RX5 yX5_load wsX5_load) := goodIn_app (goodIn_of _ (by decide +kernel)) ggL_law_X5_load
set_option maxRecDepth 20000 in
theorem ggL_law_X6_load : GoodIn wsL_law wsX6_load := goodIn_r _ [222, 223, 224, 90, 96, 225, 226, 227, 5, 228, 229, 230, 231, 232, 233, 234, 235, 236, 237, 238, 239, 240, 241, 242, 93, 136, 137, 138, 243, 244, 245, 246, 139, 140, 141, 142, 143, 91, 144, 145, 146, 147, 148, 149, 150, 151, 152, 153, 154, 817, 818, 819, 820, 821, 822, 823, 824, 825, 826, 827, 828, 829, 830, 831] (by decide +kernel) (by decide +kernel)
set_option maxRecDepth 20000 in
theorem gL_law_X6_load : GoodIn wsL_law (wsV RL 22 RX6 yX6_load wsX6_load) := goodIn_app (goodIn_of _ (by decide +kernel)) ggL_law_X6_load
set_option maxRecDepth 20000 in
theorem ggL_law_X5_takeOff : GoodIn wsL_law wsX5_takeOff := goodIn_r _ [250, 15, 19, 251, 252, 253, 14, 254, 43, 109, 110, 111, 18, 112, 60, 62, 113, 114, 115, 116, 117, 118, 119, 120, 45, 52, 53, 54, 55, 46, 47, 48, 49, 50, 51, 255, 256, 257, 258, 199, 200, 201, 202, 259, 260, 261, 262, 263, 264, 265, 266, 125, 126, 127, 128, 267, 268, 269, 270, 271, 272, 273, 274, 275, 276, 277, 278, 279, 280, 281, 282, 806, 807, 808, 809, 810, 811, 812, 813, 814, 815, 816, 832, 833, 834, 835, 836, 837, 838, 839, 840, 841] (by decide +kernel) (by decide +kernel)
set_option maxRecDepth 20000 in
theorem gL_law_X5_takeOff : GoodIn wsL_law (wsV RL 23 RX5 yX5_takeOff wsX5_takeOff) := goodIn_app (goodIn_of _ (by decide +kernel)) ggL_law_X5_takeOff
set_option maxRecDepth 20000 in
theorem ggL_law_X6_takeOff : GoodIn wsL_law wsX6_takeOff := goodIn_r _ [286, 90, 287, 288, 289, 5, 290, 136, 137, 138, 139, 140, 141, 142, 143, 91, 144, 145, 146, 291, 292, 293, 294, 295, 296, 297, 298, 299, 300, 301, 302, 303, 304, 305, 306, 307, 308, 309, 310, 311, 312, 313, 314, 151, 152, 153, 154, 817, 818, 819, 820, 821, 822, 823, 824, 825, 826, 827, 828, 829, 830, 831] (by decide +kernel) (by decide +kernel)
set_option maxRecDepth 20000 in
theorem gL_law_X6_takeOff : GoodIn wsL_law (wsV RL 27 RX6 yX6_takeOff wsX6_takeOff) := goodIn_app (goodIn_of _ (by decide +kernel)) ggL_law_X6_takeOff
set_option maxRecDepth 20000 in
theorem ggL_law_X5_drag : GoodIn wsL_law wsX5_drag := goodIn_r _ [318, 15, 319, 320, 19, 251, 252, 253, 14, 254, 43, 103, 104, 2, 105, 106, 107, 108, 109, 110, 111, 18, 112, 60, 62, 113, 114, 115, 116, 117, 118, 119, 120, 45, 52, 53, 54, 55, 46, 47, 48, 49, 50, 51, 321, 126, 127, 128, 322, 323, 324, 325, 29, 326, 327, 328, 329, 28, 330, 331, 69, 71, 68, 332, 333, 334, 335, 336, 337, 197, 338, 339, 340, 341, 342, 343, 344, 345, 346, 196, 198, 347, 348, 349, 350, 70, 806, 807, 808, 809, 810, 811, 812, 813, 814, 815, 816, 832, 833, 834, 835, 836, 837, 838, 839, 840, 841, 842, 843, 844, 845] (by decide +kernel) (by decide +kernel)
set_option maxRecDepth 20000 in
theorem gL_law_X5_drag : GoodIn wsL_law (wsV RL 28 RX5 yX5_drag wsX5_drag) := goodIn_app (goodIn_of _ (by decide +kernel)) ggL_law_X5_drag
set_option maxRecDepth 20000 in
theorem ggL_law_X6_drag : GoodIn wsL_law wsX6_drag := goodIn_r _ [354, 287, 288, 289, 5, 290, 90, 136, 137, 138, 133, 134, 135, 295, 296, 297, 298, 139, 140, 141, 142, 143, 91, 144, 145, 146, 355, 356, 357, 358, 151, 152, 153, 154, 359, 360, 361, 362, 363, 364, 365, 366, 367, 94, 368, 369, 370, 371, 95, 372, 373, 374, 375, 376, 377, 378, 817, 818, 819, 820, 821, 822, 823, 824, 825, 826, 827, 828, 829, 830, 831] (by decide +kernel) (by decide +kernel)
set_option maxRecDepth 20000 in
theorem gL_law_X6_drag : GoodIn wsL_law (wsV RL 32 RX6 yX6_drag wsX6_drag) := goodIn_app (goodIn_of _ (by decide +kernel)) ggL_law_X6_drag
set_option maxRecDepth 20000 in
theorem ggL_law_X5_dragHeap : GoodIn wsL_law wsX5_dragHeap := goodIn_r _ [382, 29, 19, 15, 322, 323, 324, 2, 325, 326, 327, 328, 329, 28, 330, 331, 69, 71, 68, 332, 333, 334, 14, 335, 45, 336, 337, 197, 338, 46, 339, 340, 341, 342, 343, 344, 345, 346, 196, 198, 347, 348, 349, 350, 70, 383, 384, 385, 386, 106, 107, 108, 387, 388, 389, 390, 102, 391, 319, 320, 103, 104, 105, 109, 110, 111, 18, 112, 60, 62, 113, 114, 115, 116, 117, 118, 119, 120, 43, 52, 53, 54, 55, 47, 48, 49, 50, 51, 392, 393, 394, 395, 321, 126, 127, 128, 806, 807, 808, 809, 810, 811, 812, 813, 814, 815, 816, 832, 833, 834, 835, 836, 837, 838, 839, 842, 843, 844, 845, 840, 841] (by decide +kernel) (by decide +kernel)
set_option maxRecDepth 20000 in
theorem gL_law_X5_dragHeap : GoodIn wsL_law (wsV RL 33 RX5 yX5_dragHeap wsX5_dragHeap) := goodIn_app (goodIn_of _ (by decide +kernel)) ggL_law_X5_dragHeap
set_option maxRecDepth 20000 in
theorem ggL_law_X6_dragHeap : GoodIn wsL_law wsX6_dragHeap := goodIn_r _ [399, 90, 94, 359, 360, 361, 5, 362, 363, 364, 365, 366, 367, 368, 369, 370, 371, 95, 372, 373, 374, 375, 295, 296, 297, 298, 376, 377, 378, 136, 137, 138, 400, 401, 402, 403, 133, 134, 135, 139, 140, 141, 142, 143, 91, 144, 145, 146, 355, 356, 357, 358, 151, 152, 153, 154, 817, 818, 819, 820, 821, 822, 823, 824, 825, 826, 827, 828, 829, 830, 831] (by decide +kernel) (by decide +kernel)
set_option maxRecDepth 20000 in
theorem gL_law_X6_dragHeap : GoodIn wsL_law (wsV RL 36 RX6 yX6_dragHeap wsX6_dragHeap) := goodIn_app (goodIn_of _ (by decide +kernel)) ggL_law_X6_dragHeap
set_option maxRecDepth 20000 in
theorem ggL_law_X5_stick : GoodIn wsL_law wsX5_stick := goodIn_r _ [407, 15, 19, 408, 409, 2, 410, 106, 107, 108, 251, 252, 253, 14, 254, 43, 411, 192, 193, 194, 51, 195, 196, 197, 198, 199, 200, 201, 202, 48, 412, 204, 205, 206, 109, 110, 111, 18, 112, 60, 62, 113, 114, 115, 116, 117, 118, 119, 120, 45, 52, 53, 54, 55, 46, 47, 49, 50, 413, 208, 209, 210, 255, 256, 257, 258, 806, 807, 808, 809, 810, 811, 812, 813, 814, 815, 816, 832, 833, 834, 835, 836, 837, 838, 839, 840, 841] (by decide +kernel) (by decide +kernel)
set_option maxRecDepth 20000 in
theorem gL_law_X5_stick : GoodIn wsL_law (wsV RL 37 RX5 yX5_stick wsX5_stick) := goodIn_app (goodIn_of _ (by decide +kernel)) ggL_law_X5_stick
set_option maxRecDepth 20000 in
theorem ggL_law_X6_stick : GoodIn wsL_law wsX6_stick := goodIn_r _ [417, 90, 418, 419, 5, 420, 136, 137, 138, 287, 288, 289, 290, 421, 422, 423, 424, 295, 296, 297, 298, 139, 140, 141, 142, 143, 91, 144, 145, 146, 151, 152, 153, 154, 291, 292, 293, 294, 817, 818, 819, 820, 821, 822, 823, 824, 825, 826, 827, 828, 829, 830, 831] (by decide +kernel) (by decide +kernel)
set_option maxRecDepth 20000 in
theorem gL_law_X6_stick : GoodIn wsL_law (wsV RL 40 RX6 yX6_stick wsX6_stick) := goodIn_app (goodIn_of _ (by decide +kernel)) ggL_law_X6_stick
set_option maxRecDepth 20000 in
theorem ggL_law_X5_unstick : GoodIn wsL_law wsX5_unstick := goodIn_r _ [428, 15, 19, 408, 409, 2, 410, 106, 107, 108, 251, 252, 253, 14, 254, 43, 429, 200, 201, 202, 48, 109, 110, 111, 18, 112, 60, 62, 113, 114, 115, 116, 117, 118, 119, 120, 45, 52, 53, 54, 55, 46, 47, 49, 50, 51, 413, 208, 209, 210, 255, 256, 257, 258, 199, 806, 807, 808, 809, 810, 811, 812, 813, 814, 815, 816, 832, 833, 834, 835, 836, 837, 838, 839, 840, 841] (by decide +kernel) (by decide +kernel)
set_option maxRecDepth 20000 in
theorem gL_law_X5_unstick : GoodIn wsL_law (wsV RL 41 RX5 yX5_unstick wsX5_unstick) := goodIn_app (goodIn_of _ (by decide +kernel)) ggL_law_X5_unstick
set_option maxRecDepth 20000 in
theorem ggL_law_X6_unstick : GoodIn wsL_law wsX6_unstick := goodIn_r _ [433, 418, 419, 5, 420, 136, 137, 138, 287, 288, 289, 290, 90, 295, 296, 297, 298, 139, 140, 141, 142, 143, 91, 144, 145, 146, 151, 152, 153, 154, 291, 292, 293, 294, 817, 818, 819, 820, 821, 822, 823, 824, 825, 826, 827, 828, 829, 830, 831] (by decide +kernel) (by decide +kernel)
set_option maxRecDepth 20000 in
theorem gL_law_X6_unstick : GoodIn wsL_law (wsV RL 44 RX6 yX6_unstick wsX6_unstick) := goodIn_app (goodIn_of _ (by decide +kernel)) ggL_law_X6_unstick
set_option maxRecDepth 20000 in
theorem ggL_law_X5_make : GoodIn wsL_law wsX5_make := goodIn_r _ [437, 29, 15, 438, 19, 102, 391, 439, 322, 323, 324, 2, 325, 326, 327, 328, 329, 28, 330, 331, 69, 71, 68, 332, 333, 334, 14, 335, 45, 336, 337, 197, 338, 46, 339, 340, 341, 342, 343, 344, 345, 346, 196, 198, 347, 348, 349, 350, 70, 383, 384, 385, 386, 440, 441, 442, 443, 444, 109, 110, 111, 18, 112, 60, 62, 113, 114, 115, 116, 117, 118, 119, 120, 43, 52, 53, 54, 55, 47, 48, 49, 50, 51, 445, 446, 447, 448, 279, 280, 281, 282, 806, 807, 808, 809, 810, 811, 812, 813, 814, 815, 816, 832, 833, 834, 835, 836, 837, 838, 839, 842, 843, 844, 845, 840, 841] (by decide +kernel) (by decide +kernel)
set_option maxRecDepth 20000 in
theorem gL_law_X5_make : GoodIn wsL_law (wsV RL 45 RX5 yX5_make wsX5_make) := goodIn_app (goodIn_of _ (by decide +kernel)) ggL_law_X5_make
set_option maxRecDepth 20000 in
theorem ggL_law_X6_make : GoodIn wsL_law wsX6_make := goodIn_r _ [452, 90, 94, 359, 360, 361, 5, 362, 363, 364, 365, 366, 367, 368, 369, 370, 371, 95, 372, 373, 374, 375, 295, 296, 297, 298, 376, 377, 378, 136, 137, 138, 453, 454, 455, 456, 299, 300, 301, 302, 139, 140, 141, 142, 143, 91, 144, 145, 146, 151, 152, 153, 154, 817, 818, 819, 820, 821, 822, 823, 824, 825, 826, 827, 828, 829, 830, 831] (by decide +kernel) (by decide +kernel)
set_option maxRecDepth 20000 in
theorem gL_law_X6_make : GoodIn wsL_law (wsV RL 48 RX6 yX6_make wsX6_make) := goodIn_app (goodIn_of _ (by decide +kernel)) ggL_law_X6_make
set_option maxRecDepth 20000 in
theorem ggL_law_X5_merge : GoodIn wsL_law wsX5_merge := goodIn_r _ [460, 15, 19, 461, 462, 463, 14, 464, 49, 109, 110, 111, 18, 112, 60, 62, 113, 114, 115, 116, 117, 118, 119, 120, 43, 45, 52, 53, 54, 55, 46, 47, 48, 50, 51, 465, 466, 467, 468, 275, 276, 277, 278, 279, 280, 281, 282, 267, 268, 269, 270, 271, 272, 273, 274, 469, 806, 807, 808, 809, 810, 811, 812, 813, 814, 815, 816, 832, 833, 834, 835, 836, 837, 838, 839, 840, 841] (by decide +kernel) (by decide +kernel)
set_option maxRecDepth 20000 in
theorem gL_law_X5_merge : GoodIn wsL_law (wsV RL 49 RX5 yX5_merge wsX5_merge) := goodIn_app (goodIn_of _ (by decide +kernel)) ggL_law_X5_merge
set_option maxRecDepth 20000 in
theorem ggL_law_X6_merge : GoodIn wsL_law wsX6_merge := goodIn_r _ [473, 90, 474, 475, 476, 5, 477, 136, 137, 138, 139, 140, 141, 142, 143, 91, 144, 145, 146, 299, 300, 301, 302, 295, 296, 297, 298, 151, 152, 153, 154, 311, 312, 313, 314, 307, 308, 309, 310, 817, 818, 819, 820, 821, 822, 823, 824, 825, 826, 827, 828, 829, 830, 831] (by decide +kernel) (by decide +kernel)
set_option maxRecDepth 20000 in
theorem gL_law_X6_merge : GoodIn wsL_law (wsV RL 52 RX6 yX6_merge wsX6_merge) := goodIn_app (goodIn_of _ (by decide +kernel)) ggL_law_X6_merge
set_option maxRecDepth 20000 in
theorem ggL_law_X5_belong : GoodIn wsL_law wsX5_belong := goodIn_r _ [481, 15, 439, 19, 438, 251, 252, 253, 14, 254, 43, 461, 462, 463, 464, 49, 109, 110, 111, 18, 112, 60, 62, 113, 114, 115, 116, 117, 118, 119, 120, 45, 52, 53, 54, 55, 46, 47, 48, 50, 51, 482, 268, 269, 270, 271, 272, 273, 274, 275, 276, 277, 278, 279, 280, 281, 282, 806, 807, 808, 809, 810, 811, 812, 813, 814, 815, 816, 832, 833, 834, 835, 836, 837, 838, 839, 840, 841] (by decide +kernel) (by decide +kernel)
set_option maxRecDepth 20000 in
theorem gL_law_X5_belong : GoodIn wsL_law (wsV RL 53 RX5 yX5_belong wsX5_belong) := goodIn_app (goodIn_of _ (by decide +kernel)) ggL_law_X5_belong
set_option maxRecDepth 20000 in
theorem ggL_law_X6_belong : GoodIn wsL_law wsX6_belong := goodIn_r _ [486, 90, 287, 288, 289, 5, 290, 136, 137, 138, 474, 475, 476, 477, 299, 300, 301, 302, 295, 296, 297, 298, 139, 140, 141, 142, 143, 91, 144, 145, 146, 151, 152, 153, 154, 303, 304, 305, 306, 307, 308, 309, 310, 311, 312, 313, 314, 817, 818, 819, 820, 821, 822, 823, 824, 825, 826, 827, 828, 829, 830, 831] (by decide +kernel) (by decide +kernel)
set_option maxRecDepth 20000 in
theorem gL_law_X6_belong : GoodIn wsL_law (wsV RL 56 RX6 yX6_belong wsX6_belong) := goodIn_app (goodIn_of _ (by decide +kernel)) ggL_law_X6_belong
set_option maxRecDepth 20000 in
theorem ggL_law_X5_vote : GoodIn wsL_law wsX5_vote := goodIn_r _ [490, 15, 19, 34, 491, 408, 409, 2, 410, 106, 107, 108, 461, 462, 463, 14, 464, 49, 492, 493, 494, 495, 276, 277, 278, 50, 109, 110, 111, 18, 112, 60, 62, 113, 114, 115, 116, 117, 118, 119, 120, 43, 45, 52, 53, 54, 55, 46, 47, 48, 51, 496, 280, 281, 282, 497, 498, 499, 33, 500, 501, 76, 502, 503, 504, 505, 506, 507, 508, 509, 275, 510, 511, 512, 513, 806, 807, 808, 809, 810, 811, 812, 813, 814, 815, 816, 846, 832, 833, 834, 835, 836, 837, 838, 839, 840, 841] (by decide +kernel) (by decide +kernel)
set_option maxRecDepth 20000 in
theorem gL_law_X5_vote : GoodIn wsL_law (wsV RL 57 RX5 yX5_vote wsX5_vote) := goodIn_app (goodIn_of _ (by decide +kernel)) ggL_law_X5_vote
set_option maxRecDepth 20000 in
theorem ggL_law_X6_vote : GoodIn wsL_law wsX6_vote := goodIn_r _ [517, 90, 418, 419, 5, 420, 136, 137, 138, 474, 475, 476, 477, 518, 519, 520, 521, 139, 140, 141, 142, 143, 91, 144, 145, 146, 522, 523, 524, 525, 526, 527, 528, 529, 817, 818, 819, 820, 821, 822, 823, 824, 825, 826, 827, 828, 829, 830, 831] (by decide +kernel) (by decide +kernel)
set_option maxRecDepth 20000 in
theorem gL_law_X6_vote : GoodIn wsL_law (wsV RL 60 RX6 yX6_vote wsX6_vote) := goodIn_app (goodIn_of _ (by decide +kernel)) ggL_law_X6_vote
set_option maxRecDepth 20000 in
theorem ggL_law_X5_set : GoodIn wsL_law wsX5_set := goodIn_r _ [533, 534, 535, 15, 326, 19, 106, 107, 2, 108, 109, 110, 111, 18, 112, 60, 62, 113, 114, 115, 116, 117, 118, 119, 14, 120, 43, 45, 52, 53, 54, 55, 46, 47, 48, 49, 50, 51, 806, 807, 808, 809, 810, 811, 812, 813, 814, 815, 816, 832, 833, 834, 835, 836, 837, 838, 839, 840, 841] (by decide +kernel) (by decide +kernel)
set_option maxRecDepth 20000 in
theorem gL_law_X5_set : GoodIn wsL_law (wsV RL 61 RX5 yX5_set wsX5_set) := goodIn_app (goodIn_of _ (by decide +kernel)) ggL_law_X5_set
set_option maxRecDepth 20000 in
theorem ggL_law_X6_set : GoodIn wsL_law wsX6_set := goodIn_r _ [539, 90, 136, 137, 5, 138, 139, 140, 141, 142, 143, 91, 144, 145, 146, 817, 818, 819, 820, 821, 822, 823, 824, 825, 826, 827, 828, 829, 830, 831] (by decide +kernel) (by decide +kernel)
set_option maxRecDepth 20000 in
theorem gL_law_X6_set : GoodIn wsL_law (wsV RL 64 RX6 yX6_set wsX6_set) := goodIn_app (goodIn_of _ (by decide +kernel)) ggL_law_X6_set
set_option maxRecDepth 20000 in
theorem ggL_law_X5_type : GoodIn wsL_law wsX5_type := goodIn_r _ [543, 24, 23, 806, 807, 808, 809, 810, 811, 812, 813, 814, 815, 816] (by decide +kernel) (by decide +kernel)
set_option maxRecDepth 20000 in
theorem gL_law_X5_type : GoodIn wsL_law (wsV RL 65 RX5 yX5_type wsX5_type) := goodIn_app (goodIn_of _ (by decide +kernel)) ggL_law_X5_type
set_option maxRecDepth 20000 in
theorem ggL_law_X6_type : GoodIn wsL_law wsX6_type := goodIn_r _ [547, 230, 93, 817, 818, 819, 820, 821, 822, 823, 824, 825, 826, 827, 828, 829, 830, 831] (by decide +kernel) (by decide +kernel)
set_option maxRecDepth 20000 in
theorem gL_law_X6_type : GoodIn wsL_law (wsV RL 69 RX6 yX6_type wsX6_type) := goodIn_app (goodIn_of _ (by decide +kernel)) ggL_law_X6_type
set_option maxRecDepth 20000 in
theorem ggL_law_X5_clearText : GoodIn wsL_law wsX5_clearText := goodIn_r _ [551, 24, 806, 807, 808, 809, 810, 811, 812, 813, 814, 815, 816] (by decide +kernel) (by decide +kernel)
set_option maxRecDepth 20000 in
theorem gL_law_X5_clearText : GoodIn wsL_law (wsV RL 70 RX5 yX5_clearText wsX5_clearText) := goodIn_app (goodIn_of _ (by decide +kernel)) ggL_law_X5_clearText
set_option maxRecDepth 20000 in
theorem ggL_law_X6_clearText : GoodIn wsL_law wsX6_clearText := goodIn_r _ [555, 230, 817, 818, 819, 820, 821, 822, 823, 824, 825, 826, 827, 828, 829, 830, 831] (by decide +kernel) (by decide +kernel)
set_option maxRecDepth 20000 in
theorem gL_law_X6_clearText : GoodIn wsL_law (wsV RL 73 RX6 yX6_clearText wsX6_clearText) := goodIn_app (goodIn_of _ (by decide +kernel)) ggL_law_X6_clearText
set_option maxRecDepth 20000 in
theorem ggL_law_X5_undo : GoodIn wsL_law wsX5_undo := goodIn_r _ [559, 19, 560, 15, 561, 562, 563, 18, 564, 60, 62, 117, 118, 119, 14, 120, 43, 45, 52, 53, 54, 55, 46, 47, 48, 49, 50, 51, 806, 807, 808, 809, 810, 811, 812, 813, 814, 815, 816, 840, 841, 832, 833, 834, 835, 836, 837, 838, 839] (by decide +kernel) (by decide +kernel)
set_option maxRecDepth 20000 in
theorem gL_law_X5_undo : GoodIn wsL_law (wsV RL 74 RX5 yX5_undo wsX5_undo) := goodIn_app (goodIn_of _ (by decide +kernel)) ggL_law_X5_undo
set_option maxRecDepth 20000 in
theorem ggL_law_X6_undo : GoodIn wsL_law wsX6_undo := goodIn_r _ [568, 143, 91, 90, 144, 145, 5, 146, 817, 818, 819, 820, 821, 822, 823, 824, 825, 826, 827, 828, 829, 830, 831] (by decide +kernel) (by decide +kernel)
set_option maxRecDepth 20000 in
theorem gL_law_X6_undo : GoodIn wsL_law (wsV RL 77 RX6 yX6_undo wsX6_undo) := goodIn_app (goodIn_of _ (by decide +kernel)) ggL_law_X6_undo
set_option maxRecDepth 20000 in
theorem ggL_law_X5_keep : GoodIn wsL_law wsX5_keep := goodIn_r _ [572, 20, 15, 21, 102, 160, 118, 119, 14, 120, 43, 45, 52, 53, 54, 55, 46, 47, 48, 49, 50, 51, 806, 807, 808, 809, 810, 811, 812, 813, 814, 815, 816, 832, 833, 834, 835, 836, 837, 838, 839] (by decide +kernel) (by decide +kernel)
set_option maxRecDepth 20000 in
theorem gL_law_X5_keep : GoodIn wsL_law (wsV RL 78 RX5 yX5_keep wsX5_keep) := goodIn_app (goodIn_of _ (by decide +kernel)) ggL_law_X5_keep
set_option maxRecDepth 20000 in
theorem ggL_law_X6_keep : GoodIn wsL_law wsX6_keep := goodIn_r _ [576, 90, 92, 577, 144, 145, 5, 146, 817, 818, 819, 820, 821, 822, 823, 824, 825, 826, 827, 828, 829, 830, 831] (by decide +kernel) (by decide +kernel)
set_option maxRecDepth 20000 in
theorem gL_law_X6_keep : GoodIn wsL_law (wsV RL 81 RX6 yX6_keep wsX6_keep) := goodIn_app (goodIn_of _ (by decide +kernel)) ggL_law_X6_keep
set_option maxRecDepth 20000 in
theorem ggL_law_X5_restore : GoodIn wsL_law wsX5_restore := goodIn_r _ [581, 21, 19, 15, 20, 102, 109, 110, 111, 18, 112, 60, 62, 113, 114, 115, 116, 117, 118, 119, 14, 120, 43, 45, 52, 53, 54, 55, 46, 47, 48, 49, 50, 51, 160, 806, 807, 808, 809, 810, 811, 812, 813, 814, 815, 816, 832, 833, 834, 835, 836, 837, 838, 839, 840, 841] (by decide +kernel) (by decide +kernel)
set_option maxRecDepth 20000 in
theorem gL_law_X5_restore : GoodIn wsL_law (wsV RL 82 RX5 yX5_restore wsX5_restore) := goodIn_app (goodIn_of _ (by decide +kernel)) ggL_law_X5_restore
set_option maxRecDepth 20000 in
theorem ggL_law_X6_restore : GoodIn wsL_law wsX6_restore := goodIn_r _ [585, 577, 92, 90, 139, 140, 141, 5, 142, 143, 91, 144, 145, 146, 817, 818, 819, 820, 821, 822, 823, 824, 825, 826, 827, 828, 829, 830, 831] (by decide +kernel) (by decide +kernel)
set_option maxRecDepth 20000 in
theorem gL_law_X6_restore : GoodIn wsL_law (wsV RL 85 RX6 yX6_restore wsX6_restore) := goodIn_app (goodIn_of _ (by decide +kernel)) ggL_law_X6_restore
set_option maxRecDepth 20000 in
theorem ggL_law_X5_note : GoodIn wsL_law wsX5_note := goodIn_r _ [589, 15, 319, 320, 29, 391, 439, 251, 252, 253, 14, 254, 43, 255, 256, 257, 258, 199, 200, 201, 202, 48, 322, 323, 324, 2, 325, 326, 327, 328, 329, 28, 330, 331, 69, 71, 68, 332, 333, 334, 335, 45, 336, 337, 197, 338, 46, 339, 340, 341, 342, 343, 344, 345, 346, 196, 198, 347, 348, 349, 350, 70, 590, 591, 592, 593, 51, 594, 595, 596, 597, 598, 25, 30, 160, 118, 119, 120, 52, 53, 54, 55, 47, 49, 50, 259, 260, 261, 262, 263, 264, 265, 266, 125, 126, 127, 128, 267, 268, 269, 270, 271, 272, 273, 274, 275, 276, 277, 278, 279, 280, 281, 282, 806, 807, 808, 809, 810, 811, 812, 813, 814, 815, 816, 832, 833, 834, 835, 836, 837, 838, 839, 842, 843, 844, 845] (by decide +kernel) (by decide +kernel)
set_option maxRecDepth 20000 in
theorem gL_law_X5_note : GoodIn wsL_law (wsV RL 86 RX5 yX5_note wsX5_note) := goodIn_app (goodIn_of _ (by decide +kernel)) ggL_law_X5_note
set_option maxRecDepth 20000 in
theorem ggL_law_X6_note : GoodIn wsL_law wsX6_note := goodIn_r _ [602, 287, 288, 289, 5, 290, 90, 136, 137, 138, 295, 296, 297, 298, 291, 292, 293, 294, 603, 604, 605, 606, 94, 359, 360, 361, 362, 363, 364, 365, 366, 367, 368, 369, 370, 371, 95, 372, 373, 374, 375, 376, 377, 378, 299, 300, 301, 302, 607, 608, 609, 610, 611, 612, 613, 614, 615, 616, 617, 618, 817, 818, 819, 820, 821, 822, 823, 824, 825, 826, 827, 828, 829, 830, 831] (by decide +kernel) (by decide +kernel)
set_option maxRecDepth 20000 in
theorem gL_law_X6_note : GoodIn wsL_law (wsV RL 89 RX6 yX6_note wsX6_note) := goodIn_app (goodIn_of _ (by decide +kernel)) ggL_law_X6_note
set_option maxRecDepth 20000 in
theorem ggL_law_X5_dots : GoodIn wsL_law wsX5_dots := goodIn_r _ [622, 15, 408, 409, 2, 410, 106, 107, 108, 251, 252, 253, 14, 254, 43, 429, 200, 201, 202, 48, 806, 807, 808, 809, 810, 811, 812, 813, 814, 815, 816, 832, 833, 834, 835, 836, 837, 838, 839] (by decide +kernel) (by decide +kernel)
set_option maxRecDepth 20000 in
theorem gL_law_X5_dots : GoodIn wsL_law (wsV RL 90 RX5 yX5_dots wsX5_dots) := goodIn_app (goodIn_of _ (by decide +kernel)) ggL_law_X5_dots
set_option maxRecDepth 20000 in
theorem ggL_law_X6_dots : GoodIn wsL_law wsX6_dots := goodIn_r _ [626, 418, 419, 5, 420, 136, 137, 138, 287, 288, 289, 290, 90, 295, 296, 297, 298, 817, 818, 819, 820, 821, 822, 823, 824, 825, 826, 827, 828, 829, 830, 831] (by decide +kernel) (by decide +kernel)
set_option maxRecDepth 20000 in
theorem gL_law_X6_dots : GoodIn wsL_law (wsV RL 93 RX6 yX6_dots wsX6_dots) := goodIn_app (goodIn_of _ (by decide +kernel)) ggL_law_X6_dots
set_option maxRecDepth 20000 in
theorem ggL_law_X5_heap : GoodIn wsL_law wsX5_heap := goodIn_r _ [630, 29, 15, 322, 323, 324, 2, 325, 326, 327, 328, 329, 28, 330, 331, 69, 71, 68, 332, 333, 334, 14, 335, 45, 336, 337, 197, 338, 46, 339, 340, 341, 342, 343, 344, 345, 346, 196, 198, 347, 348, 349, 350, 70, 383, 384, 385, 386, 631, 632, 633, 634, 635, 636, 637, 638, 639, 640, 641, 642, 643, 256, 257, 258, 199, 200, 201, 202, 48, 644, 645, 646, 647, 438, 648, 649, 650, 651, 102, 391, 439, 440, 441, 442, 443, 444, 652, 653, 654, 655, 656, 657, 658, 659, 660, 661, 662, 663, 806, 807, 808, 809, 810, 811, 812, 813, 814, 815, 816, 832, 833, 834, 835, 836, 837, 838, 839, 842, 843, 844, 845] (by decide +kernel) (by decide +kernel)
set_option maxRecDepth 20000 in
theorem gL_law_X5_heap : GoodIn wsL_law (wsV RL 94 RX5 yX5_heap wsX5_heap) := goodIn_app (goodIn_of _ (by decide +kernel)) ggL_law_X5_heap
set_option maxRecDepth 20000 in
theorem ggL_law_X6_heap : GoodIn wsL_law wsX6_heap := goodIn_r _ [667, 359, 360, 361, 5, 362, 90, 363, 364, 365, 366, 367, 94, 368, 369, 370, 371, 95, 372, 373, 374, 375, 295, 296, 297, 298, 376, 377, 378, 136, 137, 138, 615, 616, 617, 618, 668, 669, 670, 671, 672, 673, 674, 675, 291, 292, 293, 294, 676, 677, 678, 679, 299, 300, 301, 302, 453, 454, 455, 456, 680, 681, 682, 683, 684, 685, 686, 687, 817, 818, 819, 820, 821, 822, 823, 824, 825, 826, 827, 828, 829, 830, 831] (by decide +kernel) (by decide +kernel)
set_option maxRecDepth 20000 in
theorem gL_law_X6_heap : GoodIn wsL_law (wsV RL 97 RX6 yX6_heap wsX6_heap) := goodIn_app (goodIn_of _ (by decide +kernel)) ggL_law_X6_heap
set_option maxRecDepth 20000 in
theorem ggL_law_X5_theme : GoodIn wsL_law wsX5_theme := goodIn_r _ [691, 15, 34, 491, 461, 462, 463, 14, 464, 49, 469, 272, 273, 274, 43, 47, 692, 693, 694, 695, 696, 256, 257, 258, 199, 200, 201, 202, 48, 497, 498, 499, 33, 500, 501, 76, 502, 503, 504, 505, 506, 507, 508, 509, 275, 276, 277, 278, 50, 510, 511, 512, 513, 697, 698, 699, 2, 700, 438, 701, 702, 703, 704, 322, 323, 324, 325, 29, 326, 327, 328, 329, 28, 330, 331, 69, 71, 68, 332, 333, 334, 335, 45, 336, 337, 197, 338, 46, 339, 340, 341, 342, 343, 344, 345, 346, 196, 198, 347, 348, 349, 350, 70, 648, 649, 650, 651, 102, 391, 439, 705, 706, 707, 708, 709, 806, 807, 808, 809, 810, 811, 812, 813, 814, 815, 816, 846, 832, 833, 834, 835, 836, 837, 838, 839, 842, 843, 844, 845] (by decide +kernel) (by decide +kernel)
set_option maxRecDepth 20000 in
theorem gL_law_X5_theme : GoodIn wsL_law (wsV RL 98 RX5 yX5_theme wsX5_theme) := goodIn_app (goodIn_of _ (by decide +kernel)) ggL_law_X5_theme
set_option maxRecDepth 20000 in
theorem ggL_law_X6_theme : GoodIn wsL_law wsX6_theme := goodIn_r _ [713, 474, 475, 476, 5, 477, 90, 136, 137, 138, 307, 308, 309, 310, 299, 300, 301, 302, 295, 296, 297, 298, 714, 715, 716, 717, 291, 292, 293, 294, 522, 523, 524, 525, 526, 527, 528, 529, 518, 519, 520, 521, 718, 719, 720, 721, 722, 723, 724, 725, 94, 359, 360, 361, 362, 363, 364, 365, 366, 367, 368, 369, 370, 371, 95, 372, 373, 374, 375, 376, 377, 378, 726, 727, 728, 729, 817, 818, 819, 820, 821, 822, 823, 824, 825, 826, 827, 828, 829, 830, 831] (by decide +kernel) (by decide +kernel)
set_option maxRecDepth 20000 in
theorem gL_law_X6_theme : GoodIn wsL_law (wsV RL 101 RX6 yX6_theme wsX6_theme) := goodIn_app (goodIn_of _ (by decide +kernel)) ggL_law_X6_theme
set_option maxRecDepth 20000 in
theorem ggL_law_X5_votes : GoodIn wsL_law wsX5_votes := goodIn_r _ [733, 15, 461, 462, 463, 14, 464, 49, 492, 493, 2, 494, 106, 107, 108, 734, 507, 508, 509, 275, 276, 277, 278, 50, 806, 807, 808, 809, 810, 811, 812, 813, 814, 815, 816, 832, 833, 834, 835, 836, 837, 838, 839] (by decide +kernel) (by decide +kernel)
set_option maxRecDepth 20000 in
theorem gL_law_X5_votes : GoodIn wsL_law (wsV RL 102 RX5 yX5_votes wsX5_votes) := goodIn_app (goodIn_of _ (by decide +kernel)) ggL_law_X5_votes
set_option maxRecDepth 20000 in
theorem ggL_law_X6_votes : GoodIn wsL_law wsX6_votes := goodIn_r _ [738, 474, 475, 476, 5, 477, 90, 136, 137, 138, 526, 527, 528, 529, 518, 519, 520, 521, 817, 818, 819, 820, 821, 822, 823, 824, 825, 826, 827, 828, 829, 830, 831] (by decide +kernel) (by decide +kernel)
set_option maxRecDepth 20000 in
theorem gL_law_X6_votes : GoodIn wsL_law (wsV RL 105 RX6 yX6_votes wsX6_votes) := goodIn_app (goodIn_of _ (by decide +kernel)) ggL_law_X6_votes
set_option maxRecDepth 20000 in
theorem ggL_law_X5_ifDragged : GoodIn wsL_law wsX5_ifDragged := goodIn_r _ [742, 15, 25, 30, 326, 743, 391, 251, 252, 253, 14, 254, 43, 103, 104, 2, 105, 106, 107, 108, 322, 323, 324, 325, 29, 327, 328, 329, 28, 330, 331, 69, 71, 68, 332, 333, 334, 335, 45, 336, 337, 197, 338, 46, 339, 340, 341, 342, 343, 344, 345, 346, 196, 198, 347, 348, 349, 350, 70, 160, 118, 119, 120, 52, 53, 54, 55, 47, 48, 49, 50, 51, 321, 126, 127, 128, 631, 632, 633, 634, 744, 745, 746, 747, 102, 806, 807, 808, 809, 810, 811, 812, 813, 814, 815, 816, 832, 833, 834, 835, 836, 837, 838, 839, 842, 843, 844, 845] (by decide +kernel) (by decide +kernel)
set_option maxRecDepth 20000 in
theorem gL_law_X5_ifDragged : GoodIn wsL_law (wsV RL 106 RX5 yX5_ifDragged wsX5_ifDragged) := goodIn_app (goodIn_of _ (by decide +kernel)) ggL_law_X5_ifDragged
set_option maxRecDepth 20000 in
theorem ggL_law_X6_ifDragged : GoodIn wsL_law wsX6_ifDragged := goodIn_r _ [751, 97, 94, 90, 287, 288, 289, 5, 290, 136, 137, 138, 133, 134, 135, 359, 360, 361, 362, 363, 364, 365, 366, 367, 368, 369, 370, 371, 95, 372, 373, 374, 375, 295, 296, 297, 298, 376, 377, 378, 355, 356, 357, 358, 151, 152, 153, 154, 615, 616, 617, 618, 817, 818, 819, 820, 821, 822, 823, 824, 825, 826, 827, 828, 829, 830, 831] (by decide +kernel) (by decide +kernel)
set_option maxRecDepth 20000 in
theorem gL_law_X6_ifDragged : GoodIn wsL_law (wsV RL 110 RX6 yX6_ifDragged wsX6_ifDragged) := goodIn_app (goodIn_of _ (by decide +kernel)) ggL_law_X6_ifDragged
set_option maxRecDepth 20000 in
theorem ggL_law_X5_reachFor : GoodIn wsL_law wsX5_reachFor := goodIn_r _ [755, 30, 15, 106, 107, 2, 108, 327, 328, 329, 28, 330, 331, 69, 71, 68, 332, 333, 334, 14, 335, 45, 336, 337, 197, 338, 46, 339, 340, 341, 342, 343, 344, 345, 346, 196, 198, 347, 348, 349, 350, 70, 806, 807, 808, 809, 810, 811, 812, 813, 814, 815, 816, 832, 833, 834, 835, 836, 837, 838, 839, 842, 843, 844, 845] (by decide +kernel) (by decide +kernel)
set_option maxRecDepth 20000 in
theorem gL_law_X5_reachFor : GoodIn wsL_law (wsV RL 111 RX5 yX5_reachFor wsX5_reachFor) := goodIn_app (goodIn_of _ (by decide +kernel)) ggL_law_X5_reachFor
set_option maxRecDepth 20000 in
theorem ggL_law_X6_reachFor : GoodIn wsL_law wsX6_reachFor := goodIn_r _ [759, 136, 137, 5, 138, 363, 364, 365, 366, 367, 94, 90, 368, 369, 370, 371, 95, 372, 373, 374, 375, 295, 296, 297, 298, 376, 377, 378, 817, 818, 819, 820, 821, 822, 823, 824, 825, 826, 827, 828, 829, 830, 831] (by decide +kernel) (by decide +kernel)
set_option maxRecDepth 20000 in
theorem gL_law_X6_reachFor : GoodIn wsL_law (wsV RL 114 RX6 yX6_reachFor wsX6_reachFor) := goodIn_app (goodIn_of _ (by decide +kernel)) ggL_law_X6_reachFor
set_option maxRecDepth 20000 in
theorem ggL_law_X5_nearest : GoodIn wsL_law wsX5_nearest := goodIn_r _ [763, 15, 102, 439, 251, 252, 253, 14, 254, 43, 764, 333, 334, 335, 45, 336, 337, 197, 338, 46, 806, 807, 808, 809, 810, 811, 812, 813, 814, 815, 816, 832, 833, 834, 835, 836, 837, 838, 839] (by decide +kernel) (by decide +kernel)
set_option maxRecDepth 20000 in
theorem gL_law_X5_nearest : GoodIn wsL_law (wsV RL 115 RX5 yX5_nearest wsX5_nearest) := goodIn_app (goodIn_of _ (by decide +kernel)) ggL_law_X5_nearest
set_option maxRecDepth 20000 in
theorem ggL_law_X6_nearest : GoodIn wsL_law wsX6_nearest := goodIn_r _ [768, 90, 287, 288, 289, 5, 290, 136, 137, 138, 299, 300, 301, 302, 295, 296, 297, 298, 372, 373, 374, 375, 376, 377, 378, 817, 818, 819, 820, 821, 822, 823, 824, 825, 826, 827, 828, 829, 830, 831] (by decide +kernel) (by decide +kernel)
set_option maxRecDepth 20000 in
theorem gL_law_X6_nearest : GoodIn wsL_law (wsV RL 118 RX6 yX6_nearest wsX6_nearest) := goodIn_app (goodIn_of _ (by decide +kernel)) ggL_law_X6_nearest
set_option maxRecDepth 20000 in
theorem ggL_law_X5_count : GoodIn wsL_law wsX5_count := goodIn_r _ [772, 15, 102, 438, 34, 326, 19, 560, 24, 322, 323, 324, 2, 325, 29, 327, 328, 329, 28, 330, 331, 69, 71, 68, 332, 333, 334, 14, 335, 45, 336, 337, 197, 338, 46, 339, 340, 341, 342, 343, 344, 345, 346, 196, 198, 347, 348, 349, 350, 70, 773, 774, 775, 776, 43, 696, 256, 257, 258, 199, 200, 201, 202, 48, 777, 778, 779, 780, 781, 192, 193, 194, 51, 195, 469, 272, 273, 274, 47, 497, 498, 499, 33, 500, 501, 76, 502, 503, 504, 505, 506, 507, 508, 509, 275, 276, 277, 278, 50, 510, 511, 512, 513, 782, 783, 784, 785, 631, 632, 633, 634, 806, 807, 808, 809, 810, 811, 812, 813, 814, 815, 816, 832, 833, 834, 835, 836, 837, 838, 839, 840, 841, 842, 843, 844, 845, 846] (by decide +kernel) (by decide +kernel)
set_option maxRecDepth 20000 in
theorem gL_law_X5_count : GoodIn wsL_law (wsV RL 119 RX5 yX5_count wsX5_count) := goodIn_app (goodIn_of _ (by decide +kernel)) ggL_law_X5_count
set_option maxRecDepth 20000 in
theorem ggL_law_X6_count : GoodIn wsL_law wsX6_count := goodIn_r _ [789, 90, 143, 230, 136, 137, 5, 138, 359, 360, 361, 362, 363, 364, 365, 366, 367, 94, 368, 369, 370, 371, 95, 372, 373, 374, 375, 295, 296, 297, 298, 376, 377, 378, 790, 791, 792, 793, 291, 292, 293, 294, 794, 795, 796, 797, 421, 422, 423, 424, 307, 308, 309, 310, 299, 300, 301, 302, 798, 799, 800, 801, 522, 523, 524, 525, 526, 527, 528, 529, 518, 519, 520, 521, 802, 803, 804, 805, 607, 608, 609, 610, 817, 818, 819, 820, 821, 822, 823, 824, 825, 826, 827, 828, 829, 830, 831] (by decide +kernel) (by decide +kernel)
set_option maxRecDepth 20000 in
theorem gL_law_X6_count : GoodIn wsL_law (wsV RL 122 RX6 yX6_count wsX6_count) := goodIn_app (goodIn_of _ (by decide +kernel)) ggL_law_X6_count

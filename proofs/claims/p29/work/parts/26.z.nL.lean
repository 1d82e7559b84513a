theorem inlX0 : ∀ w ∈ wsX00, w ∈ wsL_law := fun _ h => List.mem_append_left _ (List.mem_append_left _ (List.mem_append_left _ (List.mem_append_left _ (List.mem_append_left _ (List.mem_append_right _ h)))))
theorem inX0 : ∀ w ∈ wsX00, w ∈ lw_tbl := fun w h => wsL_law_in w (inlX0 w h)
theorem inlX1 : ∀ w ∈ wsX10, w ∈ wsL_law := fun _ h => List.mem_append_left _ (List.mem_append_right _ h)
theorem inX1 : ∀ w ∈ wsX10, w ∈ lw_tbl := fun w h => wsL_law_in w (inlX1 w h)
theorem inlX2 : ∀ w ∈ wsX20, w ∈ wsL_law := fun _ h => List.mem_append_left _ (List.mem_append_left _ (List.mem_append_left _ (List.mem_append_right _ h)))
theorem inX2 : ∀ w ∈ wsX20, w ∈ lw_tbl := fun w h => wsL_law_in w (inlX2 w h)
theorem inlX3 : ∀ w ∈ wsX30, w ∈ wsL_law := fun _ h => List.mem_append_left _ (List.mem_append_left _ (List.mem_append_left _ (List.mem_append_left _ (List.mem_append_right _ h))))
theorem inX3 : ∀ w ∈ wsX30, w ∈ lw_tbl := fun w h => wsL_law_in w (inlX3 w h)
theorem inlX4 : ∀ w ∈ wsX40, w ∈ wsL_law := fun _ h => List.mem_append_left _ (List.mem_append_left _ (List.mem_append_right _ h))
theorem inX4 : ∀ w ∈ wsX40, w ∈ lw_tbl := fun w h => wsL_law_in w (inlX4 w h)
theorem inlX5 : ∀ w ∈ wsX50, w ∈ wsL_law := fun _ h => List.mem_append_left _ (List.mem_append_left _ (List.mem_append_left _ (List.mem_append_left _ (List.mem_append_left _ (List.mem_append_left _ (List.mem_append_right _ h))))))
theorem inX5 : ∀ w ∈ wsX50, w ∈ lw_tbl := fun w h => wsL_law_in w (inlX5 w h)
set_option maxRecDepth 20000 in
theorem ggL_look_X5_count : GoodIn wsL_look wsX5_count := goodIn_r _ [7, 8, 9, 10, 11, 12, 13, 14, 15, 16, 17, 18, 6, 19, 20, 21, 22, 23, 24, 25, 26, 27, 28, 29, 30, 31, 32, 33, 34, 35, 36, 37, 38, 39, 40, 41, 42, 43, 44, 45, 46, 47, 48, 49, 50, 51, 52, 53, 54, 55, 56, 57, 58, 59, 60, 61, 62, 63, 64, 65, 66, 67, 68, 69, 70, 71, 72, 73, 74, 75, 76, 77, 78, 79, 80, 81, 82, 83, 84, 85, 86, 87, 88, 89, 90, 91, 92, 93, 94, 95, 96, 97, 98, 99, 100, 101, 102, 103, 104, 105, 106, 107, 108, 109, 110, 111, 112, 113, 114, 115, 116, 220, 221, 222, 223, 224, 225, 226, 227, 228, 229, 230, 231, 232, 233, 234, 235, 236, 237, 238, 239, 240, 241, 242, 243, 244, 245] (by decide +kernel) (by decide +kernel)
set_option maxRecDepth 20000 in
theorem gL_look_X5_count : GoodIn wsL_look (wsV RL 13 RX5 yX5_count wsX5_count) := goodIn_app (goodIn_of _ (by decide +kernel)) ggL_look_X5_count
set_option maxRecDepth 20000 in
theorem ggL_look_X5_note : GoodIn wsL_look wsX5_note := goodIn_r _ [120, 8, 121, 122, 20, 123, 124, 125, 126, 127, 33, 128, 60, 129, 62, 63, 64, 65, 66, 67, 68, 69, 16, 17, 18, 6, 19, 12, 21, 22, 23, 24, 25, 26, 27, 28, 29, 30, 31, 32, 34, 35, 36, 37, 38, 39, 40, 41, 42, 43, 44, 45, 46, 47, 48, 49, 50, 51, 52, 53, 54, 55, 130, 131, 132, 133, 78, 134, 135, 136, 137, 138, 139, 140, 141, 142, 143, 144, 145, 146, 147, 148, 84, 149, 104, 150, 151, 152, 153, 154, 155, 156, 157, 158, 159, 160, 161, 162, 163, 164, 165, 166, 81, 82, 83, 100, 101, 102, 103, 167, 168, 169, 170, 220, 221, 222, 223, 224, 225, 226, 227, 228, 229, 230, 231, 232, 233, 234, 235, 236, 237, 238, 241, 242, 243, 244] (by decide +kernel) (by decide +kernel)
set_option maxRecDepth 20000 in
theorem gL_look_X5_note : GoodIn wsL_look (wsV RL 19 RX5 yX5_note wsX5_note) := goodIn_app (goodIn_of _ (by decide +kernel)) ggL_look_X5_note
set_option maxRecDepth 20000 in
theorem ggL_look_X5_dots : GoodIn wsL_look wsX5_dots := goodIn_r _ [174, 8, 175, 176, 6, 177, 178, 179, 180, 125, 126, 127, 33, 128, 60, 181, 66, 67, 68, 69, 220, 221, 222, 223, 224, 225, 226, 227, 228, 229, 230, 231, 232, 233, 234, 235, 236, 237, 238] (by decide +kernel) (by decide +kernel)
set_option maxRecDepth 20000 in
theorem gL_look_X5_dots : GoodIn wsL_look (wsV RL 23 RX5 yX5_dots wsX5_dots) := goodIn_app (goodIn_of _ (by decide +kernel)) ggL_look_X5_dots
set_option maxRecDepth 20000 in
theorem ggL_look_X5_theme : GoodIn wsL_look wsX5_theme := goodIn_r _ [185, 8, 11, 186, 187, 188, 189, 33, 190, 149, 80, 81, 82, 83, 60, 84, 191, 192, 193, 194, 61, 62, 63, 64, 65, 66, 67, 68, 69, 85, 86, 87, 88, 89, 90, 91, 92, 93, 94, 95, 96, 97, 98, 99, 100, 101, 102, 103, 104, 105, 106, 107, 108, 195, 196, 197, 6, 198, 10, 199, 200, 201, 202, 16, 17, 18, 19, 20, 12, 21, 22, 23, 24, 25, 26, 27, 28, 29, 30, 31, 32, 34, 35, 36, 37, 38, 39, 40, 41, 42, 43, 44, 45, 46, 47, 48, 49, 50, 51, 52, 53, 54, 55, 203, 204, 205, 206, 9, 123, 124, 207, 208, 209, 210, 211, 220, 221, 222, 223, 224, 225, 226, 227, 228, 229, 230, 245, 231, 232, 233, 234, 235, 236, 237, 238, 241, 242, 243, 244] (by decide +kernel) (by decide +kernel)
set_option maxRecDepth 20000 in
theorem gL_look_X5_theme : GoodIn wsL_look (wsV RL 26 RX5 yX5_theme wsX5_theme) := goodIn_app (goodIn_of _ (by decide +kernel)) ggL_look_X5_theme
set_option maxRecDepth 20000 in
theorem ggL_look_X5_votes : GoodIn wsL_look wsX5_votes := goodIn_r _ [215, 8, 187, 188, 189, 33, 190, 149, 216, 217, 6, 218, 178, 179, 180, 219, 97, 98, 99, 100, 101, 102, 103, 104, 220, 221, 222, 223, 224, 225, 226, 227, 228, 229, 230, 231, 232, 233, 234, 235, 236, 237, 238] (by decide +kernel) (by decide +kernel)
set_option maxRecDepth 20000 in
theorem gL_look_X5_votes : GoodIn wsL_look (wsV RL 29 RX5 yX5_votes wsX5_votes) := goodIn_app (goodIn_of _ (by decide +kernel)) ggL_look_X5_votes
set_option maxRecDepth 20000 in
theorem ggL_far_X5_note : GoodIn wsL_far wsX5_note := goodIn_r _ [5, 6, 7, 8, 9, 10, 11, 12, 13, 14, 15, 16, 17, 18, 19, 20, 21, 22, 23, 24, 25, 26, 27, 28, 29, 4, 30, 31, 32, 33, 34, 35, 36, 37, 38, 39, 40, 41, 42, 43, 44, 45, 46, 47, 48, 49, 50, 51, 52, 53, 54, 55, 56, 57, 58, 59, 60, 61, 62, 63, 64, 65, 66, 67, 68, 69, 70, 71, 72, 73, 74, 75, 76, 77, 78, 79, 80, 81, 82, 83, 84, 85, 86, 87, 88, 89, 90, 91, 92, 93, 94, 95, 96, 97, 98, 99, 100, 101, 102, 103, 104, 105, 106, 107, 108, 109, 110, 111, 112, 113, 114, 115, 116, 121, 122, 123, 124, 125, 126, 127, 128, 129, 130, 131, 132, 133, 134, 135, 136, 137, 138, 139, 140, 141, 142, 143] (by decide +kernel) (by decide +kernel)
set_option maxRecDepth 20000 in
theorem gL_far_X5_note : GoodIn wsL_far (wsV RL 19 RX5 yX5_note wsX5_note) := goodIn_app (goodIn_of _ (by decide +kernel)) ggL_far_X5_note
set_option maxRecDepth 20000 in
theorem ggL_far_L_abs : GoodIn wsL_far wsL_abs := goodIn_r _ [120] (by decide +kernel) (by decide +kernel)
set_option maxRecDepth 20000 in
theorem gL_far_L_abs : GoodIn wsL_far (va_wsS RL 32 yL_abs wsL_abs) := goodIn_app (goodIn_of _ (by decide +kernel)) ggL_far_L_abs
set_option maxRecDepth 20000 in
theorem ggL_holds_X5_count : GoodIn wsL_holds wsX5_count := goodIn_r _ [5, 6, 7, 8, 9, 10, 11, 12, 13, 14, 15, 16, 4, 17, 18, 19, 20, 21, 22, 23, 24, 25, 26, 27, 28, 29, 30, 31, 32, 33, 34, 35, 36, 37, 38, 39, 40, 41, 42, 43, 44, 45, 46, 47, 48, 49, 50, 51, 52, 53, 54, 55, 56, 57, 58, 59, 60, 61, 62, 63, 64, 65, 66, 67, 68, 69, 70, 71, 72, 73, 74, 75, 76, 77, 78, 79, 80, 81, 82, 83, 84, 85, 86, 87, 88, 89, 90, 91, 92, 93, 94, 95, 96, 97, 98, 99, 100, 101, 102, 103, 104, 105, 106, 107, 108, 109, 110, 111, 112, 113, 114, 267, 268, 269, 270, 271, 272, 273, 274, 275, 276, 277, 278, 279, 280, 281, 282, 283, 284, 285, 286, 287, 288, 289, 290, 291, 292] (by decide +kernel) (by decide +kernel)
set_option maxRecDepth 20000 in
theorem gL_holds_X5_count : GoodIn wsL_holds (wsV RL 13 RX5 yX5_count wsX5_count) := goodIn_app (goodIn_of _ (by decide +kernel)) ggL_holds_X5_count
set_option maxRecDepth 20000 in
theorem ggL_holds_X5_dots : GoodIn wsL_holds wsX5_dots := goodIn_r _ [118, 6, 119, 120, 4, 121, 122, 123, 124, 125, 126, 127, 31, 128, 58, 129, 64, 65, 66, 67, 267, 268, 269, 270, 271, 272, 273, 274, 275, 276, 277, 278, 279, 280, 281, 282, 283, 284, 285] (by decide +kernel) (by decide +kernel)
set_option maxRecDepth 20000 in
theorem gL_holds_X5_dots : GoodIn wsL_holds (wsV RL 23 RX5 yX5_dots wsX5_dots) := goodIn_app (goodIn_of _ (by decide +kernel)) ggL_holds_X5_dots
set_option maxRecDepth 20000 in
theorem ggL_holds_X5_votes : GoodIn wsL_holds wsX5_votes := goodIn_r _ [133, 6, 134, 135, 136, 31, 137, 138, 139, 140, 4, 141, 122, 123, 124, 142, 95, 96, 97, 98, 99, 100, 101, 102, 267, 268, 269, 270, 271, 272, 273, 274, 275, 276, 277, 278, 279, 280, 281, 282, 283, 284, 285] (by decide +kernel) (by decide +kernel)
set_option maxRecDepth 20000 in
theorem gL_holds_X5_votes : GoodIn wsL_holds (wsV RL 29 RX5 yX5_votes wsX5_votes) := goodIn_app (goodIn_of _ (by decide +kernel)) ggL_holds_X5_votes
set_option maxRecDepth 20000 in
theorem ggL_holds_X5_theme : GoodIn wsL_holds wsX5_theme := goodIn_r _ [146, 6, 9, 147, 134, 135, 136, 31, 137, 138, 78, 79, 80, 81, 58, 82, 148, 149, 150, 151, 59, 60, 61, 62, 63, 64, 65, 66, 67, 83, 84, 85, 86, 87, 88, 89, 90, 91, 92, 93, 94, 95, 96, 97, 98, 99, 100, 101, 102, 103, 104, 105, 106, 152, 153, 154, 4, 155, 8, 156, 157, 158, 159, 14, 15, 16, 17, 18, 10, 19, 20, 21, 22, 23, 24, 25, 26, 27, 28, 29, 30, 32, 33, 34, 35, 36, 37, 38, 39, 40, 41, 42, 43, 44, 45, 46, 47, 48, 49, 50, 51, 52, 53, 160, 161, 162, 163, 7, 164, 165, 166, 167, 168, 169, 170, 267, 268, 269, 270, 271, 272, 273, 274, 275, 276, 277, 292, 278, 279, 280, 281, 282, 283, 284, 285, 288, 289, 290, 291] (by decide +kernel) (by decide +kernel)
set_option maxRecDepth 20000 in
theorem gL_holds_X5_theme : GoodIn wsL_holds (wsV RL 26 RX5 yX5_theme wsX5_theme) := goodIn_app (goodIn_of _ (by decide +kernel)) ggL_holds_X5_theme
set_option maxRecDepth 20000 in
theorem ggL_holds_L_low : GoodIn wsL_holds wsL_low := goodIn_r _ [174, 175] (by decide +kernel) (by decide +kernel)
set_option maxRecDepth 20000 in
theorem gL_holds_L_low : GoodIn wsL_holds (va_wsS RL 37 yL_low wsL_low) := goodIn_app (goodIn_of _ (by decide +kernel)) ggL_holds_L_low
set_option maxRecDepth 20000 in
theorem ggL_holds_X5_note : GoodIn wsL_holds wsX5_note := goodIn_r _ [179, 6, 180, 181, 18, 164, 165, 125, 126, 127, 31, 128, 58, 182, 60, 61, 62, 63, 64, 65, 66, 67, 14, 15, 16, 4, 17, 10, 19, 20, 21, 22, 23, 24, 25, 26, 27, 28, 29, 30, 32, 33, 34, 35, 36, 37, 38, 39, 40, 41, 42, 43, 44, 45, 46, 47, 48, 49, 50, 51, 52, 53, 183, 184, 185, 186, 76, 187, 188, 189, 190, 191, 192, 193, 194, 195, 196, 197, 198, 199, 200, 201, 82, 138, 102, 202, 203, 204, 205, 206, 207, 208, 209, 210, 211, 212, 213, 214, 215, 216, 217, 218, 79, 80, 81, 98, 99, 100, 101, 219, 220, 221, 222, 267, 268, 269, 270, 271, 272, 273, 274, 275, 276, 277, 278, 279, 280, 281, 282, 283, 284, 285, 288, 289, 290, 291] (by decide +kernel) (by decide +kernel)
set_option maxRecDepth 20000 in
theorem gL_holds_X5_note : GoodIn wsL_holds (wsV RL 19 RX5 yX5_note wsX5_note) := goodIn_app (goodIn_of _ (by decide +kernel)) ggL_holds_X5_note
set_option maxRecDepth 20000 in
theorem ggL_holds_X5_heap : GoodIn wsL_holds wsX5_heap := goodIn_r _ [226, 18, 6, 14, 15, 16, 4, 17, 10, 19, 20, 21, 22, 23, 24, 25, 26, 27, 28, 29, 30, 31, 32, 33, 34, 35, 36, 37, 38, 39, 40, 41, 42, 43, 44, 45, 46, 47, 48, 49, 50, 51, 52, 53, 227, 228, 229, 230, 111, 112, 113, 114, 231, 232, 233, 234, 235, 236, 237, 238, 239, 60, 61, 62, 63, 64, 65, 66, 67, 240, 241, 242, 243, 8, 160, 161, 162, 163, 7, 164, 165, 244, 245, 246, 247, 248, 249, 250, 251, 252, 253, 254, 255, 256, 257, 258, 259, 260, 267, 268, 269, 270, 271, 272, 273, 274, 275, 276, 277, 278, 279, 280, 281, 282, 283, 284, 285, 288, 289, 290, 291] (by decide +kernel) (by decide +kernel)
set_option maxRecDepth 20000 in
theorem gL_holds_X5_heap : GoodIn wsL_holds (wsV RL 40 RX5 yX5_heap wsX5_heap) := goodIn_app (goodIn_of _ (by decide +kernel)) ggL_holds_X5_heap
set_option maxRecDepth 20000 in
theorem ggL_holds_L_far : GoodIn wsL_holds wsL_far := goodIn_r _ [263, 176, 177, 178, 4, 179, 6, 180, 181, 18, 164, 165, 125, 126, 127, 31, 128, 58, 182, 60, 61, 62, 63, 64, 65, 66, 67, 14, 15, 16, 17, 10, 19, 20, 21, 22, 23, 24, 25, 26, 27, 28, 29, 30, 32, 33, 34, 35, 36, 37, 38, 39, 40, 41, 42, 43, 44, 45, 46, 47, 48, 49, 50, 51, 52, 53, 183, 184, 185, 186, 76, 187, 188, 189, 190, 191, 192, 193, 194, 195, 196, 197, 198, 199, 200, 201, 82, 138, 102, 202, 203, 204, 205, 206, 207, 208, 209, 210, 211, 212, 213, 214, 215, 216, 217, 218, 79, 80, 81, 98, 99, 100, 101, 219, 220, 221, 222, 264, 265, 173, 266, 267, 268, 269, 270, 271, 272, 273, 274, 275, 276, 277, 278, 279, 280, 281, 282, 283, 284, 285, 288, 289, 290, 291] (by decide +kernel) (by decide +kernel)
set_option maxRecDepth 20000 in
theorem gL_holds_L_far : GoodIn wsL_holds (va_wsS RL 43 yL_far wsL_far) := goodIn_app (goodIn_of _ (by decide +kernel)) ggL_holds_L_far
set_option maxRecDepth 20000 in
theorem ggL_would_L_low : GoodIn wsL_would wsL_low := goodIn_r _ [4, 5] (by decide +kernel) (by decide +kernel)
set_option maxRecDepth 20000 in
theorem gL_would_L_low : GoodIn wsL_would (va_wsS RL 37 yL_low wsL_low) := goodIn_app (goodIn_of _ (by decide +kernel)) ggL_would_L_low
set_option maxRecDepth 20000 in
theorem ggL_would_X5_reachFor : GoodIn wsL_would wsX5_reachFor := goodIn_r _ [10, 11, 12, 13, 14, 9, 15, 16, 17, 18, 19, 20, 21, 22, 23, 24, 25, 26, 27, 28, 29, 30, 31, 32, 33, 34, 35, 36, 37, 38, 39, 40, 41, 42, 43, 44, 45, 46, 47, 48, 49, 50, 165, 166, 167, 168, 169, 170, 171, 172, 173, 174, 175, 176, 177, 178, 179, 180, 181, 182, 183, 184, 185, 186, 187] (by decide +kernel) (by decide +kernel)
set_option maxRecDepth 20000 in
theorem gL_would_X5_reachFor : GoodIn wsL_would (wsV RL 47 RX5 yX5_reachFor wsX5_reachFor) := goodIn_app (goodIn_of _ (by decide +kernel)) ggL_would_X5_reachFor
set_option maxRecDepth 20000 in
theorem ggL_would_X5_count : GoodIn wsL_would wsX5_count := goodIn_r _ [54, 12, 55, 56, 57, 58, 59, 60, 61, 62, 63, 64, 9, 65, 66, 16, 17, 18, 19, 20, 21, 22, 23, 24, 25, 26, 27, 28, 29, 30, 31, 32, 33, 34, 35, 36, 37, 38, 39, 40, 41, 42, 43, 44, 45, 46, 47, 48, 49, 50, 67, 68, 69, 70, 71, 72, 73, 74, 75, 76, 77, 78, 79, 80, 81, 82, 83, 84, 85, 86, 87, 88, 89, 90, 91, 92, 93, 94, 95, 96, 97, 98, 99, 100, 101, 102, 103, 104, 105, 106, 107, 108, 109, 110, 111, 112, 113, 114, 115, 116, 117, 118, 119, 120, 121, 122, 123, 124, 125, 126, 127, 165, 166, 167, 168, 169, 170, 171, 172, 173, 174, 175, 176, 177, 178, 179, 180, 181, 182, 183, 188, 189, 184, 185, 186, 187, 190] (by decide +kernel) (by decide +kernel)
set_option maxRecDepth 20000 in
theorem gL_would_X5_count : GoodIn wsL_would (wsV RL 13 RX5 yX5_count wsX5_count) := goodIn_app (goodIn_of _ (by decide +kernel)) ggL_would_X5_count
set_option maxRecDepth 20000 in
theorem ggL_would_X5_ifDragged : GoodIn wsL_would wsX5_ifDragged := goodIn_r _ [131, 12, 132, 11, 58, 133, 134, 135, 136, 137, 28, 138, 71, 139, 140, 9, 141, 13, 14, 15, 62, 63, 64, 65, 66, 16, 17, 18, 19, 20, 21, 22, 23, 24, 25, 26, 27, 29, 30, 31, 32, 33, 34, 35, 36, 37, 38, 39, 40, 41, 42, 43, 44, 45, 46, 47, 48, 49, 50, 142, 143, 144, 145, 146, 147, 148, 149, 95, 80, 150, 115, 89, 151, 152, 153, 154, 124, 125, 126, 127, 155, 156, 157, 158, 55, 165, 166, 167, 168, 169, 170, 171, 172, 173, 174, 175, 176, 177, 178, 179, 180, 181, 182, 183, 184, 185, 186, 187] (by decide +kernel) (by decide +kernel)
set_option maxRecDepth 20000 in
theorem gL_would_X5_ifDragged : GoodIn wsL_would (wsV RL 50 RX5 yX5_ifDragged wsX5_ifDragged) := goodIn_app (goodIn_of _ (by decide +kernel)) ggL_would_X5_ifDragged
set_option maxRecDepth 20000 in
theorem ggL_would_X5_nearest : GoodIn wsL_would wsX5_nearest := goodIn_r _ [162, 12, 55, 163, 135, 136, 137, 28, 138, 71, 164, 26, 27, 29, 30, 31, 32, 33, 34, 35, 165, 166, 167, 168, 169, 170, 171, 172, 173, 174, 175, 176, 177, 178, 179, 180, 181, 182, 183] (by decide +kernel) (by decide +kernel)
set_option maxRecDepth 20000 in
theorem gL_would_X5_nearest : GoodIn wsL_would (wsV RL 54 RX5 yX5_nearest wsX5_nearest) := goodIn_app (goodIn_of _ (by decide +kernel)) ggL_would_X5_nearest
set_option maxRecDepth 20000 in
theorem ggL_types_L_low : GoodIn wsL_types wsL_low := goodIn_r _ [4, 5] (by decide +kernel) (by decide +kernel)
set_option maxRecDepth 20000 in
theorem gL_types_L_low : GoodIn wsL_types (va_wsS RL 37 yL_low wsL_low) := goodIn_app (goodIn_of _ (by decide +kernel)) ggL_types_L_low
set_option maxRecDepth 20000 in
theorem ggL_types_X5_clearText : GoodIn wsL_types wsX5_clearText := goodIn_r _ [10, 11, 17, 18, 19, 20, 21, 22, 23, 24, 25, 26, 27] (by decide +kernel) (by decide +kernel)
set_option maxRecDepth 20000 in
theorem gL_types_X5_clearText : GoodIn wsL_types (wsV RL 57 RX5 yX5_clearText wsX5_clearText) := goodIn_app (goodIn_of _ (by decide +kernel)) ggL_types_X5_clearText
set_option maxRecDepth 20000 in
theorem ggL_types_X5_type : GoodIn wsL_types wsX5_type := goodIn_r _ [15, 11, 16, 17, 18, 19, 20, 21, 22, 23, 24, 25, 26, 27] (by decide +kernel) (by decide +kernel)
set_option maxRecDepth 20000 in
theorem gL_types_X5_type : GoodIn wsL_types (wsV RL 61 RX5 yX5_type wsX5_type) := goodIn_app (goodIn_of _ (by decide +kernel)) ggL_types_X5_type
set_option maxRecDepth 20000 in
theorem ggL_reads_X5_count : GoodIn wsL_reads wsX5_count := goodIn_r _ [5, 6, 7, 8, 9, 10, 11, 12, 13, 14, 15, 16, 4, 17, 18, 19, 20, 21, 22, 23, 24, 25, 26, 27, 28, 29, 30, 31, 32, 33, 34, 35, 36, 37, 38, 39, 40, 41, 42, 43, 44, 45, 46, 47, 48, 49, 50, 51, 52, 53, 54, 55, 56, 57, 58, 59, 60, 61, 62, 63, 64, 65, 66, 67, 68, 69, 70, 71, 72, 73, 74, 75, 76, 77, 78, 79, 80, 81, 82, 83, 84, 85, 86, 87, 88, 89, 90, 91, 92, 93, 94, 95, 96, 97, 98, 99, 100, 101, 102, 103, 104, 105, 106, 107, 108, 109, 110, 111, 112, 113, 114, 220, 221, 222, 223, 224, 225, 226, 227, 228, 229, 230, 231, 232, 233, 234, 235, 236, 237, 238, 239, 240, 241, 242, 243, 244, 245] (by decide +kernel) (by decide +kernel)
set_option maxRecDepth 20000 in
theorem gL_reads_X5_count : GoodIn wsL_reads (wsV RL 13 RX5 yX5_count wsX5_count) := goodIn_app (goodIn_of _ (by decide +kernel)) ggL_reads_X5_count
set_option maxRecDepth 20000 in
theorem ggL_reads_L_types : GoodIn wsL_reads wsL_types := goodIn_r _ [118, 119, 120, 117, 121, 122, 123, 124, 125, 4, 126, 13, 127, 128, 129, 130, 131, 220, 221, 222, 223, 224, 225, 226, 227, 228, 229, 230] (by decide +kernel) (by decide +kernel)
set_option maxRecDepth 20000 in
theorem gL_reads_L_types : GoodIn wsL_reads (va_wsS RL 65 yL_types wsL_types) := goodIn_app (goodIn_of _ (by decide +kernel)) ggL_reads_L_types
set_option maxRecDepth 20000 in
theorem ggL_reads_X5_load : GoodIn wsL_reads wsX5_load := goodIn_r _ [135, 136, 6, 137, 131, 13, 138, 11, 7, 139, 140, 141, 31, 142, 58, 33, 143, 144, 145, 146, 38, 82, 67, 147, 102, 76, 148, 149, 150, 151, 152, 153, 154, 155, 156, 157, 158, 159, 160, 161, 162, 163, 164, 165, 166, 167, 168, 169, 170, 171, 172, 173, 174, 175, 176, 177, 178, 179, 180, 181, 182, 183, 184, 185, 186, 187, 188, 189, 190, 191, 73, 74, 75, 77, 47, 36, 48, 63, 64, 65, 66, 192, 193, 194, 195, 196, 197, 198, 199, 200, 201, 202, 203, 204, 205, 206, 207, 208, 209, 210, 211, 212, 213, 214, 215, 216, 217, 218, 219, 220, 221, 222, 223, 224, 225, 226, 227, 228, 229, 230, 246, 247, 248, 249, 250, 231, 232, 233, 234, 235, 236, 237, 238, 239, 240] (by decide +kernel) (by decide +kernel)
set_option maxRecDepth 20000 in
theorem gL_reads_X5_load : GoodIn wsL_reads (wsV RL 69 RX5 yX5_load wsX5_load) := goodIn_app (goodIn_of _ (by decide +kernel)) ggL_reads_X5_load
set_option maxRecDepth 20000 in
theorem ggL_reads_L_low : GoodIn wsL_reads wsL_low := goodIn_r _ [121, 122] (by decide +kernel) (by decide +kernel)
set_option maxRecDepth 20000 in
theorem gL_reads_L_low : GoodIn wsL_reads (va_wsS RL 37 yL_low wsL_low) := goodIn_app (goodIn_of _ (by decide +kernel)) ggL_reads_L_low
set_option maxRecDepth 20000 in
theorem ggL_notes_X5_count : GoodIn wsL_notes wsX5_count := goodIn_r _ [5, 6, 7, 8, 9, 10, 11, 12, 13, 14, 15, 16, 4, 17, 18, 19, 20, 21, 22, 23, 24, 25, 26, 27, 28, 29, 30, 31, 32, 33, 34, 35, 36, 37, 38, 39, 40, 41, 42, 43, 44, 45, 46, 47, 48, 49, 50, 51, 52, 53, 54, 55, 56, 57, 58, 59, 60, 61, 62, 63, 64, 65, 66, 67, 68, 69, 70, 71, 72, 73, 74, 75, 76, 77, 78, 79, 80, 81, 82, 83, 84, 85, 86, 87, 88, 89, 90, 91, 92, 93, 94, 95, 96, 97, 98, 99, 100, 101, 102, 103, 104, 105, 106, 107, 108, 109, 110, 111, 112, 113, 114, 263, 264, 265, 266, 267, 268, 269, 270, 271, 272, 273, 274, 275, 276, 277, 278, 279, 280, 281, 282, 283, 284, 285, 286, 287, 288] (by decide +kernel) (by decide +kernel)
set_option maxRecDepth 20000 in
theorem gL_notes_X5_count : GoodIn wsL_notes (wsV RL 13 RX5 yX5_count wsX5_count) := goodIn_app (goodIn_of _ (by decide +kernel)) ggL_notes_X5_count
set_option maxRecDepth 20000 in
theorem ggL_notes_L_low : GoodIn wsL_notes wsL_low := goodIn_r _ [118, 119] (by decide +kernel) (by decide +kernel)
set_option maxRecDepth 20000 in
theorem gL_notes_L_low : GoodIn wsL_notes (va_wsS RL 37 yL_low wsL_low) := goodIn_app (goodIn_of _ (by decide +kernel)) ggL_notes_L_low
set_option maxRecDepth 20000 in
theorem ggL_notes_X5_put : GoodIn wsL_notes wsX5_put := goodIn_r _ [123, 6, 7, 11, 124, 125, 4, 126, 127, 128, 129, 130, 131, 132, 133, 134, 135, 136, 137, 138, 139, 140, 141, 142, 143, 31, 144, 58, 33, 145, 146, 147, 148, 38, 82, 67, 149, 102, 76, 150, 151, 152, 153, 154, 155, 156, 157, 263, 264, 265, 266, 267, 268, 269, 270, 271, 272, 273, 274, 275, 276, 277, 278, 279, 280, 281, 282, 283] (by decide +kernel) (by decide +kernel)
set_option maxRecDepth 20000 in
theorem gL_notes_X5_put : GoodIn wsL_notes (wsV RL 72 RX5 yX5_put wsX5_put) := goodIn_app (goodIn_of _ (by decide +kernel)) ggL_notes_X5_put
set_option maxRecDepth 20000 in
theorem ggL_notes_X5_note : GoodIn wsL_notes wsX5_note := goodIn_r _ [161, 6, 162, 163, 18, 164, 165, 166, 167, 168, 31, 169, 58, 170, 60, 61, 62, 63, 64, 65, 66, 67, 14, 15, 16, 4, 17, 10, 19, 20, 21, 22, 23, 24, 25, 26, 27, 28, 29, 30, 32, 33, 34, 35, 36, 37, 38, 39, 40, 41, 42, 43, 44, 45, 46, 47, 48, 49, 50, 51, 52, 53, 171, 172, 173, 174, 76, 175, 176, 177, 178, 179, 180, 181, 182, 142, 143, 144, 145, 146, 147, 148, 82, 149, 102, 183, 184, 185, 186, 187, 188, 189, 190, 154, 155, 156, 157, 191, 192, 193, 194, 195, 79, 80, 81, 98, 99, 100, 101, 196, 197, 198, 199, 263, 264, 265, 266, 267, 268, 269, 270, 271, 272, 273, 274, 275, 276, 277, 278, 279, 280, 281, 284, 285, 286, 287] (by decide +kernel) (by decide +kernel)
set_option maxRecDepth 20000 in
theorem gL_notes_X5_note : GoodIn wsL_notes (wsV RL 19 RX5 yX5_note wsX5_note) := goodIn_app (goodIn_of _ (by decide +kernel)) ggL_notes_X5_note
set_option maxRecDepth 20000 in
theorem ggL_notes_X5_drag : GoodIn wsL_notes wsX5_drag := goodIn_r _ [203, 6, 162, 163, 11, 166, 167, 168, 31, 169, 58, 124, 125, 4, 126, 127, 128, 129, 130, 131, 132, 133, 134, 135, 136, 137, 138, 139, 140, 141, 142, 143, 144, 33, 145, 146, 147, 148, 38, 82, 67, 149, 102, 76, 204, 155, 156, 157, 14, 15, 16, 17, 18, 10, 19, 20, 21, 22, 23, 24, 25, 26, 27, 28, 29, 30, 32, 34, 35, 36, 37, 39, 40, 41, 42, 43, 44, 45, 46, 47, 48, 49, 50, 51, 52, 53, 263, 264, 265, 266, 267, 268, 269, 270, 271, 272, 273, 274, 275, 276, 277, 278, 279, 280, 281, 282, 283, 284, 285, 286, 287] (by decide +kernel) (by decide +kernel)
set_option maxRecDepth 20000 in
theorem gL_notes_X5_drag : GoodIn wsL_notes (wsV RL 75 RX5 yX5_drag wsX5_drag) := goodIn_app (goodIn_of _ (by decide +kernel)) ggL_notes_X5_drag
set_option maxRecDepth 20000 in
theorem ggL_notes_X5_takeOff : GoodIn wsL_notes wsX5_takeOff := goodIn_r _ [208, 6, 11, 166, 167, 168, 31, 169, 58, 130, 131, 132, 133, 134, 135, 136, 137, 138, 139, 140, 141, 142, 143, 144, 33, 145, 146, 147, 148, 38, 82, 67, 149, 102, 76, 170, 60, 61, 62, 63, 64, 65, 66, 183, 184, 185, 186, 187, 188, 189, 190, 154, 155, 156, 157, 191, 192, 193, 194, 195, 79, 80, 81, 98, 99, 100, 101, 196, 197, 198, 199, 263, 264, 265, 266, 267, 268, 269, 270, 271, 272, 273, 274, 275, 276, 277, 278, 279, 280, 281, 282, 283] (by decide +kernel) (by decide +kernel)
set_option maxRecDepth 20000 in
theorem gL_notes_X5_takeOff : GoodIn wsL_notes (wsV RL 79 RX5 yX5_takeOff wsX5_takeOff) := goodIn_app (goodIn_of _ (by decide +kernel)) ggL_notes_X5_takeOff
set_option maxRecDepth 20000 in
theorem ggL_notes_X5_heap : GoodIn wsL_notes wsX5_heap := goodIn_r _ [212, 18, 6, 14, 15, 16, 4, 17, 10, 19, 20, 21, 22, 23, 24, 25, 26, 27, 28, 29, 30, 31, 32, 33, 34, 35, 36, 37, 38, 39, 40, 41, 42, 43, 44, 45, 46, 47, 48, 49, 50, 51, 52, 53, 213, 214, 215, 216, 111, 112, 113, 114, 217, 218, 219, 220, 221, 222, 223, 224, 225, 60, 61, 62, 63, 64, 65, 66, 67, 226, 227, 228, 229, 8, 230, 231, 232, 233, 7, 164, 165, 234, 235, 236, 237, 238, 239, 240, 241, 242, 243, 244, 245, 246, 247, 248, 249, 250, 263, 264, 265, 266, 267, 268, 269, 270, 271, 272, 273, 274, 275, 276, 277, 278, 279, 280, 281, 284, 285, 286, 287] (by decide +kernel) (by decide +kernel)
set_option maxRecDepth 20000 in
theorem gL_notes_X5_heap : GoodIn wsL_notes (wsV RL 40 RX5 yX5_heap wsX5_heap) := goodIn_app (goodIn_of _ (by decide +kernel)) ggL_notes_X5_heap
set_option maxRecDepth 20000 in
theorem ggL_notes_X5_dragHeap : GoodIn wsL_notes wsX5_dragHeap := goodIn_r _ [254, 18, 11, 6, 14, 15, 16, 4, 17, 10, 19, 20, 21, 22, 23, 24, 25, 26, 27, 28, 29, 30, 31, 32, 33, 34, 35, 36, 37, 38, 39, 40, 41, 42, 43, 44, 45, 46, 47, 48, 49, 50, 51, 52, 53, 213, 214, 215, 216, 127, 128, 129, 255, 256, 257, 258, 7, 164, 162, 163, 124, 125, 126, 130, 131, 132, 133, 134, 135, 136, 137, 138, 139, 140, 141, 142, 143, 144, 58, 145, 146, 147, 148, 82, 67, 149, 102, 76, 259, 260, 261, 262, 204, 155, 156, 157, 263, 264, 265, 266, 267, 268, 269, 270, 271, 272, 273, 274, 275, 276, 277, 278, 279, 280, 281, 284, 285, 286, 287, 282, 283] (by decide +kernel) (by decide +kernel)
set_option maxRecDepth 20000 in
theorem gL_notes_X5_dragHeap : GoodIn wsL_notes (wsV RL 82 RX5 yX5_dragHeap wsX5_dragHeap) := goodIn_app (goodIn_of _ (by decide +kernel)) ggL_notes_X5_dragHeap
set_option maxRecDepth 20000 in
theorem ggL_themes_X5_count : GoodIn wsL_themes wsX5_count := goodIn_r _ [5, 6, 7, 8, 9, 10, 11, 12, 13, 14, 15, 16, 4, 17, 18, 19, 20, 21, 22, 23, 24, 25, 26, 27, 28, 29, 30, 31, 32, 33, 34, 35, 36, 37, 38, 39, 40, 41, 42, 43, 44, 45, 46, 47, 48, 49, 50, 51, 52, 53, 54, 55, 56, 57, 58, 59, 60, 61, 62, 63, 64, 65, 66, 67, 68, 69, 70, 71, 72, 73, 74, 75, 76, 77, 78, 79, 80, 81, 82, 83, 84, 85, 86, 87, 88, 89, 90, 91, 92, 93, 94, 95, 96, 97, 98, 99, 100, 101, 102, 103, 104, 105, 106, 107, 108, 109, 110, 111, 112, 113, 114, 295, 296, 297, 298, 299, 300, 301, 302, 303, 304, 305, 306, 307, 308, 309, 310, 311, 312, 313, 314, 315, 316, 317, 318, 319, 320] (by decide +kernel) (by decide +kernel)
set_option maxRecDepth 20000 in
theorem gL_themes_X5_count : GoodIn wsL_themes (wsV RL 13 RX5 yX5_count wsX5_count) := goodIn_app (goodIn_of _ (by decide +kernel)) ggL_themes_X5_count
set_option maxRecDepth 20000 in
theorem ggL_themes_L_low : GoodIn wsL_themes wsL_low := goodIn_r _ [118, 119] (by decide +kernel) (by decide +kernel)
set_option maxRecDepth 20000 in
theorem gL_themes_L_low : GoodIn wsL_themes (va_wsS RL 37 yL_low wsL_low) := goodIn_app (goodIn_of _ (by decide +kernel)) ggL_themes_L_low
set_option maxRecDepth 20000 in
theorem ggL_themes_X5_heap : GoodIn wsL_themes wsX5_heap := goodIn_r _ [123, 18, 6, 14, 15, 16, 4, 17, 10, 19, 20, 21, 22, 23, 24, 25, 26, 27, 28, 29, 30, 31, 32, 33, 34, 35, 36, 37, 38, 39, 40, 41, 42, 43, 44, 45, 46, 47, 48, 49, 50, 51, 52, 53, 124, 125, 126, 127, 111, 112, 113, 114, 128, 129, 130, 131, 132, 133, 134, 135, 136, 60, 61, 62, 63, 64, 65, 66, 67, 137, 138, 139, 140, 8, 141, 142, 143, 144, 7, 145, 146, 147, 148, 149, 150, 151, 152, 153, 154, 155, 156, 157, 158, 159, 160, 161, 162, 163, 295, 296, 297, 298, 299, 300, 301, 302, 303, 304, 305, 306, 307, 308, 309, 310, 311, 312, 313, 316, 317, 318, 319] (by decide +kernel) (by decide +kernel)
set_option maxRecDepth 20000 in
theorem gL_themes_X5_heap : GoodIn wsL_themes (wsV RL 40 RX5 yX5_heap wsX5_heap) := goodIn_app (goodIn_of _ (by decide +kernel)) ggL_themes_X5_heap
set_option maxRecDepth 20000 in
theorem ggL_themes_X5_make : GoodIn wsL_themes wsX5_make := goodIn_r _ [167, 18, 6, 8, 11, 7, 145, 146, 14, 15, 16, 4, 17, 10, 19, 20, 21, 22, 23, 24, 25, 26, 27, 28, 29, 30, 31, 32, 33, 34, 35, 36, 37, 38, 39, 40, 41, 42, 43, 44, 45, 46, 47, 48, 49, 50, 51, 52, 53, 124, 125, 126, 127, 147, 148, 149, 150, 151, 168, 169, 170, 171, 172, 173, 174, 175, 176, 177, 178, 179, 180, 181, 182, 58, 183, 184, 185, 186, 82, 67, 187, 102, 76, 188, 189, 190, 191, 192, 193, 194, 195, 295, 296, 297, 298, 299, 300, 301, 302, 303, 304, 305, 306, 307, 308, 309, 310, 311, 312, 313, 316, 317, 318, 319, 314, 315] (by decide +kernel) (by decide +kernel)
set_option maxRecDepth 20000 in
theorem gL_themes_X5_make : GoodIn wsL_themes (wsV RL 85 RX5 yX5_make wsX5_make) := goodIn_app (goodIn_of _ (by decide +kernel)) ggL_themes_X5_make
set_option maxRecDepth 20000 in
theorem ggL_themes_X5_theme : GoodIn wsL_themes wsX5_theme := goodIn_r _ [199, 6, 9, 200, 201, 202, 203, 31, 204, 187, 78, 79, 80, 81, 58, 82, 205, 206, 207, 208, 59, 60, 61, 62, 63, 64, 65, 66, 67, 83, 84, 85, 86, 87, 88, 89, 90, 91, 92, 93, 94, 95, 96, 97, 98, 99, 100, 101, 102, 103, 104, 105, 106, 209, 210, 211, 4, 212, 8, 213, 214, 215, 216, 14, 15, 16, 17, 18, 10, 19, 20, 21, 22, 23, 24, 25, 26, 27, 28, 29, 30, 32, 33, 34, 35, 36, 37, 38, 39, 40, 41, 42, 43, 44, 45, 46, 47, 48, 49, 50, 51, 52, 53, 141, 142, 143, 144, 7, 145, 146, 217, 218, 219, 220, 221, 295, 296, 297, 298, 299, 300, 301, 302, 303, 304, 305, 320, 306, 307, 308, 309, 310, 311, 312, 313, 316, 317, 318, 319] (by decide +kernel) (by decide +kernel)
set_option maxRecDepth 20000 in
theorem gL_themes_X5_theme : GoodIn wsL_themes (wsV RL 26 RX5 yX5_theme wsX5_theme) := goodIn_app (goodIn_of _ (by decide +kernel)) ggL_themes_X5_theme
set_option maxRecDepth 20000 in
theorem ggL_themes_X5_merge : GoodIn wsL_themes wsX5_merge := goodIn_r _ [225, 6, 11, 201, 202, 203, 31, 204, 187, 168, 169, 170, 171, 172, 173, 174, 175, 176, 177, 178, 179, 180, 181, 182, 58, 33, 183, 184, 185, 186, 38, 82, 67, 102, 76, 226, 227, 228, 229, 98, 99, 100, 101, 192, 193, 194, 195, 230, 231, 232, 233, 234, 79, 80, 81, 78, 295, 296, 297, 298, 299, 300, 301, 302, 303, 304, 305, 306, 307, 308, 309, 310, 311, 312, 313, 314, 315] (by decide +kernel) (by decide +kernel)
set_option maxRecDepth 20000 in
theorem gL_themes_X5_merge : GoodIn wsL_themes (wsV RL 88 RX5 yX5_merge wsX5_merge) := goodIn_app (goodIn_of _ (by decide +kernel)) ggL_themes_X5_merge
set_option maxRecDepth 20000 in
theorem ggL_themes_X5_note : GoodIn wsL_themes wsX5_note := goodIn_r _ [238, 6, 239, 240, 18, 145, 146, 241, 242, 243, 31, 244, 58, 245, 60, 61, 62, 63, 64, 65, 66, 67, 14, 15, 16, 4, 17, 10, 19, 20, 21, 22, 23, 24, 25, 26, 27, 28, 29, 30, 32, 33, 34, 35, 36, 37, 38, 39, 40, 41, 42, 43, 44, 45, 46, 47, 48, 49, 50, 51, 52, 53, 246, 247, 248, 249, 76, 250, 251, 252, 253, 254, 255, 256, 257, 180, 181, 182, 183, 184, 185, 186, 82, 187, 102, 258, 259, 260, 261, 262, 263, 264, 265, 266, 267, 268, 269, 230, 231, 232, 233, 234, 79, 80, 81, 98, 99, 100, 101, 192, 193, 194, 195, 295, 296, 297, 298, 299, 300, 301, 302, 303, 304, 305, 306, 307, 308, 309, 310, 311, 312, 313, 316, 317, 318, 319] (by decide +kernel) (by decide +kernel)
set_option maxRecDepth 20000 in
theorem gL_themes_X5_note : GoodIn wsL_themes (wsV RL 19 RX5 yX5_note wsX5_note) := goodIn_app (goodIn_of _ (by decide +kernel)) ggL_themes_X5_note
set_option maxRecDepth 20000 in
theorem ggL_themes_X5_belong : GoodIn wsL_themes wsX5_belong := goodIn_r _ [273, 6, 146, 11, 8, 241, 242, 243, 31, 244, 58, 201, 202, 203, 204, 187, 168, 169, 170, 171, 172, 173, 174, 175, 176, 177, 178, 179, 180, 181, 182, 33, 183, 184, 185, 186, 38, 82, 67, 102, 76, 274, 231, 232, 233, 234, 79, 80, 81, 98, 99, 100, 101, 192, 193, 194, 195, 295, 296, 297, 298, 299, 300, 301, 302, 303, 304, 305, 306, 307, 308, 309, 310, 311, 312, 313, 314, 315] (by decide +kernel) (by decide +kernel)
set_option maxRecDepth 20000 in
theorem gL_themes_X5_belong : GoodIn wsL_themes (wsV RL 91 RX5 yX5_belong wsX5_belong) := goodIn_app (goodIn_of _ (by decide +kernel)) ggL_themes_X5_belong
set_option maxRecDepth 20000 in
theorem ggL_themes_X5_votes : GoodIn wsL_themes wsX5_votes := goodIn_r _ [278, 6, 201, 202, 203, 31, 204, 187, 279, 280, 4, 281, 282, 283, 284, 285, 95, 96, 97, 98, 99, 100, 101, 102, 295, 296, 297, 298, 299, 300, 301, 302, 303, 304, 305, 306, 307, 308, 309, 310, 311, 312, 313] (by decide +kernel) (by decide +kernel)
set_option maxRecDepth 20000 in
theorem gL_themes_X5_votes : GoodIn wsL_themes (wsV RL 29 RX5 yX5_votes wsX5_votes) := goodIn_app (goodIn_of _ (by decide +kernel)) ggL_themes_X5_votes
set_option maxRecDepth 20000 in
theorem ggL_themes_X5_vote : GoodIn wsL_themes wsX5_vote := goodIn_r _ [289, 6, 11, 9, 200, 290, 291, 4, 292, 282, 283, 284, 201, 202, 203, 31, 204, 187, 279, 280, 281, 293, 99, 100, 101, 102, 168, 169, 170, 171, 172, 173, 174, 175, 176, 177, 178, 179, 180, 181, 182, 58, 33, 183, 184, 185, 186, 38, 82, 67, 76, 294, 193, 194, 195, 83, 84, 85, 86, 87, 88, 89, 90, 91, 92, 93, 94, 95, 96, 97, 98, 103, 104, 105, 106, 295, 296, 297, 298, 299, 300, 301, 302, 303, 304, 305, 320, 306, 307, 308, 309, 310, 311, 312, 313, 314, 315] (by decide +kernel) (by decide +kernel)
set_option maxRecDepth 20000 in
theorem gL_themes_X5_vote : GoodIn wsL_themes (wsV RL 94 RX5 yX5_vote wsX5_vote) := goodIn_app (goodIn_of _ (by decide +kernel)) ggL_themes_X5_vote
set_option maxRecDepth 20000 in
theorem ggL_acts_L_low : GoodIn wsL_acts wsL_low := goodIn_r _ [4, 5] (by decide +kernel) (by decide +kernel)
set_option maxRecDepth 20000 in
theorem gL_acts_L_low : GoodIn wsL_acts (va_wsS RL 37 yL_low wsL_low) := goodIn_app (goodIn_of _ (by decide +kernel)) ggL_acts_L_low
set_option maxRecDepth 20000 in
theorem ggL_acts_L_notes : GoodIn wsL_acts wsL_notes := goodIn_r _ [8, 9, 10, 11, 12, 13, 14, 15, 16, 17, 18, 19, 20, 21, 22, 23, 24, 25, 26, 27, 28, 29, 30, 31, 32, 33, 34, 35, 36, 37, 38, 39, 40, 41, 42, 43, 44, 45, 46, 47, 48, 49, 50, 51, 52, 53, 54, 55, 56, 57, 58, 59, 60, 61, 62, 63, 64, 65, 66, 67, 68, 69, 70, 71, 72, 73, 74, 75, 76, 77, 78, 79, 80, 81, 82, 83, 84, 85, 86, 87, 88, 89, 90, 91, 92, 93, 94, 95, 96, 97, 98, 99, 100, 101, 102, 103, 104, 105, 106, 107, 108, 109, 110, 111, 112, 113, 114, 115, 116, 117, 118, 119, 120, 121, 122, 1, 2, 3, 4, 5, 123, 124, 125, 126, 127, 128, 129, 130, 131, 132, 133, 134, 135, 136, 137, 138, 139, 140, 141, 142, 143, 144, 145, 146, 147, 148, 149, 150, 151, 152, 153, 154, 155, 156, 157, 158, 159, 160, 161, 162, 163, 164, 165, 166, 167, 168, 169, 170, 171, 172, 173, 174, 175, 176, 177, 178, 179, 180, 181, 182, 183, 184, 185, 186, 187, 188, 189, 190, 191, 192, 193, 194, 195, 196, 197, 198, 199, 200, 201, 202, 203, 204, 205, 206, 207, 208, 209, 210, 211, 212, 213, 214, 215, 216, 217, 218, 219, 220, 221, 222, 223, 224, 225, 226, 227, 228, 229, 230, 231, 232, 233, 234, 235, 236, 237, 238, 239, 240, 241, 242, 243, 244, 245, 246, 247, 248, 249, 250, 251, 252, 253, 254, 255, 256, 257, 258, 259, 260, 261, 262, 263, 264, 265, 429, 430, 431, 432, 433, 434, 435, 436, 437, 438, 439, 440, 441, 442, 443, 444, 445, 446, 447, 448, 449, 450, 451, 452, 453, 454] (by decide +kernel) (by decide +kernel)
set_option maxRecDepth 20000 in
theorem gL_acts_L_notes : GoodIn wsL_acts (va_wsS RL 97 yL_notes wsL_notes) := goodIn_app (goodIn_of _ (by decide +kernel)) ggL_acts_L_notes
set_option maxRecDepth 20000 in
theorem ggL_acts_L_themes : GoodIn wsL_acts wsL_themes := goodIn_r _ [268, 9, 10, 11, 12, 13, 14, 15, 16, 17, 18, 19, 20, 21, 22, 23, 24, 25, 26, 27, 28, 29, 30, 31, 32, 33, 34, 35, 36, 37, 38, 39, 40, 41, 42, 43, 44, 45, 46, 47, 48, 49, 50, 51, 52, 53, 54, 55, 56, 57, 58, 59, 60, 61, 62, 63, 64, 65, 66, 67, 68, 69, 70, 71, 72, 73, 74, 75, 76, 77, 78, 79, 80, 81, 82, 83, 84, 85, 86, 87, 88, 89, 90, 91, 92, 93, 94, 95, 96, 97, 98, 99, 100, 101, 102, 103, 104, 105, 106, 107, 108, 109, 110, 111, 112, 113, 114, 115, 116, 117, 118, 119, 120, 121, 122, 1, 2, 3, 4, 5, 212, 213, 214, 215, 216, 217, 218, 219, 220, 221, 222, 223, 224, 225, 226, 227, 228, 229, 230, 231, 232, 233, 234, 235, 236, 167, 168, 237, 238, 239, 240, 241, 242, 243, 244, 245, 246, 247, 248, 249, 250, 251, 252, 253, 269, 270, 271, 272, 133, 134, 135, 136, 137, 138, 139, 140, 141, 142, 143, 144, 145, 146, 147, 148, 149, 150, 151, 152, 273, 274, 275, 276, 199, 200, 201, 202, 277, 278, 279, 280, 281, 282, 283, 284, 285, 286, 287, 288, 289, 290, 291, 292, 293, 294, 295, 296, 297, 298, 299, 300, 301, 302, 303, 304, 305, 306, 307, 308, 309, 310, 194, 195, 196, 197, 198, 161, 162, 163, 164, 165, 166, 169, 170, 171, 172, 173, 174, 175, 176, 177, 178, 179, 180, 181, 182, 183, 184, 185, 186, 187, 188, 189, 190, 191, 192, 193, 157, 158, 159, 160, 311, 312, 313, 314, 315, 316, 317, 318, 319, 320, 321, 322, 130, 131, 132, 323, 324, 325, 326, 327, 328, 329, 330, 331, 332, 429, 430, 431, 432, 433, 434, 435, 436, 437, 438, 439, 440, 441, 442, 443, 444, 445, 446, 447, 448, 449, 450, 451, 452, 453, 454] (by decide +kernel) (by decide +kernel)
set_option maxRecDepth 20000 in
theorem gL_acts_L_themes : GoodIn wsL_acts (va_wsS RL 101 yL_themes wsL_themes) := goodIn_app (goodIn_of _ (by decide +kernel)) ggL_acts_L_themes
set_option maxRecDepth 20000 in
theorem ggL_acts_X5_count : GoodIn wsL_acts wsX5_count := goodIn_r _ [13, 14, 15, 16, 17, 18, 19, 20, 21, 22, 23, 24, 12, 25, 26, 27, 28, 29, 30, 31, 32, 33, 34, 35, 36, 37, 38, 39, 40, 41, 42, 43, 44, 45, 46, 47, 48, 49, 50, 51, 52, 53, 54, 55, 56, 57, 58, 59, 60, 61, 62, 63, 64, 65, 66, 67, 68, 69, 70, 71, 72, 73, 74, 75, 76, 77, 78, 79, 80, 81, 82, 83, 84, 85, 86, 87, 88, 89, 90, 91, 92, 93, 94, 95, 96, 97, 98, 99, 100, 101, 102, 103, 104, 105, 106, 107, 108, 109, 110, 111, 112, 113, 114, 115, 116, 117, 118, 119, 120, 121, 122, 429, 430, 431, 432, 433, 434, 435, 436, 437, 438, 439, 440, 441, 442, 443, 444, 445, 446, 447, 448, 449, 450, 451, 452, 453, 454] (by decide +kernel) (by decide +kernel)
set_option maxRecDepth 20000 in
theorem gL_acts_X5_count : GoodIn wsL_acts (wsV RL 13 RX5 yX5_count wsX5_count) := goodIn_app (goodIn_of _ (by decide +kernel)) ggL_acts_X5_count
set_option maxRecDepth 20000 in
theorem ggL_acts_X5_note : GoodIn wsL_acts wsX5_note := goodIn_r _ [164, 14, 165, 166, 26, 167, 168, 169, 170, 171, 39, 172, 66, 173, 68, 69, 70, 71, 72, 73, 74, 75, 22, 23, 24, 12, 25, 18, 27, 28, 29, 30, 31, 32, 33, 34, 35, 36, 37, 38, 40, 41, 42, 43, 44, 45, 46, 47, 48, 49, 50, 51, 52, 53, 54, 55, 56, 57, 58, 59, 60, 61, 174, 175, 176, 177, 84, 178, 179, 180, 181, 182, 183, 184, 185, 145, 146, 147, 148, 149, 150, 151, 90, 152, 110, 186, 187, 188, 189, 190, 191, 192, 193, 157, 158, 159, 160, 194, 195, 196, 197, 198, 87, 88, 89, 106, 107, 108, 109, 199, 200, 201, 202, 429, 430, 431, 432, 433, 434, 435, 436, 437, 438, 439, 440, 441, 442, 443, 444, 445, 446, 447, 450, 451, 452, 453] (by decide +kernel) (by decide +kernel)
set_option maxRecDepth 20000 in
theorem gL_acts_X5_note : GoodIn wsL_acts (wsV RL 19 RX5 yX5_note wsX5_note) := goodIn_app (goodIn_of _ (by decide +kernel)) ggL_acts_X5_note
set_option maxRecDepth 20000 in
theorem ggL_acts_X5_dots : GoodIn wsL_acts wsX5_dots := goodIn_r _ [336, 14, 328, 329, 12, 330, 130, 131, 132, 169, 170, 171, 39, 172, 66, 337, 72, 73, 74, 75, 429, 430, 431, 432, 433, 434, 435, 436, 437, 438, 439, 440, 441, 442, 443, 444, 445, 446, 447] (by decide +kernel) (by decide +kernel)
set_option maxRecDepth 20000 in
theorem gL_acts_X5_dots : GoodIn wsL_acts (wsV RL 23 RX5 yX5_dots wsX5_dots) := goodIn_app (goodIn_of _ (by decide +kernel)) ggL_acts_X5_dots
set_option maxRecDepth 20000 in
theorem ggL_acts_X5_stick : GoodIn wsL_acts wsX5_stick := goodIn_r _ [341, 14, 19, 328, 329, 12, 330, 130, 131, 132, 169, 170, 171, 39, 172, 66, 342, 81, 82, 83, 84, 85, 55, 44, 56, 71, 72, 73, 74, 75, 343, 344, 345, 346, 133, 134, 135, 136, 137, 138, 139, 140, 141, 142, 143, 144, 145, 146, 147, 41, 148, 149, 150, 151, 46, 90, 152, 110, 347, 348, 349, 350, 173, 68, 69, 70, 429, 430, 431, 432, 433, 434, 435, 436, 437, 438, 439, 440, 441, 442, 443, 444, 445, 446, 447, 448, 449] (by decide +kernel) (by decide +kernel)
set_option maxRecDepth 20000 in
theorem gL_acts_X5_stick : GoodIn wsL_acts (wsV RL 104 RX5 yX5_stick wsX5_stick) := goodIn_app (goodIn_of _ (by decide +kernel)) ggL_acts_X5_stick
set_option maxRecDepth 20000 in
theorem ggL_acts_X5_unstick : GoodIn wsL_acts wsX5_unstick := goodIn_r _ [354, 14, 19, 328, 329, 12, 330, 130, 131, 132, 169, 170, 171, 39, 172, 66, 337, 72, 73, 74, 75, 133, 134, 135, 136, 137, 138, 139, 140, 141, 142, 143, 144, 145, 146, 147, 41, 148, 149, 150, 151, 46, 90, 152, 110, 84, 347, 348, 349, 350, 173, 68, 69, 70, 71, 429, 430, 431, 432, 433, 434, 435, 436, 437, 438, 439, 440, 441, 442, 443, 444, 445, 446, 447, 448, 449] (by decide +kernel) (by decide +kernel)
set_option maxRecDepth 20000 in
theorem gL_acts_X5_unstick : GoodIn wsL_acts (wsV RL 107 RX5 yX5_unstick wsX5_unstick) := goodIn_app (goodIn_of _ (by decide +kernel)) ggL_acts_X5_unstick
set_option maxRecDepth 20000 in
theorem ggL_acts_X5_set : GoodIn wsL_acts wsX5_set := goodIn_r _ [358, 359, 360, 14, 18, 19, 130, 131, 12, 132, 133, 134, 135, 136, 137, 138, 139, 140, 141, 142, 143, 144, 145, 146, 39, 147, 66, 41, 148, 149, 150, 151, 46, 90, 75, 152, 110, 84, 429, 430, 431, 432, 433, 434, 435, 436, 437, 438, 439, 440, 441, 442, 443, 444, 445, 446, 447, 448, 449] (by decide +kernel) (by decide +kernel)
set_option maxRecDepth 20000 in
theorem gL_acts_X5_set : GoodIn wsL_acts (wsV RL 110 RX5 yX5_set wsX5_set) := goodIn_app (goodIn_of _ (by decide +kernel)) ggL_acts_X5_set
set_option maxRecDepth 20000 in
theorem ggL_acts_L_reads : GoodIn wsL_acts wsL_reads := goodIn_r _ [363, 9, 10, 11, 12, 13, 14, 15, 16, 17, 18, 19, 20, 21, 22, 23, 24, 25, 26, 27, 28, 29, 30, 31, 32, 33, 34, 35, 36, 37, 38, 39, 40, 41, 42, 43, 44, 45, 46, 47, 48, 49, 50, 51, 52, 53, 54, 55, 56, 57, 58, 59, 60, 61, 62, 63, 64, 65, 66, 67, 68, 69, 70, 71, 72, 73, 74, 75, 76, 77, 78, 79, 80, 81, 82, 83, 84, 85, 86, 87, 88, 89, 90, 91, 92, 93, 94, 95, 96, 97, 98, 99, 100, 101, 102, 103, 104, 105, 106, 107, 108, 109, 110, 111, 112, 113, 114, 115, 116, 117, 118, 119, 120, 121, 122, 364, 365, 3, 366, 1, 2, 4, 5, 367, 368, 369, 370, 371, 372, 373, 374, 375, 376, 377, 378, 379, 183, 380, 381, 185, 145, 146, 147, 148, 149, 150, 151, 152, 382, 383, 384, 385, 386, 387, 388, 389, 390, 391, 392, 393, 394, 395, 396, 397, 398, 399, 400, 401, 402, 403, 404, 405, 406, 407, 408, 409, 410, 411, 412, 413, 154, 155, 156, 157, 158, 159, 160, 414, 415, 416, 417, 418, 419, 344, 345, 346, 420, 348, 349, 350, 421, 422, 423, 424, 425, 426, 427, 428, 133, 134, 135, 136, 137, 138, 139, 140, 141, 142, 143, 144, 429, 430, 431, 432, 433, 434, 435, 436, 437, 438, 439, 440, 441, 442, 443, 444, 445, 446, 447, 448, 449, 450, 451, 452, 453, 454, 455, 456, 457, 458, 459] (by decide +kernel) (by decide +kernel)
set_option maxRecDepth 20000 in
theorem gL_acts_L_reads : GoodIn wsL_acts (va_wsS RL 113 yL_reads wsL_reads) := goodIn_app (goodIn_of _ (by decide +kernel)) ggL_acts_L_reads
set_option maxRecDepth 20000 in
theorem ggL_law_X5_init : GoodIn wsL_law wsX5_init := goodIn_r _ [5, 6, 7, 8, 9, 10, 11, 12, 13, 14, 15, 16, 17, 18, 19, 20, 21, 22, 23, 24, 25, 26, 27, 28, 29, 30, 31, 32, 33, 34, 35, 36, 37, 38, 39, 40, 41, 42, 43, 44, 45, 46, 47, 48, 49, 50, 51, 52, 53, 54, 55, 56, 57, 58, 59, 60, 61, 62, 63, 64, 65, 66, 67, 68, 69, 70, 71, 72, 73, 74, 75, 76, 77, 78, 79, 80, 81, 82, 541, 542, 543, 544, 545, 546, 547, 548, 530, 531, 532, 533, 534, 535, 536, 537, 538, 539, 540, 549, 550, 551, 552, 553, 554, 555, 556, 557, 558, 559, 560] (by decide +kernel) (by decide +kernel)
set_option maxRecDepth 20000 in
theorem gL_law_X5_init : GoodIn wsL_law (wsX5_init) := ggL_law_X5_init
set_option maxRecDepth 20000 in
theorem ggL_law_L_holds : GoodIn wsL_law wsL_holds := goodIn_r _ [86, 87, 88, 89, 2, 90, 12, 91, 92, 31, 93, 16, 94, 21, 95, 96, 97, 98, 26, 99, 100, 101, 25, 102, 103, 66, 68, 65, 104, 105, 106, 11, 107, 42, 108, 109, 110, 111, 43, 112, 113, 114, 115, 116, 117, 118, 119, 120, 121, 122, 123, 124, 125, 67, 126, 127, 128, 129, 40, 130, 131, 132, 133, 134, 135, 136, 137, 45, 138, 139, 140, 141, 142, 143, 144, 145, 48, 146, 147, 148, 149, 150, 44, 151, 152, 153, 30, 154, 155, 73, 156, 157, 158, 159, 160, 161, 162, 163, 164, 165, 166, 167, 47, 168, 169, 170, 171, 172, 173, 174, 175, 176, 177, 178, 179, 180, 181, 182, 183, 184, 185, 186, 187, 188, 189, 190, 191, 192, 193, 194, 195, 196, 197, 198, 199, 200, 201, 202, 46, 203, 204, 205, 206, 207, 208, 209, 210, 211, 212, 213, 214, 215, 216, 217, 218, 219, 220, 221, 222, 223, 224, 225, 226, 227, 228, 229, 230, 231, 232, 233, 234, 235, 236, 85, 237, 238, 239, 240, 241, 242, 243, 244, 245, 246, 247, 248, 249, 250, 251, 252, 253, 254, 22, 27, 255, 256, 257, 258, 49, 50, 51, 52, 259, 260, 261, 262, 263, 264, 265, 266, 267, 268, 269, 270, 271, 272, 273, 274, 275, 276, 277, 278, 279, 280, 281, 282, 283, 284, 285, 286, 287, 288, 289, 290, 291, 292, 293, 294, 295, 296, 297, 298, 299, 300, 301, 302, 303, 304, 305, 306, 307, 308, 309, 310, 311, 312, 313, 314, 315, 316, 317, 318, 319, 320, 321, 322, 323, 530, 531, 532, 533, 534, 535, 536, 537, 538, 539, 540, 541, 542, 543, 544, 545, 546, 547, 548, 549, 550, 551, 552, 553, 554, 555] (by decide +kernel) (by decide +kernel)
set_option maxRecDepth 20000 in
theorem gL_law_L_holds : GoodIn wsL_law (va_wsS RL 117 yL_holds wsL_holds) := goodIn_app (goodIn_of _ (by decide +kernel)) ggL_law_L_holds
set_option maxRecDepth 20000 in
theorem ggL_law_L_would : GoodIn wsL_law wsL_would := goodIn_r _ [326, 235, 236, 85, 237, 238, 327, 328, 329, 2, 330, 27, 12, 187, 188, 189, 99, 100, 101, 25, 102, 103, 66, 68, 65, 104, 105, 106, 11, 107, 42, 108, 109, 110, 111, 43, 112, 113, 114, 115, 116, 117, 118, 119, 120, 121, 122, 123, 124, 125, 67, 87, 88, 89, 90, 91, 92, 31, 93, 16, 94, 21, 95, 96, 97, 98, 26, 126, 127, 128, 129, 40, 130, 131, 132, 133, 134, 135, 136, 137, 45, 138, 139, 140, 141, 142, 143, 144, 145, 48, 146, 147, 148, 149, 150, 44, 151, 152, 153, 30, 154, 155, 73, 156, 157, 158, 159, 160, 161, 162, 163, 164, 165, 166, 167, 47, 168, 169, 170, 171, 172, 173, 174, 175, 176, 177, 178, 179, 331, 332, 333, 334, 22, 335, 228, 190, 191, 192, 193, 336, 337, 338, 255, 256, 257, 258, 49, 50, 51, 52, 46, 339, 268, 269, 270, 340, 341, 342, 343, 344, 345, 346, 347, 229, 348, 530, 531, 532, 533, 534, 535, 536, 537, 538, 539, 540, 541, 542, 543, 544, 545, 546, 547, 548, 551, 552, 553, 554, 549, 550, 555] (by decide +kernel) (by decide +kernel)
set_option maxRecDepth 20000 in
theorem gL_law_L_would : GoodIn wsL_law (va_wsS RL 120 yL_would wsL_would) := goodIn_app (goodIn_of _ (by decide +kernel)) ggL_law_L_would
set_option maxRecDepth 20000 in
theorem ggL_law_X5_undo : GoodIn wsL_law wsX5_undo := goodIn_r _ [352, 16, 94, 12, 353, 354, 355, 15, 356, 57, 59, 357, 256, 257, 11, 258, 40, 42, 49, 50, 51, 52, 43, 44, 45, 46, 47, 48, 530, 531, 532, 533, 534, 535, 536, 537, 538, 539, 540, 549, 550, 541, 542, 543, 544, 545, 546, 547, 548] (by decide +kernel) (by decide +kernel)
set_option maxRecDepth 20000 in
theorem gL_law_X5_undo : GoodIn wsL_law (wsV RL 123 RX5 yX5_undo wsX5_undo) := goodIn_app (goodIn_of _ (by decide +kernel)) ggL_law_X5_undo
set_option maxRecDepth 20000 in
theorem ggL_law_X5_restore : GoodIn wsL_law wsX5_restore := goodIn_r _ [361, 18, 16, 12, 17, 91, 362, 363, 364, 15, 365, 57, 59, 366, 367, 368, 369, 357, 256, 257, 11, 258, 40, 42, 49, 50, 51, 52, 43, 44, 45, 46, 47, 48, 255, 530, 531, 532, 533, 534, 535, 536, 537, 538, 539, 540, 541, 542, 543, 544, 545, 546, 547, 548, 549, 550] (by decide +kernel) (by decide +kernel)
set_option maxRecDepth 20000 in
theorem gL_law_X5_restore : GoodIn wsL_law (wsV RL 126 RX5 yX5_restore wsX5_restore) := goodIn_app (goodIn_of _ (by decide +kernel)) ggL_law_X5_restore
set_option maxRecDepth 20000 in
theorem ggL_law_X5_keep : GoodIn wsL_law wsX5_keep := goodIn_r _ [373, 17, 12, 18, 91, 255, 256, 257, 11, 258, 40, 42, 49, 50, 51, 52, 43, 44, 45, 46, 47, 48, 530, 531, 532, 533, 534, 535, 536, 537, 538, 539, 540, 541, 542, 543, 544, 545, 546, 547, 548] (by decide +kernel) (by decide +kernel)
set_option maxRecDepth 20000 in
theorem gL_law_X5_keep : GoodIn wsL_law (wsV RL 129 RX5 yX5_keep wsX5_keep) := goodIn_app (goodIn_of _ (by decide +kernel)) ggL_law_X5_keep
set_option maxRecDepth 20000 in
theorem ggL_law_L_look : GoodIn wsL_law wsL_look := goodIn_r _ [376, 377, 378, 87, 88, 89, 2, 90, 12, 91, 92, 31, 93, 16, 94, 21, 95, 96, 97, 98, 26, 99, 100, 101, 25, 102, 103, 66, 68, 65, 104, 105, 106, 11, 107, 42, 108, 109, 110, 111, 43, 112, 113, 114, 115, 116, 117, 118, 119, 120, 121, 122, 123, 124, 125, 67, 126, 127, 128, 129, 40, 130, 131, 132, 133, 134, 135, 136, 137, 45, 138, 139, 140, 141, 142, 143, 144, 145, 48, 146, 147, 148, 149, 150, 44, 151, 152, 153, 30, 154, 155, 73, 156, 157, 158, 159, 160, 161, 162, 163, 164, 165, 166, 167, 47, 168, 169, 170, 171, 172, 173, 174, 175, 176, 177, 178, 179, 239, 240, 241, 242, 243, 244, 228, 229, 190, 191, 192, 193, 245, 246, 247, 248, 249, 250, 251, 252, 253, 254, 22, 27, 255, 256, 257, 258, 49, 50, 51, 52, 46, 259, 260, 261, 262, 263, 264, 265, 266, 267, 268, 269, 270, 271, 272, 273, 274, 275, 276, 277, 278, 279, 180, 181, 182, 183, 184, 185, 186, 187, 188, 189, 194, 207, 208, 209, 210, 211, 199, 200, 201, 202, 212, 213, 214, 215, 216, 217, 218, 219, 220, 221, 222, 223, 224, 225, 226, 227, 230, 231, 232, 233, 234, 195, 196, 197, 198, 203, 204, 205, 206, 530, 531, 532, 533, 534, 535, 536, 537, 538, 539, 540, 541, 542, 543, 544, 545, 546, 547, 548, 549, 550, 551, 552, 553, 554, 555] (by decide +kernel) (by decide +kernel)
set_option maxRecDepth 20000 in
theorem gL_law_L_look : GoodIn wsL_law (va_wsS RL 132 yL_look wsL_look) := goodIn_app (goodIn_of _ (by decide +kernel)) ggL_law_L_look
set_option maxRecDepth 20000 in
theorem ggL_law_L_lot : GoodIn wsL_law wsL_lot := goodIn_r _ [381, 382] (by decide +kernel) (by decide +kernel)
set_option maxRecDepth 20000 in
theorem gL_law_L_lot : GoodIn wsL_law (va_wsS RL 136 yL_lot wsL_lot) := goodIn_app (goodIn_of _ (by decide +kernel)) ggL_law_L_lot
set_option maxRecDepth 20000 in
theorem ggL_law_X5_count : GoodIn wsL_law wsX5_count := goodIn_r _ [90, 12, 91, 92, 31, 93, 16, 94, 21, 95, 96, 97, 2, 98, 26, 99, 100, 101, 25, 102, 103, 66, 68, 65, 104, 105, 106, 11, 107, 42, 108, 109, 110, 111, 43, 112, 113, 114, 115, 116, 117, 118, 119, 120, 121, 122, 123, 124, 125, 67, 126, 127, 128, 129, 40, 130, 131, 132, 133, 134, 135, 136, 137, 45, 138, 139, 140, 141, 142, 143, 144, 145, 48, 146, 147, 148, 149, 150, 44, 151, 152, 153, 30, 154, 155, 73, 156, 157, 158, 159, 160, 161, 162, 163, 164, 165, 166, 167, 47, 168, 169, 170, 171, 172, 173, 174, 175, 176, 177, 178, 179, 530, 531, 532, 533, 534, 535, 536, 537, 538, 539, 540, 541, 542, 543, 544, 545, 546, 547, 548, 549, 550, 551, 552, 553, 554, 555] (by decide +kernel) (by decide +kernel)
set_option maxRecDepth 20000 in
theorem gL_law_X5_count : GoodIn wsL_law (wsV RL 13 RX5 yX5_count wsX5_count) := goodIn_app (goodIn_of _ (by decide +kernel)) ggL_law_X5_count
set_option maxRecDepth 20000 in
theorem ggL_law_L_acts : GoodIn wsL_law wsL_acts := goodIn_r _ [385, 235, 236, 85, 237, 238, 386, 387, 388, 87, 88, 89, 2, 90, 12, 91, 92, 31, 93, 16, 94, 21, 95, 96, 97, 98, 26, 99, 100, 101, 25, 102, 103, 66, 68, 65, 104, 105, 106, 11, 107, 42, 108, 109, 110, 111, 43, 112, 113, 114, 115, 116, 117, 118, 119, 120, 121, 122, 123, 124, 125, 67, 126, 127, 128, 129, 40, 130, 131, 132, 133, 134, 135, 136, 137, 45, 138, 139, 140, 141, 142, 143, 144, 145, 48, 146, 147, 148, 149, 150, 44, 151, 152, 153, 30, 154, 155, 73, 156, 157, 158, 159, 160, 161, 162, 163, 164, 165, 166, 167, 47, 168, 169, 170, 171, 172, 173, 174, 175, 176, 177, 178, 179, 389, 390, 391, 392, 336, 337, 338, 187, 188, 189, 362, 363, 364, 15, 365, 57, 59, 366, 367, 368, 369, 357, 256, 257, 258, 49, 50, 51, 52, 46, 393, 394, 395, 396, 267, 268, 269, 270, 239, 240, 241, 242, 243, 244, 228, 229, 190, 191, 192, 193, 245, 246, 247, 248, 249, 250, 251, 252, 253, 254, 22, 27, 255, 259, 260, 261, 262, 263, 264, 265, 266, 271, 272, 273, 274, 275, 276, 277, 278, 279, 397, 398, 399, 400, 339, 401, 402, 403, 404, 280, 281, 282, 283, 284, 285, 286, 287, 288, 289, 290, 291, 292, 293, 294, 295, 296, 297, 298, 299, 300, 224, 225, 226, 227, 301, 302, 303, 304, 305, 306, 307, 308, 309, 310, 311, 312, 313, 314, 315, 316, 317, 405, 406, 407, 408, 409, 410, 411, 412, 413, 414, 415, 416, 417, 418, 419, 420, 421, 422, 423, 424, 425, 426, 427, 207, 208, 209, 210, 211, 199, 200, 201, 202, 212, 213, 214, 215, 216, 217, 218, 219, 220, 221, 222, 223, 230, 231, 232, 233, 234, 428, 429, 430, 431, 432, 433, 434, 435, 436, 437, 438, 439, 440, 195, 196, 197, 198, 203, 204, 205, 206, 441, 442, 443, 444, 184, 185, 186, 445, 446, 180, 181, 182, 183, 194, 447, 448, 449, 450, 451, 452, 453, 454, 455, 456, 457, 458, 459, 460, 461, 462, 463, 464, 465, 466, 467, 468, 469, 470, 471, 472, 473, 474, 475, 476, 477, 478, 479, 480, 481, 482, 483, 20, 484, 485, 486, 487, 35, 488, 489, 490, 491, 492, 493, 494, 495, 34, 496, 79, 497, 498, 499, 500, 80, 81, 501, 502, 503, 504, 505, 506, 507, 508, 82, 509, 510, 511, 512, 78, 513, 514, 515, 516, 517, 518, 519, 520, 521, 522, 523, 524, 525, 526, 527, 528, 529, 530, 531, 532, 533, 534, 535, 536, 537, 538, 539, 540, 541, 542, 543, 544, 545, 546, 547, 548, 549, 550, 551, 552, 553, 554, 555, 556, 557, 558, 559, 560] (by decide +kernel) (by decide +kernel)
set_option maxRecDepth 20000 in
theorem gL_law_L_acts : GoodIn wsL_law (va_wsS RL 140 yL_acts wsL_acts) := goodIn_app (goodIn_of _ (by decide +kernel)) ggL_law_L_acts
set_option maxRecDepth 20000 in
theorem ggL_law_L_low : GoodIn wsL_law wsL_low := goodIn_r _ [237, 238] (by decide +kernel) (by decide +kernel)
set_option maxRecDepth 20000 in
theorem gL_law_L_low : GoodIn wsL_law (va_wsS RL 37 yL_low wsL_low) := goodIn_app (goodIn_of _ (by decide +kernel)) ggL_law_L_low

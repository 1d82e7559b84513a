theorem inlX0 : ∀ w ∈ wsX00, w ∈ wsL_law := fun _ h => List.mem_append_left _ (List.mem_append_left _ (List.mem_append_left _ (List.mem_append_left _ (List.mem_append_left _ (List.mem_append_right _ h)))))
theorem inX0 : ∀ w ∈ wsX00, w ∈ lw_tbl := fun w h => wsL_law_in w (inlX0 w h)
theorem inlX1 : ∀ w ∈ wsX10, w ∈ wsL_law := fun _ h => List.mem_append_left _ (List.mem_append_right _ h)
theorem inX1 : ∀ w ∈ wsX10, w ∈ lw_tbl := fun w h => wsL_law_in w (inlX1 w h)
theorem inlX2 : ∀ w ∈ wsX20, w ∈ wsL_law := fun _ h => List.mem_append_left _ (List.mem_append_left _ (List.mem_append_left _ (List.mem_append_right _ h)))
theorem inX2 : ∀ w ∈ wsX20, w ∈ lw_tbl := fun w h => wsL_law_in w (inlX2 w h)
theorem inlX3 : ∀ w ∈ wsX30, w ∈ wsL_law := fun _ h => List.mem_append_left _ (List.mem_append_left _ (List.mem_append_left _ (List.mem_append_left _ (List.mem_append_right _ h))))
theorem inX3 : ∀ w ∈ wsX30, w ∈ lw_tbl := fun w h => wsL_law_in w (inlX3 w h)
theorem inlX4 : ∀ w ∈ wsX40, w ∈ wsL_law := fun _ h => List.mem_append_left _ (List.mem_append_left _ (List.mem_append_right _ h))
theorem inX4 : ∀ w ∈ wsX40, w ∈ lw_tbl := fun w h => wsL_law_in w (inlX4 w h)
theorem inlX5 : ∀ w ∈ wsX50, w ∈ wsL_law := fun _ h => List.mem_append_left _ (List.mem_append_left _ (List.mem_append_left _ (List.mem_append_left _ (List.mem_append_left _ (List.mem_append_left _ (List.mem_append_right _ h))))))
theorem inX5 : ∀ w ∈ wsX50, w ∈ lw_tbl := fun w h => wsL_law_in w (inlX5 w h)
set_option maxRecDepth 20000 in
theorem ggL_look_X5_count : GoodIn wsL_look wsX5_count := goodIn_r _ [7, 8, 9, 10, 11, 12, 13, 14, 15, 16, 17, 18, 6, 19, 20, 21, 22, 23, 24, 25, 26, 27, 28, 29, 30, 31, 32, 33, 34, 35, 36, 37, 38, 39, 40, 41, 42, 43, 44, 45, 46, 47, 48, 49, 50, 51, 52, 53, 54, 55, 56, 57, 58, 59, 60, 61, 62, 63, 64, 65, 66, 67, 68, 69, 70, 71, 72, 73, 74, 75, 76, 77, 78, 79, 80, 81, 82, 83, 84, 85, 86, 87, 88, 89, 90, 91, 92, 93, 94, 95, 96, 97, 98, 99, 100, 101, 102, 103, 104, 105, 106, 107, 108, 109, 110, 111, 112, 113, 114, 115, 116, 220, 221, 222, 223, 224, 225, 226, 227, 228, 229, 230, 231, 232, 233, 234, 235, 236, 237, 238, 239, 240, 241, 242, 243, 244, 245] (by decide +kernel) (by decide +kernel)
set_option maxRecDepth 20000 in
theorem gL_look_X5_count : GoodIn wsL_look (wsV RL 13 RX5 yX5_count wsX5_count) := goodIn_app (goodIn_of _ (by decide +kernel)) ggL_look_X5_count
set_option maxRecDepth 20000 in
theorem ggL_look_X5_note : GoodIn wsL_look wsX5_note := goodIn_r _ [120, 8, 121, 122, 20, 123, 124, 125, 126, 127, 33, 128, 60, 129, 62, 63, 64, 65, 66, 67, 68, 69, 16, 17, 18, 6, 19, 12, 21, 22, 23, 24, 25, 26, 27, 28, 29, 30, 31, 32, 34, 35, 36, 37, 38, 39, 40, 41, 42, 43, 44, 45, 46, 47, 48, 49, 50, 51, 52, 53, 54, 55, 130, 131, 132, 133, 78, 134, 135, 136, 137, 138, 139, 140, 141, 142, 143, 144, 145, 146, 147, 148, 84, 149, 104, 150, 151, 152, 153, 154, 155, 156, 157, 158, 159, 160, 161, 162, 163, 164, 165, 166, 81, 82, 83, 100, 101, 102, 103, 167, 168, 169, 170, 220, 221, 222, 223, 224, 225, 226, 227, 228, 229, 230, 231, 232, 233, 234, 235, 236, 237, 238, 241, 242, 243, 244] (by decide +kernel) (by decide +kernel)
set_option maxRecDepth 20000 in
theorem gL_look_X5_note : GoodIn wsL_look (wsV RL 19 RX5 yX5_note wsX5_note) := goodIn_app (goodIn_of _ (by decide +kernel)) ggL_look_X5_note
set_option maxRecDepth 20000 in
theorem ggL_look_X5_dots : GoodIn wsL_look wsX5_dots := goodIn_r _ [174, 8, 175, 176, 6, 177, 178, 179, 180, 125, 126, 127, 33, 128, 60, 181, 66, 67, 68, 69, 220, 221, 222, 223, 224, 225, 226, 227, 228, 229, 230, 231, 232, 233, 234, 235, 236, 237, 238] (by decide +kernel) (by decide +kernel)
set_option maxRecDepth 20000 in
theorem gL_look_X5_dots : GoodIn wsL_look (wsV RL 23 RX5 yX5_dots wsX5_dots) := goodIn_app (goodIn_of _ (by decide +kernel)) ggL_look_X5_dots
set_option maxRecDepth 20000 in
theorem ggL_look_X5_theme : GoodIn wsL_look wsX5_theme := goodIn_r _ [185, 8, 11, 186, 187, 188, 189, 33, 190, 149, 80, 81, 82, 83, 60, 84, 191, 192, 193, 194, 61, 62, 63, 64, 65, 66, 67, 68, 69, 85, 86, 87, 88, 89, 90, 91, 92, 93, 94, 95, 96, 97, 98, 99, 100, 101, 102, 103, 104, 105, 106, 107, 108, 195, 196, 197, 6, 198, 10, 199, 200, 201, 202, 16, 17, 18, 19, 20, 12, 21, 22, 23, 24, 25, 26, 27, 28, 29, 30, 31, 32, 34, 35, 36, 37, 38, 39, 40, 41, 42, 43, 44, 45, 46, 47, 48, 49, 50, 51, 52, 53, 54, 55, 203, 204, 205, 206, 9, 123, 124, 207, 208, 209, 210, 211, 220, 221, 222, 223, 224, 225, 226, 227, 228, 229, 230, 245, 231, 232, 233, 234, 235, 236, 237, 238, 241, 242, 243, 244] (by decide +kernel) (by decide +kernel)
set_option maxRecDepth 20000 in
theorem gL_look_X5_theme : GoodIn wsL_look (wsV RL 26 RX5 yX5_theme wsX5_theme) := goodIn_app (goodIn_of _ (by decide +kernel)) ggL_look_X5_theme
set_option maxRecDepth 20000 in
theorem ggL_look_X5_votes : GoodIn wsL_look wsX5_votes := goodIn_r _ [215, 8, 187, 188, 189, 33, 190, 149, 216, 217, 6, 218, 178, 179, 180, 219, 97, 98, 99, 100, 101, 102, 103, 104, 220, 221, 222, 223, 224, 225, 226, 227, 228, 229, 230, 231, 232, 233, 234, 235, 236, 237, 238] (by decide +kernel) (by decide +kernel)
set_option maxRecDepth 20000 in
theorem gL_look_X5_votes : GoodIn wsL_look (wsV RL 29 RX5 yX5_votes wsX5_votes) := goodIn_app (goodIn_of _ (by decide +kernel)) ggL_look_X5_votes
set_option maxRecDepth 20000 in
theorem ggL_far_X5_note : GoodIn wsL_far wsX5_note := goodIn_r _ [5, 6, 7, 8, 9, 10, 11, 12, 13, 14, 15, 16, 17, 18, 19, 20, 21, 22, 23, 24, 25, 26, 27, 28, 29, 4, 30, 31, 32, 33, 34, 35, 36, 37, 38, 39, 40, 41, 42, 43, 44, 45, 46, 47, 48, 49, 50, 51, 52, 53, 54, 55, 56, 57, 58, 59, 60, 61, 62, 63, 64, 65, 66, 67, 68, 69, 70, 71, 72, 73, 74, 75, 76, 77, 78, 79, 80, 81, 82, 83, 84, 85, 86, 87, 88, 89, 90, 91, 92, 93, 94, 95, 96, 97, 98, 99, 100, 101, 102, 103, 104, 105, 106, 107, 108, 109, 110, 111, 112, 113, 114, 115, 116, 121, 122, 123, 124, 125, 126, 127, 128, 129, 130, 131, 132, 133, 134, 135, 136, 137, 138, 139, 140, 141, 142, 143] (by decide +kernel) (by decide +kernel)
set_option maxRecDepth 20000 in
theorem gL_far_X5_note : GoodIn wsL_far (wsV RL 19 RX5 yX5_note wsX5_note) := goodIn_app (goodIn_of _ (by decide +kernel)) ggL_far_X5_note
set_option maxRecDepth 20000 in
theorem ggL_far_L_abs : GoodIn wsL_far wsL_abs := goodIn_r _ [120] (by decide +kernel) (by decide +kernel)
set_option maxRecDepth 20000 in
theorem gL_far_L_abs : GoodIn wsL_far (va_wsS RL 32 yL_abs wsL_abs) := goodIn_app (goodIn_of _ (by decide +kernel)) ggL_far_L_abs
set_option maxRecDepth 20000 in
theorem ggL_holds_X5_count : GoodIn wsL_holds wsX5_count := goodIn_r _ [5, 6, 7, 8, 9, 10, 11, 12, 13, 14, 15, 16, 4, 17, 18, 19, 20, 21, 22, 23, 24, 25, 26, 27, 28, 29, 30, 31, 32, 33, 34, 35, 36, 37, 38, 39, 40, 41, 42, 43, 44, 45, 46, 47, 48, 49, 50, 51, 52, 53, 54, 55, 56, 57, 58, 59, 60, 61, 62, 63, 64, 65, 66, 67, 68, 69, 70, 71, 72, 73, 74, 75, 76, 77, 78, 79, 80, 81, 82, 83, 84, 85, 86, 87, 88, 89, 90, 91, 92, 93, 94, 95, 96, 97, 98, 99, 100, 101, 102, 103, 104, 105, 106, 107, 108, 109, 110, 111, 112, 113, 114, 267, 268, 269, 270, 271, 272, 273, 274, 275, 276, 277, 278, 279, 280, 281, 282, 283, 284, 285, 286, 287, 288, 289, 290, 291, 292] (by decide +kernel) (by decide +kernel)
set_option maxRecDepth 20000 in
theorem gL_holds_X5_count : GoodIn wsL_holds (wsV RL 13 RX5 yX5_count wsX5_count) := goodIn_app (goodIn_of _ (by decide +kernel)) ggL_holds_X5_count
set_option maxRecDepth 20000 in
theorem ggL_holds_X5_dots : GoodIn wsL_holds wsX5_dots := goodIn_r _ [118, 6, 119, 120, 4, 121, 122, 123, 124, 125, 126, 127, 31, 128, 58, 129, 64, 65, 66, 67, 267, 268, 269, 270, 271, 272, 273, 274, 275, 276, 277, 278, 279, 280, 281, 282, 283, 284, 285] (by decide +kernel) (by decide +kernel)
set_option maxRecDepth 20000 in
theorem gL_holds_X5_dots : GoodIn wsL_holds (wsV RL 23 RX5 yX5_dots wsX5_dots) := goodIn_app (goodIn_of _ (by decide +kernel)) ggL_holds_X5_dots
set_option maxRecDepth 20000 in
theorem ggL_holds_X5_votes : GoodIn wsL_holds wsX5_votes := goodIn_r _ [133, 6, 134, 135, 136, 31, 137, 138, 139, 140, 4, 141, 122, 123, 124, 142, 95, 96, 97, 98, 99, 100, 101, 102, 267, 268, 269, 270, 271, 272, 273, 274, 275, 276, 277, 278, 279, 280, 281, 282, 283, 284, 285] (by decide +kernel) (by decide +kernel)
set_option maxRecDepth 20000 in
theorem gL_holds_X5_votes : GoodIn wsL_holds (wsV RL 29 RX5 yX5_votes wsX5_votes) := goodIn_app (goodIn_of _ (by decide +kernel)) ggL_holds_X5_votes
set_option maxRecDepth 20000 in
theorem ggL_holds_X5_theme : GoodIn wsL_holds wsX5_theme := goodIn_r _ [146, 6, 9, 147, 134, 135, 136, 31, 137, 138, 78, 79, 80, 81, 58, 82, 148, 149, 150, 151, 59, 60, 61, 62, 63, 64, 65, 66, 67, 83, 84, 85, 86, 87, 88, 89, 90, 91, 92, 93, 94, 95, 96, 97, 98, 99, 100, 101, 102, 103, 104, 105, 106, 152, 153, 154, 4, 155, 8, 156, 157, 158, 159, 14, 15, 16, 17, 18, 10, 19, 20, 21, 22, 23, 24, 25, 26, 27, 28, 29, 30, 32, 33, 34, 35, 36, 37, 38, 39, 40, 41, 42, 43, 44, 45, 46, 47, 48, 49, 50, 51, 52, 53, 160, 161, 162, 163, 7, 164, 165, 166, 167, 168, 169, 170, 267, 268, 269, 270, 271, 272, 273, 274, 275, 276, 277, 292, 278, 279, 280, 281, 282, 283, 284, 285, 288, 289, 290, 291] (by decide +kernel) (by decide +kernel)
set_option maxRecDepth 20000 in
theorem gL_holds_X5_theme : GoodIn wsL_holds (wsV RL 26 RX5 yX5_theme wsX5_theme) := goodIn_app (goodIn_of _ (by decide +kernel)) ggL_holds_X5_theme
set_option maxRecDepth 20000 in
theorem ggL_holds_L_low : GoodIn wsL_holds wsL_low := goodIn_r _ [174, 175] (by decide +kernel) (by decide +kernel)
set_option maxRecDepth 20000 in
theorem gL_holds_L_low : GoodIn wsL_holds (va_wsS RL 37 yL_low wsL_low) := goodIn_app (goodIn_of _ (by decide +kernel)) ggL_holds_L_low
set_option maxRecDepth 20000 in
theorem ggL_holds_X5_note : GoodIn wsL_holds wsX5_note := goodIn_r _ [179, 6, 180, 181, 18, 164, 165, 125, 126, 127, 31, 128, 58, 182, 60, 61, 62, 63, 64, 65, 66, 67, 14, 15, 16, 4, 17, 10, 19, 20, 21, 22, 23, 24, 25, 26, 27, 28, 29, 30, 32, 33, 34, 35, 36, 37, 38, 39, 40, 41, 42, 43, 44, 45, 46, 47, 48, 49, 50, 51, 52, 53, 183, 184, 185, 186, 76, 187, 188, 189, 190, 191, 192, 193, 194, 195, 196, 197, 198, 199, 200, 201, 82, 138, 102, 202, 203, 204, 205, 206, 207, 208, 209, 210, 211, 212, 213, 214, 215, 216, 217, 218, 79, 80, 81, 98, 99, 100, 101, 219, 220, 221, 222, 267, 268, 269, 270, 271, 272, 273, 274, 275, 276, 277, 278, 279, 280, 281, 282, 283, 284, 285, 288, 289, 290, 291] (by decide +kernel) (by decide +kernel)
set_option maxRecDepth 20000 in
theorem gL_holds_X5_note : GoodIn wsL_holds (wsV RL 19 RX5 yX5_note wsX5_note) := goodIn_app (goodIn_of _ (by decide +kernel)) ggL_holds_X5_note
set_option maxRecDepth 20000 in
theorem ggL_holds_X5_heap : GoodIn wsL_holds wsX5_heap := goodIn_r _ [226, 18, 6, 14, 15, 16, 4, 17, 10, 19, 20, 21, 22, 23, 24, 25, 26, 27, 28, 29, 30, 31, 32, 33, 34, 35, 36, 37, 38, 39, 40, 41, 42, 43, 44, 45, 46, 47, 48, 49, 50, 51, 52, 53, 227, 228, 229, 230, 111, 112, 113, 114, 231, 232, 233, 234, 235, 236, 237, 238, 239, 60, 61, 62, 63, 64, 65, 66, 67, 240, 241, 242, 243, 8, 160, 161, 162, 163, 7, 164, 165, 244, 245, 246, 247, 248, 249, 250, 251, 252, 253, 254, 255, 256, 257, 258, 259, 260, 267, 268, 269, 270, 271, 272, 273, 274, 275, 276, 277, 278, 279, 280, 281, 282, 283, 284, 285, 288, 289, 290, 291] (by decide +kernel) (by decide +kernel)
set_option maxRecDepth 20000 in
theorem gL_holds_X5_heap : GoodIn wsL_holds (wsV RL 40 RX5 yX5_heap wsX5_heap) := goodIn_app (goodIn_of _ (by decide +kernel)) ggL_holds_X5_heap
set_option maxRecDepth 20000 in
theorem ggL_holds_L_far : GoodIn wsL_holds wsL_far := goodIn_r _ [263, 176, 177, 178, 4, 179, 6, 180, 181, 18, 164, 165, 125, 126, 127, 31, 128, 58, 182, 60, 61, 62, 63, 64, 65, 66, 67, 14, 15, 16, 17, 10, 19, 20, 21, 22, 23, 24, 25, 26, 27, 28, 29, 30, 32, 33, 34, 35, 36, 37, 38, 39, 40, 41, 42, 43, 44, 45, 46, 47, 48, 49, 50, 51, 52, 53, 183, 184, 185, 186, 76, 187, 188, 189, 190, 191, 192, 193, 194, 195, 196, 197, 198, 199, 200, 201, 82, 138, 102, 202, 203, 204, 205, 206, 207, 208, 209, 210, 211, 212, 213, 214, 215, 216, 217, 218, 79, 80, 81, 98, 99, 100, 101, 219, 220, 221, 222, 264, 265, 173, 266, 267, 268, 269, 270, 271, 272, 273, 274, 275, 276, 277, 278, 279, 280, 281, 282, 283, 284, 285, 288, 289, 290, 291] (by decide +kernel) (by decide +kernel)
set_option maxRecDepth 20000 in
theorem gL_holds_L_far : GoodIn wsL_holds (va_wsS RL 43 yL_far wsL_far) := goodIn_app (goodIn_of _ (by decide +kernel)) ggL_holds_L_far
set_option maxRecDepth 20000 in
theorem ggL_would_L_low : GoodIn wsL_would wsL_low := goodIn_r _ [4, 5] (by decide +kernel) (by decide +kernel)
set_option maxRecDepth 20000 in
theorem gL_would_L_low : GoodIn wsL_would (va_wsS RL 37 yL_low wsL_low) := goodIn_app (goodIn_of _ (by decide +kernel)) ggL_would_L_low
set_option maxRecDepth 20000 in
theorem ggL_would_X5_reachFor : GoodIn wsL_would wsX5_reachFor := goodIn_r _ [10, 11, 12, 13, 14, 9, 15, 16, 17, 18, 19, 20, 21, 22, 23, 24, 25, 26, 27, 28, 29, 30, 31, 32, 33, 34, 35, 36, 37, 38, 39, 40, 41, 42, 43, 44, 45, 46, 47, 48, 49, 50, 165, 166, 167, 168, 169, 170, 171, 172, 173, 174, 175, 176, 177, 178, 179, 180, 181, 182, 183, 184, 185, 186, 187] (by decide +kernel) (by decide +kernel)
set_option maxRecDepth 20000 in
theorem gL_would_X5_reachFor : GoodIn wsL_would (wsV RL 47 RX5 yX5_reachFor wsX5_reachFor) := goodIn_app (goodIn_of _ (by decide +kernel)) ggL_would_X5_reachFor
set_option maxRecDepth 20000 in
theorem ggL_would_X5_count : GoodIn wsL_would wsX5_count := goodIn_r _ [54, 12, 55, 56, 57, 58, 59, 60, 61, 62, 63, 64, 9, 65, 66, 16, 17, 18, 19, 20, 21, 22, 23, 24, 25, 26, 27, 28, 29, 30, 31, 32, 33, 34, 35, 36, 37, 38, 39, 40, 41, 42, 43, 44, 45, 46, 47, 48, 49, 50, 67, 68, 69, 70, 71, 72, 73, 74, 75, 76, 77, 78, 79, 80, 81, 82, 83, 84, 85, 86, 87, 88, 89, 90, 91, 92, 93, 94, 95, 96, 97, 98, 99, 100, 101, 102, 103, 104, 105, 106, 107, 108, 109, 110, 111, 112, 113, 114, 115, 116, 117, 118, 119, 120, 121, 122, 123, 124, 125, 126, 127, 165, 166, 167, 168, 169, 170, 171, 172, 173, 174, 175, 176, 177, 178, 179, 180, 181, 182, 183, 188, 189, 184, 185, 186, 187, 190] (by decide +kernel) (by decide +kernel)
set_option maxRecDepth 20000 in
theorem gL_would_X5_count : GoodIn wsL_would (wsV RL 13 RX5 yX5_count wsX5_count) := goodIn_app (goodIn_of _ (by decide +kernel)) ggL_would_X5_count
set_option maxRecDepth 20000 in
theorem ggL_would_X5_ifDragged : GoodIn wsL_would wsX5_ifDragged := goodIn_r _ [131, 12, 132, 11, 58, 133, 134, 135, 136, 137, 28, 138, 71, 139, 140, 9, 141, 13, 14, 15, 62, 63, 64, 65, 66, 16, 17, 18, 19, 20, 21, 22, 23, 24, 25, 26, 27, 29, 30, 31, 32, 33, 34, 35, 36, 37, 38, 39, 40, 41, 42, 43, 44, 45, 46, 47, 48, 49, 50, 142, 143, 144, 145, 146, 147, 148, 149, 95, 80, 150, 115, 89, 151, 152, 153, 154, 124, 125, 126, 127, 155, 156, 157, 158, 55, 165, 166, 167, 168, 169, 170, 171, 172, 173, 174, 175, 176, 177, 178, 179, 180, 181, 182, 183, 184, 185, 186, 187] (by decide +kernel) (by decide +kernel)
set_option maxRecDepth 20000 in
theorem gL_would_X5_ifDragged : GoodIn wsL_would (wsV RL 50 RX5 yX5_ifDragged wsX5_ifDragged) := goodIn_app (goodIn_of _ (by decide +kernel)) ggL_would_X5_ifDragged

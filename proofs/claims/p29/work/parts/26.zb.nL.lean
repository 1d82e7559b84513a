set_option maxRecDepth 20000 in
theorem ggL_would_X5_nearest : GoodIn wsL_would wsX5_nearest := goodIn_r _ [162, 12, 55, 163, 135, 136, 137, 28, 138, 71, 164, 26, 27, 29, 30, 31, 32, 33, 34, 35, 165, 166, 167, 168, 169, 170, 171, 172, 173, 174, 175, 176, 177, 178, 179, 180, 181, 182, 183] (by decide +kernel) (by decide +kernel)
set_option maxRecDepth 20000 in
theorem gL_would_X5_nearest : GoodIn wsL_would (wsV RL 54 RX5 yX5_nearest wsX5_nearest) := goodIn_app (goodIn_of _ (by decide +kernel)) ggL_would_X5_nearest
set_option maxRecDepth 20000 in
theorem ggL_types_L_low : GoodIn wsL_types wsL_low := goodIn_r _ [4, 5] (by decide +kernel) (by decide +kernel)
set_option maxRecDepth 20000 in
theorem gL_types_L_low : GoodIn wsL_types (va_wsS RL 37 yL_low wsL_low) := goodIn_app (goodIn_of _ (by decide +kernel)) ggL_types_L_low
set_option maxRecDepth 20000 in
theorem ggL_types_X5_clearText : GoodIn wsL_types wsX5_clearText := goodIn_r _ [10, 11, 17, 18, 19, 20, 21, 22, 23, 24, 25, 26, 27] (by decide +kernel) (by decide +kernel)
set_option maxRecDepth 20000 in
theorem gL_types_X5_clearText : GoodIn wsL_types (wsV RL 57 RX5 yX5_clearText wsX5_clearText) := goodIn_app (goodIn_of _ (by decide +kernel)) ggL_types_X5_clearText
set_option maxRecDepth 20000 in
theorem ggL_types_X5_type : GoodIn wsL_types wsX5_type := goodIn_r _ [15, 11, 16, 17, 18, 19, 20, 21, 22, 23, 24, 25, 26, 27] (by decide +kernel) (by decide +kernel)
set_option maxRecDepth 20000 in
theorem gL_types_X5_type : GoodIn wsL_types (wsV RL 61 RX5 yX5_type wsX5_type) := goodIn_app (goodIn_of _ (by decide +kernel)) ggL_types_X5_type
set_option maxRecDepth 20000 in
theorem ggL_reads_X5_count : GoodIn wsL_reads wsX5_count := goodIn_r _ [5, 6, 7, 8, 9, 10, 11, 12, 13, 14, 15, 16, 4, 17, 18, 19, 20, 21, 22, 23, 24, 25, 26, 27, 28, 29, 30, 31, 32, 33, 34, 35, 36, 37, 38, 39, 40, 41, 42, 43, 44, 45, 46, 47, 48, 49, 50, 51, 52, 53, 54, 55, 56, 57, 58, 59, 60, 61, 62, 63, 64, 65, 66, 67, 68, 69, 70, 71, 72, 73, 74, 75, 76, 77, 78, 79, 80, 81, 82, 83, 84, 85, 86, 87, 88, 89, 90, 91, 92, 93, 94, 95, 96, 97, 98, 99, 100, 101, 102, 103, 104, 105, 106, 107, 108, 109, 110, 111, 112, 113, 114, 220, 221, 222, 223, 224, 225, 226, 227, 228, 229, 230, 231, 232, 233, 234, 235, 236, 237, 238, 239, 240, 241, 242, 243, 244, 245] (by decide +kernel) (by decide +kernel)
set_option maxRecDepth 20000 in
theorem gL_reads_X5_count : GoodIn wsL_reads (wsV RL 13 RX5 yX5_count wsX5_count) := goodIn_app (goodIn_of _ (by decide +kernel)) ggL_reads_X5_count
set_option maxRecDepth 20000 in
theorem ggL_reads_L_types : GoodIn wsL_reads wsL_types := goodIn_r _ [118, 119, 120, 117, 121, 122, 123, 124, 125, 4, 126, 13, 127, 128, 129, 130, 131, 220, 221, 222, 223, 224, 225, 226, 227, 228, 229, 230] rfl (by decide +kernel)
set_option maxRecDepth 20000 in
theorem gL_reads_L_types : GoodIn wsL_reads (va_wsS RL 65 yL_types wsL_types) := goodIn_app (goodIn_of _ (by decide +kernel)) ggL_reads_L_types
set_option maxRecDepth 20000 in
theorem ggL_reads_X5_load : GoodIn wsL_reads wsX5_load := goodIn_r _ [135, 136, 6, 137, 131, 13, 138, 11, 7, 139, 140, 141, 31, 142, 58, 33, 143, 144, 145, 146, 38, 82, 67, 147, 102, 76, 148, 149, 150, 151, 152, 153, 154, 155, 156, 157, 158, 159, 160, 161, 162, 163, 164, 165, 166, 167, 168, 169, 170, 171, 172, 173, 174, 175, 176, 177, 178, 179, 180, 181, 182, 183, 184, 185, 186, 187, 188, 189, 190, 191, 73, 74, 75, 77, 47, 36, 48, 63, 64, 65, 66, 192, 193, 194, 195, 196, 197, 198, 199, 200, 201, 202, 203, 204, 205, 206, 207, 208, 209, 210, 211, 212, 213, 214, 215, 216, 217, 218, 219, 220, 221, 222, 223, 224, 225, 226, 227, 228, 229, 230, 246, 247, 248, 249, 250, 231, 232, 233, 234, 235, 236, 237, 238, 239, 240] (by decide +kernel) (by decide +kernel)
set_option maxRecDepth 20000 in
theorem gL_reads_X5_load : GoodIn wsL_reads (wsV RL 69 RX5 yX5_load wsX5_load) := goodIn_app (goodIn_of _ (by decide +kernel)) ggL_reads_X5_load
set_option maxRecDepth 20000 in
theorem ggL_reads_L_low : GoodIn wsL_reads wsL_low := goodIn_r _ [121, 122] (by decide +kernel) (by decide +kernel)
set_option maxRecDepth 20000 in
theorem gL_reads_L_low : GoodIn wsL_reads (va_wsS RL 37 yL_low wsL_low) := goodIn_app (goodIn_of _ (by decide +kernel)) ggL_reads_L_low
set_option maxRecDepth 20000 in
theorem ggL_notes_X5_count : GoodIn wsL_notes wsX5_count := goodIn_r _ [5, 6, 7, 8, 9, 10, 11, 12, 13, 14, 15, 16, 4, 17, 18, 19, 20, 21, 22, 23, 24, 25, 26, 27, 28, 29, 30, 31, 32, 33, 34, 35, 36, 37, 38, 39, 40, 41, 42, 43, 44, 45, 46, 47, 48, 49, 50, 51, 52, 53, 54, 55, 56, 57, 58, 59, 60, 61, 62, 63, 64, 65, 66, 67, 68, 69, 70, 71, 72, 73, 74, 75, 76, 77, 78, 79, 80, 81, 82, 83, 84, 85, 86, 87, 88, 89, 90, 91, 92, 93, 94, 95, 96, 97, 98, 99, 100, 101, 102, 103, 104, 105, 106, 107, 108, 109, 110, 111, 112, 113, 114, 263, 264, 265, 266, 267, 268, 269, 270, 271, 272, 273, 274, 275, 276, 277, 278, 279, 280, 281, 282, 283, 284, 285, 286, 287, 288] (by decide +kernel) (by decide +kernel)
set_option maxRecDepth 20000 in
theorem gL_notes_X5_count : GoodIn wsL_notes (wsV RL 13 RX5 yX5_count wsX5_count) := goodIn_app (goodIn_of _ (by decide +kernel)) ggL_notes_X5_count
set_option maxRecDepth 20000 in
theorem ggL_notes_L_low : GoodIn wsL_notes wsL_low := goodIn_r _ [118, 119] (by decide +kernel) (by decide +kernel)
set_option maxRecDepth 20000 in
theorem gL_notes_L_low : GoodIn wsL_notes (va_wsS RL 37 yL_low wsL_low) := goodIn_app (goodIn_of _ (by decide +kernel)) ggL_notes_L_low
set_option maxRecDepth 20000 in
theorem ggL_notes_X5_put : GoodIn wsL_notes wsX5_put := goodIn_r _ [123, 6, 7, 11, 124, 125, 4, 126, 127, 128, 129, 130, 131, 132, 133, 134, 135, 136, 137, 138, 139, 140, 141, 142, 143, 31, 144, 58, 33, 145, 146, 147, 148, 38, 82, 67, 149, 102, 76, 150, 151, 152, 153, 154, 155, 156, 157, 263, 264, 265, 266, 267, 268, 269, 270, 271, 272, 273, 274, 275, 276, 277, 278, 279, 280, 281, 282, 283] (by decide +kernel) (by decide +kernel)
set_option maxRecDepth 20000 in
theorem gL_notes_X5_put : GoodIn wsL_notes (wsV RL 72 RX5 yX5_put wsX5_put) := goodIn_app (goodIn_of _ (by decide +kernel)) ggL_notes_X5_put
set_option maxRecDepth 20000 in
theorem ggL_notes_X5_note : GoodIn wsL_notes wsX5_note := goodIn_r _ [161, 6, 162, 163, 18, 164, 165, 166, 167, 168, 31, 169, 58, 170, 60, 61, 62, 63, 64, 65, 66, 67, 14, 15, 16, 4, 17, 10, 19, 20, 21, 22, 23, 24, 25, 26, 27, 28, 29, 30, 32, 33, 34, 35, 36, 37, 38, 39, 40, 41, 42, 43, 44, 45, 46, 47, 48, 49, 50, 51, 52, 53, 171, 172, 173, 174, 76, 175, 176, 177, 178, 179, 180, 181, 182, 142, 143, 144, 145, 146, 147, 148, 82, 149, 102, 183, 184, 185, 186, 187, 188, 189, 190, 154, 155, 156, 157, 191, 192, 193, 194, 195, 79, 80, 81, 98, 99, 100, 101, 196, 197, 198, 199, 263, 264, 265, 266, 267, 268, 269, 270, 271, 272, 273, 274, 275, 276, 277, 278, 279, 280, 281, 284, 285, 286, 287] (by decide +kernel) (by decide +kernel)
set_option maxRecDepth 20000 in
theorem gL_notes_X5_note : GoodIn wsL_notes (wsV RL 19 RX5 yX5_note wsX5_note) := goodIn_app (goodIn_of _ (by decide +kernel)) ggL_notes_X5_note
set_option maxRecDepth 20000 in
theorem ggL_notes_X5_drag : GoodIn wsL_notes wsX5_drag := goodIn_r _ [203, 6, 162, 163, 11, 166, 167, 168, 31, 169, 58, 124, 125, 4, 126, 127, 128, 129, 130, 131, 132, 133, 134, 135, 136, 137, 138, 139, 140, 141, 142, 143, 144, 33, 145, 146, 147, 148, 38, 82, 67, 149, 102, 76, 204, 155, 156, 157, 14, 15, 16, 17, 18, 10, 19, 20, 21, 22, 23, 24, 25, 26, 27, 28, 29, 30, 32, 34, 35, 36, 37, 39, 40, 41, 42, 43, 44, 45, 46, 47, 48, 49, 50, 51, 52, 53, 263, 264, 265, 266, 267, 268, 269, 270, 271, 272, 273, 274, 275, 276, 277, 278, 279, 280, 281, 282, 283, 284, 285, 286, 287] (by decide +kernel) (by decide +kernel)
set_option maxRecDepth 20000 in
theorem gL_notes_X5_drag : GoodIn wsL_notes (wsV RL 75 RX5 yX5_drag wsX5_drag) := goodIn_app (goodIn_of _ (by decide +kernel)) ggL_notes_X5_drag
set_option maxRecDepth 20000 in
theorem ggL_notes_X5_takeOff : GoodIn wsL_notes wsX5_takeOff := goodIn_r _ [208, 6, 11, 166, 167, 168, 31, 169, 58, 130, 131, 132, 133, 134, 135, 136, 137, 138, 139, 140, 141, 142, 143, 144, 33, 145, 146, 147, 148, 38, 82, 67, 149, 102, 76, 170, 60, 61, 62, 63, 64, 65, 66, 183, 184, 185, 186, 187, 188, 189, 190, 154, 155, 156, 157, 191, 192, 193, 194, 195, 79, 80, 81, 98, 99, 100, 101, 196, 197, 198, 199, 263, 264, 265, 266, 267, 268, 269, 270, 271, 272, 273, 274, 275, 276, 277, 278, 279, 280, 281, 282, 283] (by decide +kernel) (by decide +kernel)
set_option maxRecDepth 20000 in
theorem gL_notes_X5_takeOff : GoodIn wsL_notes (wsV RL 79 RX5 yX5_takeOff wsX5_takeOff) := goodIn_app (goodIn_of _ (by decide +kernel)) ggL_notes_X5_takeOff
set_option maxRecDepth 20000 in
theorem ggL_notes_X5_heap : GoodIn wsL_notes wsX5_heap := goodIn_r _ [212, 18, 6, 14, 15, 16, 4, 17, 10, 19, 20, 21, 22, 23, 24, 25, 26, 27, 28, 29, 30, 31, 32, 33, 34, 35, 36, 37, 38, 39, 40, 41, 42, 43, 44, 45, 46, 47, 48, 49, 50, 51, 52, 53, 213, 214, 215, 216, 111, 112, 113, 114, 217, 218, 219, 220, 221, 222, 223, 224, 225, 60, 61, 62, 63, 64, 65, 66, 67, 226, 227, 228, 229, 8, 230, 231, 232, 233, 7, 164, 165, 234, 235, 236, 237, 238, 239, 240, 241, 242, 243, 244, 245, 246, 247, 248, 249, 250, 263, 264, 265, 266, 267, 268, 269, 270, 271, 272, 273, 274, 275, 276, 277, 278, 279, 280, 281, 284, 285, 286, 287] (by decide +kernel) (by decide +kernel)
set_option maxRecDepth 20000 in
theorem gL_notes_X5_heap : GoodIn wsL_notes (wsV RL 40 RX5 yX5_heap wsX5_heap) := goodIn_app (goodIn_of _ (by decide +kernel)) ggL_notes_X5_heap
set_option maxRecDepth 20000 in
theorem ggL_notes_X5_dragHeap : GoodIn wsL_notes wsX5_dragHeap := goodIn_r _ [254, 18, 11, 6, 14, 15, 16, 4, 17, 10, 19, 20, 21, 22, 23, 24, 25, 26, 27, 28, 29, 30, 31, 32, 33, 34, 35, 36, 37, 38, 39, 40, 41, 42, 43, 44, 45, 46, 47, 48, 49, 50, 51, 52, 53, 213, 214, 215, 216, 127, 128, 129, 255, 256, 257, 258, 7, 164, 162, 163, 124, 125, 126, 130, 131, 132, 133, 134, 135, 136, 137, 138, 139, 140, 141, 142, 143, 144, 58, 145, 146, 147, 148, 82, 67, 149, 102, 76, 259, 260, 261, 262, 204, 155, 156, 157, 263, 264, 265, 266, 267, 268, 269, 270, 271, 272, 273, 274, 275, 276, 277, 278, 279, 280, 281, 284, 285, 286, 287, 282, 283] (by decide +kernel) (by decide +kernel)
set_option maxRecDepth 20000 in
theorem gL_notes_X5_dragHeap : GoodIn wsL_notes (wsV RL 82 RX5 yX5_dragHeap wsX5_dragHeap) := goodIn_app (goodIn_of _ (by decide +kernel)) ggL_notes_X5_dragHeap
set_option maxRecDepth 20000 in
theorem ggL_themes_X5_count : GoodIn wsL_themes wsX5_count := goodIn_r _ [5, 6, 7, 8, 9, 10, 11, 12, 13, 14, 15, 16, 4, 17, 18, 19, 20, 21, 22, 23, 24, 25, 26, 27, 28, 29, 30, 31, 32, 33, 34, 35, 36, 37, 38, 39, 40, 41, 42, 43, 44, 45, 46, 47, 48, 49, 50, 51, 52, 53, 54, 55, 56, 57, 58, 59, 60, 61, 62, 63, 64, 65, 66, 67, 68, 69, 70, 71, 72, 73, 74, 75, 76, 77, 78, 79, 80, 81, 82, 83, 84, 85, 86, 87, 88, 89, 90, 91, 92, 93, 94, 95, 96, 97, 98, 99, 100, 101, 102, 103, 104, 105, 106, 107, 108, 109, 110, 111, 112, 113, 114, 295, 296, 297, 298, 299, 300, 301, 302, 303, 304, 305, 306, 307, 308, 309, 310, 311, 312, 313, 314, 315, 316, 317, 318, 319, 320] (by decide +kernel) (by decide +kernel)
set_option maxRecDepth 20000 in
theorem gL_themes_X5_count : GoodIn wsL_themes (wsV RL 13 RX5 yX5_count wsX5_count) := goodIn_app (goodIn_of _ (by decide +kernel)) ggL_themes_X5_count
set_option maxRecDepth 20000 in
theorem ggL_themes_L_low : GoodIn wsL_themes wsL_low := goodIn_r _ [118, 119] (by decide +kernel) (by decide +kernel)
set_option maxRecDepth 20000 in
theorem gL_themes_L_low : GoodIn wsL_themes (va_wsS RL 37 yL_low wsL_low) := goodIn_app (goodIn_of _ (by decide +kernel)) ggL_themes_L_low
set_option maxRecDepth 20000 in
theorem ggL_themes_X5_heap : GoodIn wsL_themes wsX5_heap := goodIn_r _ [123, 18, 6, 14, 15, 16, 4, 17, 10, 19, 20, 21, 22, 23, 24, 25, 26, 27, 28, 29, 30, 31, 32, 33, 34, 35, 36, 37, 38, 39, 40, 41, 42, 43, 44, 45, 46, 47, 48, 49, 50, 51, 52, 53, 124, 125, 126, 127, 111, 112, 113, 114, 128, 129, 130, 131, 132, 133, 134, 135, 136, 60, 61, 62, 63, 64, 65, 66, 67, 137, 138, 139, 140, 8, 141, 142, 143, 144, 7, 145, 146, 147, 148, 149, 150, 151, 152, 153, 154, 155, 156, 157, 158, 159, 160, 161, 162, 163, 295, 296, 297, 298, 299, 300, 301, 302, 303, 304, 305, 306, 307, 308, 309, 310, 311, 312, 313, 316, 317, 318, 319] (by decide +kernel) (by decide +kernel)
set_option maxRecDepth 20000 in
theorem gL_themes_X5_heap : GoodIn wsL_themes (wsV RL 40 RX5 yX5_heap wsX5_heap) := goodIn_app (goodIn_of _ (by decide +kernel)) ggL_themes_X5_heap
set_option maxRecDepth 20000 in
theorem ggL_themes_X5_make : GoodIn wsL_themes wsX5_make := goodIn_r _ [167, 18, 6, 8, 11, 7, 145, 146, 14, 15, 16, 4, 17, 10, 19, 20, 21, 22, 23, 24, 25, 26, 27, 28, 29, 30, 31, 32, 33, 34, 35, 36, 37, 38, 39, 40, 41, 42, 43, 44, 45, 46, 47, 48, 49, 50, 51, 52, 53, 124, 125, 126, 127, 147, 148, 149, 150, 151, 168, 169, 170, 171, 172, 173, 174, 175, 176, 177, 178, 179, 180, 181, 182, 58, 183, 184, 185, 186, 82, 67, 187, 102, 76, 188, 189, 190, 191, 192, 193, 194, 195, 295, 296, 297, 298, 299, 300, 301, 302, 303, 304, 305, 306, 307, 308, 309, 310, 311, 312, 313, 316, 317, 318, 319, 314, 315] (by decide +kernel) (by decide +kernel)
set_option maxRecDepth 20000 in
theorem gL_themes_X5_make : GoodIn wsL_themes (wsV RL 85 RX5 yX5_make wsX5_make) := goodIn_app (goodIn_of _ (by decide +kernel)) ggL_themes_X5_make
set_option maxRecDepth 20000 in
theorem ggL_themes_X5_theme : GoodIn wsL_themes wsX5_theme := goodIn_r _ [199, 6, 9, 200, 201, 202, 203, 31, 204, 187, 78, 79, 80, 81, 58, 82, 205, 206, 207, 208, 59, 60, 61, 62, 63, 64, 65, 66, 67, 83, 84, 85, 86, 87, 88, 89, 90, 91, 92, 93, 94, 95, 96, 97, 98, 99, 100, 101, 102, 103, 104, 105, 106, 209, 210, 211, 4, 212, 8, 213, 214, 215, 216, 14, 15, 16, 17, 18, 10, 19, 20, 21, 22, 23, 24, 25, 26, 27, 28, 29, 30, 32, 33, 34, 35, 36, 37, 38, 39, 40, 41, 42, 43, 44, 45, 46, 47, 48, 49, 50, 51, 52, 53, 141, 142, 143, 144, 7, 145, 146, 217, 218, 219, 220, 221, 295, 296, 297, 298, 299, 300, 301, 302, 303, 304, 305, 320, 306, 307, 308, 309, 310, 311, 312, 313, 316, 317, 318, 319] (by decide +kernel) (by decide +kernel)
set_option maxRecDepth 20000 in
theorem gL_themes_X5_theme : GoodIn wsL_themes (wsV RL 26 RX5 yX5_theme wsX5_theme) := goodIn_app (goodIn_of _ (by decide +kernel)) ggL_themes_X5_theme
set_option maxRecDepth 20000 in
theorem ggL_themes_X5_merge : GoodIn wsL_themes wsX5_merge := goodIn_r _ [225, 6, 11, 201, 202, 203, 31, 204, 187, 168, 169, 170, 171, 172, 173, 174, 175, 176, 177, 178, 179, 180, 181, 182, 58, 33, 183, 184, 185, 186, 38, 82, 67, 102, 76, 226, 227, 228, 229, 98, 99, 100, 101, 192, 193, 194, 195, 230, 231, 232, 233, 234, 79, 80, 81, 78, 295, 296, 297, 298, 299, 300, 301, 302, 303, 304, 305, 306, 307, 308, 309, 310, 311, 312, 313, 314, 315] (by decide +kernel) (by decide +kernel)
set_option maxRecDepth 20000 in
theorem gL_themes_X5_merge : GoodIn wsL_themes (wsV RL 88 RX5 yX5_merge wsX5_merge) := goodIn_app (goodIn_of _ (by decide +kernel)) ggL_themes_X5_merge
set_option maxRecDepth 20000 in
theorem ggL_themes_X5_note : GoodIn wsL_themes wsX5_note := goodIn_r _ [238, 6, 239, 240, 18, 145, 146, 241, 242, 243, 31, 244, 58, 245, 60, 61, 62, 63, 64, 65, 66, 67, 14, 15, 16, 4, 17, 10, 19, 20, 21, 22, 23, 24, 25, 26, 27, 28, 29, 30, 32, 33, 34, 35, 36, 37, 38, 39, 40, 41, 42, 43, 44, 45, 46, 47, 48, 49, 50, 51, 52, 53, 246, 247, 248, 249, 76, 250, 251, 252, 253, 254, 255, 256, 257, 180, 181, 182, 183, 184, 185, 186, 82, 187, 102, 258, 259, 260, 261, 262, 263, 264, 265, 266, 267, 268, 269, 230, 231, 232, 233, 234, 79, 80, 81, 98, 99, 100, 101, 192, 193, 194, 195, 295, 296, 297, 298, 299, 300, 301, 302, 303, 304, 305, 306, 307, 308, 309, 310, 311, 312, 313, 316, 317, 318, 319] (by decide +kernel) (by decide +kernel)
set_option maxRecDepth 20000 in
theorem gL_themes_X5_note : GoodIn wsL_themes (wsV RL 19 RX5 yX5_note wsX5_note) := goodIn_app (goodIn_of _ (by decide +kernel)) ggL_themes_X5_note
set_option maxRecDepth 20000 in
theorem ggL_themes_X5_belong : GoodIn wsL_themes wsX5_belong := goodIn_r _ [273, 6, 146, 11, 8, 241, 242, 243, 31, 244, 58, 201, 202, 203, 204, 187, 168, 169, 170, 171, 172, 173, 174, 175, 176, 177, 178, 179, 180, 181, 182, 33, 183, 184, 185, 186, 38, 82, 67, 102, 76, 274, 231, 232, 233, 234, 79, 80, 81, 98, 99, 100, 101, 192, 193, 194, 195, 295, 296, 297, 298, 299, 300, 301, 302, 303, 304, 305, 306, 307, 308, 309, 310, 311, 312, 313, 314, 315] (by decide +kernel) (by decide +kernel)
set_option maxRecDepth 20000 in
theorem gL_themes_X5_belong : GoodIn wsL_themes (wsV RL 91 RX5 yX5_belong wsX5_belong) := goodIn_app (goodIn_of _ (by decide +kernel)) ggL_themes_X5_belong
set_option maxRecDepth 20000 in
theorem ggL_themes_X5_votes : GoodIn wsL_themes wsX5_votes := goodIn_r _ [278, 6, 201, 202, 203, 31, 204, 187, 279, 280, 4, 281, 282, 283, 284, 285, 95, 96, 97, 98, 99, 100, 101, 102, 295, 296, 297, 298, 299, 300, 301, 302, 303, 304, 305, 306, 307, 308, 309, 310, 311, 312, 313] (by decide +kernel) (by decide +kernel)
set_option maxRecDepth 20000 in
theorem gL_themes_X5_votes : GoodIn wsL_themes (wsV RL 29 RX5 yX5_votes wsX5_votes) := goodIn_app (goodIn_of _ (by decide +kernel)) ggL_themes_X5_votes

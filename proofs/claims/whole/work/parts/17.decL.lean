set_option maxRecDepth 20000 in
theorem ggL_law_X4_init : GoodIn wsL_law wsX4_init := goodIn_r _ [8, 9, 10, 11, 12, 13, 14, 15, 16, 17, 18, 19, 20, 21, 22, 23, 24, 25, 26, 27, 28, 29, 30, 31, 32, 33, 34, 35, 36, 37, 38, 39, 40, 41, 42, 43, 44, 45, 46, 47, 48, 49, 50, 51, 52, 53, 54, 55, 56, 57, 2, 58, 59, 60, 61, 62, 63, 64, 65, 66, 67, 68, 69, 70, 71, 72, 73, 74, 75, 76, 77, 78, 79, 80, 81, 82, 83, 84, 85, 86, 87, 88, 89, 90, 91, 92, 93, 94, 95, 96, 618, 619, 620, 587, 588, 589, 590, 591, 592, 593, 594, 595, 596, 621, 622, 623, 624, 625, 626, 627, 628, 629, 630, 631, 632, 633] (by decide +kernel) (by decide +kernel)
set_option maxRecDepth 20000 in
theorem gL_law_X4_init : GoodIn wsL_law (wsX4_init) := ggL_law_X4_init
set_option maxRecDepth 20000 in
theorem ggL_law_X5_init : GoodIn wsL_law wsX5_init := goodIn_r _ [99, 100, 10, 11, 32, 101, 102, 103, 38, 104, 105, 106, 107, 108, 109, 110, 111, 112, 5, 113, 114, 115, 116, 117, 118, 119, 120, 121, 122, 123, 124, 125, 126, 127, 128, 597, 598, 599, 600, 601, 602, 603, 604, 605, 606, 607, 608, 609, 610, 611, 612, 613, 614, 615, 616, 617] (by decide +kernel) (by decide +kernel)
set_option maxRecDepth 20000 in
theorem gL_law_X5_init : GoodIn wsL_law (wsX5_init) := ggL_law_X5_init
set_option maxRecDepth 20000 in
theorem ggL_law_X4_reset : GoodIn wsL_law wsX4_reset := goodIn_r _ [132, 133, 134, 2, 135, 55, 56, 57, 58, 15, 19, 23, 27, 59, 60, 61, 62, 63, 64, 65, 66, 67, 14, 68, 33, 69, 70, 71, 72, 73, 74, 75, 76, 77, 18, 78, 79, 80, 81, 82, 83, 84, 39, 40, 42, 85, 86, 87, 22, 88, 89, 90, 91, 92, 93, 26, 94, 54, 95, 96, 587, 588, 589, 590, 591, 592, 593, 594, 595, 596, 618, 619, 620, 621, 622, 623, 624, 625, 626, 627, 628, 629, 630, 631, 632, 633] (by decide +kernel) (by decide +kernel)
set_option maxRecDepth 20000 in
theorem gL_law_X4_reset : GoodIn wsL_law (wsV RL 13 RX4 yX4_reset wsX4_reset) := goodIn_app (goodIn_of _ (by decide +kernel)) ggL_law_X4_reset
set_option maxRecDepth 20000 in
theorem ggL_law_X5_reset : GoodIn wsL_law wsX5_reset := goodIn_r _ [113, 114, 115, 116, 117, 118, 119, 120, 121, 122, 123, 124, 125, 101, 104, 107, 126, 127, 5, 128, 597, 598, 599, 600, 601, 602, 603, 604, 605, 606, 607, 608, 609, 610, 611, 612, 613, 614, 615, 616, 617] (by decide +kernel) (by decide +kernel)
set_option maxRecDepth 20000 in
theorem gL_law_X5_reset : GoodIn wsL_law (wsV RL 17 RX5 yX5_reset wsX5_reset) := goodIn_app (goodIn_of _ (by decide +kernel)) ggL_law_X5_reset
set_option maxRecDepth 20000 in
theorem ggL_law_X4_read : GoodIn wsL_law wsX4_read := goodIn_r _ [140, 19, 141, 142, 2, 143, 133, 134, 135, 144, 145, 146, 147, 148, 149, 150, 18, 151, 39, 152, 153, 154, 155, 79, 80, 156, 157, 158, 159, 27, 160, 161, 162, 163, 42, 164, 165, 166, 26, 167, 54, 95, 168, 169, 170, 171, 53, 172, 173, 174, 175, 60, 61, 62, 176, 177, 178, 179, 63, 180, 181, 182, 183, 40, 184, 185, 186, 187, 23, 64, 188, 189, 190, 22, 191, 89, 90, 192, 193, 194, 195, 15, 196, 197, 198, 199, 47, 200, 201, 202, 203, 204, 205, 206, 207, 48, 208, 209, 210, 14, 211, 70, 33, 212, 213, 214, 215, 216, 217, 218, 219, 41, 220, 221, 222, 223, 224, 225, 226, 227, 228, 81, 82, 83, 84, 229, 230, 231, 232, 233, 234, 235, 236, 237, 238, 239, 240, 69, 241, 242, 243, 244, 245, 246, 247, 248, 249, 250, 251, 252, 59, 253, 254, 255, 256, 257, 258, 259, 260, 261, 587, 588, 589, 590, 591, 592, 593, 594, 595, 596, 621, 622, 623, 624, 625, 626, 631, 632, 633, 627, 628, 629, 630, 618, 619, 620] (by decide +kernel) (by decide +kernel)
set_option maxRecDepth 20000 in
theorem gL_law_X4_read : GoodIn wsL_law (wsV RL 18 RX4 yX4_read wsX4_read) := goodIn_app (goodIn_of _ (by decide +kernel)) ggL_law_X4_read
set_option maxRecDepth 20000 in
theorem ggL_law_X5_read : GoodIn wsL_law wsX5_read := goodIn_r _ [265, 102, 266, 267, 5, 268, 126, 127, 128, 269, 270, 271, 272, 104, 273, 274, 275, 276, 114, 277, 278, 279, 280, 281, 282, 283, 284, 103, 285, 286, 287, 288, 107, 115, 289, 290, 291, 292, 106, 293, 294, 295, 296, 119, 120, 297, 298, 299, 300, 118, 117, 301, 302, 303, 304, 105, 101, 122, 109, 305, 306, 307, 308, 121, 125, 116, 124, 108, 309, 310, 311, 312, 313, 314, 315, 316, 123, 317, 318, 319, 320, 321, 322, 323, 324, 597, 598, 599, 600, 601, 602, 603, 604, 605, 606, 607, 608, 609, 610, 611, 612, 613, 614, 615, 616, 617] (by decide +kernel) (by decide +kernel)
set_option maxRecDepth 20000 in
theorem gL_law_X5_read : GoodIn wsL_law (wsV RL 22 RX5 yX5_read wsX5_read) := goodIn_app (goodIn_of _ (by decide +kernel)) ggL_law_X5_read
set_option maxRecDepth 20000 in
theorem ggL_law_X4_write : GoodIn wsL_law wsX4_write := goodIn_r _ [328, 19, 141, 142, 2, 143, 133, 134, 135, 144, 145, 146, 147, 148, 149, 150, 18, 151, 39, 152, 153, 154, 155, 79, 80, 156, 157, 158, 159, 27, 160, 161, 162, 163, 42, 164, 165, 166, 26, 167, 54, 95, 168, 169, 170, 171, 53, 172, 173, 174, 175, 60, 61, 62, 176, 177, 178, 179, 63, 180, 181, 182, 183, 40, 184, 185, 186, 187, 23, 64, 188, 189, 190, 22, 191, 89, 90, 192, 193, 194, 195, 15, 196, 197, 198, 199, 47, 200, 201, 202, 203, 204, 205, 206, 207, 48, 208, 209, 210, 14, 211, 70, 33, 212, 213, 214, 215, 216, 217, 218, 219, 41, 220, 221, 222, 223, 224, 225, 226, 227, 228, 81, 82, 83, 84, 229, 230, 231, 232, 233, 234, 235, 236, 237, 238, 239, 240, 69, 241, 242, 243, 244, 245, 246, 247, 248, 249, 250, 251, 252, 59, 253, 254, 255, 256, 257, 258, 259, 260, 261, 587, 588, 589, 590, 591, 592, 593, 594, 595, 596, 621, 622, 623, 624, 625, 626, 631, 632, 633, 627, 628, 629, 630, 618, 619, 620] (by decide +kernel) (by decide +kernel)
set_option maxRecDepth 20000 in
theorem gL_law_X4_write : GoodIn wsL_law (wsV RL 23 RX4 yX4_write wsX4_write) := goodIn_app (goodIn_of _ (by decide +kernel)) ggL_law_X4_write
set_option maxRecDepth 20000 in
theorem ggL_law_X5_write : GoodIn wsL_law wsX5_write := goodIn_r _ [332, 102, 105, 266, 267, 5, 268, 126, 127, 128, 269, 270, 271, 272, 104, 273, 274, 275, 276, 114, 277, 278, 279, 280, 281, 282, 283, 284, 103, 285, 286, 287, 288, 107, 115, 289, 290, 291, 292, 106, 293, 294, 295, 296, 119, 120, 297, 298, 299, 300, 118, 117, 301, 302, 303, 304, 101, 122, 109, 305, 306, 307, 308, 121, 125, 116, 124, 108, 309, 310, 311, 312, 313, 314, 315, 316, 123, 317, 318, 319, 320, 321, 322, 323, 324, 597, 598, 599, 600, 601, 602, 603, 604, 605, 606, 607, 608, 609, 610, 611, 612, 613, 614, 615, 616, 617] (by decide +kernel) (by decide +kernel)
set_option maxRecDepth 20000 in
theorem gL_law_X5_write : GoodIn wsL_law (wsV RL 27 RX5 yX5_write wsX5_write) := goodIn_app (goodIn_of _ (by decide +kernel)) ggL_law_X5_write
set_option maxRecDepth 20000 in
theorem ggL_law_X4_pin : GoodIn wsL_law wsX4_pin := goodIn_r _ [336, 19, 141, 142, 2, 143, 133, 134, 135, 160, 161, 162, 18, 163, 42, 144, 145, 146, 147, 148, 149, 150, 151, 39, 152, 153, 154, 155, 79, 80, 156, 157, 158, 159, 27, 164, 165, 166, 26, 167, 54, 95, 168, 169, 170, 171, 53, 172, 173, 174, 175, 60, 61, 62, 176, 177, 178, 179, 63, 180, 181, 182, 183, 40, 184, 185, 186, 187, 23, 64, 188, 189, 190, 22, 191, 89, 90, 192, 193, 194, 195, 15, 196, 197, 198, 199, 47, 200, 201, 202, 203, 204, 205, 206, 207, 48, 208, 209, 210, 14, 211, 70, 33, 212, 213, 214, 215, 216, 217, 218, 219, 41, 220, 221, 222, 223, 224, 225, 226, 227, 228, 81, 82, 83, 84, 229, 230, 231, 232, 233, 234, 235, 236, 237, 238, 239, 240, 69, 241, 242, 243, 244, 245, 246, 247, 248, 249, 250, 251, 252, 59, 253, 254, 255, 256, 257, 258, 259, 260, 261, 337, 338, 339, 340, 587, 588, 589, 590, 591, 592, 593, 594, 595, 596, 621, 622, 623, 624, 625, 626, 631, 632, 633, 627, 628, 629, 630, 618, 619, 620] (by decide +kernel) (by decide +kernel)
set_option maxRecDepth 20000 in
theorem gL_law_X4_pin : GoodIn wsL_law (wsV RL 28 RX4 yX4_pin wsX4_pin) := goodIn_app (goodIn_of _ (by decide +kernel)) ggL_law_X4_pin
set_option maxRecDepth 20000 in
theorem ggL_law_X5_pin : GoodIn wsL_law wsX5_pin := goodIn_r _ [344, 104, 103, 266, 267, 5, 268, 126, 127, 128, 269, 270, 271, 272, 273, 274, 275, 276, 114, 277, 278, 279, 280, 281, 282, 283, 284, 285, 286, 287, 288, 107, 115, 289, 290, 291, 292, 106, 293, 294, 295, 296, 119, 120, 297, 298, 299, 300, 118, 117, 301, 302, 303, 304, 105, 102, 101, 122, 109, 305, 306, 307, 308, 121, 125, 116, 124, 108, 309, 310, 311, 312, 313, 314, 315, 316, 123, 317, 318, 319, 320, 321, 322, 323, 324, 597, 598, 599, 600, 601, 602, 603, 604, 605, 606, 607, 608, 609, 610, 611, 612, 613, 614, 615, 616, 617] (by decide +kernel) (by decide +kernel)
set_option maxRecDepth 20000 in
theorem gL_law_X5_pin : GoodIn wsL_law (wsV RL 31 RX5 yX5_pin wsX5_pin) := goodIn_app (goodIn_of _ (by decide +kernel)) ggL_law_X5_pin
set_option maxRecDepth 20000 in
theorem ggL_law_X4_unpin : GoodIn wsL_law wsX4_unpin := goodIn_r _ [348, 19, 141, 142, 2, 143, 133, 134, 135, 148, 149, 150, 18, 151, 39, 160, 161, 162, 163, 42, 349, 350, 351, 352, 587, 588, 589, 590, 591, 592, 593, 594, 595, 596, 621, 622, 623, 624, 625, 626] (by decide +kernel) (by decide +kernel)
set_option maxRecDepth 20000 in
theorem gL_law_X4_unpin : GoodIn wsL_law (wsV RL 32 RX4 yX4_unpin wsX4_unpin) := goodIn_app (goodIn_of _ (by decide +kernel)) ggL_law_X4_unpin
set_option maxRecDepth 20000 in
theorem ggL_law_X5_unpin : GoodIn wsL_law wsX5_unpin := goodIn_r _ [356, 104, 103, 266, 267, 5, 268, 126, 127, 128, 597, 598, 599, 600, 601, 602, 603, 604, 605, 606, 607, 608, 609, 610, 611, 612, 613, 614, 615, 616, 617] (by decide +kernel) (by decide +kernel)
set_option maxRecDepth 20000 in
theorem gL_law_X5_unpin : GoodIn wsL_law (wsV RL 35 RX5 yX5_unpin wsX5_unpin) := goodIn_app (goodIn_of _ (by decide +kernel)) ggL_law_X5_unpin
set_option maxRecDepth 20000 in
theorem ggL_law_X4_flush : GoodIn wsL_law wsX4_flush := goodIn_r _ [360, 19, 23, 141, 142, 2, 143, 133, 134, 135, 180, 181, 182, 18, 183, 40, 361, 362, 363, 364, 15, 216, 217, 218, 219, 41, 208, 209, 210, 14, 211, 70, 33, 365, 366, 367, 368, 233, 234, 235, 22, 236, 89, 47, 192, 193, 194, 195, 196, 197, 198, 199, 200, 201, 202, 203, 204, 205, 206, 207, 48, 212, 213, 214, 215, 587, 588, 589, 590, 591, 592, 593, 594, 595, 596, 621, 622, 623, 624, 625, 626, 618, 619, 620, 627, 628, 629, 630] (by decide +kernel) (by decide +kernel)
set_option maxRecDepth 20000 in
theorem gL_law_X4_flush : GoodIn wsL_law (wsV RL 36 RX4 yX4_flush wsX4_flush) := goodIn_app (goodIn_of _ (by decide +kernel)) ggL_law_X4_flush
set_option maxRecDepth 20000 in
theorem ggL_law_X5_flush : GoodIn wsL_law wsX5_flush := goodIn_r _ [372, 109, 266, 267, 5, 268, 126, 127, 128, 373, 374, 375, 376, 104, 105, 102, 313, 314, 315, 316, 101, 123, 321, 322, 323, 324, 125, 108, 317, 318, 319, 320, 597, 598, 599, 600, 601, 602, 603, 604, 605, 606, 607, 608, 609, 610, 611, 612, 613, 614, 615, 616, 617] (by decide +kernel) (by decide +kernel)
set_option maxRecDepth 20000 in
theorem gL_law_X5_flush : GoodIn wsL_law (wsV RL 39 RX5 yX5_flush wsX5_flush) := goodIn_app (goodIn_of _ (by decide +kernel)) ggL_law_X5_flush
set_option maxRecDepth 20000 in
theorem ggL_law_X4_flushAll : GoodIn wsL_law wsX4_flushAll := goodIn_r _ [380, 23, 19, 381, 382, 383, 22, 384, 89, 385, 386, 387, 2, 388, 389, 390, 391, 392, 192, 193, 194, 195, 15, 196, 197, 198, 199, 47, 200, 201, 202, 203, 204, 205, 206, 207, 48, 208, 209, 210, 14, 211, 70, 33, 212, 213, 214, 215, 180, 181, 182, 18, 183, 40, 361, 362, 363, 364, 216, 217, 218, 219, 41, 365, 366, 367, 368, 587, 588, 589, 590, 591, 592, 593, 594, 595, 596, 627, 628, 629, 630, 618, 619, 620, 621, 622, 623, 624, 625, 626] (by decide +kernel) (by decide +kernel)
set_option maxRecDepth 20000 in
theorem gL_law_X4_flushAll : GoodIn wsL_law (wsV RL 40 RX4 yX4_flushAll wsX4_flushAll) := goodIn_app (goodIn_of _ (by decide +kernel)) ggL_law_X4_flushAll
set_option maxRecDepth 20000 in
theorem ggL_law_X5_flushAll : GoodIn wsL_law wsX5_flushAll := goodIn_r _ [396, 123, 125, 309, 310, 311, 5, 312, 108, 109, 313, 314, 315, 316, 101, 317, 318, 319, 320, 373, 374, 375, 376, 104, 105, 102, 597, 598, 599, 600, 601, 602, 603, 604, 605, 606, 607, 608, 609, 610, 611, 612, 613, 614, 615, 616, 617] (by decide +kernel) (by decide +kernel)
set_option maxRecDepth 20000 in
theorem gL_law_X5_flushAll : GoodIn wsL_law (wsV RL 44 RX5 yX5_flushAll wsX5_flushAll) := goodIn_app (goodIn_of _ (by decide +kernel)) ggL_law_X5_flushAll
set_option maxRecDepth 20000 in
theorem ggL_law_X4_drain : GoodIn wsL_law wsX4_drain := goodIn_r _ [400, 133, 134, 2, 135, 385, 386, 387, 388, 23, 389, 390, 391, 392, 381, 382, 383, 22, 384, 89, 192, 193, 194, 195, 15, 196, 197, 198, 199, 47, 200, 201, 202, 203, 204, 205, 206, 207, 48, 208, 209, 210, 14, 211, 70, 33, 212, 213, 214, 215, 587, 588, 589, 590, 591, 592, 593, 594, 595, 596, 627, 628, 629, 630, 618, 619, 620] (by decide +kernel) (by decide +kernel)
set_option maxRecDepth 20000 in
theorem gL_law_X4_drain : GoodIn wsL_law (wsV RL 45 RX4 yX4_drain wsX4_drain) := goodIn_app (goodIn_of _ (by decide +kernel)) ggL_law_X4_drain
set_option maxRecDepth 20000 in
theorem ggL_law_X5_drain : GoodIn wsL_law wsX5_drain := goodIn_r _ [404, 123, 125, 126, 127, 5, 128, 309, 310, 311, 312, 108, 109, 313, 314, 315, 316, 101, 317, 318, 319, 320, 597, 598, 599, 600, 601, 602, 603, 604, 605, 606, 607, 608, 609, 610, 611, 612, 613, 614, 615, 616, 617] (by decide +kernel) (by decide +kernel)
set_option maxRecDepth 20000 in
theorem gL_law_X5_drain : GoodIn wsL_law (wsV RL 48 RX5 yX5_drain wsX5_drain) := goodIn_app (goodIn_of _ (by decide +kernel)) ggL_law_X5_drain
set_option maxRecDepth 20000 in
theorem ggL_law_X4_discard : GoodIn wsL_law wsX4_discard := goodIn_r _ [408, 19, 27, 23, 141, 142, 2, 143, 133, 134, 135, 160, 161, 162, 18, 163, 42, 254, 255, 256, 26, 257, 54, 148, 149, 150, 151, 39, 225, 226, 227, 228, 79, 81, 82, 83, 84, 40, 233, 234, 235, 22, 236, 89, 47, 212, 213, 214, 215, 48, 200, 201, 202, 203, 587, 588, 589, 590, 591, 592, 593, 594, 595, 596, 621, 622, 623, 624, 625, 626, 631, 632, 633, 627, 628, 629, 630] (by decide +kernel) (by decide +kernel)
set_option maxRecDepth 20000 in
theorem gL_law_X4_discard : GoodIn wsL_law (wsV RL 49 RX4 yX4_discard wsX4_discard) := goodIn_app (goodIn_of _ (by decide +kernel)) ggL_law_X4_discard
set_option maxRecDepth 20000 in
theorem ggL_law_X5_discard : GoodIn wsL_law wsX5_discard := goodIn_r _ [412, 104, 103, 107, 266, 267, 5, 268, 126, 127, 128, 321, 322, 323, 324, 125, 108, 317, 318, 319, 320, 109, 597, 598, 599, 600, 601, 602, 603, 604, 605, 606, 607, 608, 609, 610, 611, 612, 613, 614, 615, 616, 617] (by decide +kernel) (by decide +kernel)
set_option maxRecDepth 20000 in
theorem gL_law_X5_discard : GoodIn wsL_law (wsV RL 52 RX5 yX5_discard wsX5_discard) := goodIn_app (goodIn_of _ (by decide +kernel)) ggL_law_X5_discard
set_option maxRecDepth 20000 in
theorem ggL_law_X4_isResident : GoodIn wsL_law wsX4_isResident := goodIn_r _ [416, 19, 141, 142, 2, 143, 133, 134, 135, 148, 149, 150, 18, 151, 39, 587, 588, 589, 590, 591, 592, 593, 594, 595, 596, 621, 622, 623, 624, 625, 626] (by decide +kernel) (by decide +kernel)
set_option maxRecDepth 20000 in
theorem gL_law_X4_isResident : GoodIn wsL_law (wsV RL 53 RX4 yX4_isResident wsX4_isResident) := goodIn_app (goodIn_of _ (by decide +kernel)) ggL_law_X4_isResident
set_option maxRecDepth 20000 in
theorem ggL_law_X5_isResident : GoodIn wsL_law wsX5_isResident := goodIn_r _ [420, 104, 266, 267, 5, 268, 126, 127, 128, 597, 598, 599, 600, 601, 602, 603, 604, 605, 606, 607, 608, 609, 610, 611, 612, 613, 614, 615, 616, 617] (by decide +kernel) (by decide +kernel)
set_option maxRecDepth 20000 in
theorem gL_law_X5_isResident : GoodIn wsL_law (wsV RL 56 RX5 yX5_isResident wsX5_isResident) := goodIn_app (goodIn_of _ (by decide +kernel)) ggL_law_X5_isResident
set_option maxRecDepth 20000 in
theorem ggL_law_X4_isDirty : GoodIn wsL_law wsX4_isDirty := goodIn_r _ [424, 19, 141, 142, 2, 143, 133, 134, 135, 148, 149, 150, 18, 151, 39, 180, 181, 182, 183, 40, 587, 588, 589, 590, 591, 592, 593, 594, 595, 596, 621, 622, 623, 624, 625, 626] (by decide +kernel) (by decide +kernel)
set_option maxRecDepth 20000 in
theorem gL_law_X4_isDirty : GoodIn wsL_law (wsV RL 57 RX4 yX4_isDirty wsX4_isDirty) := goodIn_app (goodIn_of _ (by decide +kernel)) ggL_law_X4_isDirty
set_option maxRecDepth 20000 in
theorem ggL_law_X5_isDirty : GoodIn wsL_law wsX5_isDirty := goodIn_r _ [428, 104, 105, 266, 267, 5, 268, 126, 127, 128, 597, 598, 599, 600, 601, 602, 603, 604, 605, 606, 607, 608, 609, 610, 611, 612, 613, 614, 615, 616, 617] (by decide +kernel) (by decide +kernel)
set_option maxRecDepth 20000 in
theorem gL_law_X5_isDirty : GoodIn wsL_law (wsV RL 60 RX5 yX5_isDirty wsX5_isDirty) := goodIn_app (goodIn_of _ (by decide +kernel)) ggL_law_X5_isDirty
set_option maxRecDepth 20000 in
theorem ggL_law_X4_pinCount : GoodIn wsL_law wsX4_pinCount := goodIn_r _ [432, 19, 141, 142, 2, 143, 133, 134, 135, 148, 149, 150, 18, 151, 39, 160, 161, 162, 163, 42, 587, 588, 589, 590, 591, 592, 593, 594, 595, 596, 621, 622, 623, 624, 625, 626] (by decide +kernel) (by decide +kernel)
set_option maxRecDepth 20000 in
theorem gL_law_X4_pinCount : GoodIn wsL_law (wsV RL 61 RX4 yX4_pinCount wsX4_pinCount) := goodIn_app (goodIn_of _ (by decide +kernel)) ggL_law_X4_pinCount
set_option maxRecDepth 20000 in
theorem ggL_law_X5_pinCount : GoodIn wsL_law wsX5_pinCount := goodIn_r _ [436, 104, 103, 266, 267, 5, 268, 126, 127, 128, 597, 598, 599, 600, 601, 602, 603, 604, 605, 606, 607, 608, 609, 610, 611, 612, 613, 614, 615, 616, 617] (by decide +kernel) (by decide +kernel)
set_option maxRecDepth 20000 in
theorem gL_law_X5_pinCount : GoodIn wsL_law (wsV RL 64 RX5 yX5_pinCount wsX5_pinCount) := goodIn_app (goodIn_of _ (by decide +kernel)) ggL_law_X5_pinCount
set_option maxRecDepth 20000 in
theorem ggL_law_X4_referenceTime : GoodIn wsL_law wsX4_referenceTime := goodIn_r _ [440, 27, 141, 142, 2, 143, 133, 134, 135, 441, 442, 443, 26, 444, 95, 253, 169, 170, 171, 54, 53, 587, 588, 589, 590, 591, 592, 593, 594, 595, 596, 631, 632, 633] (by decide +kernel) (by decide +kernel)
set_option maxRecDepth 20000 in
theorem gL_law_X4_referenceTime : GoodIn wsL_law (wsV RL 65 RX4 yX4_referenceTime wsX4_referenceTime) := goodIn_app (goodIn_of _ (by decide +kernel)) ggL_law_X4_referenceTime
set_option maxRecDepth 20000 in
theorem ggL_law_X5_referenceTime : GoodIn wsL_law wsX5_referenceTime := goodIn_r _ [448, 115, 107, 266, 267, 5, 268, 126, 127, 128, 289, 290, 291, 292, 106, 597, 598, 599, 600, 601, 602, 603, 604, 605, 606, 607, 608, 609, 610, 611, 612, 613, 614, 615, 616, 617] (by decide +kernel) (by decide +kernel)
set_option maxRecDepth 20000 in
theorem gL_law_X5_referenceTime : GoodIn wsL_law (wsV RL 68 RX5 yX5_referenceTime wsX5_referenceTime) := goodIn_app (goodIn_of _ (by decide +kernel)) ggL_law_X5_referenceTime
set_option maxRecDepth 20000 in
theorem ggL_law_X4_backwardKDistance : GoodIn wsL_law wsX4_backwardKDistance := goodIn_r _ [452, 27, 60, 141, 142, 2, 143, 133, 134, 135, 441, 442, 443, 26, 444, 95, 253, 169, 170, 171, 54, 53, 587, 588, 589, 590, 591, 592, 593, 594, 595, 596, 631, 632, 633] (by decide +kernel) (by decide +kernel)
set_option maxRecDepth 20000 in
theorem gL_law_X4_backwardKDistance : GoodIn wsL_law (wsV RL 69 RX4 yX4_backwardKDistance wsX4_backwardKDistance) := goodIn_app (goodIn_of _ (by decide +kernel)) ggL_law_X4_backwardKDistance
set_option maxRecDepth 20000 in
theorem ggL_law_X5_backwardKDistance : GoodIn wsL_law wsX5_backwardKDistance := goodIn_r _ [456, 107, 115, 118, 266, 267, 5, 268, 126, 127, 128, 289, 290, 291, 292, 106, 597, 598, 599, 600, 601, 602, 603, 604, 605, 606, 607, 608, 609, 610, 611, 612, 613, 614, 615, 616, 617] (by decide +kernel) (by decide +kernel)
set_option maxRecDepth 20000 in
theorem gL_law_X5_backwardKDistance : GoodIn wsL_law (wsV RL 72 RX5 yX5_backwardKDistance wsX5_backwardKDistance) := goodIn_app (goodIn_of _ (by decide +kernel)) ggL_law_X5_backwardKDistance
set_option maxRecDepth 20000 in
theorem ggL_law_X4_victim : GoodIn wsL_law wsX4_victim := goodIn_r _ [460, 156, 157, 158, 2, 159, 19, 27, 148, 149, 150, 18, 151, 39, 160, 161, 162, 163, 42, 164, 165, 166, 26, 167, 54, 95, 168, 169, 170, 171, 53, 587, 588, 589, 590, 591, 592, 593, 594, 595, 596, 621, 622, 623, 624, 625, 626, 631, 632, 633] (by decide +kernel) (by decide +kernel)
set_option maxRecDepth 20000 in
theorem gL_law_X4_victim : GoodIn wsL_law (wsV RL 73 RX4 yX4_victim wsX4_victim) := goodIn_app (goodIn_of _ (by decide +kernel)) ggL_law_X4_victim
set_option maxRecDepth 20000 in
theorem ggL_law_X5_victim : GoodIn wsL_law wsX5_victim := goodIn_r _ [284, 104, 103, 285, 286, 287, 5, 288, 107, 115, 289, 290, 291, 292, 106, 597, 598, 599, 600, 601, 602, 603, 604, 605, 606, 607, 608, 609, 610, 611, 612, 613, 614, 615, 616, 617] (by decide +kernel) (by decide +kernel)
set_option maxRecDepth 20000 in
theorem gL_law_X5_victim : GoodIn wsL_law (wsV RL 76 RX5 yX5_victim wsX5_victim) := goodIn_app (goodIn_of _ (by decide +kernel)) ggL_law_X5_victim
set_option maxRecDepth 20000 in
theorem ggL_law_X4_diskValue : GoodIn wsL_law wsX4_diskValue := goodIn_r _ [465, 15, 141, 142, 2, 143, 133, 134, 135, 466, 467, 468, 14, 469, 33, 587, 588, 589, 590, 591, 592, 593, 594, 595, 596, 618, 619, 620] (by decide +kernel) (by decide +kernel)
set_option maxRecDepth 20000 in
theorem gL_law_X4_diskValue : GoodIn wsL_law (wsV RL 77 RX4 yX4_diskValue wsX4_diskValue) := goodIn_app (goodIn_of _ (by decide +kernel)) ggL_law_X4_diskValue
set_option maxRecDepth 20000 in
theorem ggL_law_X5_diskValue : GoodIn wsL_law wsX5_diskValue := goodIn_r _ [473, 101, 266, 267, 5, 268, 126, 127, 128, 597, 598, 599, 600, 601, 602, 603, 604, 605, 606, 607, 608, 609, 610, 611, 612, 613, 614, 615, 616, 617] (by decide +kernel) (by decide +kernel)
set_option maxRecDepth 20000 in
theorem gL_law_X5_diskValue : GoodIn wsL_law (wsV RL 80 RX5 yX5_diskValue wsX5_diskValue) := goodIn_app (goodIn_of _ (by decide +kernel)) ggL_law_X5_diskValue
set_option maxRecDepth 20000 in
theorem ggL_law_X4_residentCount : GoodIn wsL_law wsX4_residentCount := goodIn_r _ [477, 19, 478, 479, 480, 18, 481, 79, 587, 588, 589, 590, 591, 592, 593, 594, 595, 596, 621, 622, 623, 624, 625, 626] (by decide +kernel) (by decide +kernel)
set_option maxRecDepth 20000 in
theorem gL_law_X4_residentCount : GoodIn wsL_law (wsV RL 81 RX4 yX4_residentCount wsX4_residentCount) := goodIn_app (goodIn_of _ (by decide +kernel)) ggL_law_X4_residentCount
set_option maxRecDepth 20000 in
theorem ggL_law_X5_residentCount : GoodIn wsL_law wsX5_residentCount := goodIn_r _ [280, 104, 597, 598, 599, 600, 601, 602, 603, 604, 605, 606, 607, 608, 609, 610, 611, 612, 613, 614, 615, 616, 617] (by decide +kernel) (by decide +kernel)
set_option maxRecDepth 20000 in
theorem gL_law_X5_residentCount : GoodIn wsL_law (wsV RL 84 RX5 yX5_residentCount wsX5_residentCount) := goodIn_app (goodIn_of _ (by decide +kernel)) ggL_law_X5_residentCount
set_option maxRecDepth 20000 in
theorem ggL_law_X4_residentPage : GoodIn wsL_law wsX4_residentPage := goodIn_r _ [486, 19, 487, 488, 489, 18, 490, 39, 587, 588, 589, 590, 591, 592, 593, 594, 595, 596, 621, 622, 623, 624, 625, 626] (by decide +kernel) (by decide +kernel)
set_option maxRecDepth 20000 in
theorem gL_law_X4_residentPage : GoodIn wsL_law (wsV RL 85 RX4 yX4_residentPage wsX4_residentPage) := goodIn_app (goodIn_of _ (by decide +kernel)) ggL_law_X4_residentPage
set_option maxRecDepth 20000 in
theorem ggL_law_X5_residentPage : GoodIn wsL_law wsX5_residentPage := goodIn_r _ [494, 104, 597, 598, 599, 600, 601, 602, 603, 604, 605, 606, 607, 608, 609, 610, 611, 612, 613, 614, 615, 616, 617] (by decide +kernel) (by decide +kernel)
set_option maxRecDepth 20000 in
theorem gL_law_X5_residentPage : GoodIn wsL_law (wsV RL 88 RX5 yX5_residentPage wsX5_residentPage) := goodIn_app (goodIn_of _ (by decide +kernel)) ggL_law_X5_residentPage
set_option maxRecDepth 20000 in
theorem ggL_law_X4_queueSize : GoodIn wsL_law wsX4_queueSize := goodIn_r _ [498, 23, 381, 382, 383, 22, 384, 89, 587, 588, 589, 590, 591, 592, 593, 594, 595, 596, 627, 628, 629, 630] (by decide +kernel) (by decide +kernel)
set_option maxRecDepth 20000 in
theorem gL_law_X4_queueSize : GoodIn wsL_law (wsV RL 89 RX4 yX4_queueSize wsX4_queueSize) := goodIn_app (goodIn_of _ (by decide +kernel)) ggL_law_X4_queueSize
set_option maxRecDepth 20000 in
theorem ggL_law_X5_queueSize : GoodIn wsL_law wsX5_queueSize := goodIn_r _ [502, 125, 597, 598, 599, 600, 601, 602, 603, 604, 605, 606, 607, 608, 609, 610, 611, 612, 613, 614, 615, 616, 617] (by decide +kernel) (by decide +kernel)
set_option maxRecDepth 20000 in
theorem gL_law_X5_queueSize : GoodIn wsL_law (wsV RL 92 RX5 yX5_queueSize wsX5_queueSize) := goodIn_app (goodIn_of _ (by decide +kernel)) ggL_law_X5_queueSize
set_option maxRecDepth 20000 in
theorem ggL_law_X4_queuedPage : GoodIn wsL_law wsX4_queuedPage := goodIn_r _ [506, 23, 196, 197, 198, 22, 199, 47, 200, 201, 202, 203, 89, 587, 588, 589, 590, 591, 592, 593, 594, 595, 596, 627, 628, 629, 630] (by decide +kernel) (by decide +kernel)
set_option maxRecDepth 20000 in
theorem gL_law_X4_queuedPage : GoodIn wsL_law (wsV RL 93 RX4 yX4_queuedPage wsX4_queuedPage) := goodIn_app (goodIn_of _ (by decide +kernel)) ggL_law_X4_queuedPage
set_option maxRecDepth 20000 in
theorem ggL_law_X5_queuedPage : GoodIn wsL_law wsX5_queuedPage := goodIn_r _ [510, 108, 511, 512, 513, 5, 514, 125, 126, 127, 128, 597, 598, 599, 600, 601, 602, 603, 604, 605, 606, 607, 608, 609, 610, 611, 612, 613, 614, 615, 616, 617] (by decide +kernel) (by decide +kernel)
set_option maxRecDepth 20000 in
theorem gL_law_X5_queuedPage : GoodIn wsL_law (wsV RL 96 RX5 yX5_queuedPage wsX5_queuedPage) := goodIn_app (goodIn_of _ (by decide +kernel)) ggL_law_X5_queuedPage
set_option maxRecDepth 20000 in
theorem ggL_law_X4_queuedValue : GoodIn wsL_law wsX4_queuedValue := goodIn_r _ [518, 23, 204, 205, 206, 22, 207, 48, 200, 201, 202, 203, 89, 587, 588, 589, 590, 591, 592, 593, 594, 595, 596, 627, 628, 629, 630] (by decide +kernel) (by decide +kernel)
set_option maxRecDepth 20000 in
theorem gL_law_X4_queuedValue : GoodIn wsL_law (wsV RL 97 RX4 yX4_queuedValue wsX4_queuedValue) := goodIn_app (goodIn_of _ (by decide +kernel)) ggL_law_X4_queuedValue
set_option maxRecDepth 20000 in
theorem ggL_law_X5_queuedValue : GoodIn wsL_law wsX5_queuedValue := goodIn_r _ [522, 109, 511, 512, 513, 5, 514, 125, 126, 127, 128, 597, 598, 599, 600, 601, 602, 603, 604, 605, 606, 607, 608, 609, 610, 611, 612, 613, 614, 615, 616, 617] (by decide +kernel) (by decide +kernel)
set_option maxRecDepth 20000 in
theorem gL_law_X5_queuedValue : GoodIn wsL_law (wsV RL 100 RX5 yX5_queuedValue wsX5_queuedValue) := goodIn_app (goodIn_of _ (by decide +kernel)) ggL_law_X5_queuedValue
set_option maxRecDepth 20000 in
theorem ggL_law_X4_clock : GoodIn wsL_law wsX4_clock := goodIn_r _ [526, 60, 587, 588, 589, 590, 591, 592, 593, 594, 595, 596] (by decide +kernel) (by decide +kernel)
set_option maxRecDepth 20000 in
theorem gL_law_X4_clock : GoodIn wsL_law (wsV RL 101 RX4 yX4_clock wsX4_clock) := goodIn_app (goodIn_of _ (by decide +kernel)) ggL_law_X4_clock
set_option maxRecDepth 20000 in
theorem ggL_law_X5_clock : GoodIn wsL_law wsX5_clock := goodIn_r _ [530, 118, 597, 598, 599, 600, 601, 602, 603, 604, 605, 606, 607, 608, 609, 610, 611, 612, 613, 614, 615, 616, 617] (by decide +kernel) (by decide +kernel)
set_option maxRecDepth 20000 in
theorem gL_law_X5_clock : GoodIn wsL_law (wsV RL 104 RX5 yX5_clock wsX5_clock) := goodIn_app (goodIn_of _ (by decide +kernel)) ggL_law_X5_clock
set_option maxRecDepth 20000 in
theorem ggL_law_X4_hits : GoodIn wsL_law wsX4_hits := goodIn_r _ [534, 61, 587, 588, 589, 590, 591, 592, 593, 594, 595, 596] (by decide +kernel) (by decide +kernel)
set_option maxRecDepth 20000 in
theorem gL_law_X4_hits : GoodIn wsL_law (wsV RL 105 RX4 yX4_hits wsX4_hits) := goodIn_app (goodIn_of _ (by decide +kernel)) ggL_law_X4_hits
set_option maxRecDepth 20000 in
theorem ggL_law_X5_hits : GoodIn wsL_law wsX5_hits := goodIn_r _ [538, 119, 597, 598, 599, 600, 601, 602, 603, 604, 605, 606, 607, 608, 609, 610, 611, 612, 613, 614, 615, 616, 617] (by decide +kernel) (by decide +kernel)
set_option maxRecDepth 20000 in
theorem gL_law_X5_hits : GoodIn wsL_law (wsV RL 108 RX5 yX5_hits wsX5_hits) := goodIn_app (goodIn_of _ (by decide +kernel)) ggL_law_X5_hits
set_option maxRecDepth 20000 in
theorem ggL_law_X4_misses : GoodIn wsL_law wsX4_misses := goodIn_r _ [542, 62, 587, 588, 589, 590, 591, 592, 593, 594, 595, 596] (by decide +kernel) (by decide +kernel)
set_option maxRecDepth 20000 in
theorem gL_law_X4_misses : GoodIn wsL_law (wsV RL 109 RX4 yX4_misses wsX4_misses) := goodIn_app (goodIn_of _ (by decide +kernel)) ggL_law_X4_misses
set_option maxRecDepth 20000 in
theorem ggL_law_X5_misses : GoodIn wsL_law wsX5_misses := goodIn_r _ [546, 120, 597, 598, 599, 600, 601, 602, 603, 604, 605, 606, 607, 608, 609, 610, 611, 612, 613, 614, 615, 616, 617] (by decide +kernel) (by decide +kernel)
set_option maxRecDepth 20000 in
theorem gL_law_X5_misses : GoodIn wsL_law (wsV RL 112 RX5 yX5_misses wsX5_misses) := goodIn_app (goodIn_of _ (by decide +kernel)) ggL_law_X5_misses
set_option maxRecDepth 20000 in
theorem ggL_law_X4_evictions : GoodIn wsL_law wsX4_evictions := goodIn_r _ [550, 63, 587, 588, 589, 590, 591, 592, 593, 594, 595, 596] (by decide +kernel) (by decide +kernel)
set_option maxRecDepth 20000 in
theorem gL_law_X4_evictions : GoodIn wsL_law (wsV RL 113 RX4 yX4_evictions wsX4_evictions) := goodIn_app (goodIn_of _ (by decide +kernel)) ggL_law_X4_evictions
set_option maxRecDepth 20000 in
theorem ggL_law_X5_evictions : GoodIn wsL_law wsX5_evictions := goodIn_r _ [554, 121, 597, 598, 599, 600, 601, 602, 603, 604, 605, 606, 607, 608, 609, 610, 611, 612, 613, 614, 615, 616, 617] (by decide +kernel) (by decide +kernel)
set_option maxRecDepth 20000 in
theorem gL_law_X5_evictions : GoodIn wsL_law (wsV RL 116 RX5 yX5_evictions wsX5_evictions) := goodIn_app (goodIn_of _ (by decide +kernel)) ggL_law_X5_evictions
set_option maxRecDepth 20000 in
theorem ggL_law_X4_diskReads : GoodIn wsL_law wsX4_diskReads := goodIn_r _ [558, 15, 559, 560, 561, 14, 562, 69, 587, 588, 589, 590, 591, 592, 593, 594, 595, 596, 618, 619, 620] (by decide +kernel) (by decide +kernel)
set_option maxRecDepth 20000 in
theorem gL_law_X4_diskReads : GoodIn wsL_law (wsV RL 117 RX4 yX4_diskReads wsX4_diskReads) := goodIn_app (goodIn_of _ (by decide +kernel)) ggL_law_X4_diskReads
set_option maxRecDepth 20000 in
theorem ggL_law_X5_diskReads : GoodIn wsL_law wsX5_diskReads := goodIn_r _ [566, 122, 597, 598, 599, 600, 601, 602, 603, 604, 605, 606, 607, 608, 609, 610, 611, 612, 613, 614, 615, 616, 617] (by decide +kernel) (by decide +kernel)
set_option maxRecDepth 20000 in
theorem gL_law_X5_diskReads : GoodIn wsL_law (wsV RL 120 RX5 yX5_diskReads wsX5_diskReads) := goodIn_app (goodIn_of _ (by decide +kernel)) ggL_law_X5_diskReads
set_option maxRecDepth 20000 in
theorem ggL_law_X4_diskWrites : GoodIn wsL_law wsX4_diskWrites := goodIn_r _ [570, 15, 571, 572, 573, 14, 574, 70, 587, 588, 589, 590, 591, 592, 593, 594, 595, 596, 618, 619, 620] (by decide +kernel) (by decide +kernel)
set_option maxRecDepth 20000 in
theorem gL_law_X4_diskWrites : GoodIn wsL_law (wsV RL 121 RX4 yX4_diskWrites wsX4_diskWrites) := goodIn_app (goodIn_of _ (by decide +kernel)) ggL_law_X4_diskWrites
set_option maxRecDepth 20000 in
theorem ggL_law_X5_diskWrites : GoodIn wsL_law wsX5_diskWrites := goodIn_r _ [578, 123, 597, 598, 599, 600, 601, 602, 603, 604, 605, 606, 607, 608, 609, 610, 611, 612, 613, 614, 615, 616, 617] (by decide +kernel) (by decide +kernel)
set_option maxRecDepth 20000 in
theorem gL_law_X5_diskWrites : GoodIn wsL_law (wsV RL 124 RX5 yX5_diskWrites wsX5_diskWrites) := goodIn_app (goodIn_of _ (by decide +kernel)) ggL_law_X5_diskWrites
set_option maxRecDepth 20000 in
theorem ggL_law_X4_stalls : GoodIn wsL_law wsX4_stalls := goodIn_r _ [582, 64, 587, 588, 589, 590, 591, 592, 593, 594, 595, 596] (by decide +kernel) (by decide +kernel)
set_option maxRecDepth 20000 in
theorem gL_law_X4_stalls : GoodIn wsL_law (wsV RL 125 RX4 yX4_stalls wsX4_stalls) := goodIn_app (goodIn_of _ (by decide +kernel)) ggL_law_X4_stalls
set_option maxRecDepth 20000 in
theorem ggL_law_X5_stalls : GoodIn wsL_law wsX5_stalls := goodIn_r _ [586, 124, 597, 598, 599, 600, 601, 602, 603, 604, 605, 606, 607, 608, 609, 610, 611, 612, 613, 614, 615, 616, 617] (by decide +kernel) (by decide +kernel)
set_option maxRecDepth 20000 in
theorem gL_law_X5_stalls : GoodIn wsL_law (wsV RL 128 RX5 yX5_stalls wsX5_stalls) := goodIn_app (goodIn_of _ (by decide +kernel)) ggL_law_X5_stalls
theorem dL_law_0 : decode cL_law 0 = .ok (.new 7, 3) := by decide +kernel
theorem dL_law_3 : decode cL_law 3 = .ok (.dup, 1) := by decide +kernel
theorem dL_law_4 : decode cL_law 4 = .ok (.invokespecial 9, 3) := by decide +kernel
theorem dL_law_7 : decode cL_law 7 = .ok (.astore_n 1, 1) := by decide +kernel
theorem dL_law_8 : decode cL_law 8 = .ok (.new 10, 3) := by decide +kernel
theorem dL_law_11 : decode cL_law 11 = .ok (.dup, 1) := by decide +kernel
theorem dL_law_12 : decode cL_law 12 = .ok (.invokespecial 12, 3) := by decide +kernel
theorem dL_law_15 : decode cL_law 15 = .ok (.astore_n 2, 1) := by decide +kernel
theorem dL_law_16 : decode cL_law 16 = .ok (.iconst 0, 1) := by decide +kernel
theorem dL_law_17 : decode cL_law 17 = .ok (.istore_n 3, 1) := by decide +kernel
theorem dL_law_18 : decode cL_law 18 = .ok (.iload_n 3, 1) := by decide +kernel
theorem dL_law_19 : decode cL_law 19 = .ok (.aload_n 0, 1) := by decide +kernel
theorem dL_law_20 : decode cL_law 20 = .ok (.arraylength, 1) := by decide +kernel
theorem dL_law_21 : decode cL_law 21 = .ok (.iconst 5, 1) := by decide +kernel
theorem dL_law_22 : decode cL_law 22 = .ok (.isub, 1) := by decide +kernel
theorem dL_law_23 : decode cL_law 23 = .ok (.if_icmp .gt 727, 3) := by decide +kernel
theorem dL_law_26 : decode cL_law 26 = .ok (.aload_n 0, 1) := by decide +kernel
theorem dL_law_27 : decode cL_law 27 = .ok (.iload_n 3, 1) := by decide +kernel
theorem dL_law_28 : decode cL_law 28 = .ok (.iaload, 1) := by decide +kernel
theorem dL_law_29 : decode cL_law 29 = .ok (.bipush 31, 2) := by decide +kernel
theorem dL_law_31 : decode cL_law 31 = .ok (.iand, 1) := by decide +kernel
theorem dL_law_32 : decode cL_law 32 = .ok (.tableswitch 712 0 27 #[128, 181, 204, 237, 260, 283, 306, 319, 342, 365, 388, 411, 434, 467, 490, 503, 526, 539, 562, 575, 598, 621, 634, 647, 660, 673, 686, 699], 128) := by decide +kernel
theorem dL_law_160 : decode cL_law 160 = .ok (.aload_n 1, 1) := by decide +kernel
theorem dL_law_161 : decode cL_law 161 = .ok (.aload_n 0, 1) := by decide +kernel
theorem dL_law_162 : decode cL_law 162 = .ok (.iload_n 3, 1) := by decide +kernel
theorem dL_law_163 : decode cL_law 163 = .ok (.iconst 1, 1) := by decide +kernel
theorem dL_law_164 : decode cL_law 164 = .ok (.iadd, 1) := by decide +kernel
theorem dL_law_165 : decode cL_law 165 = .ok (.iaload, 1) := by decide +kernel
theorem dL_law_166 : decode cL_law 166 = .ok (.aload_n 0, 1) := by decide +kernel
theorem dL_law_167 : decode cL_law 167 = .ok (.iload_n 3, 1) := by decide +kernel
theorem dL_law_168 : decode cL_law 168 = .ok (.iconst 2, 1) := by decide +kernel
theorem dL_law_169 : decode cL_law 169 = .ok (.iadd, 1) := by decide +kernel
theorem dL_law_170 : decode cL_law 170 = .ok (.iaload, 1) := by decide +kernel
theorem dL_law_171 : decode cL_law 171 = .ok (.aload_n 0, 1) := by decide +kernel
theorem dL_law_172 : decode cL_law 172 = .ok (.iload_n 3, 1) := by decide +kernel
theorem dL_law_173 : decode cL_law 173 = .ok (.iconst 3, 1) := by decide +kernel
theorem dL_law_174 : decode cL_law 174 = .ok (.iadd, 1) := by decide +kernel
theorem dL_law_175 : decode cL_law 175 = .ok (.iaload, 1) := by decide +kernel
theorem dL_law_176 : decode cL_law 176 = .ok (.aload_n 0, 1) := by decide +kernel
theorem dL_law_177 : decode cL_law 177 = .ok (.iload_n 3, 1) := by decide +kernel
theorem dL_law_178 : decode cL_law 178 = .ok (.iconst 4, 1) := by decide +kernel
theorem dL_law_179 : decode cL_law 179 = .ok (.iadd, 1) := by decide +kernel
theorem dL_law_180 : decode cL_law 180 = .ok (.iaload, 1) := by decide +kernel
theorem dL_law_181 : decode cL_law 181 = .ok (.invokevirtual 13, 3) := by decide +kernel
theorem dL_law_184 : decode cL_law 184 = .ok (.aload_n 2, 1) := by decide +kernel
theorem dL_law_185 : decode cL_law 185 = .ok (.aload_n 0, 1) := by decide +kernel
theorem dL_law_186 : decode cL_law 186 = .ok (.iload_n 3, 1) := by decide +kernel
theorem dL_law_187 : decode cL_law 187 = .ok (.iconst 1, 1) := by decide +kernel
theorem dL_law_188 : decode cL_law 188 = .ok (.iadd, 1) := by decide +kernel
theorem dL_law_189 : decode cL_law 189 = .ok (.iaload, 1) := by decide +kernel
theorem dL_law_190 : decode cL_law 190 = .ok (.aload_n 0, 1) := by decide +kernel
theorem dL_law_191 : decode cL_law 191 = .ok (.iload_n 3, 1) := by decide +kernel
theorem dL_law_192 : decode cL_law 192 = .ok (.iconst 2, 1) := by decide +kernel
theorem dL_law_193 : decode cL_law 193 = .ok (.iadd, 1) := by decide +kernel
theorem dL_law_194 : decode cL_law 194 = .ok (.iaload, 1) := by decide +kernel
theorem dL_law_195 : decode cL_law 195 = .ok (.aload_n 0, 1) := by decide +kernel
theorem dL_law_196 : decode cL_law 196 = .ok (.iload_n 3, 1) := by decide +kernel
theorem dL_law_197 : decode cL_law 197 = .ok (.iconst 3, 1) := by decide +kernel
theorem dL_law_198 : decode cL_law 198 = .ok (.iadd, 1) := by decide +kernel
theorem dL_law_199 : decode cL_law 199 = .ok (.iaload, 1) := by decide +kernel
theorem dL_law_200 : decode cL_law 200 = .ok (.aload_n 0, 1) := by decide +kernel
theorem dL_law_201 : decode cL_law 201 = .ok (.iload_n 3, 1) := by decide +kernel
theorem dL_law_202 : decode cL_law 202 = .ok (.iconst 4, 1) := by decide +kernel
theorem dL_law_203 : decode cL_law 203 = .ok (.iadd, 1) := by decide +kernel
theorem dL_law_204 : decode cL_law 204 = .ok (.iaload, 1) := by decide +kernel
theorem dL_law_205 : decode cL_law 205 = .ok (.invokevirtual 17, 3) := by decide +kernel
theorem dL_law_208 : decode cL_law 208 = .ok (.if_icmp .eq 536, 3) := by decide +kernel
theorem dL_law_211 : decode cL_law 211 = .ok (.iconst 0, 1) := by decide +kernel
theorem dL_law_212 : decode cL_law 212 = .ok (.ireturn, 1) := by decide +kernel
theorem dL_law_213 : decode cL_law 213 = .ok (.aload_n 1, 1) := by decide +kernel
theorem dL_law_214 : decode cL_law 214 = .ok (.aload_n 0, 1) := by decide +kernel
theorem dL_law_215 : decode cL_law 215 = .ok (.iload_n 3, 1) := by decide +kernel
theorem dL_law_216 : decode cL_law 216 = .ok (.iconst 1, 1) := by decide +kernel
theorem dL_law_217 : decode cL_law 217 = .ok (.iadd, 1) := by decide +kernel
theorem dL_law_218 : decode cL_law 218 = .ok (.iaload, 1) := by decide +kernel
theorem dL_law_219 : decode cL_law 219 = .ok (.invokevirtual 18, 3) := by decide +kernel
theorem dL_law_222 : decode cL_law 222 = .ok (.aload_n 2, 1) := by decide +kernel
theorem dL_law_223 : decode cL_law 223 = .ok (.aload_n 0, 1) := by decide +kernel
theorem dL_law_224 : decode cL_law 224 = .ok (.iload_n 3, 1) := by decide +kernel
theorem dL_law_225 : decode cL_law 225 = .ok (.iconst 1, 1) := by decide +kernel
theorem dL_law_226 : decode cL_law 226 = .ok (.iadd, 1) := by decide +kernel
theorem dL_law_227 : decode cL_law 227 = .ok (.iaload, 1) := by decide +kernel
theorem dL_law_228 : decode cL_law 228 = .ok (.invokevirtual 22, 3) := by decide +kernel
theorem dL_law_231 : decode cL_law 231 = .ok (.if_icmp .eq 513, 3) := by decide +kernel
theorem dL_law_234 : decode cL_law 234 = .ok (.iconst 0, 1) := by decide +kernel
theorem dL_law_235 : decode cL_law 235 = .ok (.ireturn, 1) := by decide +kernel
theorem dL_law_236 : decode cL_law 236 = .ok (.aload_n 1, 1) := by decide +kernel
theorem dL_law_237 : decode cL_law 237 = .ok (.aload_n 0, 1) := by decide +kernel
theorem dL_law_238 : decode cL_law 238 = .ok (.iload_n 3, 1) := by decide +kernel
theorem dL_law_239 : decode cL_law 239 = .ok (.iconst 1, 1) := by decide +kernel
theorem dL_law_240 : decode cL_law 240 = .ok (.iadd, 1) := by decide +kernel
theorem dL_law_241 : decode cL_law 241 = .ok (.iaload, 1) := by decide +kernel
theorem dL_law_242 : decode cL_law 242 = .ok (.aload_n 0, 1) := by decide +kernel
theorem dL_law_243 : decode cL_law 243 = .ok (.iload_n 3, 1) := by decide +kernel
theorem dL_law_244 : decode cL_law 244 = .ok (.iconst 2, 1) := by decide +kernel
theorem dL_law_245 : decode cL_law 245 = .ok (.iadd, 1) := by decide +kernel
theorem dL_law_246 : decode cL_law 246 = .ok (.iaload, 1) := by decide +kernel
theorem dL_law_247 : decode cL_law 247 = .ok (.invokevirtual 23, 3) := by decide +kernel
theorem dL_law_250 : decode cL_law 250 = .ok (.aload_n 2, 1) := by decide +kernel
theorem dL_law_251 : decode cL_law 251 = .ok (.aload_n 0, 1) := by decide +kernel
theorem dL_law_252 : decode cL_law 252 = .ok (.iload_n 3, 1) := by decide +kernel
theorem dL_law_253 : decode cL_law 253 = .ok (.iconst 1, 1) := by decide +kernel
theorem dL_law_254 : decode cL_law 254 = .ok (.iadd, 1) := by decide +kernel
theorem dL_law_255 : decode cL_law 255 = .ok (.iaload, 1) := by decide +kernel
theorem dL_law_256 : decode cL_law 256 = .ok (.aload_n 0, 1) := by decide +kernel
theorem dL_law_257 : decode cL_law 257 = .ok (.iload_n 3, 1) := by decide +kernel
theorem dL_law_258 : decode cL_law 258 = .ok (.iconst 2, 1) := by decide +kernel
theorem dL_law_259 : decode cL_law 259 = .ok (.iadd, 1) := by decide +kernel
theorem dL_law_260 : decode cL_law 260 = .ok (.iaload, 1) := by decide +kernel
theorem dL_law_261 : decode cL_law 261 = .ok (.invokevirtual 27, 3) := by decide +kernel
theorem dL_law_264 : decode cL_law 264 = .ok (.if_icmp .eq 480, 3) := by decide +kernel
theorem dL_law_267 : decode cL_law 267 = .ok (.iconst 0, 1) := by decide +kernel
theorem dL_law_268 : decode cL_law 268 = .ok (.ireturn, 1) := by decide +kernel
theorem dL_law_269 : decode cL_law 269 = .ok (.aload_n 1, 1) := by decide +kernel
theorem dL_law_270 : decode cL_law 270 = .ok (.aload_n 0, 1) := by decide +kernel
theorem dL_law_271 : decode cL_law 271 = .ok (.iload_n 3, 1) := by decide +kernel
theorem dL_law_272 : decode cL_law 272 = .ok (.iconst 1, 1) := by decide +kernel
theorem dL_law_273 : decode cL_law 273 = .ok (.iadd, 1) := by decide +kernel
theorem dL_law_274 : decode cL_law 274 = .ok (.iaload, 1) := by decide +kernel
theorem dL_law_275 : decode cL_law 275 = .ok (.invokevirtual 28, 3) := by decide +kernel
theorem dL_law_278 : decode cL_law 278 = .ok (.aload_n 2, 1) := by decide +kernel
theorem dL_law_279 : decode cL_law 279 = .ok (.aload_n 0, 1) := by decide +kernel
theorem dL_law_280 : decode cL_law 280 = .ok (.iload_n 3, 1) := by decide +kernel
theorem dL_law_281 : decode cL_law 281 = .ok (.iconst 1, 1) := by decide +kernel
theorem dL_law_282 : decode cL_law 282 = .ok (.iadd, 1) := by decide +kernel
theorem dL_law_283 : decode cL_law 283 = .ok (.iaload, 1) := by decide +kernel
theorem dL_law_284 : decode cL_law 284 = .ok (.invokevirtual 31, 3) := by decide +kernel
theorem dL_law_287 : decode cL_law 287 = .ok (.if_icmp .eq 457, 3) := by decide +kernel
theorem dL_law_290 : decode cL_law 290 = .ok (.iconst 0, 1) := by decide +kernel
theorem dL_law_291 : decode cL_law 291 = .ok (.ireturn, 1) := by decide +kernel
theorem dL_law_292 : decode cL_law 292 = .ok (.aload_n 1, 1) := by decide +kernel
theorem dL_law_293 : decode cL_law 293 = .ok (.aload_n 0, 1) := by decide +kernel
theorem dL_law_294 : decode cL_law 294 = .ok (.iload_n 3, 1) := by decide +kernel
theorem dL_law_295 : decode cL_law 295 = .ok (.iconst 1, 1) := by decide +kernel
theorem dL_law_296 : decode cL_law 296 = .ok (.iadd, 1) := by decide +kernel
theorem dL_law_297 : decode cL_law 297 = .ok (.iaload, 1) := by decide +kernel
theorem dL_law_298 : decode cL_law 298 = .ok (.invokevirtual 32, 3) := by decide +kernel
theorem dL_law_301 : decode cL_law 301 = .ok (.aload_n 2, 1) := by decide +kernel
theorem dL_law_302 : decode cL_law 302 = .ok (.aload_n 0, 1) := by decide +kernel
theorem dL_law_303 : decode cL_law 303 = .ok (.iload_n 3, 1) := by decide +kernel
theorem dL_law_304 : decode cL_law 304 = .ok (.iconst 1, 1) := by decide +kernel
theorem dL_law_305 : decode cL_law 305 = .ok (.iadd, 1) := by decide +kernel
theorem dL_law_306 : decode cL_law 306 = .ok (.iaload, 1) := by decide +kernel
theorem dL_law_307 : decode cL_law 307 = .ok (.invokevirtual 35, 3) := by decide +kernel
theorem dL_law_310 : decode cL_law 310 = .ok (.if_icmp .eq 434, 3) := by decide +kernel
theorem dL_law_313 : decode cL_law 313 = .ok (.iconst 0, 1) := by decide +kernel
theorem dL_law_314 : decode cL_law 314 = .ok (.ireturn, 1) := by decide +kernel
theorem dL_law_315 : decode cL_law 315 = .ok (.aload_n 1, 1) := by decide +kernel
theorem dL_law_316 : decode cL_law 316 = .ok (.aload_n 0, 1) := by decide +kernel
theorem dL_law_317 : decode cL_law 317 = .ok (.iload_n 3, 1) := by decide +kernel
theorem dL_law_318 : decode cL_law 318 = .ok (.iconst 1, 1) := by decide +kernel
theorem dL_law_319 : decode cL_law 319 = .ok (.iadd, 1) := by decide +kernel
theorem dL_law_320 : decode cL_law 320 = .ok (.iaload, 1) := by decide +kernel
theorem dL_law_321 : decode cL_law 321 = .ok (.invokevirtual 36, 3) := by decide +kernel
theorem dL_law_324 : decode cL_law 324 = .ok (.aload_n 2, 1) := by decide +kernel
theorem dL_law_325 : decode cL_law 325 = .ok (.aload_n 0, 1) := by decide +kernel
theorem dL_law_326 : decode cL_law 326 = .ok (.iload_n 3, 1) := by decide +kernel
theorem dL_law_327 : decode cL_law 327 = .ok (.iconst 1, 1) := by decide +kernel
theorem dL_law_328 : decode cL_law 328 = .ok (.iadd, 1) := by decide +kernel
theorem dL_law_329 : decode cL_law 329 = .ok (.iaload, 1) := by decide +kernel
theorem dL_law_330 : decode cL_law 330 = .ok (.invokevirtual 39, 3) := by decide +kernel
theorem dL_law_333 : decode cL_law 333 = .ok (.if_icmp .eq 411, 3) := by decide +kernel
theorem dL_law_336 : decode cL_law 336 = .ok (.iconst 0, 1) := by decide +kernel
theorem dL_law_337 : decode cL_law 337 = .ok (.ireturn, 1) := by decide +kernel
theorem dL_law_338 : decode cL_law 338 = .ok (.aload_n 1, 1) := by decide +kernel
theorem dL_law_339 : decode cL_law 339 = .ok (.invokevirtual 40, 3) := by decide +kernel
theorem dL_law_342 : decode cL_law 342 = .ok (.aload_n 2, 1) := by decide +kernel
theorem dL_law_343 : decode cL_law 343 = .ok (.invokevirtual 44, 3) := by decide +kernel
theorem dL_law_346 : decode cL_law 346 = .ok (.if_icmp .eq 398, 3) := by decide +kernel
theorem dL_law_349 : decode cL_law 349 = .ok (.iconst 0, 1) := by decide +kernel
theorem dL_law_350 : decode cL_law 350 = .ok (.ireturn, 1) := by decide +kernel
theorem dL_law_351 : decode cL_law 351 = .ok (.aload_n 1, 1) := by decide +kernel
theorem dL_law_352 : decode cL_law 352 = .ok (.aload_n 0, 1) := by decide +kernel
theorem dL_law_353 : decode cL_law 353 = .ok (.iload_n 3, 1) := by decide +kernel
theorem dL_law_354 : decode cL_law 354 = .ok (.iconst 1, 1) := by decide +kernel
theorem dL_law_355 : decode cL_law 355 = .ok (.iadd, 1) := by decide +kernel
theorem dL_law_356 : decode cL_law 356 = .ok (.iaload, 1) := by decide +kernel
theorem dL_law_357 : decode cL_law 357 = .ok (.invokevirtual 45, 3) := by decide +kernel
theorem dL_law_360 : decode cL_law 360 = .ok (.aload_n 2, 1) := by decide +kernel
theorem dL_law_361 : decode cL_law 361 = .ok (.aload_n 0, 1) := by decide +kernel
theorem dL_law_362 : decode cL_law 362 = .ok (.iload_n 3, 1) := by decide +kernel
theorem dL_law_363 : decode cL_law 363 = .ok (.iconst 1, 1) := by decide +kernel
theorem dL_law_364 : decode cL_law 364 = .ok (.iadd, 1) := by decide +kernel
theorem dL_law_365 : decode cL_law 365 = .ok (.iaload, 1) := by decide +kernel
theorem dL_law_366 : decode cL_law 366 = .ok (.invokevirtual 48, 3) := by decide +kernel
theorem dL_law_369 : decode cL_law 369 = .ok (.if_icmp .eq 375, 3) := by decide +kernel
theorem dL_law_372 : decode cL_law 372 = .ok (.iconst 0, 1) := by decide +kernel
theorem dL_law_373 : decode cL_law 373 = .ok (.ireturn, 1) := by decide +kernel
theorem dL_law_374 : decode cL_law 374 = .ok (.aload_n 1, 1) := by decide +kernel
theorem dL_law_375 : decode cL_law 375 = .ok (.aload_n 0, 1) := by decide +kernel
theorem dL_law_376 : decode cL_law 376 = .ok (.iload_n 3, 1) := by decide +kernel
theorem dL_law_377 : decode cL_law 377 = .ok (.iconst 1, 1) := by decide +kernel
theorem dL_law_378 : decode cL_law 378 = .ok (.iadd, 1) := by decide +kernel
theorem dL_law_379 : decode cL_law 379 = .ok (.iaload, 1) := by decide +kernel
theorem dL_law_380 : decode cL_law 380 = .ok (.invokevirtual 49, 3) := by decide +kernel
theorem dL_law_383 : decode cL_law 383 = .ok (.aload_n 2, 1) := by decide +kernel
theorem dL_law_384 : decode cL_law 384 = .ok (.aload_n 0, 1) := by decide +kernel
theorem dL_law_385 : decode cL_law 385 = .ok (.iload_n 3, 1) := by decide +kernel
theorem dL_law_386 : decode cL_law 386 = .ok (.iconst 1, 1) := by decide +kernel
theorem dL_law_387 : decode cL_law 387 = .ok (.iadd, 1) := by decide +kernel
theorem dL_law_388 : decode cL_law 388 = .ok (.iaload, 1) := by decide +kernel
theorem dL_law_389 : decode cL_law 389 = .ok (.invokevirtual 52, 3) := by decide +kernel
theorem dL_law_392 : decode cL_law 392 = .ok (.if_icmp .eq 352, 3) := by decide +kernel
theorem dL_law_395 : decode cL_law 395 = .ok (.iconst 0, 1) := by decide +kernel
theorem dL_law_396 : decode cL_law 396 = .ok (.ireturn, 1) := by decide +kernel
theorem dL_law_397 : decode cL_law 397 = .ok (.aload_n 1, 1) := by decide +kernel
theorem dL_law_398 : decode cL_law 398 = .ok (.aload_n 0, 1) := by decide +kernel
theorem dL_law_399 : decode cL_law 399 = .ok (.iload_n 3, 1) := by decide +kernel
theorem dL_law_400 : decode cL_law 400 = .ok (.iconst 1, 1) := by decide +kernel
theorem dL_law_401 : decode cL_law 401 = .ok (.iadd, 1) := by decide +kernel
theorem dL_law_402 : decode cL_law 402 = .ok (.iaload, 1) := by decide +kernel
theorem dL_law_403 : decode cL_law 403 = .ok (.invokevirtual 53, 3) := by decide +kernel
theorem dL_law_406 : decode cL_law 406 = .ok (.aload_n 2, 1) := by decide +kernel
theorem dL_law_407 : decode cL_law 407 = .ok (.aload_n 0, 1) := by decide +kernel
theorem dL_law_408 : decode cL_law 408 = .ok (.iload_n 3, 1) := by decide +kernel
theorem dL_law_409 : decode cL_law 409 = .ok (.iconst 1, 1) := by decide +kernel
theorem dL_law_410 : decode cL_law 410 = .ok (.iadd, 1) := by decide +kernel
theorem dL_law_411 : decode cL_law 411 = .ok (.iaload, 1) := by decide +kernel
theorem dL_law_412 : decode cL_law 412 = .ok (.invokevirtual 56, 3) := by decide +kernel
theorem dL_law_415 : decode cL_law 415 = .ok (.if_icmp .eq 329, 3) := by decide +kernel
theorem dL_law_418 : decode cL_law 418 = .ok (.iconst 0, 1) := by decide +kernel
theorem dL_law_419 : decode cL_law 419 = .ok (.ireturn, 1) := by decide +kernel
theorem dL_law_420 : decode cL_law 420 = .ok (.aload_n 1, 1) := by decide +kernel
theorem dL_law_421 : decode cL_law 421 = .ok (.aload_n 0, 1) := by decide +kernel
theorem dL_law_422 : decode cL_law 422 = .ok (.iload_n 3, 1) := by decide +kernel
theorem dL_law_423 : decode cL_law 423 = .ok (.iconst 1, 1) := by decide +kernel
theorem dL_law_424 : decode cL_law 424 = .ok (.iadd, 1) := by decide +kernel
theorem dL_law_425 : decode cL_law 425 = .ok (.iaload, 1) := by decide +kernel
theorem dL_law_426 : decode cL_law 426 = .ok (.invokevirtual 57, 3) := by decide +kernel
theorem dL_law_429 : decode cL_law 429 = .ok (.aload_n 2, 1) := by decide +kernel
theorem dL_law_430 : decode cL_law 430 = .ok (.aload_n 0, 1) := by decide +kernel
theorem dL_law_431 : decode cL_law 431 = .ok (.iload_n 3, 1) := by decide +kernel
theorem dL_law_432 : decode cL_law 432 = .ok (.iconst 1, 1) := by decide +kernel
theorem dL_law_433 : decode cL_law 433 = .ok (.iadd, 1) := by decide +kernel
theorem dL_law_434 : decode cL_law 434 = .ok (.iaload, 1) := by decide +kernel
theorem dL_law_435 : decode cL_law 435 = .ok (.invokevirtual 60, 3) := by decide +kernel
theorem dL_law_438 : decode cL_law 438 = .ok (.if_icmp .eq 306, 3) := by decide +kernel
theorem dL_law_441 : decode cL_law 441 = .ok (.iconst 0, 1) := by decide +kernel
theorem dL_law_442 : decode cL_law 442 = .ok (.ireturn, 1) := by decide +kernel
theorem dL_law_443 : decode cL_law 443 = .ok (.aload_n 1, 1) := by decide +kernel
theorem dL_law_444 : decode cL_law 444 = .ok (.aload_n 0, 1) := by decide +kernel
theorem dL_law_445 : decode cL_law 445 = .ok (.iload_n 3, 1) := by decide +kernel
theorem dL_law_446 : decode cL_law 446 = .ok (.iconst 1, 1) := by decide +kernel
theorem dL_law_447 : decode cL_law 447 = .ok (.iadd, 1) := by decide +kernel
theorem dL_law_448 : decode cL_law 448 = .ok (.iaload, 1) := by decide +kernel
theorem dL_law_449 : decode cL_law 449 = .ok (.invokevirtual 61, 3) := by decide +kernel
theorem dL_law_452 : decode cL_law 452 = .ok (.aload_n 2, 1) := by decide +kernel
theorem dL_law_453 : decode cL_law 453 = .ok (.aload_n 0, 1) := by decide +kernel
theorem dL_law_454 : decode cL_law 454 = .ok (.iload_n 3, 1) := by decide +kernel
theorem dL_law_455 : decode cL_law 455 = .ok (.iconst 1, 1) := by decide +kernel
theorem dL_law_456 : decode cL_law 456 = .ok (.iadd, 1) := by decide +kernel
theorem dL_law_457 : decode cL_law 457 = .ok (.iaload, 1) := by decide +kernel
theorem dL_law_458 : decode cL_law 458 = .ok (.invokevirtual 64, 3) := by decide +kernel
theorem dL_law_461 : decode cL_law 461 = .ok (.if_icmp .eq 283, 3) := by decide +kernel
theorem dL_law_464 : decode cL_law 464 = .ok (.iconst 0, 1) := by decide +kernel
theorem dL_law_465 : decode cL_law 465 = .ok (.ireturn, 1) := by decide +kernel
theorem dL_law_466 : decode cL_law 466 = .ok (.aload_n 1, 1) := by decide +kernel
theorem dL_law_467 : decode cL_law 467 = .ok (.aload_n 0, 1) := by decide +kernel
theorem dL_law_468 : decode cL_law 468 = .ok (.iload_n 3, 1) := by decide +kernel
theorem dL_law_469 : decode cL_law 469 = .ok (.iconst 1, 1) := by decide +kernel
theorem dL_law_470 : decode cL_law 470 = .ok (.iadd, 1) := by decide +kernel
theorem dL_law_471 : decode cL_law 471 = .ok (.iaload, 1) := by decide +kernel
theorem dL_law_472 : decode cL_law 472 = .ok (.aload_n 0, 1) := by decide +kernel
theorem dL_law_473 : decode cL_law 473 = .ok (.iload_n 3, 1) := by decide +kernel
theorem dL_law_474 : decode cL_law 474 = .ok (.iconst 2, 1) := by decide +kernel
theorem dL_law_475 : decode cL_law 475 = .ok (.iadd, 1) := by decide +kernel
theorem dL_law_476 : decode cL_law 476 = .ok (.iaload, 1) := by decide +kernel
theorem dL_law_477 : decode cL_law 477 = .ok (.invokevirtual 65, 3) := by decide +kernel
theorem dL_law_480 : decode cL_law 480 = .ok (.aload_n 2, 1) := by decide +kernel
theorem dL_law_481 : decode cL_law 481 = .ok (.aload_n 0, 1) := by decide +kernel
theorem dL_law_482 : decode cL_law 482 = .ok (.iload_n 3, 1) := by decide +kernel
theorem dL_law_483 : decode cL_law 483 = .ok (.iconst 1, 1) := by decide +kernel
theorem dL_law_484 : decode cL_law 484 = .ok (.iadd, 1) := by decide +kernel
theorem dL_law_485 : decode cL_law 485 = .ok (.iaload, 1) := by decide +kernel
theorem dL_law_486 : decode cL_law 486 = .ok (.aload_n 0, 1) := by decide +kernel
theorem dL_law_487 : decode cL_law 487 = .ok (.iload_n 3, 1) := by decide +kernel
theorem dL_law_488 : decode cL_law 488 = .ok (.iconst 2, 1) := by decide +kernel
theorem dL_law_489 : decode cL_law 489 = .ok (.iadd, 1) := by decide +kernel
theorem dL_law_490 : decode cL_law 490 = .ok (.iaload, 1) := by decide +kernel
theorem dL_law_491 : decode cL_law 491 = .ok (.invokevirtual 68, 3) := by decide +kernel
theorem dL_law_494 : decode cL_law 494 = .ok (.if_icmp .eq 250, 3) := by decide +kernel
theorem dL_law_497 : decode cL_law 497 = .ok (.iconst 0, 1) := by decide +kernel
theorem dL_law_498 : decode cL_law 498 = .ok (.ireturn, 1) := by decide +kernel
theorem dL_law_499 : decode cL_law 499 = .ok (.aload_n 1, 1) := by decide +kernel
theorem dL_law_500 : decode cL_law 500 = .ok (.aload_n 0, 1) := by decide +kernel
theorem dL_law_501 : decode cL_law 501 = .ok (.iload_n 3, 1) := by decide +kernel
theorem dL_law_502 : decode cL_law 502 = .ok (.iconst 1, 1) := by decide +kernel
theorem dL_law_503 : decode cL_law 503 = .ok (.iadd, 1) := by decide +kernel
theorem dL_law_504 : decode cL_law 504 = .ok (.iaload, 1) := by decide +kernel
theorem dL_law_505 : decode cL_law 505 = .ok (.invokevirtual 69, 3) := by decide +kernel
theorem dL_law_508 : decode cL_law 508 = .ok (.aload_n 2, 1) := by decide +kernel
theorem dL_law_509 : decode cL_law 509 = .ok (.aload_n 0, 1) := by decide +kernel
theorem dL_law_510 : decode cL_law 510 = .ok (.iload_n 3, 1) := by decide +kernel
theorem dL_law_511 : decode cL_law 511 = .ok (.iconst 1, 1) := by decide +kernel
theorem dL_law_512 : decode cL_law 512 = .ok (.iadd, 1) := by decide +kernel
theorem dL_law_513 : decode cL_law 513 = .ok (.iaload, 1) := by decide +kernel
theorem dL_law_514 : decode cL_law 514 = .ok (.invokevirtual 72, 3) := by decide +kernel
theorem dL_law_517 : decode cL_law 517 = .ok (.if_icmp .eq 227, 3) := by decide +kernel
theorem dL_law_520 : decode cL_law 520 = .ok (.iconst 0, 1) := by decide +kernel
theorem dL_law_521 : decode cL_law 521 = .ok (.ireturn, 1) := by decide +kernel
theorem dL_law_522 : decode cL_law 522 = .ok (.aload_n 1, 1) := by decide +kernel
theorem dL_law_523 : decode cL_law 523 = .ok (.invokevirtual 73, 3) := by decide +kernel
theorem dL_law_526 : decode cL_law 526 = .ok (.aload_n 2, 1) := by decide +kernel
theorem dL_law_527 : decode cL_law 527 = .ok (.invokevirtual 76, 3) := by decide +kernel
theorem dL_law_530 : decode cL_law 530 = .ok (.if_icmp .eq 214, 3) := by decide +kernel
theorem dL_law_533 : decode cL_law 533 = .ok (.iconst 0, 1) := by decide +kernel
theorem dL_law_534 : decode cL_law 534 = .ok (.ireturn, 1) := by decide +kernel
theorem dL_law_535 : decode cL_law 535 = .ok (.aload_n 1, 1) := by decide +kernel
theorem dL_law_536 : decode cL_law 536 = .ok (.aload_n 0, 1) := by decide +kernel
theorem dL_law_537 : decode cL_law 537 = .ok (.iload_n 3, 1) := by decide +kernel
theorem dL_law_538 : decode cL_law 538 = .ok (.iconst 1, 1) := by decide +kernel
theorem dL_law_539 : decode cL_law 539 = .ok (.iadd, 1) := by decide +kernel
theorem dL_law_540 : decode cL_law 540 = .ok (.iaload, 1) := by decide +kernel
theorem dL_law_541 : decode cL_law 541 = .ok (.invokevirtual 77, 3) := by decide +kernel
theorem dL_law_544 : decode cL_law 544 = .ok (.aload_n 2, 1) := by decide +kernel
theorem dL_law_545 : decode cL_law 545 = .ok (.aload_n 0, 1) := by decide +kernel
theorem dL_law_546 : decode cL_law 546 = .ok (.iload_n 3, 1) := by decide +kernel
theorem dL_law_547 : decode cL_law 547 = .ok (.iconst 1, 1) := by decide +kernel
theorem dL_law_548 : decode cL_law 548 = .ok (.iadd, 1) := by decide +kernel
theorem dL_law_549 : decode cL_law 549 = .ok (.iaload, 1) := by decide +kernel
theorem dL_law_550 : decode cL_law 550 = .ok (.invokevirtual 80, 3) := by decide +kernel
theorem dL_law_553 : decode cL_law 553 = .ok (.if_icmp .eq 191, 3) := by decide +kernel
theorem dL_law_556 : decode cL_law 556 = .ok (.iconst 0, 1) := by decide +kernel
theorem dL_law_557 : decode cL_law 557 = .ok (.ireturn, 1) := by decide +kernel
theorem dL_law_558 : decode cL_law 558 = .ok (.aload_n 1, 1) := by decide +kernel
theorem dL_law_559 : decode cL_law 559 = .ok (.invokevirtual 81, 3) := by decide +kernel
theorem dL_law_562 : decode cL_law 562 = .ok (.aload_n 2, 1) := by decide +kernel
theorem dL_law_563 : decode cL_law 563 = .ok (.invokevirtual 84, 3) := by decide +kernel
theorem dL_law_566 : decode cL_law 566 = .ok (.if_icmp .eq 178, 3) := by decide +kernel
theorem dL_law_569 : decode cL_law 569 = .ok (.iconst 0, 1) := by decide +kernel
theorem dL_law_570 : decode cL_law 570 = .ok (.ireturn, 1) := by decide +kernel
theorem dL_law_571 : decode cL_law 571 = .ok (.aload_n 1, 1) := by decide +kernel
theorem dL_law_572 : decode cL_law 572 = .ok (.aload_n 0, 1) := by decide +kernel
theorem dL_law_573 : decode cL_law 573 = .ok (.iload_n 3, 1) := by decide +kernel
theorem dL_law_574 : decode cL_law 574 = .ok (.iconst 1, 1) := by decide +kernel
theorem dL_law_575 : decode cL_law 575 = .ok (.iadd, 1) := by decide +kernel
theorem dL_law_576 : decode cL_law 576 = .ok (.iaload, 1) := by decide +kernel
theorem dL_law_577 : decode cL_law 577 = .ok (.invokevirtual 85, 3) := by decide +kernel
theorem dL_law_580 : decode cL_law 580 = .ok (.aload_n 2, 1) := by decide +kernel
theorem dL_law_581 : decode cL_law 581 = .ok (.aload_n 0, 1) := by decide +kernel
theorem dL_law_582 : decode cL_law 582 = .ok (.iload_n 3, 1) := by decide +kernel
theorem dL_law_583 : decode cL_law 583 = .ok (.iconst 1, 1) := by decide +kernel
theorem dL_law_584 : decode cL_law 584 = .ok (.iadd, 1) := by decide +kernel
theorem dL_law_585 : decode cL_law 585 = .ok (.iaload, 1) := by decide +kernel
theorem dL_law_586 : decode cL_law 586 = .ok (.invokevirtual 88, 3) := by decide +kernel
theorem dL_law_589 : decode cL_law 589 = .ok (.if_icmp .eq 155, 3) := by decide +kernel
theorem dL_law_592 : decode cL_law 592 = .ok (.iconst 0, 1) := by decide +kernel
theorem dL_law_593 : decode cL_law 593 = .ok (.ireturn, 1) := by decide +kernel
theorem dL_law_594 : decode cL_law 594 = .ok (.aload_n 1, 1) := by decide +kernel
theorem dL_law_595 : decode cL_law 595 = .ok (.invokevirtual 89, 3) := by decide +kernel
theorem dL_law_598 : decode cL_law 598 = .ok (.aload_n 2, 1) := by decide +kernel
theorem dL_law_599 : decode cL_law 599 = .ok (.invokevirtual 92, 3) := by decide +kernel
theorem dL_law_602 : decode cL_law 602 = .ok (.if_icmp .eq 142, 3) := by decide +kernel
theorem dL_law_605 : decode cL_law 605 = .ok (.iconst 0, 1) := by decide +kernel
theorem dL_law_606 : decode cL_law 606 = .ok (.ireturn, 1) := by decide +kernel
theorem dL_law_607 : decode cL_law 607 = .ok (.aload_n 1, 1) := by decide +kernel
theorem dL_law_608 : decode cL_law 608 = .ok (.aload_n 0, 1) := by decide +kernel
theorem dL_law_609 : decode cL_law 609 = .ok (.iload_n 3, 1) := by decide +kernel
theorem dL_law_610 : decode cL_law 610 = .ok (.iconst 1, 1) := by decide +kernel
theorem dL_law_611 : decode cL_law 611 = .ok (.iadd, 1) := by decide +kernel
theorem dL_law_612 : decode cL_law 612 = .ok (.iaload, 1) := by decide +kernel
theorem dL_law_613 : decode cL_law 613 = .ok (.invokevirtual 93, 3) := by decide +kernel
theorem dL_law_616 : decode cL_law 616 = .ok (.aload_n 2, 1) := by decide +kernel
theorem dL_law_617 : decode cL_law 617 = .ok (.aload_n 0, 1) := by decide +kernel
theorem dL_law_618 : decode cL_law 618 = .ok (.iload_n 3, 1) := by decide +kernel
theorem dL_law_619 : decode cL_law 619 = .ok (.iconst 1, 1) := by decide +kernel
theorem dL_law_620 : decode cL_law 620 = .ok (.iadd, 1) := by decide +kernel
theorem dL_law_621 : decode cL_law 621 = .ok (.iaload, 1) := by decide +kernel
theorem dL_law_622 : decode cL_law 622 = .ok (.invokevirtual 96, 3) := by decide +kernel
theorem dL_law_625 : decode cL_law 625 = .ok (.if_icmp .eq 119, 3) := by decide +kernel
theorem dL_law_628 : decode cL_law 628 = .ok (.iconst 0, 1) := by decide +kernel
theorem dL_law_629 : decode cL_law 629 = .ok (.ireturn, 1) := by decide +kernel
theorem dL_law_630 : decode cL_law 630 = .ok (.aload_n 1, 1) := by decide +kernel
theorem dL_law_631 : decode cL_law 631 = .ok (.aload_n 0, 1) := by decide +kernel
theorem dL_law_632 : decode cL_law 632 = .ok (.iload_n 3, 1) := by decide +kernel
theorem dL_law_633 : decode cL_law 633 = .ok (.iconst 1, 1) := by decide +kernel
theorem dL_law_634 : decode cL_law 634 = .ok (.iadd, 1) := by decide +kernel
theorem dL_law_635 : decode cL_law 635 = .ok (.iaload, 1) := by decide +kernel
theorem dL_law_636 : decode cL_law 636 = .ok (.invokevirtual 97, 3) := by decide +kernel
theorem dL_law_639 : decode cL_law 639 = .ok (.aload_n 2, 1) := by decide +kernel
theorem dL_law_640 : decode cL_law 640 = .ok (.aload_n 0, 1) := by decide +kernel
theorem dL_law_641 : decode cL_law 641 = .ok (.iload_n 3, 1) := by decide +kernel
theorem dL_law_642 : decode cL_law 642 = .ok (.iconst 1, 1) := by decide +kernel
theorem dL_law_643 : decode cL_law 643 = .ok (.iadd, 1) := by decide +kernel
theorem dL_law_644 : decode cL_law 644 = .ok (.iaload, 1) := by decide +kernel
theorem dL_law_645 : decode cL_law 645 = .ok (.invokevirtual 100, 3) := by decide +kernel
theorem dL_law_648 : decode cL_law 648 = .ok (.if_icmp .eq 96, 3) := by decide +kernel
theorem dL_law_651 : decode cL_law 651 = .ok (.iconst 0, 1) := by decide +kernel
theorem dL_law_652 : decode cL_law 652 = .ok (.ireturn, 1) := by decide +kernel
theorem dL_law_653 : decode cL_law 653 = .ok (.aload_n 1, 1) := by decide +kernel
theorem dL_law_654 : decode cL_law 654 = .ok (.invokevirtual 101, 3) := by decide +kernel
theorem dL_law_657 : decode cL_law 657 = .ok (.aload_n 2, 1) := by decide +kernel
theorem dL_law_658 : decode cL_law 658 = .ok (.invokevirtual 104, 3) := by decide +kernel
theorem dL_law_661 : decode cL_law 661 = .ok (.if_icmp .eq 83, 3) := by decide +kernel
theorem dL_law_664 : decode cL_law 664 = .ok (.iconst 0, 1) := by decide +kernel
theorem dL_law_665 : decode cL_law 665 = .ok (.ireturn, 1) := by decide +kernel
theorem dL_law_666 : decode cL_law 666 = .ok (.aload_n 1, 1) := by decide +kernel
theorem dL_law_667 : decode cL_law 667 = .ok (.invokevirtual 105, 3) := by decide +kernel
theorem dL_law_670 : decode cL_law 670 = .ok (.aload_n 2, 1) := by decide +kernel
theorem dL_law_671 : decode cL_law 671 = .ok (.invokevirtual 108, 3) := by decide +kernel
theorem dL_law_674 : decode cL_law 674 = .ok (.if_icmp .eq 70, 3) := by decide +kernel
theorem dL_law_677 : decode cL_law 677 = .ok (.iconst 0, 1) := by decide +kernel
theorem dL_law_678 : decode cL_law 678 = .ok (.ireturn, 1) := by decide +kernel
theorem dL_law_679 : decode cL_law 679 = .ok (.aload_n 1, 1) := by decide +kernel
theorem dL_law_680 : decode cL_law 680 = .ok (.invokevirtual 109, 3) := by decide +kernel
theorem dL_law_683 : decode cL_law 683 = .ok (.aload_n 2, 1) := by decide +kernel
theorem dL_law_684 : decode cL_law 684 = .ok (.invokevirtual 112, 3) := by decide +kernel
theorem dL_law_687 : decode cL_law 687 = .ok (.if_icmp .eq 57, 3) := by decide +kernel
theorem dL_law_690 : decode cL_law 690 = .ok (.iconst 0, 1) := by decide +kernel
theorem dL_law_691 : decode cL_law 691 = .ok (.ireturn, 1) := by decide +kernel
theorem dL_law_692 : decode cL_law 692 = .ok (.aload_n 1, 1) := by decide +kernel
theorem dL_law_693 : decode cL_law 693 = .ok (.invokevirtual 113, 3) := by decide +kernel
theorem dL_law_696 : decode cL_law 696 = .ok (.aload_n 2, 1) := by decide +kernel
theorem dL_law_697 : decode cL_law 697 = .ok (.invokevirtual 116, 3) := by decide +kernel
theorem dL_law_700 : decode cL_law 700 = .ok (.if_icmp .eq 44, 3) := by decide +kernel
theorem dL_law_703 : decode cL_law 703 = .ok (.iconst 0, 1) := by decide +kernel
theorem dL_law_704 : decode cL_law 704 = .ok (.ireturn, 1) := by decide +kernel
theorem dL_law_705 : decode cL_law 705 = .ok (.aload_n 1, 1) := by decide +kernel
theorem dL_law_706 : decode cL_law 706 = .ok (.invokevirtual 117, 3) := by decide +kernel
theorem dL_law_709 : decode cL_law 709 = .ok (.aload_n 2, 1) := by decide +kernel
theorem dL_law_710 : decode cL_law 710 = .ok (.invokevirtual 120, 3) := by decide +kernel
theorem dL_law_713 : decode cL_law 713 = .ok (.if_icmp .eq 31, 3) := by decide +kernel
theorem dL_law_716 : decode cL_law 716 = .ok (.iconst 0, 1) := by decide +kernel
theorem dL_law_717 : decode cL_law 717 = .ok (.ireturn, 1) := by decide +kernel
theorem dL_law_718 : decode cL_law 718 = .ok (.aload_n 1, 1) := by decide +kernel
theorem dL_law_719 : decode cL_law 719 = .ok (.invokevirtual 121, 3) := by decide +kernel
theorem dL_law_722 : decode cL_law 722 = .ok (.aload_n 2, 1) := by decide +kernel
theorem dL_law_723 : decode cL_law 723 = .ok (.invokevirtual 124, 3) := by decide +kernel
theorem dL_law_726 : decode cL_law 726 = .ok (.if_icmp .eq 18, 3) := by decide +kernel
theorem dL_law_729 : decode cL_law 729 = .ok (.iconst 0, 1) := by decide +kernel
theorem dL_law_730 : decode cL_law 730 = .ok (.ireturn, 1) := by decide +kernel
theorem dL_law_731 : decode cL_law 731 = .ok (.aload_n 1, 1) := by decide +kernel
theorem dL_law_732 : decode cL_law 732 = .ok (.invokevirtual 125, 3) := by decide +kernel
theorem dL_law_735 : decode cL_law 735 = .ok (.aload_n 2, 1) := by decide +kernel
theorem dL_law_736 : decode cL_law 736 = .ok (.invokevirtual 128, 3) := by decide +kernel
theorem dL_law_739 : decode cL_law 739 = .ok (.if_icmp .eq 5, 3) := by decide +kernel
theorem dL_law_742 : decode cL_law 742 = .ok (.iconst 0, 1) := by decide +kernel
theorem dL_law_743 : decode cL_law 743 = .ok (.ireturn, 1) := by decide +kernel
theorem dL_law_744 : decode cL_law 744 = .ok (.iinc 3 5, 3) := by decide +kernel
theorem dL_law_747 : decode cL_law 747 = .ok (.goto (-729), 3) := by decide +kernel
theorem dL_law_750 : decode cL_law 750 = .ok (.iconst 1, 1) := by decide +kernel
theorem dL_law_751 : decode cL_law 751 = .ok (.ireturn, 1) := by decide +kernel


set_option maxRecDepth 20000 in
theorem ggL_law_X7_where : GoodIn wsL_law wsX7_where := goodIn_r _ [279, 15, 131, 132, 133, 2, 134, 105, 135, 136, 137, 280, 281, 282, 14, 283, 37, 671, 672, 673, 674, 675, 676, 677, 704, 705, 706, 707, 708, 709] (by decide +kernel) (by decide +kernel)
set_option maxRecDepth 20000 in
theorem gL_law_X7_where : GoodIn wsL_law (wsV RL 50 RX7 yX7_where wsX7_where) := goodIn_app (goodIn_of _ (by decide +kernel)) ggL_law_X7_where
set_option maxRecDepth 20000 in
theorem ggL_law_X8_where : GoodIn wsL_law wsX8_where := goodIn_r _ [287, 163, 164, 165, 5, 166, 123, 167, 168, 169, 256, 257, 258, 288, 289, 290, 291, 81, 82, 83, 84, 678, 679, 680, 681, 682, 683, 684, 685, 686, 687, 688, 689, 690, 691, 692, 693, 694, 695, 696, 697, 698, 699, 700, 701, 702, 703] (by decide +kernel) (by decide +kernel)
set_option maxRecDepth 20000 in
theorem gL_law_X8_where : GoodIn wsL_law (wsV RL 53 RX8 yX8_where wsX8_where) := goodIn_app (goodIn_of _ (by decide +kernel)) ggL_law_X8_where
set_option maxRecDepth 20000 in
theorem ggL_law_X7_hidden : GoodIn wsL_law wsX7_hidden := goodIn_r _ [295, 15, 131, 132, 133, 2, 134, 105, 135, 136, 137, 106, 107, 108, 296, 297, 298, 14, 299, 179, 40, 41, 118, 300, 281, 282, 283, 37, 301, 302, 303, 304, 305, 306, 307, 308, 309, 310, 311, 312, 313, 671, 672, 673, 674, 675, 676, 677, 704, 705, 706, 707, 708, 709] (by decide +kernel) (by decide +kernel)
set_option maxRecDepth 20000 in
theorem gL_law_X7_hidden : GoodIn wsL_law (wsV RL 54 RX7 yX7_hidden wsX7_hidden) := goodIn_app (goodIn_of _ (by decide +kernel)) ggL_law_X7_hidden
set_option maxRecDepth 20000 in
theorem ggL_law_X8_hidden : GoodIn wsL_law wsX8_hidden := goodIn_r _ [317, 163, 164, 165, 5, 166, 123, 167, 168, 169, 256, 257, 258, 124, 125, 126, 318, 319, 320, 321, 184, 85, 86, 288, 289, 290, 291, 81, 82, 83, 84, 322, 323, 324, 325, 326, 327, 328, 329, 330, 331, 332, 333, 334, 335, 336, 337, 338, 339, 678, 679, 680, 681, 682, 683, 684, 685, 686, 687, 688, 689, 690, 691, 692, 693, 694, 695, 696, 697, 698, 699, 700, 701, 702, 703] (by decide +kernel) (by decide +kernel)
set_option maxRecDepth 20000 in
theorem gL_law_X8_hidden : GoodIn wsL_law (wsV RL 57 RX8 yX8_hidden wsX8_hidden) := goodIn_app (goodIn_of _ (by decide +kernel)) ggL_law_X8_hidden
set_option maxRecDepth 20000 in
theorem ggL_law_X7_sees : GoodIn wsL_law wsX7_sees := goodIn_r _ [343, 19, 344, 15, 345, 346, 347, 2, 348, 197, 131, 132, 133, 134, 105, 135, 136, 137, 280, 281, 282, 14, 283, 37, 349, 350, 303, 351, 308, 309, 310, 296, 297, 298, 299, 179, 40, 41, 118, 300, 301, 302, 304, 305, 306, 307, 311, 312, 313, 671, 672, 673, 674, 675, 676, 677, 710, 711, 712, 704, 705, 706, 707, 708, 709] (by decide +kernel) (by decide +kernel)
set_option maxRecDepth 20000 in
theorem gL_law_X7_sees : GoodIn wsL_law (wsV RL 58 RX7 yX7_sees wsX7_sees) := goodIn_app (goodIn_of _ (by decide +kernel)) ggL_law_X7_sees
set_option maxRecDepth 20000 in
theorem ggL_law_X8_sees : GoodIn wsL_law wsX8_sees := goodIn_r _ [355, 87, 356, 357, 358, 5, 359, 207, 167, 168, 169, 163, 164, 165, 166, 123, 256, 257, 258, 318, 319, 320, 321, 184, 85, 86, 288, 289, 290, 291, 81, 82, 83, 84, 322, 323, 324, 325, 326, 327, 328, 329, 330, 331, 332, 333, 334, 335, 336, 337, 338, 339, 360, 361, 362, 363, 678, 679, 680, 681, 682, 683, 684, 685, 686, 687, 688, 689, 690, 691, 692, 693, 694, 695, 696, 697, 698, 699, 700, 701, 702, 703] (by decide +kernel) (by decide +kernel)
set_option maxRecDepth 20000 in
theorem gL_law_X8_sees : GoodIn wsL_law (wsV RL 61 RX8 yX8_sees wsX8_sees) := goodIn_app (goodIn_of _ (by decide +kernel)) ggL_law_X8_sees
set_option maxRecDepth 20000 in
theorem ggL_law_X7_size : GoodIn wsL_law wsX7_size := goodIn_r _ [367, 19, 344, 15, 345, 346, 347, 2, 348, 197, 131, 132, 133, 134, 105, 135, 136, 137, 280, 281, 282, 14, 283, 37, 368, 369, 303, 370, 308, 309, 310, 671, 672, 673, 674, 675, 676, 677, 710, 711, 712, 704, 705, 706, 707, 708, 709] (by decide +kernel) (by decide +kernel)
set_option maxRecDepth 20000 in
theorem gL_law_X7_size : GoodIn wsL_law (wsV RL 62 RX7 yX7_size wsX7_size) := goodIn_app (goodIn_of _ (by decide +kernel)) ggL_law_X7_size
set_option maxRecDepth 20000 in
theorem ggL_law_X8_size : GoodIn wsL_law wsX8_size := goodIn_r _ [374, 356, 357, 358, 5, 359, 207, 167, 168, 169, 163, 164, 165, 166, 123, 256, 257, 258, 375, 376, 377, 378, 87, 288, 289, 290, 291, 81, 82, 83, 84, 328, 329, 330, 331, 332, 333, 678, 679, 680, 681, 682, 683, 684, 685, 686, 687, 688, 689, 690, 691, 692, 693, 694, 695, 696, 697, 698, 699, 700, 701, 702, 703] (by decide +kernel) (by decide +kernel)
set_option maxRecDepth 20000 in
theorem gL_law_X8_size : GoodIn wsL_law (wsV RL 65 RX8 yX8_size wsX8_size) := goodIn_app (goodIn_of _ (by decide +kernel)) ggL_law_X8_size
set_option maxRecDepth 20000 in
theorem ggL_law_X7_views : GoodIn wsL_law wsX7_views := goodIn_r _ [382, 15, 131, 132, 133, 2, 134, 105, 135, 136, 137, 296, 297, 298, 14, 299, 179, 40, 41, 118, 300, 281, 282, 283, 37, 301, 302, 303, 304, 305, 306, 307, 308, 309, 310, 311, 312, 313, 671, 672, 673, 674, 675, 676, 677, 704, 705, 706, 707, 708, 709] (by decide +kernel) (by decide +kernel)
set_option maxRecDepth 20000 in
theorem gL_law_X7_views : GoodIn wsL_law (wsV RL 66 RX7 yX7_views wsX7_views) := goodIn_app (goodIn_of _ (by decide +kernel)) ggL_law_X7_views
set_option maxRecDepth 20000 in
theorem ggL_law_X8_views : GoodIn wsL_law wsX8_views := goodIn_r _ [386, 163, 164, 165, 5, 166, 123, 167, 168, 169, 256, 257, 258, 318, 319, 320, 321, 184, 85, 86, 288, 289, 290, 291, 81, 82, 83, 84, 322, 323, 324, 325, 326, 327, 328, 329, 330, 331, 332, 333, 334, 335, 336, 337, 338, 339, 678, 679, 680, 681, 682, 683, 684, 685, 686, 687, 688, 689, 690, 691, 692, 693, 694, 695, 696, 697, 698, 699, 700, 701, 702, 703] (by decide +kernel) (by decide +kernel)
set_option maxRecDepth 20000 in
theorem gL_law_X8_views : GoodIn wsL_law (wsV RL 69 RX8 yX8_views wsX8_views) := goodIn_app (goodIn_of _ (by decide +kernel)) ggL_law_X8_views
set_option maxRecDepth 20000 in
theorem ggL_law_X7_gives : GoodIn wsL_law wsX7_gives := goodIn_r _ [390, 27, 19, 344, 23, 391, 345, 346, 347, 2, 348, 197, 392, 393, 394, 395, 212, 396, 397, 398, 26, 399, 400, 401, 63, 402, 403, 404, 14, 405, 118, 157, 139, 140, 141, 39, 406, 407, 408, 409, 410, 411, 412, 413, 414, 247, 248, 55, 249, 250, 415, 297, 298, 299, 179, 40, 41, 300, 281, 282, 283, 37, 301, 302, 303, 304, 305, 306, 307, 308, 309, 310, 311, 312, 313, 416, 417, 350, 351, 418, 369, 370, 419, 420, 421, 422, 423, 671, 672, 673, 674, 675, 676, 677, 710, 711, 712, 713, 714, 715, 728, 729, 730, 731, 732, 733, 734, 735, 716, 704, 705, 706, 707, 708, 709] (by decide +kernel) (by decide +kernel)
set_option maxRecDepth 20000 in
theorem gL_law_X7_gives : GoodIn wsL_law (wsV RL 70 RX7 yX7_gives wsX7_gives) := goodIn_app (goodIn_of _ (by decide +kernel)) ggL_law_X7_gives
set_option maxRecDepth 20000 in
theorem ggL_law_X8_gives : GoodIn wsL_law wsX8_gives := goodIn_r _ [427, 356, 357, 358, 5, 359, 207, 167, 168, 169, 428, 429, 430, 431, 255, 432, 433, 434, 435, 93, 94, 436, 437, 438, 439, 90, 123, 91, 87, 92, 89, 318, 319, 320, 321, 184, 85, 86, 288, 289, 290, 291, 81, 82, 83, 84, 322, 323, 324, 325, 326, 327, 328, 329, 330, 331, 332, 333, 334, 335, 336, 337, 338, 339, 360, 361, 362, 363, 375, 376, 377, 378, 678, 679, 680, 681, 682, 683, 684, 685, 686, 687, 688, 689, 690, 691, 692, 693, 694, 695, 696, 697, 698, 699, 700, 701, 702, 703] (by decide +kernel) (by decide +kernel)
set_option maxRecDepth 20000 in
theorem gL_law_X8_gives : GoodIn wsL_law (wsV RL 73 RX8 yX8_gives wsX8_gives) := goodIn_app (goodIn_of _ (by decide +kernel)) ggL_law_X8_gives
set_option maxRecDepth 20000 in
theorem ggL_law_X7_why : GoodIn wsL_law wsX7_why := goodIn_r _ [443, 27, 19, 344, 23, 391, 345, 346, 347, 2, 348, 197, 392, 393, 394, 395, 212, 396, 397, 398, 26, 399, 400, 401, 63, 402, 403, 404, 14, 405, 118, 157, 139, 140, 141, 39, 406, 407, 408, 409, 410, 411, 412, 413, 414, 247, 248, 55, 249, 250, 415, 297, 298, 299, 179, 40, 41, 300, 281, 282, 283, 37, 301, 302, 303, 304, 305, 306, 307, 308, 309, 310, 311, 312, 313, 416, 417, 350, 351, 418, 369, 370, 419, 420, 421, 422, 423, 671, 672, 673, 674, 675, 676, 677, 710, 711, 712, 713, 714, 715, 728, 729, 730, 731, 732, 733, 734, 735, 716, 704, 705, 706, 707, 708, 709] (by decide +kernel) (by decide +kernel)
set_option maxRecDepth 20000 in
theorem gL_law_X7_why : GoodIn wsL_law (wsV RL 74 RX7 yX7_why wsX7_why) := goodIn_app (goodIn_of _ (by decide +kernel)) ggL_law_X7_why
set_option maxRecDepth 20000 in
theorem ggL_law_X8_why : GoodIn wsL_law wsX8_why := goodIn_r _ [447, 356, 357, 358, 5, 359, 207, 167, 168, 169, 428, 429, 430, 431, 255, 432, 433, 434, 435, 93, 94, 436, 437, 438, 439, 90, 123, 91, 87, 92, 89, 318, 319, 320, 321, 184, 85, 86, 288, 289, 290, 291, 81, 82, 83, 84, 322, 323, 324, 325, 326, 327, 328, 329, 330, 331, 332, 333, 334, 335, 336, 337, 338, 339, 360, 361, 362, 363, 375, 376, 377, 378, 678, 679, 680, 681, 682, 683, 684, 685, 686, 687, 688, 689, 690, 691, 692, 693, 694, 695, 696, 697, 698, 699, 700, 701, 702, 703] (by decide +kernel) (by decide +kernel)
set_option maxRecDepth 20000 in
theorem gL_law_X8_why : GoodIn wsL_law (wsV RL 77 RX8 yX8_why wsX8_why) := goodIn_app (goodIn_of _ (by decide +kernel)) ggL_law_X8_why
set_option maxRecDepth 20000 in
theorem ggL_law_X7_side : GoodIn wsL_law wsX7_side := goodIn_r _ [451, 23, 391, 452, 27, 19, 344, 345, 346, 347, 2, 348, 197, 392, 393, 394, 395, 212, 453, 454, 455, 26, 456, 63, 411, 400, 416, 281, 282, 14, 283, 37, 457, 243, 244, 55, 245, 241, 246, 247, 248, 249, 250, 423, 306, 303, 307, 458, 459, 460, 461, 671, 672, 673, 674, 675, 676, 677, 713, 714, 715, 728, 729, 730, 731, 732, 733, 734, 735, 710, 711, 712, 716, 704, 705, 706, 707, 708, 709] (by decide +kernel) (by decide +kernel)
set_option maxRecDepth 20000 in
theorem gL_law_X7_side : GoodIn wsL_law (wsV RL 78 RX7 yX7_side wsX7_side) := goodIn_app (goodIn_of _ (by decide +kernel)) ggL_law_X7_side
set_option maxRecDepth 20000 in
theorem ggL_law_X8_side : GoodIn wsL_law wsX8_side := goodIn_r _ [465, 89, 90, 356, 357, 358, 5, 359, 207, 167, 168, 169, 428, 429, 430, 431, 255, 466, 467, 468, 469, 91, 470, 471, 472, 473, 93, 87, 288, 289, 290, 291, 81, 82, 83, 84, 325, 326, 327, 328, 329, 330, 331, 332, 333, 678, 679, 680, 681, 682, 683, 684, 685, 686, 687, 688, 689, 690, 691, 692, 693, 694, 695, 696, 697, 698, 699, 700, 701, 702, 703] (by decide +kernel) (by decide +kernel)
set_option maxRecDepth 20000 in
theorem gL_law_X8_side : GoodIn wsL_law (wsV RL 81 RX8 yX8_side wsX8_side) := goodIn_app (goodIn_of _ (by decide +kernel)) ggL_law_X8_side
set_option maxRecDepth 20000 in
theorem ggL_law_X7_length : GoodIn wsL_law wsX7_length := goodIn_r _ [477, 23, 392, 393, 394, 2, 395, 212, 478, 479, 480, 22, 481, 52, 231, 53, 230, 229, 482, 483, 484, 485, 671, 672, 673, 674, 675, 676, 677, 713, 714, 715, 728, 729, 730, 731, 732, 733, 734, 735] (by decide +kernel) (by decide +kernel)
set_option maxRecDepth 20000 in
theorem gL_law_X7_length : GoodIn wsL_law (wsV RL 82 RX7 yX7_length wsX7_length) := goodIn_app (goodIn_of _ (by decide +kernel)) ggL_law_X7_length
set_option maxRecDepth 20000 in
theorem ggL_law_X8_length : GoodIn wsL_law wsX8_length := goodIn_r _ [489, 428, 429, 430, 5, 431, 255, 167, 168, 169, 490, 491, 492, 493, 94, 93, 95, 96, 678, 679, 680, 681, 682, 683, 684, 685, 686, 687, 688, 689, 690, 691, 692, 693, 694, 695, 696, 697, 698, 699, 700, 701, 702, 703] (by decide +kernel) (by decide +kernel)
set_option maxRecDepth 20000 in
theorem gL_law_X8_length : GoodIn wsL_law (wsV RL 85 RX8 yX8_length wsX8_length) := goodIn_app (goodIn_of _ (by decide +kernel)) ggL_law_X8_length
set_option maxRecDepth 20000 in
theorem ggL_law_X7_fewest : GoodIn wsL_law wsX7_fewest := goodIn_r _ [497, 31, 498, 499, 500, 501, 30, 502, 113, 76, 503, 504, 68, 75, 505, 506, 74, 69, 507, 508, 509, 397, 398, 26, 399, 400, 401, 63, 402, 403, 404, 14, 405, 118, 157, 139, 140, 141, 39, 406, 407, 408, 409, 410, 411, 412, 413, 414, 247, 248, 55, 249, 250, 415, 297, 298, 299, 179, 40, 41, 300, 281, 282, 283, 37, 301, 302, 303, 304, 305, 306, 307, 308, 309, 310, 311, 312, 313, 416, 417, 350, 351, 418, 369, 370, 419, 420, 421, 422, 423, 510, 511, 512, 513, 514, 454, 455, 456, 457, 243, 244, 245, 241, 246, 458, 459, 460, 461, 515, 516, 517, 518, 519, 520, 521, 522, 523, 71, 524, 525, 526, 527, 528, 529, 530, 531, 532, 533, 534, 535, 536, 537, 538, 539, 540, 541, 542, 543, 544, 545, 546, 547, 483, 484, 485, 72, 548, 549, 550, 551, 73, 552, 553, 554, 555, 556, 671, 672, 673, 674, 675, 676, 677, 717, 718, 719, 720, 721, 722, 723, 724, 725, 726, 727, 713, 714, 715, 710, 711, 712, 728, 729, 730, 731, 732, 733, 734, 735, 716, 704, 705, 706, 707, 708, 709] (by decide +kernel) (by decide +kernel)

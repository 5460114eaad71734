set_option maxRecDepth 20000 in
theorem gL_law_X7_fewest : GoodIn wsL_law (wsV RL 86 RX7 yX7_fewest wsX7_fewest) := goodIn_app (goodIn_of _ (by decide +kernel)) ggL_law_X7_fewest
set_option maxRecDepth 20000 in
theorem ggL_law_X8_fewest : GoodIn wsL_law wsX8_fewest := goodIn_r _ [560, 561, 562, 563, 5, 564, 207, 255, 98, 565, 432, 433, 434, 435, 93, 94, 436, 437, 438, 439, 90, 123, 91, 87, 92, 89, 318, 319, 320, 321, 184, 85, 86, 288, 289, 290, 291, 81, 82, 83, 84, 322, 323, 324, 325, 326, 327, 328, 329, 330, 331, 332, 333, 334, 335, 336, 337, 338, 339, 167, 168, 169, 360, 361, 362, 363, 375, 376, 377, 378, 566, 567, 568, 569, 570, 571, 572, 99, 100, 573, 574, 575, 576, 577, 578, 579, 580, 581, 582, 583, 584, 466, 467, 468, 469, 470, 471, 472, 473, 678, 679, 680, 681, 682, 683, 684, 685, 686, 687, 688, 689, 690, 691, 692, 693, 694, 695, 696, 697, 698, 699, 700, 701, 702, 703] (by decide +kernel) (by decide +kernel)
set_option maxRecDepth 20000 in
theorem gL_law_X8_fewest : GoodIn wsL_law (wsV RL 89 RX8 yX8_fewest wsX8_fewest) := goodIn_app (goodIn_of _ (by decide +kernel)) ggL_law_X8_fewest
set_option maxRecDepth 20000 in
theorem ggL_law_X7_plan : GoodIn wsL_law wsX7_plan := goodIn_r _ [588, 31, 498, 589, 392, 393, 394, 2, 395, 23, 212, 499, 500, 501, 30, 502, 113, 76, 503, 504, 68, 75, 505, 506, 74, 69, 507, 508, 509, 397, 398, 26, 399, 400, 401, 63, 402, 403, 404, 14, 405, 118, 157, 139, 140, 141, 39, 406, 407, 408, 409, 410, 411, 412, 413, 414, 247, 248, 55, 249, 250, 415, 297, 298, 299, 179, 40, 41, 300, 281, 282, 283, 37, 301, 302, 303, 304, 305, 306, 307, 308, 309, 310, 311, 312, 313, 416, 417, 350, 351, 418, 369, 370, 419, 420, 421, 422, 423, 510, 511, 512, 513, 514, 454, 455, 456, 457, 243, 244, 245, 241, 246, 458, 459, 460, 461, 515, 516, 517, 518, 519, 520, 521, 522, 523, 71, 524, 525, 526, 527, 528, 529, 530, 531, 532, 533, 534, 535, 536, 537, 538, 539, 540, 541, 542, 543, 544, 545, 546, 547, 483, 484, 485, 72, 548, 549, 550, 551, 73, 552, 553, 554, 555, 556, 671, 672, 673, 674, 675, 676, 677, 717, 718, 719, 720, 721, 722, 723, 724, 725, 726, 727, 713, 714, 715, 710, 711, 712, 728, 729, 730, 731, 732, 733, 734, 735, 716, 704, 705, 706, 707, 708, 709] (by decide +kernel) (by decide +kernel)
set_option maxRecDepth 20000 in
theorem gL_law_X7_plan : GoodIn wsL_law (wsV RL 90 RX7 yX7_plan wsX7_plan) := goodIn_app (goodIn_of _ (by decide +kernel)) ggL_law_X7_plan
set_option maxRecDepth 20000 in
theorem ggL_law_X8_plan : GoodIn wsL_law wsX8_plan := goodIn_r _ [593, 100, 428, 429, 430, 5, 431, 255, 167, 168, 169, 561, 562, 563, 564, 207, 98, 565, 432, 433, 434, 435, 93, 94, 436, 437, 438, 439, 90, 123, 91, 87, 92, 89, 318, 319, 320, 321, 184, 85, 86, 288, 289, 290, 291, 81, 82, 83, 84, 322, 323, 324, 325, 326, 327, 328, 329, 330, 331, 332, 333, 334, 335, 336, 337, 338, 339, 360, 361, 362, 363, 375, 376, 377, 378, 566, 567, 568, 569, 570, 571, 572, 99, 573, 574, 575, 576, 577, 578, 579, 580, 581, 582, 583, 584, 466, 467, 468, 469, 470, 471, 472, 473, 678, 679, 680, 681, 682, 683, 684, 685, 686, 687, 688, 689, 690, 691, 692, 693, 694, 695, 696, 697, 698, 699, 700, 701, 702, 703] (by decide +kernel) (by decide +kernel)
set_option maxRecDepth 20000 in
theorem gL_law_X8_plan : GoodIn wsL_law (wsV RL 93 RX8 yX8_plan wsX8_plan) := goodIn_app (goodIn_of _ (by decide +kernel)) ggL_law_X8_plan
set_option maxRecDepth 20000 in
theorem ggL_law_X7_swings : GoodIn wsL_law wsX7_swings := goodIn_r _ [597, 31, 498, 499, 500, 501, 30, 502, 113, 76, 503, 504, 68, 75, 505, 506, 74, 69, 507, 508, 509, 397, 398, 26, 399, 400, 401, 63, 402, 403, 404, 14, 405, 118, 157, 139, 140, 141, 39, 406, 407, 408, 409, 410, 411, 412, 413, 414, 247, 248, 55, 249, 250, 415, 297, 298, 299, 179, 40, 41, 300, 281, 282, 283, 37, 301, 302, 303, 304, 305, 306, 307, 308, 309, 310, 311, 312, 313, 416, 417, 350, 351, 418, 369, 370, 419, 420, 421, 422, 423, 510, 511, 512, 513, 514, 454, 455, 456, 457, 243, 244, 245, 241, 246, 458, 459, 460, 461, 515, 516, 517, 518, 519, 520, 521, 522, 523, 71, 524, 525, 526, 527, 528, 529, 530, 531, 532, 533, 534, 535, 536, 537, 538, 539, 540, 541, 542, 543, 544, 545, 546, 547, 483, 484, 485, 72, 548, 549, 550, 551, 73, 552, 553, 554, 555, 556, 598, 599, 600, 601, 671, 672, 673, 674, 675, 676, 677, 717, 718, 719, 720, 721, 722, 723, 724, 725, 726, 727, 713, 714, 715, 710, 711, 712, 728, 729, 730, 731, 732, 733, 734, 735, 716, 704, 705, 706, 707, 708, 709] (by decide +kernel) (by decide +kernel)
set_option maxRecDepth 20000 in
theorem gL_law_X7_swings : GoodIn wsL_law (wsV RL 94 RX7 yX7_swings wsX7_swings) := goodIn_app (goodIn_of _ (by decide +kernel)) ggL_law_X7_swings
set_option maxRecDepth 20000 in
theorem ggL_law_X8_swings : GoodIn wsL_law wsX8_swings := goodIn_r _ [605, 255, 88, 100, 561, 562, 563, 5, 564, 207, 98, 565, 432, 433, 434, 435, 93, 94, 436, 437, 438, 439, 90, 123, 91, 87, 92, 89, 318, 319, 320, 321, 184, 85, 86, 288, 289, 290, 291, 81, 82, 83, 84, 322, 323, 324, 325, 326, 327, 328, 329, 330, 331, 332, 333, 334, 335, 336, 337, 338, 339, 167, 168, 169, 360, 361, 362, 363, 375, 376, 377, 378, 566, 567, 568, 569, 570, 571, 572, 99, 573, 574, 575, 576, 577, 578, 579, 580, 581, 582, 583, 584, 466, 467, 468, 469, 470, 471, 472, 473, 678, 679, 680, 681, 682, 683, 684, 685, 686, 687, 688, 689, 690, 691, 692, 693, 694, 695, 696, 697, 698, 699, 700, 701, 702, 703] (by decide +kernel) (by decide +kernel)
set_option maxRecDepth 20000 in
theorem gL_law_X8_swings : GoodIn wsL_law (wsV RL 97 RX8 yX8_swings wsX8_swings) := goodIn_app (goodIn_of _ (by decide +kernel)) ggL_law_X8_swings
set_option maxRecDepth 20000 in
theorem ggL_law_X7_order : GoodIn wsL_law wsX7_order := goodIn_r _ [609, 31, 498, 610, 499, 500, 501, 30, 502, 113, 76, 503, 504, 68, 75, 505, 506, 74, 69, 507, 508, 509, 397, 398, 26, 399, 400, 401, 63, 402, 403, 404, 14, 405, 118, 157, 139, 140, 141, 39, 406, 407, 408, 409, 410, 411, 412, 413, 414, 247, 248, 55, 249, 250, 415, 297, 298, 299, 179, 40, 41, 300, 281, 282, 283, 37, 301, 302, 303, 304, 305, 306, 307, 308, 309, 310, 311, 312, 313, 416, 417, 350, 351, 418, 369, 370, 419, 420, 421, 422, 423, 510, 511, 512, 513, 514, 454, 455, 456, 457, 243, 244, 245, 241, 246, 458, 459, 460, 461, 515, 516, 517, 518, 519, 520, 521, 522, 523, 71, 524, 525, 526, 527, 528, 529, 530, 531, 532, 533, 534, 535, 536, 537, 538, 539, 540, 541, 542, 543, 544, 545, 546, 547, 483, 484, 485, 72, 548, 549, 550, 551, 73, 552, 553, 554, 555, 556, 671, 672, 673, 674, 675, 676, 677, 717, 718, 719, 720, 721, 722, 723, 724, 725, 726, 727, 713, 714, 715, 710, 711, 712, 728, 729, 730, 731, 732, 733, 734, 735, 716, 704, 705, 706, 707, 708, 709] (by decide +kernel) (by decide +kernel)
set_option maxRecDepth 20000 in
theorem gL_law_X7_order : GoodIn wsL_law (wsV RL 98 RX7 yX7_order wsX7_order) := goodIn_app (goodIn_of _ (by decide +kernel)) ggL_law_X7_order
set_option maxRecDepth 20000 in
theorem ggL_law_X8_order : GoodIn wsL_law wsX8_order := goodIn_r _ [614, 565, 88, 561, 562, 563, 5, 564, 207, 255, 98, 432, 433, 434, 435, 93, 94, 436, 437, 438, 439, 90, 123, 91, 87, 92, 89, 318, 319, 320, 321, 184, 85, 86, 288, 289, 290, 291, 81, 82, 83, 84, 322, 323, 324, 325, 326, 327, 328, 329, 330, 331, 332, 333, 334, 335, 336, 337, 338, 339, 167, 168, 169, 360, 361, 362, 363, 375, 376, 377, 378, 566, 567, 568, 569, 570, 571, 572, 99, 100, 573, 574, 575, 576, 577, 578, 579, 580, 581, 582, 583, 584, 466, 467, 468, 469, 470, 471, 472, 473, 615, 616, 617, 618, 678, 679, 680, 681, 682, 683, 684, 685, 686, 687, 688, 689, 690, 691, 692, 693, 694, 695, 696, 697, 698, 699, 700, 701, 702, 703] (by decide +kernel) (by decide +kernel)
set_option maxRecDepth 20000 in
theorem gL_law_X8_order : GoodIn wsL_law (wsV RL 101 RX8 yX8_order wsX8_order) := goodIn_app (goodIn_of _ (by decide +kernel)) ggL_law_X8_order
set_option maxRecDepth 20000 in
theorem ggL_law_X7_crossings : GoodIn wsL_law wsX7_crossings := goodIn_r _ [622, 623, 23, 212, 27, 19, 344, 33, 391, 396, 397, 398, 26, 399, 400, 401, 63, 402, 403, 404, 14, 405, 118, 157, 139, 140, 141, 39, 406, 407, 408, 409, 410, 411, 412, 413, 414, 247, 248, 55, 249, 250, 415, 297, 298, 299, 179, 40, 41, 300, 281, 282, 283, 37, 301, 302, 303, 304, 305, 306, 307, 308, 309, 310, 311, 312, 313, 416, 417, 350, 351, 418, 369, 370, 419, 420, 421, 422, 423, 624, 625, 626, 2, 627, 452, 628, 629, 511, 512, 513, 514, 454, 455, 456, 457, 243, 244, 245, 241, 246, 458, 459, 460, 461, 671, 672, 673, 674, 675, 676, 677, 713, 714, 715, 710, 711, 712, 728, 729, 730, 731, 732, 733, 734, 735, 716, 704, 705, 706, 707, 708, 709] (by decide +kernel) (by decide +kernel)
set_option maxRecDepth 20000 in
theorem gL_law_X7_crossings : GoodIn wsL_law (wsV RL 102 RX7 yX7_crossings wsX7_crossings) := goodIn_app (goodIn_of _ (by decide +kernel)) ggL_law_X7_crossings
set_option maxRecDepth 20000 in
theorem ggL_law_X8_crossings : GoodIn wsL_law wsX8_crossings := goodIn_r _ [633, 634, 255, 97, 89, 432, 433, 434, 5, 435, 93, 94, 436, 437, 438, 439, 90, 123, 91, 87, 92, 318, 319, 320, 321, 184, 85, 86, 288, 289, 290, 291, 81, 82, 83, 84, 322, 323, 324, 325, 326, 327, 328, 329, 330, 331, 332, 333, 334, 335, 336, 337, 338, 339, 167, 168, 169, 360, 361, 362, 363, 375, 376, 377, 378, 577, 578, 579, 580, 581, 582, 583, 584, 466, 467, 468, 469, 470, 471, 472, 473, 678, 679, 680, 681, 682, 683, 684, 685, 686, 687, 688, 689, 690, 691, 692, 693, 694, 695, 696, 697, 698, 699, 700, 701, 702, 703] (by decide +kernel) (by decide +kernel)
set_option maxRecDepth 20000 in
theorem gL_law_X8_crossings : GoodIn wsL_law (wsV RL 105 RX8 yX8_crossings wsX8_crossings) := goodIn_app (goodIn_of _ (by decide +kernel)) ggL_law_X8_crossings
set_option maxRecDepth 20000 in
theorem ggL_law_X7_list : GoodIn wsL_law wsX7_list := goodIn_r _ [638, 623, 33, 345, 346, 347, 2, 348, 19, 197, 671, 672, 673, 674, 675, 676, 677, 710, 711, 712] (by decide +kernel) (by decide +kernel)
set_option maxRecDepth 20000 in
theorem gL_law_X7_list : GoodIn wsL_law (wsV RL 106 RX7 yX7_list wsX7_list) := goodIn_app (goodIn_of _ (by decide +kernel)) ggL_law_X7_list
set_option maxRecDepth 20000 in
theorem ggL_law_X8_list : GoodIn wsL_law wsX8_list := goodIn_r _ [642, 634, 97, 356, 357, 358, 5, 359, 207, 167, 168, 169, 678, 679, 680, 681, 682, 683, 684, 685, 686, 687, 688, 689, 690, 691, 692, 693, 694, 695, 696, 697, 698, 699, 700, 701, 702, 703] (by decide +kernel) (by decide +kernel)
set_option maxRecDepth 20000 in
theorem gL_law_X8_list : GoodIn wsL_law (wsV RL 109 RX8 yX8_list wsX8_list) := goodIn_app (goodIn_of _ (by decide +kernel)) ggL_law_X8_list
set_option maxRecDepth 20000 in
theorem ggL_law_X7_run : GoodIn wsL_law wsX7_run := goodIn_r _ [646, 23, 212, 478, 479, 480, 22, 481, 52, 231, 53, 230, 229, 482, 483, 484, 485, 671, 672, 673, 674, 675, 676, 677, 713, 714, 715, 728, 729, 730, 731, 732, 733, 734, 735] (by decide +kernel) (by decide +kernel)
set_option maxRecDepth 20000 in
theorem gL_law_X7_run : GoodIn wsL_law (wsV RL 110 RX7 yX7_run wsX7_run) := goodIn_app (goodIn_of _ (by decide +kernel)) ggL_law_X7_run
set_option maxRecDepth 20000 in
theorem ggL_law_X8_run : GoodIn wsL_law wsX8_run := goodIn_r _ [650, 651, 652, 653, 5, 654, 255, 490, 491, 492, 493, 94, 93, 95, 96, 678, 679, 680, 681, 682, 683, 684, 685, 686, 687, 688, 689, 690, 691, 692, 693, 694, 695, 696, 697, 698, 699, 700, 701, 702, 703] (by decide +kernel) (by decide +kernel)
set_option maxRecDepth 20000 in
theorem gL_law_X8_run : GoodIn wsL_law (wsV RL 113 RX8 yX8_run wsX8_run) := goodIn_app (goodIn_of _ (by decide +kernel)) ggL_law_X8_run
set_option maxRecDepth 20000 in
theorem ggL_law_X7_frame : GoodIn wsL_law wsX7_frame := goodIn_r _ [658, 23, 212, 478, 479, 480, 22, 481, 52, 231, 53, 230, 229, 482, 483, 484, 485, 671, 672, 673, 674, 675, 676, 677, 713, 714, 715, 728, 729, 730, 731, 732, 733, 734, 735] (by decide +kernel) (by decide +kernel)
set_option maxRecDepth 20000 in
theorem gL_law_X7_frame : GoodIn wsL_law (wsV RL 114 RX7 yX7_frame wsX7_frame) := goodIn_app (goodIn_of _ (by decide +kernel)) ggL_law_X7_frame
set_option maxRecDepth 20000 in
theorem ggL_law_X8_frame : GoodIn wsL_law wsX8_frame := goodIn_r _ [662, 651, 652, 653, 5, 654, 255, 490, 491, 492, 493, 94, 93, 95, 96, 167, 168, 169, 678, 679, 680, 681, 682, 683, 684, 685, 686, 687, 688, 689, 690, 691, 692, 693, 694, 695, 696, 697, 698, 699, 700, 701, 702, 703] (by decide +kernel) (by decide +kernel)
set_option maxRecDepth 20000 in
theorem gL_law_X8_frame : GoodIn wsL_law (wsV RL 117 RX8 yX8_frame wsX8_frame) := goodIn_app (goodIn_of _ (by decide +kernel)) ggL_law_X8_frame
set_option maxRecDepth 20000 in
theorem ggL_law_X7_count : GoodIn wsL_law wsX7_count := goodIn_r _ [666, 15, 105, 174, 19, 197, 23, 212, 623, 671, 672, 673, 674, 675, 676, 677, 704, 705, 706, 707, 708, 709, 710, 711, 712, 713, 714, 715] (by decide +kernel) (by decide +kernel)
set_option maxRecDepth 20000 in
theorem gL_law_X7_count : GoodIn wsL_law (wsV RL 118 RX7 yX7_count wsX7_count) := goodIn_app (goodIn_of _ (by decide +kernel)) ggL_law_X7_count
set_option maxRecDepth 20000 in
theorem ggL_law_X8_count : GoodIn wsL_law wsX8_count := goodIn_r _ [670, 123, 184, 207, 255, 634, 678, 679, 680, 681, 682, 683, 684, 685, 686, 687, 688, 689, 690, 691, 692, 693, 694, 695, 696, 697, 698, 699, 700, 701, 702, 703] (by decide +kernel) (by decide +kernel)
set_option maxRecDepth 20000 in
theorem gL_law_X8_count : GoodIn wsL_law (wsV RL 121 RX8 yX8_count wsX8_count) := goodIn_app (goodIn_of _ (by decide +kernel)) ggL_law_X8_count

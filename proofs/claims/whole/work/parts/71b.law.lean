theorem inJ10 : ∀ w ∈ wsJ100, w ∈ lw_tbl := by decide +kernel
theorem inJ7 : ∀ w ∈ wsJ70, w ∈ lw_tbl := by decide +kernel
set_option maxRecDepth 20000 in
theorem ggL_law_X6_init : GoodIn wsL_law wsX6_init := goodIn_r _ [9, 10, 11, 12, 13, 14, 15, 16, 17, 18, 19, 20, 21, 22, 23, 24, 25, 26, 27, 28, 29, 30, 31, 32, 33, 34, 35, 36, 37, 38, 39, 40, 41, 42, 43, 44, 45, 46, 47, 48, 49, 50, 51, 52, 53, 54, 55, 56, 57, 58, 59, 60, 61, 62, 63, 64, 65, 66, 67, 68, 69, 70, 71, 72, 73, 74, 75, 76, 77, 78, 79, 80, 81, 82, 83, 84, 85, 86, 688, 689, 690, 691, 646, 647, 648, 649, 650, 651, 652, 653, 654, 692, 693, 694, 695, 696, 697, 698, 699, 700, 701, 702, 703, 704, 705, 706, 707, 708, 709, 710, 711, 712, 713] (by decide +kernel) (by decide +kernel)
set_option maxRecDepth 20000 in
theorem gL_law_X6_init : GoodIn wsL_law (wsX6_init) := ggL_law_X6_init
set_option maxRecDepth 20000 in
theorem ggL_law_X7_init : GoodIn wsL_law wsX7_init := goodIn_r _ [89, 90, 11, 12, 91, 25, 92, 93, 94, 95, 96, 97, 98, 99, 100, 101, 102, 103, 104, 105, 106, 107, 108, 109, 110, 111, 112, 113, 114, 5, 115, 116, 117, 118, 119, 120, 121, 122, 123, 124, 125, 126, 127, 128, 655, 656, 657, 658, 659, 660, 661, 662, 663, 664, 665, 666, 667, 668, 669, 670, 671, 672, 673, 674, 675, 676, 677, 678, 679, 680, 681, 682, 683, 684, 685, 686, 687] (by decide +kernel) (by decide +kernel)
set_option maxRecDepth 20000 in
theorem gL_law_X7_init : GoodIn wsL_law (wsX7_init) := ggL_law_X7_init
set_option maxRecDepth 20000 in
theorem ggL_law_X6_floor : GoodIn wsL_law wsX6_floor := goodIn_r _ [132, 133, 16, 20, 30, 34, 134, 135, 136, 2, 137, 138, 139, 140, 15, 141, 42, 43, 45, 46, 142, 143, 144, 145, 76, 77, 78, 79, 80, 81, 82, 19, 83, 51, 84, 85, 86, 146, 147, 148, 29, 149, 150, 151, 152, 153, 33, 154, 155, 646, 647, 648, 649, 650, 651, 652, 653, 654, 688, 689, 690, 691, 692, 693, 694, 699, 700, 701, 702, 703, 704, 705, 706, 707, 708, 709, 710] (by decide +kernel) (by decide +kernel)
set_option maxRecDepth 20000 in
theorem gL_law_X6_floor : GoodIn wsL_law (wsV RL 13 RX6 yX6_floor wsX6_floor) := goodIn_app (goodIn_of _ (by decide +kernel)) ggL_law_X6_floor
set_option maxRecDepth 20000 in
theorem ggL_law_X7_floor : GoodIn wsL_law wsX7_floor := goodIn_r _ [115, 116, 117, 118, 91, 92, 93, 94, 119, 120, 121, 122, 123, 5, 124, 125, 126, 127, 128, 655, 656, 657, 658, 659, 660, 661, 662, 663, 664, 665, 666, 667, 668, 669, 670, 671, 672, 673, 674, 675, 676, 677, 678, 679, 680, 681, 682, 683, 684, 685, 686, 687] (by decide +kernel) (by decide +kernel)
set_option maxRecDepth 20000 in
theorem gL_law_X7_floor : GoodIn wsL_law (wsV RL 17 RX7 yX7_floor wsX7_floor) := goodIn_app (goodIn_of _ (by decide +kernel)) ggL_law_X7_floor
set_option maxRecDepth 20000 in
theorem ggL_law_X6_type : GoodIn wsL_law wsX6_type := goodIn_r _ [160, 20, 135, 136, 2, 137, 161, 162, 163, 19, 164, 165, 166, 167, 168, 169, 52, 646, 647, 648, 649, 650, 651, 652, 653, 654, 692, 693, 694] (by decide +kernel) (by decide +kernel)
set_option maxRecDepth 20000 in
theorem gL_law_X6_type : GoodIn wsL_law (wsV RL 20 RX6 yX6_type wsX6_type) := goodIn_app (goodIn_of _ (by decide +kernel)) ggL_law_X6_type
set_option maxRecDepth 20000 in
theorem ggL_law_X7_type : GoodIn wsL_law wsX7_type := goodIn_r _ [173, 174, 95, 175, 122, 123, 5, 124, 655, 656, 657, 658, 659, 660, 661, 662, 663, 664, 665, 666, 667, 668, 669, 670, 671, 672, 673, 674, 675, 676, 677, 678, 679, 680, 681, 682, 683, 684, 685, 686, 687] (by decide +kernel) (by decide +kernel)
set_option maxRecDepth 20000 in
theorem gL_law_X7_type : GoodIn wsL_law (wsV RL 24 RX7 yX7_type wsX7_type) := goodIn_app (goodIn_of _ (by decide +kernel)) ggL_law_X7_type
set_option maxRecDepth 20000 in
theorem ggL_law_X6_rule : GoodIn wsL_law wsX6_rule := goodIn_r _ [179, 20, 16, 180, 34, 181, 182, 2, 183, 135, 136, 137, 76, 77, 78, 15, 79, 42, 184, 185, 186, 19, 187, 165, 52, 51, 84, 85, 86, 188, 189, 190, 33, 191, 192, 646, 647, 648, 649, 650, 651, 652, 653, 654, 688, 689, 690, 691, 692, 693, 694, 704, 705, 706, 707, 708, 709, 710] (by decide +kernel) (by decide +kernel)
set_option maxRecDepth 20000 in
theorem gL_law_X6_rule : GoodIn wsL_law (wsV RL 25 RX6 yX6_rule wsX6_rule) := goodIn_app (goodIn_of _ (by decide +kernel)) ggL_law_X6_rule
set_option maxRecDepth 20000 in
theorem ggL_law_X7_rule : GoodIn wsL_law wsX7_rule := goodIn_r _ [196, 174, 118, 95, 94, 197, 122, 123, 5, 124, 198, 199, 200, 201, 125, 126, 127, 128, 117, 655, 656, 657, 658, 659, 660, 661, 662, 663, 664, 665, 666, 667, 668, 669, 670, 671, 672, 673, 674, 675, 676, 677, 678, 679, 680, 681, 682, 683, 684, 685, 686, 687] (by decide +kernel) (by decide +kernel)
set_option maxRecDepth 20000 in
theorem gL_law_X7_rule : GoodIn wsL_law (wsV RL 29 RX7 yX7_rule wsX7_rule) := goodIn_app (goodIn_of _ (by decide +kernel)) ggL_law_X7_rule
set_option maxRecDepth 20000 in
theorem ggL_law_X6_ant : GoodIn wsL_law wsX6_ant := goodIn_r _ [205, 16, 133, 22, 34, 206, 207, 2, 208, 76, 77, 78, 15, 79, 42, 135, 136, 137, 181, 182, 183, 209, 210, 211, 24, 212, 213, 214, 215, 216, 188, 189, 190, 33, 191, 192, 646, 647, 648, 649, 650, 651, 652, 653, 654, 688, 689, 690, 691, 695, 696, 697, 698, 704, 705, 706, 707, 708, 709, 710] (by decide +kernel) (by decide +kernel)
set_option maxRecDepth 20000 in
theorem gL_law_X6_ant : GoodIn wsL_law (wsV RL 30 RX6 yX6_ant wsX6_ant) := goodIn_app (goodIn_of _ (by decide +kernel)) ggL_law_X6_ant
set_option maxRecDepth 20000 in
theorem ggL_law_X7_ant : GoodIn wsL_law wsX7_ant := goodIn_r _ [220, 116, 96, 97, 98, 99, 197, 221, 222, 5, 223, 122, 123, 124, 125, 126, 127, 128, 117, 655, 656, 657, 658, 659, 660, 661, 662, 663, 664, 665, 666, 667, 668, 669, 670, 671, 672, 673, 674, 675, 676, 677, 678, 679, 680, 681, 682, 683, 684, 685, 686, 687] (by decide +kernel) (by decide +kernel)
set_option maxRecDepth 20000 in
theorem gL_law_X7_ant : GoodIn wsL_law (wsV RL 34 RX7 yX7_ant wsX7_ant) := goodIn_app (goodIn_of _ (by decide +kernel)) ggL_law_X7_ant
set_option maxRecDepth 20000 in
theorem ggL_law_X6_less : GoodIn wsL_law wsX6_less := goodIn_r _ [227, 133, 34, 188, 189, 190, 33, 191, 192, 646, 647, 648, 649, 650, 651, 652, 653, 654, 704, 705, 706, 707, 708, 709, 710] (by decide +kernel) (by decide +kernel)
set_option maxRecDepth 20000 in
theorem gL_law_X6_less : GoodIn wsL_law (wsV RL 35 RX6 yX6_less wsX6_less) := goodIn_app (goodIn_of _ (by decide +kernel)) ggL_law_X6_less
set_option maxRecDepth 20000 in
theorem ggL_law_X7_less : GoodIn wsL_law wsX7_less := goodIn_r _ [231, 116, 197, 655, 656, 657, 658, 659, 660, 661, 662, 663, 664, 665, 666, 667, 668, 669, 670, 671, 672, 673, 674, 675, 676, 677, 678, 679, 680, 681, 682, 683, 684, 685, 686, 687] (by decide +kernel) (by decide +kernel)
set_option maxRecDepth 20000 in
theorem gL_law_X7_less : GoodIn wsL_law (wsV RL 39 RX7 yX7_less wsX7_less) := goodIn_app (goodIn_of _ (by decide +kernel)) ggL_law_X7_less
set_option maxRecDepth 20000 in
theorem ggL_law_X6_paint : GoodIn wsL_law wsX6_paint := goodIn_r _ [235, 16, 180, 236, 34, 237, 238, 2, 239, 206, 207, 208, 135, 136, 137, 188, 189, 190, 33, 191, 192, 646, 647, 648, 649, 650, 651, 652, 653, 654, 688, 689, 690, 691, 704, 705, 706, 707, 708, 709, 710] (by decide +kernel) (by decide +kernel)
set_option maxRecDepth 20000 in
theorem gL_law_X6_paint : GoodIn wsL_law (wsV RL 40 RX6 yX6_paint wsX6_paint) := goodIn_app (goodIn_of _ (by decide +kernel)) ggL_law_X6_paint
set_option maxRecDepth 20000 in
theorem ggL_law_X7_paint : GoodIn wsL_law wsX7_paint := goodIn_r _ [243, 118, 92, 197, 221, 222, 5, 223, 122, 123, 124, 244, 245, 246, 655, 656, 657, 658, 659, 660, 661, 662, 663, 664, 665, 666, 667, 668, 669, 670, 671, 672, 673, 674, 675, 676, 677, 678, 679, 680, 681, 682, 683, 684, 685, 686, 687] (by decide +kernel) (by decide +kernel)
set_option maxRecDepth 20000 in
theorem gL_law_X7_paint : GoodIn wsL_law (wsV RL 44 RX7 yX7_paint wsX7_paint) := goodIn_app (goodIn_of _ (by decide +kernel)) ggL_law_X7_paint
set_option maxRecDepth 20000 in
theorem ggL_law_X6_colour : GoodIn wsL_law wsX6_colour := goodIn_r _ [250, 16, 236, 237, 238, 2, 239, 206, 207, 208, 646, 647, 648, 649, 650, 651, 652, 653, 654, 688, 689, 690, 691] (by decide +kernel) (by decide +kernel)
set_option maxRecDepth 20000 in
theorem gL_law_X6_colour : GoodIn wsL_law (wsV RL 45 RX6 yX6_colour wsX6_colour) := goodIn_app (goodIn_of _ (by decide +kernel)) ggL_law_X6_colour
set_option maxRecDepth 20000 in
theorem ggL_law_X7_colour : GoodIn wsL_law wsX7_colour := goodIn_r _ [254, 92, 221, 222, 5, 223, 122, 123, 124, 244, 245, 246, 655, 656, 657, 658, 659, 660, 661, 662, 663, 664, 665, 666, 667, 668, 669, 670, 671, 672, 673, 674, 675, 676, 677, 678, 679, 680, 681, 682, 683, 684, 685, 686, 687] (by decide +kernel) (by decide +kernel)
set_option maxRecDepth 20000 in
theorem gL_law_X7_colour : GoodIn wsL_law (wsV RL 48 RX7 yX7_colour wsX7_colour) := goodIn_app (goodIn_of _ (by decide +kernel)) ggL_law_X7_colour
set_option maxRecDepth 20000 in
theorem ggL_law_X6_told : GoodIn wsL_law wsX6_told := goodIn_r _ [258, 133, 22, 259, 260, 261, 262, 135, 136, 2, 137, 646, 647, 648, 649, 650, 651, 652, 653, 654, 695, 696, 697, 698] (by decide +kernel) (by decide +kernel)
set_option maxRecDepth 20000 in
theorem gL_law_X6_told : GoodIn wsL_law (wsV RL 49 RX6 yX6_told wsX6_told) := goodIn_app (goodIn_of _ (by decide +kernel)) ggL_law_X6_told
set_option maxRecDepth 20000 in
theorem ggL_law_X7_told : GoodIn wsL_law wsX7_told := goodIn_r _ [266, 116, 96, 97, 98, 99, 122, 123, 5, 124, 655, 656, 657, 658, 659, 660, 661, 662, 663, 664, 665, 666, 667, 668, 669, 670, 671, 672, 673, 674, 675, 676, 677, 678, 679, 680, 681, 682, 683, 684, 685, 686, 687] (by decide +kernel) (by decide +kernel)
set_option maxRecDepth 20000 in
theorem gL_law_X7_told : GoodIn wsL_law (wsV RL 52 RX7 yX7_told wsX7_told) := goodIn_app (goodIn_of _ (by decide +kernel)) ggL_law_X7_told
set_option maxRecDepth 20000 in
theorem ggL_law_X6_run : GoodIn wsL_law wsX6_run := goodIn_r _ [270, 135, 136, 2, 137, 271, 272, 273, 274, 133, 26, 22, 259, 260, 134, 34, 237, 238, 239, 206, 207, 208, 275, 276, 277, 278, 16, 236, 261, 20, 279, 262, 180, 280, 281, 282, 283, 15, 284, 285, 77, 78, 79, 42, 286, 287, 288, 289, 290, 291, 292, 293, 209, 210, 211, 24, 212, 213, 214, 215, 216, 294, 295, 296, 297, 298, 299, 300, 301, 302, 303, 304, 33, 305, 155, 70, 306, 307, 308, 309, 310, 30, 311, 312, 313, 314, 315, 316, 317, 29, 318, 150, 59, 60, 61, 62, 319, 320, 321, 322, 323, 324, 325, 326, 188, 189, 190, 191, 192, 646, 647, 648, 649, 650, 651, 652, 653, 654, 695, 696, 697, 698, 688, 689, 690, 691, 692, 693, 694, 704, 705, 706, 707, 708, 709, 710, 699, 700, 701, 702, 703] (by decide +kernel) (by decide +kernel)
set_option maxRecDepth 20000 in
theorem gL_law_X6_run : GoodIn wsL_law (wsV RL 53 RX6 yX6_run wsX6_run) := goodIn_app (goodIn_of _ (by decide +kernel)) ggL_law_X6_run
set_option maxRecDepth 20000 in
theorem ggL_law_X7_run : GoodIn wsL_law wsX7_run := goodIn_r _ [330, 122, 123, 5, 124, 331, 332, 333, 334, 116, 93, 100, 106, 119, 335, 336, 337, 338, 96, 97, 92, 98, 94, 99, 118, 244, 245, 246, 125, 126, 127, 128, 117, 339, 340, 341, 342, 343, 344, 345, 346, 221, 222, 223, 347, 348, 349, 350, 351, 352, 353, 354, 120, 101, 102, 103, 104, 355, 356, 357, 358, 359, 655, 656, 657, 658, 659, 660, 661, 662, 663, 664, 665, 666, 667, 668, 669, 670, 671, 672, 673, 674, 675, 676, 677, 678, 679, 680, 681, 682, 683, 684, 685, 686, 687] (by decide +kernel) (by decide +kernel)
set_option maxRecDepth 20000 in
theorem gL_law_X7_run : GoodIn wsL_law (wsV RL 56 RX7 yX7_run wsX7_run) := goodIn_app (goodIn_of _ (by decide +kernel)) ggL_law_X7_run
set_option maxRecDepth 20000 in
theorem ggL_law_X6_time : GoodIn wsL_law wsX6_time := goodIn_r _ [363, 134, 646, 647, 648, 649, 650, 651, 652, 653, 654] (by decide +kernel) (by decide +kernel)
set_option maxRecDepth 20000 in
theorem gL_law_X6_time : GoodIn wsL_law (wsV RL 57 RX6 yX6_time wsX6_time) := goodIn_app (goodIn_of _ (by decide +kernel)) ggL_law_X6_time
set_option maxRecDepth 20000 in
theorem ggL_law_X7_time : GoodIn wsL_law wsX7_time := goodIn_r _ [367, 119, 655, 656, 657, 658, 659, 660, 661, 662, 663, 664, 665, 666, 667, 668, 669, 670, 671, 672, 673, 674, 675, 676, 677, 678, 679, 680, 681, 682, 683, 684, 685, 686, 687] (by decide +kernel) (by decide +kernel)
set_option maxRecDepth 20000 in
theorem gL_law_X7_time : GoodIn wsL_law (wsV RL 60 RX7 yX7_time wsX7_time) := goodIn_app (goodIn_of _ (by decide +kernel)) ggL_law_X7_time
set_option maxRecDepth 20000 in
theorem ggL_law_X6_meeting : GoodIn wsL_law wsX6_meeting := goodIn_r _ [371, 30, 372, 373, 374, 375, 376, 377, 378, 379, 29, 380, 150, 135, 136, 2, 137, 646, 647, 648, 649, 650, 651, 652, 653, 654, 699, 700, 701, 702, 703] (by decide +kernel) (by decide +kernel)
set_option maxRecDepth 20000 in
theorem gL_law_X6_meeting : GoodIn wsL_law (wsV RL 61 RX6 yX6_meeting wsX6_meeting) := goodIn_app (goodIn_of _ (by decide +kernel)) ggL_law_X6_meeting
set_option maxRecDepth 20000 in
theorem ggL_law_X7_meeting : GoodIn wsL_law wsX7_meeting := goodIn_r _ [384, 120, 385, 101, 102, 103, 104, 122, 123, 5, 124, 655, 656, 657, 658, 659, 660, 661, 662, 663, 664, 665, 666, 667, 668, 669, 670, 671, 672, 673, 674, 675, 676, 677, 678, 679, 680, 681, 682, 683, 684, 685, 686, 687] (by decide +kernel) (by decide +kernel)
set_option maxRecDepth 20000 in
theorem gL_law_X7_meeting : GoodIn wsL_law (wsV RL 64 RX7 yX7_meeting wsX7_meeting) := goodIn_app (goodIn_of _ (by decide +kernel)) ggL_law_X7_meeting
set_option maxRecDepth 20000 in
theorem ggL_law_X6_visits : GoodIn wsL_law wsX6_visits := goodIn_r _ [389, 390, 16, 280, 237, 238, 2, 239, 206, 207, 208, 646, 647, 648, 649, 650, 651, 652, 653, 654, 688, 689, 690, 691] (by decide +kernel) (by decide +kernel)
set_option maxRecDepth 20000 in
theorem gL_law_X6_visits : GoodIn wsL_law (wsV RL 65 RX6 yX6_visits wsX6_visits) := goodIn_app (goodIn_of _ (by decide +kernel)) ggL_law_X6_visits
set_option maxRecDepth 20000 in
theorem ggL_law_X7_visits : GoodIn wsL_law wsX7_visits := goodIn_r _ [394, 93, 395, 221, 222, 5, 223, 122, 123, 124, 244, 245, 246, 655, 656, 657, 658, 659, 660, 661, 662, 663, 664, 665, 666, 667, 668, 669, 670, 671, 672, 673, 674, 675, 676, 677, 678, 679, 680, 681, 682, 683, 684, 685, 686, 687] (by decide +kernel) (by decide +kernel)
set_option maxRecDepth 20000 in
theorem gL_law_X7_visits : GoodIn wsL_law (wsV RL 68 RX7 yX7_visits wsX7_visits) := goodIn_app (goodIn_of _ (by decide +kernel)) ggL_law_X7_visits
set_option maxRecDepth 20000 in
theorem ggL_law_X6_count : GoodIn wsL_law wsX6_count := goodIn_r _ [399, 133, 400, 16, 236, 30, 401, 280, 180, 402, 403, 404, 2, 405, 135, 136, 137, 646, 647, 648, 649, 650, 651, 652, 653, 654, 688, 689, 690, 691, 699, 700, 701, 702, 703] (by decide +kernel) (by decide +kernel)
set_option maxRecDepth 20000 in
theorem gL_law_X6_count : GoodIn wsL_law (wsV RL 69 RX6 yX6_count wsX6_count) := goodIn_app (goodIn_of _ (by decide +kernel)) ggL_law_X6_count
set_option maxRecDepth 20000 in
theorem ggL_law_X7_count : GoodIn wsL_law wsX7_count := goodIn_r _ [409, 118, 91, 92, 93, 116, 120, 117, 122, 123, 5, 124, 655, 656, 657, 658, 659, 660, 661, 662, 663, 664, 665, 666, 667, 668, 669, 670, 671, 672, 673, 674, 675, 676, 677, 678, 679, 680, 681, 682, 683, 684, 685, 686, 687] (by decide +kernel) (by decide +kernel)
set_option maxRecDepth 20000 in
theorem gL_law_X7_count : GoodIn wsL_law (wsV RL 72 RX7 yX7_count wsX7_count) := goodIn_app (goodIn_of _ (by decide +kernel)) ggL_law_X7_count
set_option maxRecDepth 20000 in
theorem ggL_law_X6_bounds : GoodIn wsL_law wsX6_bounds := goodIn_r _ [413, 16, 414, 415, 416, 15, 417, 418, 419, 420, 421, 44, 45, 422, 423, 2, 424, 425, 426, 427, 428, 429, 430, 431, 432, 433, 434, 435, 436, 437, 646, 647, 648, 649, 650, 651, 652, 653, 654, 688, 689, 690, 691] (by decide +kernel) (by decide +kernel)
set_option maxRecDepth 20000 in
theorem gL_law_X6_bounds : GoodIn wsL_law (wsV RL 73 RX6 yX6_bounds wsX6_bounds) := goodIn_app (goodIn_of _ (by decide +kernel)) ggL_law_X6_bounds
set_option maxRecDepth 20000 in
theorem ggL_law_X7_bounds : GoodIn wsL_law wsX7_bounds := goodIn_r _ [441, 91, 92, 122, 123, 5, 124, 655, 656, 657, 658, 659, 660, 661, 662, 663, 664, 665, 666, 667, 668, 669, 670, 671, 672, 673, 674, 675, 676, 677, 678, 679, 680, 681, 682, 683, 684, 685, 686, 687] (by decide +kernel) (by decide +kernel)
set_option maxRecDepth 20000 in
theorem gL_law_X7_bounds : GoodIn wsL_law (wsV RL 76 RX7 yX7_bounds wsX7_bounds) := goodIn_app (goodIn_of _ (by decide +kernel)) ggL_law_X7_bounds
set_option maxRecDepth 20000 in
theorem ggL_law_X6_digest : GoodIn wsL_law wsX6_digest := goodIn_r _ [445, 446, 447, 16, 236, 133, 22, 259, 260, 261, 262, 646, 647, 648, 649, 650, 651, 652, 653, 654, 688, 689, 690, 691, 695, 696, 697, 698] (by decide +kernel) (by decide +kernel)
set_option maxRecDepth 20000 in
theorem gL_law_X6_digest : GoodIn wsL_law (wsV RL 77 RX6 yX6_digest wsX6_digest) := goodIn_app (goodIn_of _ (by decide +kernel)) ggL_law_X6_digest
set_option maxRecDepth 20000 in
theorem ggL_law_X7_digest : GoodIn wsL_law wsX7_digest := goodIn_r _ [451, 452, 453, 92, 116, 96, 97, 98, 99, 244, 245, 5, 246, 655, 656, 657, 658, 659, 660, 661, 662, 663, 664, 665, 666, 667, 668, 669, 670, 671, 672, 673, 674, 675, 676, 677, 678, 679, 680, 681, 682, 683, 684, 685, 686, 687] (by decide +kernel) (by decide +kernel)
set_option maxRecDepth 20000 in
theorem gL_law_X7_digest : GoodIn wsL_law (wsV RL 81 RX7 yX7_digest wsX7_digest) := goodIn_app (goodIn_of _ (by decide +kernel)) ggL_law_X7_digest
set_option maxRecDepth 20000 in
theorem ggL_law_X6_mark : GoodIn wsL_law wsX6_mark := goodIn_r _ [457, 34, 16, 236, 22, 134, 458, 459, 460, 33, 461, 155, 192, 462, 67, 463, 464, 465, 466, 69, 68, 467, 468, 469, 470, 70, 306, 471, 210, 211, 24, 212, 213, 214, 215, 216, 472, 143, 144, 145, 646, 647, 648, 649, 650, 651, 652, 653, 654, 688, 689, 690, 691, 704, 705, 706, 707, 708, 709, 710, 695, 696, 697, 698] (by decide +kernel) (by decide +kernel)
set_option maxRecDepth 20000 in
theorem gL_law_X6_mark : GoodIn wsL_law (wsV RL 82 RX6 yX6_mark wsX6_mark) := goodIn_app (goodIn_of _ (by decide +kernel)) ggL_law_X6_mark
set_option maxRecDepth 20000 in
theorem ggL_law_X7_mark : GoodIn wsL_law wsX7_mark := goodIn_r _ [476, 121, 197, 359, 91, 107, 92, 106, 119, 477, 96, 478, 97, 479, 98, 480, 99, 481, 655, 656, 657, 658, 659, 660, 661, 662, 663, 664, 665, 666, 667, 668, 669, 670, 671, 672, 673, 674, 675, 676, 677, 678, 679, 680, 681, 682, 683, 684, 685, 686, 687] (by decide +kernel) (by decide +kernel)
set_option maxRecDepth 20000 in
theorem gL_law_X7_mark : GoodIn wsL_law (wsV RL 85 RX7 yX7_mark wsX7_mark) := goodIn_app (goodIn_of _ (by decide +kernel)) ggL_law_X7_mark
set_option maxRecDepth 20000 in
theorem ggL_law_X6_road : GoodIn wsL_law wsX6_road := goodIn_r _ [485, 34, 486, 487, 134, 488, 22, 259, 489, 260, 135, 136, 2, 137, 490, 491, 492, 493, 133, 494, 495, 496, 497, 24, 498, 215, 216, 499, 500, 501, 502, 400, 503, 504, 505, 506, 507, 508, 16, 236, 206, 207, 208, 509, 510, 511, 237, 238, 239, 646, 647, 648, 649, 650, 651, 652, 653, 654, 704, 705, 706, 707, 708, 709, 710, 695, 696, 697, 698, 688, 689, 690, 691] (by decide +kernel) (by decide +kernel)
set_option maxRecDepth 20000 in
theorem gL_law_X6_road : GoodIn wsL_law (wsV RL 86 RX6 yX6_road wsX6_road) := goodIn_app (goodIn_of _ (by decide +kernel)) ggL_law_X6_road
set_option maxRecDepth 20000 in
theorem ggL_law_X7_road : GoodIn wsL_law wsX7_road := goodIn_r _ [515, 121, 91, 106, 119, 477, 96, 478, 97, 479, 122, 123, 5, 124, 516, 517, 518, 519, 116, 197, 359, 98, 480, 99, 481, 520, 521, 522, 523, 221, 222, 223, 524, 525, 526, 527, 92, 244, 245, 246, 528, 529, 530, 531, 107, 655, 656, 657, 658, 659, 660, 661, 662, 663, 664, 665, 666, 667, 668, 669, 670, 671, 672, 673, 674, 675, 676, 677, 678, 679, 680, 681, 682, 683, 684, 685, 686, 687] (by decide +kernel) (by decide +kernel)
set_option maxRecDepth 20000 in
theorem gL_law_X7_road : GoodIn wsL_law (wsV RL 89 RX7 yX7_road wsX7_road) := goodIn_app (goodIn_of _ (by decide +kernel)) ggL_law_X7_road
set_option maxRecDepth 20000 in
theorem ggL_law_X6_differ : GoodIn wsL_law wsX6_differ := goodIn_r _ [535, 34, 486, 400, 16, 236, 508, 646, 647, 648, 649, 650, 651, 652, 653, 654, 704, 705, 706, 707, 708, 709, 710, 688, 689, 690, 691] (by decide +kernel) (by decide +kernel)
set_option maxRecDepth 20000 in
theorem gL_law_X6_differ : GoodIn wsL_law (wsV RL 90 RX6 yX6_differ wsX6_differ) := goodIn_app (goodIn_of _ (by decide +kernel)) ggL_law_X6_differ
set_option maxRecDepth 20000 in
theorem ggL_law_X7_differ : GoodIn wsL_law wsX7_differ := goodIn_r _ [539, 121, 91, 92, 107, 655, 656, 657, 658, 659, 660, 661, 662, 663, 664, 665, 666, 667, 668, 669, 670, 671, 672, 673, 674, 675, 676, 677, 678, 679, 680, 681, 682, 683, 684, 685, 686, 687] (by decide +kernel) (by decide +kernel)
set_option maxRecDepth 20000 in
theorem gL_law_X7_differ : GoodIn wsL_law (wsV RL 93 RX7 yX7_differ wsX7_differ) := goodIn_app (goodIn_of _ (by decide +kernel)) ggL_law_X7_differ
set_option maxRecDepth 20000 in
theorem ggL_law_X6_like : GoodIn wsL_law wsX6_like := goodIn_r _ [543, 16, 402, 135, 136, 2, 137, 544, 545, 546, 547, 400, 236, 548, 549, 550, 551, 552, 553, 554, 555, 556, 557, 509, 510, 511, 237, 238, 239, 206, 207, 208, 646, 647, 648, 649, 650, 651, 652, 653, 654, 688, 689, 690, 691] (by decide +kernel) (by decide +kernel)
set_option maxRecDepth 20000 in
theorem gL_law_X6_like : GoodIn wsL_law (wsV RL 94 RX6 yX6_like wsX6_like) := goodIn_app (goodIn_of _ (by decide +kernel)) ggL_law_X6_like
set_option maxRecDepth 20000 in
theorem ggL_law_X7_like : GoodIn wsL_law wsX7_like := goodIn_r _ [561, 117, 91, 92, 122, 123, 5, 124, 524, 525, 526, 527, 221, 222, 223, 244, 245, 246, 655, 656, 657, 658, 659, 660, 661, 662, 663, 664, 665, 666, 667, 668, 669, 670, 671, 672, 673, 674, 675, 676, 677, 678, 679, 680, 681, 682, 683, 684, 685, 686, 687] (by decide +kernel) (by decide +kernel)
set_option maxRecDepth 20000 in
theorem gL_law_X7_like : GoodIn wsL_law (wsV RL 97 RX7 yX7_like wsX7_like) := goodIn_app (goodIn_of _ (by decide +kernel)) ggL_law_X7_like
set_option maxRecDepth 20000 in
theorem ggL_law_X6_sheet : GoodIn wsL_law wsX6_sheet := goodIn_r _ [565, 36, 566, 567, 2, 568, 135, 136, 137, 569, 570, 571, 572, 573, 574, 38, 575, 74, 576, 75, 577, 143, 144, 145, 646, 647, 648, 649, 650, 651, 652, 653, 654, 711, 712, 713] (by decide +kernel) (by decide +kernel)
set_option maxRecDepth 20000 in
theorem gL_law_X6_sheet : GoodIn wsL_law (wsV RL 98 RX6 yX6_sheet wsX6_sheet) := goodIn_app (goodIn_of _ (by decide +kernel)) ggL_law_X6_sheet
set_option maxRecDepth 20000 in
theorem ggL_law_X7_sheet : GoodIn wsL_law wsX7_sheet := goodIn_r _ [581, 108, 109, 110, 582, 583, 5, 584, 122, 123, 124, 655, 656, 657, 658, 659, 660, 661, 662, 663, 664, 665, 666, 667, 668, 669, 670, 671, 672, 673, 674, 675, 676, 677, 678, 679, 680, 681, 682, 683, 684, 685, 686, 687] (by decide +kernel) (by decide +kernel)
set_option maxRecDepth 20000 in
theorem gL_law_X7_sheet : GoodIn wsL_law (wsV RL 101 RX7 yX7_sheet wsX7_sheet) := goodIn_app (goodIn_of _ (by decide +kernel)) ggL_law_X7_sheet
set_option maxRecDepth 20000 in
theorem ggL_law_X6_drop : GoodIn wsL_law wsX6_drop := goodIn_r _ [588, 36, 589, 566, 567, 2, 568, 135, 136, 137, 590, 591, 592, 38, 593, 74, 572, 573, 574, 575, 576, 75, 577, 143, 144, 145, 646, 647, 648, 649, 650, 651, 652, 653, 654, 711, 712, 713] (by decide +kernel) (by decide +kernel)
set_option maxRecDepth 20000 in
theorem gL_law_X6_drop : GoodIn wsL_law (wsV RL 102 RX6 yX6_drop wsX6_drop) := goodIn_app (goodIn_of _ (by decide +kernel)) ggL_law_X6_drop
set_option maxRecDepth 20000 in
theorem ggL_law_X7_drop : GoodIn wsL_law wsX7_drop := goodIn_r _ [597, 108, 109, 582, 583, 5, 584, 122, 123, 124, 655, 656, 657, 658, 659, 660, 661, 662, 663, 664, 665, 666, 667, 668, 669, 670, 671, 672, 673, 674, 675, 676, 677, 678, 679, 680, 681, 682, 683, 684, 685, 686, 687] (by decide +kernel) (by decide +kernel)
set_option maxRecDepth 20000 in
theorem gL_law_X7_drop : GoodIn wsL_law (wsV RL 105 RX7 yX7_drop wsX7_drop) := goodIn_app (goodIn_of _ (by decide +kernel)) ggL_law_X7_drop
set_option maxRecDepth 20000 in
theorem ggL_law_X6_item : GoodIn wsL_law wsX6_item := goodIn_r _ [601, 36, 602, 566, 567, 2, 568, 135, 136, 137, 569, 570, 571, 603, 604, 605, 38, 606, 74, 607, 591, 592, 593, 608, 609, 610, 611, 576, 612, 613, 614, 615, 646, 647, 648, 649, 650, 651, 652, 653, 654, 711, 712, 713] (by decide +kernel) (by decide +kernel)
set_option maxRecDepth 20000 in
theorem gL_law_X6_item : GoodIn wsL_law (wsV RL 106 RX6 yX6_item wsX6_item) := goodIn_app (goodIn_of _ (by decide +kernel)) ggL_law_X6_item
set_option maxRecDepth 20000 in
theorem ggL_law_X7_item : GoodIn wsL_law wsX7_item := goodIn_r _ [619, 108, 109, 110, 582, 583, 5, 584, 122, 123, 124, 655, 656, 657, 658, 659, 660, 661, 662, 663, 664, 665, 666, 667, 668, 669, 670, 671, 672, 673, 674, 675, 676, 677, 678, 679, 680, 681, 682, 683, 684, 685, 686, 687] (by decide +kernel) (by decide +kernel)
set_option maxRecDepth 20000 in
theorem gL_law_X7_item : GoodIn wsL_law (wsV RL 109 RX7 yX7_item wsX7_item) := goodIn_app (goodIn_of _ (by decide +kernel)) ggL_law_X7_item
set_option maxRecDepth 20000 in
theorem ggL_law_X6_lay : GoodIn wsL_law wsX6_lay := goodIn_r _ [623, 36, 16, 180, 602, 236, 624, 468, 469, 470, 34, 566, 567, 2, 568, 135, 136, 137, 569, 570, 571, 603, 604, 605, 38, 606, 74, 607, 591, 592, 593, 608, 609, 610, 611, 576, 237, 238, 239, 206, 207, 208, 625, 626, 627, 628, 75, 188, 189, 190, 33, 191, 192, 646, 647, 648, 649, 650, 651, 652, 653, 654, 688, 689, 690, 691, 711, 712, 713, 704, 705, 706, 707, 708, 709, 710] (by decide +kernel) (by decide +kernel)
set_option maxRecDepth 20000 in
theorem gL_law_X6_lay : GoodIn wsL_law (wsV RL 110 RX6 yX6_lay wsX6_lay) := goodIn_app (goodIn_of _ (by decide +kernel)) ggL_law_X6_lay
set_option maxRecDepth 20000 in
theorem ggL_law_X7_lay : GoodIn wsL_law wsX7_lay := goodIn_r _ [632, 108, 110, 118, 92, 197, 582, 583, 5, 584, 122, 123, 124, 633, 634, 635, 636, 109, 244, 245, 246, 655, 656, 657, 658, 659, 660, 661, 662, 663, 664, 665, 666, 667, 668, 669, 670, 671, 672, 673, 674, 675, 676, 677, 678, 679, 680, 681, 682, 683, 684, 685, 686, 687] (by decide +kernel) (by decide +kernel)
set_option maxRecDepth 20000 in
theorem gL_law_X7_lay : GoodIn wsL_law (wsV RL 114 RX7 yX7_lay wsX7_lay) := goodIn_app (goodIn_of _ (by decide +kernel)) ggL_law_X7_lay
set_option maxRecDepth 20000 in
theorem ggL_law_X6_copy : GoodIn wsL_law wsX6_copy := goodIn_r _ [640, 36, 641, 602, 624, 468, 469, 470, 566, 567, 2, 568, 135, 136, 137, 590, 591, 592, 38, 593, 74, 608, 609, 610, 611, 576, 646, 647, 648, 649, 650, 651, 652, 653, 654, 711, 712, 713] (by decide +kernel) (by decide +kernel)
set_option maxRecDepth 20000 in
theorem gL_law_X6_copy : GoodIn wsL_law (wsV RL 115 RX6 yX6_copy wsX6_copy) := goodIn_app (goodIn_of _ (by decide +kernel)) ggL_law_X6_copy
set_option maxRecDepth 20000 in
theorem ggL_law_X7_copy : GoodIn wsL_law wsX7_copy := goodIn_r _ [645, 108, 111, 110, 582, 583, 5, 584, 122, 123, 124, 633, 634, 635, 636, 109, 655, 656, 657, 658, 659, 660, 661, 662, 663, 664, 665, 666, 667, 668, 669, 670, 671, 672, 673, 674, 675, 676, 677, 678, 679, 680, 681, 682, 683, 684, 685, 686, 687] (by decide +kernel) (by decide +kernel)
set_option maxRecDepth 20000 in
theorem gL_law_X7_copy : GoodIn wsL_law (wsV RL 119 RX7 yX7_copy wsX7_copy) := goodIn_app (goodIn_of _ (by decide +kernel)) ggL_law_X7_copy
theorem dL_law_0 : decode cL_law 0 = .ok (.new 7, 3) := by decide +kernel

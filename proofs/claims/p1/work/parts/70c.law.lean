set_option maxRecDepth 20000 in
theorem ggL_law_X8_init : GoodIn wsL_law wsX8_init := goodIn_r _ [8, 9, 10, 11, 12, 13, 14, 15, 16, 17, 18, 19, 20, 21, 22, 23, 24, 25, 26, 27, 28, 29, 30, 31, 32, 33, 34, 35, 36, 37, 38, 39, 40, 41, 42, 43, 44, 45, 46, 47, 48, 49, 50, 51, 52, 53, 54, 55, 56, 57, 58, 59, 60, 61, 62, 63, 64, 65, 66, 67, 68, 69, 70, 71, 72, 73, 74, 75, 76, 77, 78, 2, 79, 80, 81, 82, 83, 84, 85, 86, 87, 88, 89, 90, 91, 92, 93, 94, 95, 96, 97, 98, 99, 100, 101, 102, 103, 104, 105, 106, 107, 108, 109, 110, 111, 112, 113, 114, 115, 744, 745, 746, 747, 748, 749, 750, 702, 703, 704, 705, 706, 707, 708, 709, 710, 711, 751, 752, 753, 754, 755, 756, 757, 758, 759, 760, 761, 762, 763, 764, 765, 766, 767, 768, 769, 770, 771, 772, 773, 774, 775, 776, 777, 778, 779, 780, 781, 782] (by decide +kernel) (by decide +kernel)
set_option maxRecDepth 20000 in
theorem gL_law_X8_init : GoodIn wsL_law (wsX8_init) := ggL_law_X8_init
set_option maxRecDepth 20000 in
theorem ggL_law_X9_init : GoodIn wsL_law wsX9_init := goodIn_r _ [118, 119, 10, 11, 120, 47, 121, 122, 87, 123, 124, 125, 126, 127, 128, 129, 130, 131, 132, 133, 134, 135, 136, 137, 138, 139, 140, 141, 142, 143, 144, 145, 146, 712, 713, 714, 715, 716, 717, 718, 719, 720, 721, 722, 723, 724, 725, 726, 727, 728, 729, 730, 731, 732, 733, 734, 735, 736, 737, 738, 739, 740, 741, 742, 743] (by decide +kernel) (by decide +kernel)
set_option maxRecDepth 20000 in
theorem gL_law_X9_init : GoodIn wsL_law (wsX9_init) := ggL_law_X9_init
set_option maxRecDepth 20000 in
theorem ggL_law_X8_shaft : GoodIn wsL_law wsX8_shaft := goodIn_r _ [150, 15, 33, 151, 152, 153, 14, 154, 54, 48, 49, 51, 52, 155, 156, 157, 158, 159, 2, 160, 78, 79, 80, 81, 82, 83, 55, 56, 57, 58, 50, 59, 60, 61, 62, 63, 64, 10, 11, 47, 65, 66, 67, 68, 69, 70, 71, 72, 73, 74, 75, 76, 77, 161, 162, 163, 164, 165, 166, 167, 32, 168, 169, 702, 703, 704, 705, 706, 707, 708, 709, 710, 711, 744, 745, 746, 747, 748, 749, 750, 778, 779, 780, 781, 782, 761, 762, 763, 764, 765, 766, 767, 768] (by decide +kernel) (by decide +kernel)
set_option maxRecDepth 20000 in
theorem gL_law_X8_shaft : GoodIn wsL_law (wsV RL 13 RX8 yX8_shaft wsX8_shaft) := goodIn_app (goodIn_of _ (by decide +kernel)) ggL_law_X8_shaft
set_option maxRecDepth 20000 in
theorem ggL_law_X9_shaft : GoodIn wsL_law wsX9_shaft := goodIn_r _ [173, 120, 174, 175, 121, 122, 176, 177, 123, 178, 179, 5, 180, 181, 182, 183, 184, 712, 713, 714, 715, 716, 717, 718, 719, 720, 721, 722, 723, 724, 725, 726, 727, 728, 729, 730, 731, 732, 733, 734, 735, 736, 737, 738, 739, 740, 741, 742, 743] (by decide +kernel) (by decide +kernel)
set_option maxRecDepth 20000 in
theorem gL_law_X9_shaft : GoodIn wsL_law (wsV RL 17 RX9 yX9_shaft wsX9_shaft) := goodIn_app (goodIn_of _ (by decide +kernel)) ggL_law_X9_shaft
set_option maxRecDepth 20000 in
theorem ggL_law_X8_ring : GoodIn wsL_law wsX8_ring := goodIn_r _ [188, 15, 33, 189, 190, 191, 14, 192, 193, 53, 155, 156, 157, 158, 54, 159, 2, 160, 194, 195, 196, 197, 50, 59, 60, 61, 62, 63, 64, 10, 11, 47, 65, 66, 67, 68, 69, 70, 71, 72, 48, 49, 73, 74, 75, 76, 77, 78, 79, 80, 81, 82, 83, 198, 199, 200, 201, 202, 203, 204, 205, 206, 207, 208, 209, 165, 166, 167, 32, 168, 169, 702, 703, 704, 705, 706, 707, 708, 709, 710, 711, 744, 745, 746, 747, 748, 749, 750, 778, 779, 780, 781, 782, 761, 762, 763, 764, 765, 766, 767, 768] (by decide +kernel) (by decide +kernel)
set_option maxRecDepth 20000 in
theorem gL_law_X8_ring : GoodIn wsL_law (wsV RL 18 RX8 yX8_ring wsX8_ring) := goodIn_app (goodIn_of _ (by decide +kernel)) ggL_law_X8_ring
set_option maxRecDepth 20000 in
theorem ggL_law_X9_ring : GoodIn wsL_law wsX9_ring := goodIn_r _ [213, 120, 214, 215, 216, 217, 124, 125, 126, 127, 178, 179, 5, 180, 712, 713, 714, 715, 716, 717, 718, 719, 720, 721, 722, 723, 724, 725, 726, 727, 728, 729, 730, 731, 732, 733, 734, 735, 736, 737, 738, 739, 740, 741, 742, 743] (by decide +kernel) (by decide +kernel)
set_option maxRecDepth 20000 in
theorem gL_law_X9_ring : GoodIn wsL_law (wsV RL 22 RX9 yX9_ring wsX9_ring) := goodIn_app (goodIn_of _ (by decide +kernel)) ggL_law_X9_ring
set_option maxRecDepth 20000 in
theorem ggL_law_X8_speed : GoodIn wsL_law wsX8_speed := goodIn_r _ [221, 15, 222, 223, 156, 157, 14, 158, 54, 159, 2, 160, 224, 225, 226, 227, 228, 48, 229, 155, 230, 231, 232, 233, 49, 702, 703, 704, 705, 706, 707, 708, 709, 710, 711, 744, 745, 746, 747, 748, 749, 750] (by decide +kernel) (by decide +kernel)
set_option maxRecDepth 20000 in
theorem gL_law_X8_speed : GoodIn wsL_law (wsV RL 23 RX8 yX8_speed wsX8_speed) := goodIn_app (goodIn_of _ (by decide +kernel)) ggL_law_X8_speed
set_option maxRecDepth 20000 in
theorem ggL_law_X9_speed : GoodIn wsL_law wsX9_speed := goodIn_r _ [237, 120, 238, 121, 122, 178, 179, 5, 180, 712, 713, 714, 715, 716, 717, 718, 719, 720, 721, 722, 723, 724, 725, 726, 727, 728, 729, 730, 731, 732, 733, 734, 735, 736, 737, 738, 739, 740, 741, 742, 743] (by decide +kernel) (by decide +kernel)
set_option maxRecDepth 20000 in
theorem gL_law_X9_speed : GoodIn wsL_law (wsV RL 27 RX9 yX9_speed wsX9_speed) := goodIn_app (goodIn_of _ (by decide +kernel)) ggL_law_X9_speed
set_option maxRecDepth 20000 in
theorem ggL_law_X8_parts : GoodIn wsL_law wsX8_parts := goodIn_r _ [242, 15, 243, 244, 245, 14, 246, 54, 193, 702, 703, 704, 705, 706, 707, 708, 709, 710, 711, 744, 745, 746, 747, 748, 749, 750] (by decide +kernel) (by decide +kernel)
set_option maxRecDepth 20000 in
theorem gL_law_X8_parts : GoodIn wsL_law (wsV RL 28 RX8 yX8_parts wsX8_parts) := goodIn_app (goodIn_of _ (by decide +kernel)) ggL_law_X8_parts
set_option maxRecDepth 20000 in
theorem ggL_law_X9_parts : GoodIn wsL_law wsX9_parts := goodIn_r _ [250, 120, 217, 712, 713, 714, 715, 716, 717, 718, 719, 720, 721, 722, 723, 724, 725, 726, 727, 728, 729, 730, 731, 732, 733, 734, 735, 736, 737, 738, 739, 740, 741, 742, 743] (by decide +kernel) (by decide +kernel)
set_option maxRecDepth 20000 in
theorem gL_law_X9_parts : GoodIn wsL_law (wsV RL 32 RX9 yX9_parts wsX9_parts) := goodIn_app (goodIn_of _ (by decide +kernel)) ggL_law_X9_parts
set_option maxRecDepth 20000 in
theorem ggL_law_X8_part : GoodIn wsL_law wsX8_part := goodIn_r _ [254, 15, 255, 256, 257, 14, 258, 54, 51, 52, 53, 259, 244, 245, 246, 193, 224, 159, 2, 160, 702, 703, 704, 705, 706, 707, 708, 709, 710, 711, 778, 779, 780, 781, 782, 744, 745, 746, 747, 748, 749, 750] (by decide +kernel) (by decide +kernel)
set_option maxRecDepth 20000 in
theorem gL_law_X8_part : GoodIn wsL_law (wsV RL 33 RX8 yX8_part wsX8_part) := goodIn_app (goodIn_of _ (by decide +kernel)) ggL_law_X8_part
set_option maxRecDepth 20000 in
theorem ggL_law_X9_part : GoodIn wsL_law wsX9_part := goodIn_r _ [263, 264, 265, 266, 5, 267, 268, 248, 249, 250, 120, 217, 178, 179, 180, 269, 270, 271, 272, 273, 274, 275, 276, 124, 277, 278, 279, 280, 281, 282, 283, 284, 712, 713, 714, 715, 716, 717, 718, 719, 720, 721, 722, 723, 724, 725, 726, 727, 728, 729, 730, 731, 732, 733, 734, 735, 736, 737, 738, 739, 740, 741, 742, 743] (by decide +kernel) (by decide +kernel)
set_option maxRecDepth 20000 in
theorem gL_law_X9_part : GoodIn wsL_law (wsV RL 37 RX9 yX9_part wsX9_part) := goodIn_app (goodIn_of _ (by decide +kernel)) ggL_law_X9_part
set_option maxRecDepth 20000 in
theorem ggL_law_X8_tone : GoodIn wsL_law wsX8_tone := goodIn_r _ [288, 15, 222, 255, 256, 257, 14, 258, 54, 51, 52, 53, 259, 244, 245, 246, 193, 224, 159, 2, 160, 702, 703, 704, 705, 706, 707, 708, 709, 710, 711, 778, 779, 780, 781, 782, 744, 745, 746, 747, 748, 749, 750] (by decide +kernel) (by decide +kernel)
set_option maxRecDepth 20000 in
theorem gL_law_X8_tone : GoodIn wsL_law (wsV RL 38 RX8 yX8_tone wsX8_tone) := goodIn_app (goodIn_of _ (by decide +kernel)) ggL_law_X8_tone
set_option maxRecDepth 20000 in
theorem ggL_law_X9_tone : GoodIn wsL_law wsX9_tone := goodIn_r _ [292, 238, 176, 177, 264, 265, 266, 5, 267, 268, 248, 249, 250, 120, 217, 178, 179, 180, 281, 282, 283, 284, 269, 270, 271, 272, 293, 294, 295, 296, 123, 126, 127, 297, 125, 121, 122, 273, 274, 275, 276, 124, 277, 278, 279, 280, 181, 182, 183, 184, 712, 713, 714, 715, 716, 717, 718, 719, 720, 721, 722, 723, 724, 725, 726, 727, 728, 729, 730, 731, 732, 733, 734, 735, 736, 737, 738, 739, 740, 741, 742, 743] (by decide +kernel) (by decide +kernel)
set_option maxRecDepth 20000 in
theorem gL_law_X9_tone : GoodIn wsL_law (wsV RL 42 RX9 yX9_tone wsX9_tone) := goodIn_app (goodIn_of _ (by decide +kernel)) ggL_law_X9_tone
set_option maxRecDepth 20000 in
theorem ggL_law_X8_mark : GoodIn wsL_law wsX8_mark := goodIn_r _ [301, 19, 302, 303, 304, 18, 305, 306, 307, 308, 159, 2, 160, 309, 310, 311, 312, 313, 88, 314, 315, 82, 316, 317, 318, 319, 320, 702, 703, 704, 705, 706, 707, 708, 709, 710, 711, 751, 752, 753, 754] (by decide +kernel) (by decide +kernel)
set_option maxRecDepth 20000 in
theorem gL_law_X8_mark : GoodIn wsL_law (wsV RL 43 RX8 yX8_mark wsX8_mark) := goodIn_app (goodIn_of _ (by decide +kernel)) ggL_law_X8_mark
set_option maxRecDepth 20000 in
theorem ggL_law_X9_mark : GoodIn wsL_law wsX9_mark := goodIn_r _ [324, 325, 326, 128, 178, 179, 5, 180, 712, 713, 714, 715, 716, 717, 718, 719, 720, 721, 722, 723, 724, 725, 726, 727, 728, 729, 730, 731, 732, 733, 734, 735, 736, 737, 738, 739, 740, 741, 742, 743] (by decide +kernel) (by decide +kernel)
set_option maxRecDepth 20000 in
theorem gL_law_X9_mark : GoodIn wsL_law (wsV RL 47 RX9 yX9_mark wsX9_mark) := goodIn_app (goodIn_of _ (by decide +kernel)) ggL_law_X9_mark
set_option maxRecDepth 20000 in
theorem ggL_law_X8_unmark : GoodIn wsL_law wsX8_unmark := goodIn_r _ [330, 19, 331, 332, 333, 18, 334, 307, 313, 702, 703, 704, 705, 706, 707, 708, 709, 710, 711, 751, 752, 753, 754] (by decide +kernel) (by decide +kernel)
set_option maxRecDepth 20000 in
theorem gL_law_X8_unmark : GoodIn wsL_law (wsV RL 48 RX8 yX8_unmark wsX8_unmark) := goodIn_app (goodIn_of _ (by decide +kernel)) ggL_law_X8_unmark
set_option maxRecDepth 20000 in
theorem ggL_law_X9_unmark : GoodIn wsL_law wsX9_unmark := goodIn_r _ [338, 326, 712, 713, 714, 715, 716, 717, 718, 719, 720, 721, 722, 723, 724, 725, 726, 727, 728, 729, 730, 731, 732, 733, 734, 735, 736, 737, 738, 739, 740, 741, 742, 743] (by decide +kernel) (by decide +kernel)
set_option maxRecDepth 20000 in
theorem gL_law_X9_unmark : GoodIn wsL_law (wsV RL 51 RX9 yX9_unmark wsX9_unmark) := goodIn_app (goodIn_of _ (by decide +kernel)) ggL_law_X9_unmark
set_option maxRecDepth 20000 in
theorem ggL_law_X8_turns : GoodIn wsL_law wsX8_turns := goodIn_r _ [342, 19, 702, 703, 704, 705, 706, 707, 708, 709, 710, 711, 751, 752, 753, 754] (by decide +kernel) (by decide +kernel)
set_option maxRecDepth 20000 in
theorem gL_law_X8_turns : GoodIn wsL_law (wsV RL 52 RX8 yX8_turns wsX8_turns) := goodIn_app (goodIn_of _ (by decide +kernel)) ggL_law_X8_turns
set_option maxRecDepth 20000 in
theorem ggL_law_X9_turns : GoodIn wsL_law wsX9_turns := goodIn_r _ [346, 347, 348, 349, 350, 5, 351, 326, 129, 128, 297, 214, 352, 353, 354, 355, 712, 713, 714, 715, 716, 717, 718, 719, 720, 721, 722, 723, 724, 725, 726, 727, 728, 729, 730, 731, 732, 733, 734, 735, 736, 737, 738, 739, 740, 741, 742, 743] (by decide +kernel) (by decide +kernel)
set_option maxRecDepth 20000 in
theorem gL_law_X9_turns : GoodIn wsL_law (wsV RL 55 RX9 yX9_turns wsX9_turns) := goodIn_app (goodIn_of _ (by decide +kernel)) ggL_law_X9_turns
set_option maxRecDepth 20000 in
theorem ggL_law_X8_turn : GoodIn wsL_law wsX8_turn := goodIn_r _ [359, 19, 224, 159, 2, 160, 702, 703, 704, 705, 706, 707, 708, 709, 710, 711, 751, 752, 753, 754] (by decide +kernel) (by decide +kernel)
set_option maxRecDepth 20000 in
theorem gL_law_X8_turn : GoodIn wsL_law (wsV RL 56 RX8 yX8_turn wsX8_turn) := goodIn_app (goodIn_of _ (by decide +kernel)) ggL_law_X8_turn
set_option maxRecDepth 20000 in
theorem ggL_law_X9_turn : GoodIn wsL_law wsX9_turn := goodIn_r _ [363, 347, 129, 348, 349, 350, 5, 351, 326, 128, 297, 214, 352, 353, 354, 355, 178, 179, 180, 712, 713, 714, 715, 716, 717, 718, 719, 720, 721, 722, 723, 724, 725, 726, 727, 728, 729, 730, 731, 732, 733, 734, 735, 736, 737, 738, 739, 740, 741, 742, 743] (by decide +kernel) (by decide +kernel)
set_option maxRecDepth 20000 in
theorem gL_law_X9_turn : GoodIn wsL_law (wsV RL 59 RX9 yX9_turn wsX9_turn) := goodIn_app (goodIn_of _ (by decide +kernel)) ggL_law_X9_turn
set_option maxRecDepth 20000 in
theorem ggL_law_X8_sheet : GoodIn wsL_law wsX8_sheet := goodIn_r _ [367, 21, 224, 159, 2, 160, 368, 369, 370, 40, 371, 372, 373, 374, 111, 110, 702, 703, 704, 705, 706, 707, 708, 709, 710, 711, 769, 770, 771, 772, 773] (by decide +kernel) (by decide +kernel)
set_option maxRecDepth 20000 in
theorem gL_law_X8_sheet : GoodIn wsL_law (wsV RL 60 RX8 yX8_sheet wsX8_sheet) := goodIn_app (goodIn_of _ (by decide +kernel)) ggL_law_X8_sheet
set_option maxRecDepth 20000 in
theorem ggL_law_X9_sheet : GoodIn wsL_law wsX9_sheet := goodIn_r _ [378, 379, 130, 131, 132, 133, 380, 381, 5, 382, 214, 297, 178, 179, 180, 712, 713, 714, 715, 716, 717, 718, 719, 720, 721, 722, 723, 724, 725, 726, 727, 728, 729, 730, 731, 732, 733, 734, 735, 736, 737, 738, 739, 740, 741, 742, 743] (by decide +kernel) (by decide +kernel)
set_option maxRecDepth 20000 in
theorem gL_law_X9_sheet : GoodIn wsL_law (wsV RL 63 RX9 yX9_sheet wsX9_sheet) := goodIn_app (goodIn_of _ (by decide +kernel)) ggL_law_X9_sheet
set_option maxRecDepth 20000 in
theorem ggL_law_X8_drop : GoodIn wsL_law wsX8_drop := goodIn_r _ [386, 21, 224, 159, 2, 160, 702, 703, 704, 705, 706, 707, 708, 709, 710, 711, 769, 770, 771, 772, 773] (by decide +kernel) (by decide +kernel)
set_option maxRecDepth 20000 in
theorem gL_law_X8_drop : GoodIn wsL_law (wsV RL 64 RX8 yX8_drop wsX8_drop) := goodIn_app (goodIn_of _ (by decide +kernel)) ggL_law_X8_drop
set_option maxRecDepth 20000 in
theorem ggL_law_X9_drop : GoodIn wsL_law wsX9_drop := goodIn_r _ [390, 214, 130, 131, 178, 179, 5, 180, 712, 713, 714, 715, 716, 717, 718, 719, 720, 721, 722, 723, 724, 725, 726, 727, 728, 729, 730, 731, 732, 733, 734, 735, 736, 737, 738, 739, 740, 741, 742, 743] (by decide +kernel) (by decide +kernel)
set_option maxRecDepth 20000 in
theorem gL_law_X9_drop : GoodIn wsL_law (wsV RL 67 RX9 yX9_drop wsX9_drop) := goodIn_app (goodIn_of _ (by decide +kernel)) ggL_law_X9_drop
set_option maxRecDepth 20000 in
theorem ggL_law_X8_item : GoodIn wsL_law wsX8_item := goodIn_r _ [394, 21, 224, 159, 2, 160, 395, 396, 397, 40, 398, 374, 373, 110, 702, 703, 704, 705, 706, 707, 708, 709, 710, 711, 769, 770, 771, 772, 773] (by decide +kernel) (by decide +kernel)
set_option maxRecDepth 20000 in
theorem gL_law_X8_item : GoodIn wsL_law (wsV RL 68 RX8 yX8_item wsX8_item) := goodIn_app (goodIn_of _ (by decide +kernel)) ggL_law_X8_item
set_option maxRecDepth 20000 in
theorem ggL_law_X9_item : GoodIn wsL_law wsX9_item := goodIn_r _ [402, 403, 404, 130, 131, 133, 380, 381, 5, 382, 214, 297, 178, 179, 180, 712, 713, 714, 715, 716, 717, 718, 719, 720, 721, 722, 723, 724, 725, 726, 727, 728, 729, 730, 731, 732, 733, 734, 735, 736, 737, 738, 739, 740, 741, 742, 743] (by decide +kernel) (by decide +kernel)
set_option maxRecDepth 20000 in
theorem gL_law_X9_item : GoodIn wsL_law (wsV RL 71 RX9 yX9_item wsX9_item) := goodIn_app (goodIn_of _ (by decide +kernel)) ggL_law_X9_item
set_option maxRecDepth 20000 in
theorem ggL_law_X8_cut : GoodIn wsL_law wsX8_cut := goodIn_r _ [408, 21, 19, 25, 224, 159, 2, 160, 409, 410, 411, 18, 412, 313, 413, 414, 415, 416, 88, 306, 417, 418, 419, 420, 40, 421, 374, 111, 422, 423, 424, 24, 425, 92, 426, 427, 428, 429, 430, 431, 432, 433, 434, 110, 435, 436, 437, 438, 439, 440, 702, 703, 704, 705, 706, 707, 708, 709, 710, 711, 769, 770, 771, 772, 773, 751, 752, 753, 754, 755, 756] (by decide +kernel) (by decide +kernel)
set_option maxRecDepth 20000 in
theorem gL_law_X8_cut : GoodIn wsL_law (wsV RL 72 RX8 yX8_cut wsX8_cut) := goodIn_app (goodIn_of _ (by decide +kernel)) ggL_law_X8_cut
set_option maxRecDepth 20000 in
theorem ggL_law_X9_cut : GoodIn wsL_law wsX9_cut := goodIn_r _ [444, 214, 445, 130, 347, 135, 129, 446, 131, 132, 134, 447, 178, 179, 5, 180, 348, 349, 350, 351, 326, 128, 297, 352, 353, 354, 355, 448, 449, 450, 451, 133, 452, 453, 454, 712, 713, 714, 715, 716, 717, 718, 719, 720, 721, 722, 723, 724, 725, 726, 727, 728, 729, 730, 731, 732, 733, 734, 735, 736, 737, 738, 739, 740, 741, 742, 743] (by decide +kernel) (by decide +kernel)
set_option maxRecDepth 20000 in
theorem gL_law_X9_cut : GoodIn wsL_law (wsV RL 75 RX9 yX9_cut wsX9_cut) := goodIn_app (goodIn_of _ (by decide +kernel)) ggL_law_X9_cut
set_option maxRecDepth 20000 in
theorem ggL_law_X8_mean : GoodIn wsL_law wsX8_mean := goodIn_r _ [458, 459, 25, 460, 224, 159, 2, 160, 702, 703, 704, 705, 706, 707, 708, 709, 710, 711, 755, 756] (by decide +kernel) (by decide +kernel)
set_option maxRecDepth 20000 in
theorem gL_law_X8_mean : GoodIn wsL_law (wsV RL 76 RX8 yX8_mean wsX8_mean) := goodIn_app (goodIn_of _ (by decide +kernel)) ggL_law_X8_mean
set_option maxRecDepth 20000 in
theorem ggL_law_X9_mean : GoodIn wsL_law wsX9_mean := goodIn_r _ [464, 465, 466, 447, 134, 467, 178, 179, 5, 180, 712, 713, 714, 715, 716, 717, 718, 719, 720, 721, 722, 723, 724, 725, 726, 727, 728, 729, 730, 731, 732, 733, 734, 735, 736, 737, 738, 739, 740, 741, 742, 743] (by decide +kernel) (by decide +kernel)
set_option maxRecDepth 20000 in
theorem gL_law_X9_mean : GoodIn wsL_law (wsV RL 79 RX9 yX9_mean wsX9_mean) := goodIn_app (goodIn_of _ (by decide +kernel)) ggL_law_X9_mean
set_option maxRecDepth 20000 in
theorem ggL_law_X8_strength : GoodIn wsL_law wsX8_strength := goodIn_r _ [471, 222, 25, 472, 224, 159, 2, 160, 473, 474, 475, 24, 476, 92, 477, 478, 479, 480, 481, 482, 438, 483, 702, 703, 704, 705, 706, 707, 708, 709, 710, 711, 755, 756] (by decide +kernel) (by decide +kernel)
set_option maxRecDepth 20000 in
theorem gL_law_X8_strength : GoodIn wsL_law (wsV RL 80 RX8 yX8_strength wsX8_strength) := goodIn_app (goodIn_of _ (by decide +kernel)) ggL_law_X8_strength
set_option maxRecDepth 20000 in
theorem ggL_law_X9_strength : GoodIn wsL_law wsX9_strength := goodIn_r _ [487, 488, 238, 447, 489, 134, 325, 178, 179, 5, 180, 490, 491, 492, 712, 713, 714, 715, 716, 717, 718, 719, 720, 721, 722, 723, 724, 725, 726, 727, 728, 729, 730, 731, 732, 733, 734, 735, 736, 737, 738, 739, 740, 741, 742, 743] (by decide +kernel) (by decide +kernel)
set_option maxRecDepth 20000 in
theorem gL_law_X9_strength : GoodIn wsL_law (wsV RL 84 RX9 yX9_strength wsX9_strength) := goodIn_app (goodIn_of _ (by decide +kernel)) ggL_law_X9_strength
set_option maxRecDepth 20000 in
theorem ggL_law_X8_line : GoodIn wsL_law wsX8_line := goodIn_r _ [496, 29, 33, 497, 498, 499, 28, 500, 501, 96, 97, 159, 2, 160, 165, 166, 167, 32, 168, 169, 702, 703, 704, 705, 706, 707, 708, 709, 710, 711, 757, 758, 759, 760, 761, 762, 763, 764, 765, 766, 767, 768] (by decide +kernel) (by decide +kernel)
set_option maxRecDepth 20000 in
theorem gL_law_X8_line : GoodIn wsL_law (wsV RL 85 RX8 yX8_line wsX8_line) := goodIn_app (goodIn_of _ (by decide +kernel)) ggL_law_X8_line
set_option maxRecDepth 20000 in
theorem ggL_law_X9_line : GoodIn wsL_law wsX9_line := goodIn_r _ [505, 506, 507, 136, 137, 178, 179, 5, 180, 712, 713, 714, 715, 716, 717, 718, 719, 720, 721, 722, 723, 724, 725, 726, 727, 728, 729, 730, 731, 732, 733, 734, 735, 736, 737, 738, 739, 740, 741, 742, 743] (by decide +kernel) (by decide +kernel)
set_option maxRecDepth 20000 in
theorem gL_law_X9_line : GoodIn wsL_law (wsV RL 88 RX9 yX9_line wsX9_line) := goodIn_app (goodIn_of _ (by decide +kernel)) ggL_law_X9_line
set_option maxRecDepth 20000 in
theorem ggL_law_X8_unline : GoodIn wsL_law wsX8_unline := goodIn_r _ [511, 29, 33, 165, 166, 167, 32, 168, 169, 702, 703, 704, 705, 706, 707, 708, 709, 710, 711, 757, 758, 759, 760, 761, 762, 763, 764, 765, 766, 767, 768] (by decide +kernel) (by decide +kernel)
set_option maxRecDepth 20000 in
theorem gL_law_X8_unline : GoodIn wsL_law (wsV RL 89 RX8 yX8_unline wsX8_unline) := goodIn_app (goodIn_of _ (by decide +kernel)) ggL_law_X8_unline
set_option maxRecDepth 20000 in
theorem ggL_law_X9_unline : GoodIn wsL_law wsX9_unline := goodIn_r _ [515, 507, 712, 713, 714, 715, 716, 717, 718, 719, 720, 721, 722, 723, 724, 725, 726, 727, 728, 729, 730, 731, 732, 733, 734, 735, 736, 737, 738, 739, 740, 741, 742, 743] (by decide +kernel) (by decide +kernel)
set_option maxRecDepth 20000 in
theorem gL_law_X9_unline : GoodIn wsL_law (wsV RL 92 RX9 yX9_unline wsX9_unline) := goodIn_app (goodIn_of _ (by decide +kernel)) ggL_law_X9_unline
set_option maxRecDepth 20000 in
theorem ggL_law_X8_slip : GoodIn wsL_law wsX8_slip := goodIn_r _ [519, 29, 33, 224, 159, 2, 160, 165, 166, 167, 32, 168, 169, 702, 703, 704, 705, 706, 707, 708, 709, 710, 711, 757, 758, 759, 760, 761, 762, 763, 764, 765, 766, 767, 768] (by decide +kernel) (by decide +kernel)
set_option maxRecDepth 20000 in
theorem gL_law_X8_slip : GoodIn wsL_law (wsV RL 93 RX8 yX8_slip wsX8_slip) := goodIn_app (goodIn_of _ (by decide +kernel)) ggL_law_X8_slip
set_option maxRecDepth 20000 in
theorem ggL_law_X9_slip : GoodIn wsL_law wsX9_slip := goodIn_r _ [523, 216, 138, 178, 179, 5, 180, 712, 713, 714, 715, 716, 717, 718, 719, 720, 721, 722, 723, 724, 725, 726, 727, 728, 729, 730, 731, 732, 733, 734, 735, 736, 737, 738, 739, 740, 741, 742, 743] (by decide +kernel) (by decide +kernel)
set_option maxRecDepth 20000 in
theorem gL_law_X9_slip : GoodIn wsL_law (wsV RL 96 RX9 yX9_slip wsX9_slip) := goodIn_app (goodIn_of _ (by decide +kernel)) ggL_law_X9_slip
set_option maxRecDepth 20000 in
theorem ggL_law_X8_explains : GoodIn wsL_law wsX8_explains := goodIn_r _ [527, 15, 29, 255, 256, 257, 14, 258, 54, 51, 52, 53, 259, 244, 245, 246, 193, 528, 529, 530, 28, 531, 532, 533, 534, 535, 501, 97, 96, 536, 537, 82, 538, 539, 98, 702, 703, 704, 705, 706, 707, 708, 709, 710, 711, 744, 745, 746, 747, 748, 749, 750, 778, 779, 780, 781, 782, 757, 758, 759, 760] (by decide +kernel) (by decide +kernel)
set_option maxRecDepth 20000 in
theorem gL_law_X8_explains : GoodIn wsL_law (wsV RL 97 RX8 yX8_explains wsX8_explains) := goodIn_app (goodIn_of _ (by decide +kernel)) ggL_law_X8_explains
set_option maxRecDepth 20000 in
theorem ggL_law_X9_explains : GoodIn wsL_law wsX9_explains := goodIn_r _ [543, 264, 265, 266, 5, 267, 268, 248, 249, 250, 120, 217, 178, 179, 180, 544, 545, 546, 547, 281, 282, 283, 284, 269, 270, 271, 272, 548, 549, 550, 551, 507, 136, 177, 176, 137, 379, 138, 293, 294, 295, 296, 123, 126, 127, 297, 125, 121, 122, 273, 274, 275, 276, 124, 277, 278, 279, 280, 181, 182, 183, 184, 712, 713, 714, 715, 716, 717, 718, 719, 720, 721, 722, 723, 724, 725, 726, 727, 728, 729, 730, 731, 732, 733, 734, 735, 736, 737, 738, 739, 740, 741, 742, 743] (by decide +kernel) (by decide +kernel)
set_option maxRecDepth 20000 in
theorem gL_law_X9_explains : GoodIn wsL_law (wsV RL 100 RX9 yX9_explains wsX9_explains) := goodIn_app (goodIn_of _ (by decide +kernel)) ggL_law_X9_explains
set_option maxRecDepth 20000 in
theorem ggL_law_X8_named : GoodIn wsL_law wsX8_named := goodIn_r _ [555, 15, 29, 255, 256, 257, 14, 258, 54, 51, 52, 53, 259, 244, 245, 246, 193, 556, 557, 558, 28, 559, 532, 533, 534, 535, 501, 97, 96, 536, 537, 82, 538, 539, 98, 702, 703, 704, 705, 706, 707, 708, 709, 710, 711, 744, 745, 746, 747, 748, 749, 750, 778, 779, 780, 781, 782, 757, 758, 759, 760] (by decide +kernel) (by decide +kernel)
set_option maxRecDepth 20000 in
theorem gL_law_X8_named : GoodIn wsL_law (wsV RL 101 RX8 yX8_named wsX8_named) := goodIn_app (goodIn_of _ (by decide +kernel)) ggL_law_X8_named
set_option maxRecDepth 20000 in
theorem ggL_law_X9_named : GoodIn wsL_law wsX9_named := goodIn_r _ [563, 264, 265, 266, 5, 267, 268, 248, 249, 250, 120, 217, 178, 179, 180, 564, 565, 566, 567, 281, 282, 283, 284, 269, 270, 271, 272, 548, 549, 550, 551, 507, 136, 177, 176, 137, 379, 138, 293, 294, 295, 296, 123, 126, 127, 297, 125, 121, 122, 273, 274, 275, 276, 124, 277, 278, 279, 280, 181, 182, 183, 184, 712, 713, 714, 715, 716, 717, 718, 719, 720, 721, 722, 723, 724, 725, 726, 727, 728, 729, 730, 731, 732, 733, 734, 735, 736, 737, 738, 739, 740, 741, 742, 743] (by decide +kernel) (by decide +kernel)
set_option maxRecDepth 20000 in
theorem gL_law_X9_named : GoodIn wsL_law (wsV RL 104 RX9 yX9_named wsX9_named) := goodIn_app (goodIn_of _ (by decide +kernel)) ggL_law_X9_named
set_option maxRecDepth 20000 in
theorem ggL_law_X8_heap : GoodIn wsL_law wsX8_heap := goodIn_r _ [571, 33, 15, 29, 572, 573, 574, 32, 575, 169, 576, 577, 578, 579, 580, 581, 102, 103, 582, 256, 257, 14, 258, 54, 51, 52, 53, 259, 244, 245, 246, 193, 583, 557, 558, 28, 559, 532, 533, 534, 535, 501, 97, 96, 536, 537, 82, 538, 539, 98, 584, 529, 530, 531, 585, 586, 587, 588, 105, 589, 590, 591, 592, 593, 594, 595, 596, 597, 598, 599, 600, 106, 224, 159, 2, 160, 702, 703, 704, 705, 706, 707, 708, 709, 710, 711, 761, 762, 763, 764, 765, 766, 767, 768, 744, 745, 746, 747, 748, 749, 750, 778, 779, 780, 781, 782, 757, 758, 759, 760] (by decide +kernel) (by decide +kernel)
set_option maxRecDepth 20000 in
theorem gL_law_X8_heap : GoodIn wsL_law (wsV RL 105 RX8 yX8_heap wsX8_heap) := goodIn_app (goodIn_of _ (by decide +kernel)) ggL_law_X8_heap
set_option maxRecDepth 20000 in
theorem ggL_law_X9_heap : GoodIn wsL_law wsX9_heap := goodIn_r _ [604, 141, 238, 139, 605, 606, 607, 5, 608, 268, 248, 249, 250, 120, 217, 564, 565, 566, 567, 281, 282, 283, 284, 269, 270, 271, 272, 548, 549, 550, 551, 507, 136, 177, 176, 137, 379, 138, 293, 294, 295, 296, 123, 126, 127, 297, 125, 121, 122, 273, 274, 275, 276, 124, 277, 278, 279, 280, 181, 182, 183, 184, 544, 545, 546, 547, 609, 610, 611, 612, 178, 179, 180, 712, 713, 714, 715, 716, 717, 718, 719, 720, 721, 722, 723, 724, 725, 726, 727, 728, 729, 730, 731, 732, 733, 734, 735, 736, 737, 738, 739, 740, 741, 742, 743] (by decide +kernel) (by decide +kernel)
set_option maxRecDepth 20000 in
theorem gL_law_X9_heap : GoodIn wsL_law (wsV RL 108 RX9 yX9_heap wsX9_heap) := goodIn_app (goodIn_of _ (by decide +kernel)) ggL_law_X9_heap
set_option maxRecDepth 20000 in
theorem ggL_law_X8_strange : GoodIn wsL_law wsX8_strange := goodIn_r _ [616, 33, 15, 29, 572, 573, 574, 32, 575, 169, 576, 577, 578, 579, 580, 581, 102, 103, 582, 256, 257, 14, 258, 54, 51, 52, 53, 259, 244, 245, 246, 193, 583, 557, 558, 28, 559, 532, 533, 534, 535, 501, 97, 96, 536, 537, 82, 538, 539, 98, 584, 529, 530, 531, 585, 586, 587, 588, 105, 589, 590, 591, 592, 593, 594, 595, 596, 597, 598, 599, 600, 106, 617, 618, 619, 620, 702, 703, 704, 705, 706, 707, 708, 709, 710, 711, 761, 762, 763, 764, 765, 766, 767, 768, 744, 745, 746, 747, 748, 749, 750, 778, 779, 780, 781, 782, 757, 758, 759, 760] (by decide +kernel) (by decide +kernel)
set_option maxRecDepth 20000 in
theorem gL_law_X8_strange : GoodIn wsL_law (wsV RL 109 RX8 yX8_strange wsX8_strange) := goodIn_app (goodIn_of _ (by decide +kernel)) ggL_law_X8_strange
set_option maxRecDepth 20000 in
theorem ggL_law_X9_strange : GoodIn wsL_law wsX9_strange := goodIn_r _ [624, 507, 605, 606, 607, 5, 608, 139, 268, 248, 249, 250, 120, 217, 564, 565, 566, 567, 281, 282, 283, 284, 269, 270, 271, 272, 548, 549, 550, 551, 136, 177, 176, 137, 379, 138, 293, 294, 295, 296, 123, 126, 127, 297, 125, 121, 122, 273, 274, 275, 276, 124, 277, 278, 279, 280, 181, 182, 183, 184, 544, 545, 546, 547, 712, 713, 714, 715, 716, 717, 718, 719, 720, 721, 722, 723, 724, 725, 726, 727, 728, 729, 730, 731, 732, 733, 734, 735, 736, 737, 738, 739, 740, 741, 742, 743] (by decide +kernel) (by decide +kernel)
set_option maxRecDepth 20000 in
theorem gL_law_X9_strange : GoodIn wsL_law (wsV RL 112 RX9 yX9_strange wsX9_strange) := goodIn_app (goodIn_of _ (by decide +kernel)) ggL_law_X9_strange
set_option maxRecDepth 20000 in
theorem ggL_law_X8_laws : GoodIn wsL_law wsX8_laws := goodIn_r _ [628, 36, 37, 38, 224, 159, 2, 160, 702, 703, 704, 705, 706, 707, 708, 709, 710, 711] (by decide +kernel) (by decide +kernel)
set_option maxRecDepth 20000 in
theorem gL_law_X8_laws : GoodIn wsL_law (wsV RL 113 RX8 yX8_laws wsX8_laws) := goodIn_app (goodIn_of _ (by decide +kernel)) ggL_law_X8_laws
set_option maxRecDepth 20000 in
theorem ggL_law_X9_laws : GoodIn wsL_law wsX9_laws := goodIn_r _ [632, 379, 633, 142, 178, 179, 5, 180, 712, 713, 714, 715, 716, 717, 718, 719, 720, 721, 722, 723, 724, 725, 726, 727, 728, 729, 730, 731, 732, 733, 734, 735, 736, 737, 738, 739, 740, 741, 742, 743] (by decide +kernel) (by decide +kernel)
set_option maxRecDepth 20000 in
theorem gL_law_X9_laws : GoodIn wsL_law (wsV RL 116 RX9 yX9_laws wsX9_laws) := goodIn_app (goodIn_of _ (by decide +kernel)) ggL_law_X9_laws
set_option maxRecDepth 20000 in
theorem ggL_law_X8_reading : GoodIn wsL_law wsX8_reading := goodIn_r _ [637, 638, 35, 36, 37, 38, 224, 159, 2, 160, 639, 640, 641, 42, 642, 643, 115, 644, 645, 646, 647, 648, 649, 650, 651, 652, 653, 654, 655, 656, 657, 658, 659, 660, 661, 662, 702, 703, 704, 705, 706, 707, 708, 709, 710, 711, 774, 775, 776, 777] (by decide +kernel) (by decide +kernel)
set_option maxRecDepth 20000 in
theorem gL_law_X8_reading : GoodIn wsL_law (wsV RL 117 RX8 yX8_reading wsX8_reading) := goodIn_app (goodIn_of _ (by decide +kernel)) ggL_law_X8_reading
set_option maxRecDepth 20000 in
theorem ggL_law_X9_reading : GoodIn wsL_law wsX9_reading := goodIn_r _ [666, 325, 143, 144, 142, 216, 146, 667, 668, 5, 669, 214, 178, 179, 180, 670, 671, 672, 673, 712, 713, 714, 715, 716, 717, 718, 719, 720, 721, 722, 723, 724, 725, 726, 727, 728, 729, 730, 731, 732, 733, 734, 735, 736, 737, 738, 739, 740, 741, 742, 743] (by decide +kernel) (by decide +kernel)
set_option maxRecDepth 20000 in
theorem gL_law_X9_reading : GoodIn wsL_law (wsV RL 120 RX9 yX9_reading wsX9_reading) := goodIn_app (goodIn_of _ (by decide +kernel)) ggL_law_X9_reading
set_option maxRecDepth 20000 in
theorem ggL_law_X8_baseline : GoodIn wsL_law wsX8_baseline := goodIn_r _ [677, 35, 224, 159, 2, 160, 702, 703, 704, 705, 706, 707, 708, 709, 710, 711, 774, 775, 776, 777] (by decide +kernel) (by decide +kernel)
set_option maxRecDepth 20000 in
theorem gL_law_X8_baseline : GoodIn wsL_law (wsV RL 121 RX8 yX8_baseline wsX8_baseline) := goodIn_app (goodIn_of _ (by decide +kernel)) ggL_law_X8_baseline
set_option maxRecDepth 20000 in
theorem ggL_law_X9_baseline : GoodIn wsL_law wsX9_baseline := goodIn_r _ [681, 143, 667, 668, 5, 669, 214, 178, 179, 180, 670, 671, 672, 673, 144, 712, 713, 714, 715, 716, 717, 718, 719, 720, 721, 722, 723, 724, 725, 726, 727, 728, 729, 730, 731, 732, 733, 734, 735, 736, 737, 738, 739, 740, 741, 742, 743] (by decide +kernel) (by decide +kernel)
set_option maxRecDepth 20000 in
theorem gL_law_X9_baseline : GoodIn wsL_law (wsV RL 124 RX9 yX9_baseline wsX9_baseline) := goodIn_app (goodIn_of _ (by decide +kernel)) ggL_law_X9_baseline
set_option maxRecDepth 20000 in
theorem ggL_law_X8_warned : GoodIn wsL_law wsX8_warned := goodIn_r _ [685, 35, 224, 159, 2, 160, 702, 703, 704, 705, 706, 707, 708, 709, 710, 711, 774, 775, 776, 777] (by decide +kernel) (by decide +kernel)
set_option maxRecDepth 20000 in
theorem gL_law_X8_warned : GoodIn wsL_law (wsV RL 125 RX8 yX8_warned wsX8_warned) := goodIn_app (goodIn_of _ (by decide +kernel)) ggL_law_X8_warned
set_option maxRecDepth 20000 in
theorem ggL_law_X9_warned : GoodIn wsL_law wsX9_warned := goodIn_r _ [689, 146, 667, 668, 5, 669, 214, 178, 179, 180, 712, 713, 714, 715, 716, 717, 718, 719, 720, 721, 722, 723, 724, 725, 726, 727, 728, 729, 730, 731, 732, 733, 734, 735, 736, 737, 738, 739, 740, 741, 742, 743] (by decide +kernel) (by decide +kernel)
set_option maxRecDepth 20000 in
theorem gL_law_X9_warned : GoodIn wsL_law (wsV RL 128 RX9 yX9_warned wsX9_warned) := goodIn_app (goodIn_of _ (by decide +kernel)) ggL_law_X9_warned
set_option maxRecDepth 20000 in
theorem ggL_law_X8_repair : GoodIn wsL_law wsX8_repair := goodIn_r _ [693, 35, 694, 695, 696, 42, 697, 643, 657, 702, 703, 704, 705, 706, 707, 708, 709, 710, 711, 774, 775, 776, 777] (by decide +kernel) (by decide +kernel)
set_option maxRecDepth 20000 in
theorem gL_law_X8_repair : GoodIn wsL_law (wsV RL 129 RX8 yX8_repair wsX8_repair) := goodIn_app (goodIn_of _ (by decide +kernel)) ggL_law_X8_repair
set_option maxRecDepth 20000 in
theorem ggL_law_X9_repair : GoodIn wsL_law wsX9_repair := goodIn_r _ [701, 146, 143, 712, 713, 714, 715, 716, 717, 718, 719, 720, 721, 722, 723, 724, 725, 726, 727, 728, 729, 730, 731, 732, 733, 734, 735, 736, 737, 738, 739, 740, 741, 742, 743] (by decide +kernel) (by decide +kernel)
set_option maxRecDepth 20000 in
theorem gL_law_X9_repair : GoodIn wsL_law (wsV RL 132 RX9 yX9_repair wsX9_repair) := goodIn_app (goodIn_of _ (by decide +kernel)) ggL_law_X9_repair

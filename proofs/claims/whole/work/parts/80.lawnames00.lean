set_option maxRecDepth 20000 in
theorem ggL_law_X4_init : GoodIn wsL_law wsX4_init := goodIn_r _ [9, 10, 11, 12, 13, 14, 15, 16, 17, 18, 19, 20, 21, 22, 23, 24, 25, 26, 27, 28, 29, 30, 31, 32, 33, 34, 35, 36, 37, 38, 39, 40, 41, 42, 43, 44, 45, 46, 47, 48, 49, 50, 51, 52, 53, 54, 55, 56, 57, 58, 59, 60, 61, 62, 63, 64, 65, 66, 745, 746, 747, 748, 749, 750, 751, 752, 703, 704, 705, 706, 753, 754, 755, 756, 757, 758, 759, 760, 761, 762, 763, 764, 765, 766, 767, 768, 769, 770, 771, 772, 773, 774, 775] (by decide +kernel) (by decide +kernel)
set_option maxRecDepth 20000 in
theorem gL_law_X4_init : GoodIn wsL_law (wsX4_init) := ggL_law_X4_init
set_option maxRecDepth 20000 in
theorem ggL_law_X5_init : GoodIn wsL_law wsX5_init := goodIn_r _ [69, 70, 11, 12, 31, 71, 33, 72, 73, 74, 75, 76, 77, 78, 25, 79, 80, 81, 82, 83, 84, 85, 86, 87, 88, 89, 90, 91, 92, 93, 94, 95, 96, 97, 98, 99, 100, 101, 5, 102, 103, 104, 707, 708, 709, 710, 711, 712, 713, 714, 715, 716, 717, 718, 719, 720, 721, 722, 723, 724, 725, 726, 727, 728, 729, 730, 731, 732, 733, 734, 735, 736, 737, 738, 739, 740, 741, 742, 743, 744] (by decide +kernel) (by decide +kernel)
set_option maxRecDepth 20000 in
theorem gL_law_X5_init : GoodIn wsL_law (wsX5_init) := ggL_law_X5_init
set_option maxRecDepth 20000 in
theorem ggL_law_X4_candidates : GoodIn wsL_law wsX4_candidates := goodIn_r _ [108, 16, 109, 110, 40, 41, 15, 42, 43, 44, 32, 34, 703, 704, 705, 706, 745, 746, 747, 748, 749, 750, 751, 752] (by decide +kernel) (by decide +kernel)
set_option maxRecDepth 20000 in
theorem gL_law_X4_candidates : GoodIn wsL_law (wsV RL 13 RX4 yX4_candidates wsX4_candidates) := goodIn_app (goodIn_of _ (by decide +kernel)) ggL_law_X4_candidates
set_option maxRecDepth 20000 in
theorem ggL_law_X5_candidates : GoodIn wsL_law wsX5_candidates := goodIn_r _ [114, 103, 115, 116, 5, 117, 99, 100, 101, 102, 104, 71, 72, 707, 708, 709, 710, 711, 712, 713, 714, 715, 716, 717, 718, 719, 720, 721, 722, 723, 724, 725, 726, 727, 728, 729, 730, 731, 732, 733, 734, 735, 736, 737, 738, 739, 740, 741, 742, 743, 744] (by decide +kernel) (by decide +kernel)
set_option maxRecDepth 20000 in
theorem gL_law_X5_candidates : GoodIn wsL_law (wsV RL 17 RX5 yX5_candidates wsX5_candidates) := goodIn_app (goodIn_of _ (by decide +kernel)) ggL_law_X5_candidates
set_option maxRecDepth 20000 in
theorem ggL_law_X4_withdraw : GoodIn wsL_law wsX4_withdraw := goodIn_r _ [121, 16, 122, 123, 124, 125, 15, 126, 43, 703, 704, 705, 706, 745, 746, 747, 748, 749, 750, 751, 752] (by decide +kernel) (by decide +kernel)
set_option maxRecDepth 20000 in
theorem gL_law_X4_withdraw : GoodIn wsL_law (wsV RL 18 RX4 yX4_withdraw wsX4_withdraw) := goodIn_app (goodIn_of _ (by decide +kernel)) ggL_law_X4_withdraw
set_option maxRecDepth 20000 in
theorem ggL_law_X5_withdraw : GoodIn wsL_law wsX5_withdraw := goodIn_r _ [130, 71, 131, 132, 133, 5, 134, 103, 115, 116, 117, 707, 708, 709, 710, 711, 712, 713, 714, 715, 716, 717, 718, 719, 720, 721, 722, 723, 724, 725, 726, 727, 728, 729, 730, 731, 732, 733, 734, 735, 736, 737, 738, 739, 740, 741, 742, 743, 744] (by decide +kernel) (by decide +kernel)
set_option maxRecDepth 20000 in
theorem gL_law_X5_withdraw : GoodIn wsL_law (wsV RL 22 RX5 yX5_withdraw wsX5_withdraw) := goodIn_app (goodIn_of _ (by decide +kernel)) ggL_law_X5_withdraw
set_option maxRecDepth 20000 in
theorem ggL_law_X4_lot : GoodIn wsL_law wsX4_lot := goodIn_r _ [138, 16, 109, 123, 124, 125, 15, 126, 43, 139, 140, 141, 142, 34, 703, 704, 705, 706, 745, 746, 747, 748, 749, 750, 751, 752] (by decide +kernel) (by decide +kernel)
set_option maxRecDepth 20000 in
theorem gL_law_X4_lot : GoodIn wsL_law (wsV RL 23 RX4 yX4_lot wsX4_lot) := goodIn_app (goodIn_of _ (by decide +kernel)) ggL_law_X4_lot
set_option maxRecDepth 20000 in
theorem ggL_law_X5_lot : GoodIn wsL_law wsX5_lot := goodIn_r _ [146, 103, 72, 131, 132, 133, 5, 134, 115, 116, 117, 707, 708, 709, 710, 711, 712, 713, 714, 715, 716, 717, 718, 719, 720, 721, 722, 723, 724, 725, 726, 727, 728, 729, 730, 731, 732, 733, 734, 735, 736, 737, 738, 739, 740, 741, 742, 743, 744] (by decide +kernel) (by decide +kernel)
set_option maxRecDepth 20000 in
theorem gL_law_X5_lot : GoodIn wsL_law (wsV RL 27 RX5 yX5_lot wsX5_lot) := goodIn_app (goodIn_of _ (by decide +kernel)) ggL_law_X5_lot
set_option maxRecDepth 20000 in
theorem ggL_law_X4_pile : GoodIn wsL_law wsX4_pile := goodIn_r _ [150, 16, 151, 152, 153, 154, 15, 155, 43, 156, 157, 158, 159, 160, 161, 2, 162, 163, 164, 165, 166, 44, 38, 37, 36, 35, 703, 704, 705, 706, 745, 746, 747, 748, 749, 750, 751, 752] (by decide +kernel) (by decide +kernel)
set_option maxRecDepth 20000 in
theorem gL_law_X4_pile : GoodIn wsL_law (wsV RL 30 RX4 yX4_pile wsX4_pile) := goodIn_app (goodIn_of _ (by decide +kernel)) ggL_law_X4_pile
set_option maxRecDepth 20000 in
theorem ggL_law_X5_pile : GoodIn wsL_law wsX5_pile := goodIn_r _ [170, 104, 73, 74, 75, 76, 171, 172, 173, 5, 174, 175, 103, 115, 116, 117, 707, 708, 709, 710, 711, 712, 713, 714, 715, 716, 717, 718, 719, 720, 721, 722, 723, 724, 725, 726, 727, 728, 729, 730, 731, 732, 733, 734, 735, 736, 737, 738, 739, 740, 741, 742, 743, 744] (by decide +kernel) (by decide +kernel)
set_option maxRecDepth 20000 in
theorem gL_law_X5_pile : GoodIn wsL_law (wsV RL 34 RX5 yX5_pile wsX5_pile) := goodIn_app (goodIn_of _ (by decide +kernel)) ggL_law_X5_pile
set_option maxRecDepth 20000 in
theorem ggL_law_X4_change : GoodIn wsL_law wsX4_change := goodIn_r _ [179, 16, 180, 181, 182, 183, 15, 184, 44, 160, 161, 2, 162, 703, 704, 705, 706, 745, 746, 747, 748, 749, 750, 751, 752] (by decide +kernel) (by decide +kernel)
set_option maxRecDepth 20000 in
theorem gL_law_X4_change : GoodIn wsL_law (wsV RL 35 RX4 yX4_change wsX4_change) := goodIn_app (goodIn_of _ (by decide +kernel)) ggL_law_X4_change
set_option maxRecDepth 20000 in
theorem ggL_law_X5_change : GoodIn wsL_law wsX5_change := goodIn_r _ [188, 104, 73, 115, 116, 5, 117, 707, 708, 709, 710, 711, 712, 713, 714, 715, 716, 717, 718, 719, 720, 721, 722, 723, 724, 725, 726, 727, 728, 729, 730, 731, 732, 733, 734, 735, 736, 737, 738, 739, 740, 741, 742, 743, 744] (by decide +kernel) (by decide +kernel)
set_option maxRecDepth 20000 in
theorem gL_law_X5_change : GoodIn wsL_law (wsV RL 38 RX5 yX5_change wsX5_change) := goodIn_app (goodIn_of _ (by decide +kernel)) ggL_law_X5_change
set_option maxRecDepth 20000 in
theorem ggL_law_X4_about : GoodIn wsL_law wsX4_about := goodIn_r _ [192, 16, 180, 193, 181, 182, 183, 15, 184, 44, 194, 195, 196, 197, 36, 37, 198, 199, 200, 201, 32, 703, 704, 705, 706, 745, 746, 747, 748, 749, 750, 751, 752] (by decide +kernel) (by decide +kernel)
set_option maxRecDepth 20000 in
theorem gL_law_X4_about : GoodIn wsL_law (wsV RL 39 RX4 yX4_about wsX4_about) := goodIn_app (goodIn_of _ (by decide +kernel)) ggL_law_X4_about
set_option maxRecDepth 20000 in
theorem ggL_law_X5_about : GoodIn wsL_law wsX5_about := goodIn_r _ [205, 104, 74, 75, 73, 115, 116, 5, 117, 206, 207, 208, 209, 71, 707, 708, 709, 710, 711, 712, 713, 714, 715, 716, 717, 718, 719, 720, 721, 722, 723, 724, 725, 726, 727, 728, 729, 730, 731, 732, 733, 734, 735, 736, 737, 738, 739, 740, 741, 742, 743, 744] (by decide +kernel) (by decide +kernel)
set_option maxRecDepth 20000 in
theorem gL_law_X5_about : GoodIn wsL_law (wsV RL 42 RX5 yX5_about wsX5_about) := goodIn_app (goodIn_of _ (by decide +kernel)) ggL_law_X5_about
set_option maxRecDepth 20000 in
theorem ggL_law_X4_count : GoodIn wsL_law wsX4_count := goodIn_r _ [213, 16, 109, 20, 24, 214, 26, 215, 216, 217, 218, 219, 220, 221, 222, 15, 223, 43, 32, 224, 225, 226, 19, 227, 48, 228, 229, 230, 231, 232, 233, 54, 55, 57, 51, 52, 234, 50, 235, 58, 59, 60, 236, 237, 238, 239, 240, 241, 242, 243, 244, 245, 246, 247, 248, 249, 250, 251, 252, 253, 254, 255, 256, 257, 199, 200, 201, 36, 37, 258, 259, 260, 261, 262, 263, 264, 265, 266, 267, 268, 269, 270, 271, 272, 53, 273, 274, 275, 276, 56, 277, 278, 279, 280, 281, 49, 282, 283, 284, 285, 286, 287, 288, 289, 290, 2, 291, 292, 293, 294, 295, 296, 297, 298, 299, 300, 301, 302, 303, 304, 305, 306, 307, 308, 309, 310, 311, 312, 313, 314, 315, 316, 317, 318, 319, 320, 321, 322, 323, 324, 325, 326, 327, 328, 329, 330, 331, 332, 333, 334, 335, 336, 337, 23, 338, 339, 340, 341, 342, 343, 344, 345, 346, 347, 348, 44, 35, 349, 350, 351, 352, 353, 64, 65, 354, 355, 356, 357, 358, 359, 360, 361, 362, 66, 363, 364, 365, 366, 367, 368, 369, 370, 371, 372, 373, 374, 375, 376, 377, 378, 379, 380, 381, 382, 383, 384, 385, 386, 387, 388, 389, 390, 391, 392, 393, 394, 395, 396, 397, 398, 399, 400, 401, 402, 403, 404, 405, 406, 407, 408, 409, 410, 411, 412, 413, 414, 415, 416, 417, 418, 419, 703, 704, 705, 706, 745, 746, 747, 748, 749, 750, 751, 752, 753, 754, 755, 756, 757, 758, 759, 760, 761, 762, 763, 764, 765, 766, 767, 768, 769, 770, 771, 772, 773, 774, 775] (by decide +kernel) (by decide +kernel)
set_option maxRecDepth 20000 in
theorem gL_law_X4_count : GoodIn wsL_law (wsV RL 43 RX4 yX4_count wsX4_count) := goodIn_app (goodIn_of _ (by decide +kernel)) ggL_law_X4_count
set_option maxRecDepth 20000 in
theorem ggL_law_X5_count : GoodIn wsL_law wsX5_count := goodIn_r _ [423, 103, 71, 98, 424, 425, 104, 426, 427, 428, 429, 430, 91, 92, 93, 431, 115, 116, 5, 117, 432, 433, 434, 435, 436, 437, 94, 95, 438, 439, 440, 441, 73, 206, 207, 208, 209, 74, 75, 442, 443, 444, 445, 96, 446, 447, 448, 449, 450, 451, 452, 453, 454, 455, 456, 457, 90, 458, 459, 460, 461, 462, 463, 464, 465, 84, 72, 466, 467, 468, 469, 470, 471, 472, 473, 77, 78, 79, 80, 81, 82, 83, 85, 89, 87, 88, 474, 475, 476, 477, 478, 479, 480, 481, 482, 483, 484, 485, 486, 487, 488, 489, 490, 491, 492, 493, 494, 495, 496, 497, 86, 498, 499, 500, 501, 502, 503, 504, 505, 506, 707, 708, 709, 710, 711, 712, 713, 714, 715, 716, 717, 718, 719, 720, 721, 722, 723, 724, 725, 726, 727, 728, 729, 730, 731, 732, 733, 734, 735, 736, 737, 738, 739, 740, 741, 742, 743, 744] (by decide +kernel) (by decide +kernel)
set_option maxRecDepth 20000 in
theorem gL_law_X5_count : GoodIn wsL_law (wsV RL 46 RX5 yX5_count wsX5_count) := goodIn_app (goodIn_of _ (by decide +kernel)) ggL_law_X5_count
set_option maxRecDepth 20000 in
theorem ggL_law_X4_stage : GoodIn wsL_law wsX4_stage := goodIn_r _ [510, 20, 511, 512, 513, 514, 515, 516, 517, 518, 519, 520, 521, 522, 19, 523, 232, 703, 704, 705, 706, 753, 754, 755, 756, 757, 758, 759, 760, 761, 762, 763, 764, 765, 766, 767, 768, 769, 770] (by decide +kernel) (by decide +kernel)
set_option maxRecDepth 20000 in
theorem gL_law_X4_stage : GoodIn wsL_law (wsV RL 47 RX4 yX4_stage wsX4_stage) := goodIn_app (goodIn_of _ (by decide +kernel)) ggL_law_X4_stage
set_option maxRecDepth 20000 in
theorem ggL_law_X5_stage : GoodIn wsL_law wsX5_stage := goodIn_r _ [527, 528, 77, 78, 79, 80, 81, 82, 83, 529, 530, 531, 532, 5, 533, 427, 115, 116, 117, 707, 708, 709, 710, 711, 712, 713, 714, 715, 716, 717, 718, 719, 720, 721, 722, 723, 724, 725, 726, 727, 728, 729, 730, 731, 732, 733, 734, 735, 736, 737, 738, 739, 740, 741, 742, 743, 744] (by decide +kernel) (by decide +kernel)
set_option maxRecDepth 20000 in
theorem gL_law_X5_stage : GoodIn wsL_law (wsV RL 51 RX5 yX5_stage wsX5_stage) := goodIn_app (goodIn_of _ (by decide +kernel)) ggL_law_X5_stage
set_option maxRecDepth 20000 in
theorem ggL_law_X4_votes : GoodIn wsL_law wsX4_votes := goodIn_r _ [537, 20, 214, 511, 538, 539, 540, 19, 541, 230, 542, 521, 522, 523, 232, 543, 290, 2, 291, 703, 704, 705, 706, 753, 754, 755, 756, 757, 758, 759, 760, 761, 762, 763, 764, 765, 766, 767, 768, 769, 770] (by decide +kernel) (by decide +kernel)
set_option maxRecDepth 20000 in
theorem gL_law_X4_votes : GoodIn wsL_law (wsV RL 52 RX4 yX4_votes wsX4_votes) := goodIn_app (goodIn_of _ (by decide +kernel)) ggL_law_X4_votes
set_option maxRecDepth 20000 in
theorem ggL_law_X5_votes : GoodIn wsL_law wsX5_votes := goodIn_r _ [547, 528, 84, 548, 549, 550, 5, 551, 425, 530, 531, 532, 533, 427, 115, 116, 117, 707, 708, 709, 710, 711, 712, 713, 714, 715, 716, 717, 718, 719, 720, 721, 722, 723, 724, 725, 726, 727, 728, 729, 730, 731, 732, 733, 734, 735, 736, 737, 738, 739, 740, 741, 742, 743, 744] (by decide +kernel) (by decide +kernel)
set_option maxRecDepth 20000 in
theorem gL_law_X5_votes : GoodIn wsL_law (wsV RL 55 RX5 yX5_votes wsX5_votes) := goodIn_app (goodIn_of _ (by decide +kernel)) ggL_law_X5_votes
set_option maxRecDepth 20000 in
theorem ggL_law_X4_status : GoodIn wsL_law wsX4_status := goodIn_r _ [555, 20, 556, 538, 539, 540, 19, 541, 230, 542, 521, 522, 523, 232, 543, 290, 2, 291, 703, 704, 705, 706, 753, 754, 755, 756, 757, 758, 759, 760, 761, 762, 763, 764, 765, 766, 767, 768, 769, 770] (by decide +kernel) (by decide +kernel)
set_option maxRecDepth 20000 in
theorem gL_law_X4_status : GoodIn wsL_law (wsV RL 56 RX4 yX4_status wsX4_status) := goodIn_app (goodIn_of _ (by decide +kernel)) ggL_law_X4_status
set_option maxRecDepth 20000 in
theorem ggL_law_X5_status : GoodIn wsL_law wsX5_status := goodIn_r _ [560, 85, 548, 549, 550, 5, 551, 425, 530, 531, 532, 533, 427, 115, 116, 117, 707, 708, 709, 710, 711, 712, 713, 714, 715, 716, 717, 718, 719, 720, 721, 722, 723, 724, 725, 726, 727, 728, 729, 730, 731, 732, 733, 734, 735, 736, 737, 738, 739, 740, 741, 742, 743, 744] (by decide +kernel) (by decide +kernel)
set_option maxRecDepth 20000 in
theorem gL_law_X5_status : GoodIn wsL_law (wsV RL 59 RX5 yX5_status wsX5_status) := goodIn_app (goodIn_of _ (by decide +kernel)) ggL_law_X5_status
set_option maxRecDepth 20000 in
theorem ggL_law_X4_elected : GoodIn wsL_law wsX4_elected := goodIn_r _ [564, 20, 565, 566, 703, 704, 705, 706, 753, 754, 755, 756, 757, 758, 759, 760, 761, 762, 763, 764, 765, 766, 767, 768, 769, 770] (by decide +kernel) (by decide +kernel)
set_option maxRecDepth 20000 in
theorem gL_law_X4_elected : GoodIn wsL_law (wsV RL 60 RX4 yX4_elected wsX4_elected) := goodIn_app (goodIn_of _ (by decide +kernel)) ggL_law_X4_elected
set_option maxRecDepth 20000 in
theorem ggL_law_X5_elected : GoodIn wsL_law wsX5_elected := goodIn_r _ [570, 428, 90, 115, 116, 5, 117, 707, 708, 709, 710, 711, 712, 713, 714, 715, 716, 717, 718, 719, 720, 721, 722, 723, 724, 725, 726, 727, 728, 729, 730, 731, 732, 733, 734, 735, 736, 737, 738, 739, 740, 741, 742, 743, 744] (by decide +kernel) (by decide +kernel)
set_option maxRecDepth 20000 in
theorem gL_law_X5_elected : GoodIn wsL_law (wsV RL 63 RX5 yX5_elected wsX5_elected) := goodIn_app (goodIn_of _ (by decide +kernel)) ggL_law_X5_elected
set_option maxRecDepth 20000 in
theorem ggL_law_X4_keep : GoodIn wsL_law wsX4_keep := goodIn_r _ [574, 20, 575, 556, 576, 538, 539, 540, 19, 541, 230, 542, 521, 522, 523, 232, 543, 290, 2, 291, 703, 704, 705, 706, 753, 754, 755, 756, 757, 758, 759, 760, 761, 762, 763, 764, 765, 766, 767, 768, 769, 770] (by decide +kernel) (by decide +kernel)
set_option maxRecDepth 20000 in
theorem gL_law_X4_keep : GoodIn wsL_law (wsV RL 64 RX4 yX4_keep wsX4_keep) := goodIn_app (goodIn_of _ (by decide +kernel)) ggL_law_X4_keep
set_option maxRecDepth 20000 in
theorem ggL_law_X5_keep : GoodIn wsL_law wsX5_keep := goodIn_r _ [580, 98, 85, 86, 548, 549, 550, 5, 551, 425, 530, 531, 532, 533, 427, 115, 116, 117, 707, 708, 709, 710, 711, 712, 713, 714, 715, 716, 717, 718, 719, 720, 721, 722, 723, 724, 725, 726, 727, 728, 729, 730, 731, 732, 733, 734, 735, 736, 737, 738, 739, 740, 741, 742, 743, 744] (by decide +kernel) (by decide +kernel)
set_option maxRecDepth 20000 in
theorem gL_law_X5_keep : GoodIn wsL_law (wsV RL 67 RX5 yX5_keep wsX5_keep) := goodIn_app (goodIn_of _ (by decide +kernel)) ggL_law_X5_keep
set_option maxRecDepth 20000 in
theorem ggL_law_X4_lies : GoodIn wsL_law wsX4_lies := goodIn_r _ [584, 20, 575, 24, 585, 586, 520, 521, 522, 19, 523, 232, 587, 588, 589, 23, 590, 340, 591, 383, 2, 384, 703, 704, 705, 706, 753, 754, 755, 756, 757, 758, 759, 760, 761, 762, 763, 764, 765, 766, 767, 768, 769, 770, 771, 772, 773, 774, 775] (by decide +kernel) (by decide +kernel)
set_option maxRecDepth 20000 in
theorem gL_law_X4_lies : GoodIn wsL_law (wsV RL 68 RX4 yX4_lies wsX4_lies) := goodIn_app (goodIn_of _ (by decide +kernel)) ggL_law_X4_lies
set_option maxRecDepth 20000 in
theorem ggL_law_X5_lies : GoodIn wsL_law wsX5_lies := goodIn_r _ [595, 98, 426, 87, 88, 530, 531, 532, 5, 533, 427, 115, 116, 117, 707, 708, 709, 710, 711, 712, 713, 714, 715, 716, 717, 718, 719, 720, 721, 722, 723, 724, 725, 726, 727, 728, 729, 730, 731, 732, 733, 734, 735, 736, 737, 738, 739, 740, 741, 742, 743, 744] (by decide +kernel) (by decide +kernel)
set_option maxRecDepth 20000 in
theorem gL_law_X5_lies : GoodIn wsL_law (wsV RL 72 RX5 yX5_lies wsX5_lies) := goodIn_app (goodIn_of _ (by decide +kernel)) ggL_law_X5_lies
set_option maxRecDepth 20000 in
theorem ggL_law_X4_sheet : GoodIn wsL_law wsX4_sheet := goodIn_r _ [599, 20, 26, 511, 538, 539, 540, 19, 541, 230, 542, 521, 522, 523, 232, 543, 290, 2, 291, 703, 704, 705, 706, 753, 754, 755, 756, 757, 758, 759, 760, 761, 762, 763, 764, 765, 766, 767, 768, 769, 770] (by decide +kernel) (by decide +kernel)
set_option maxRecDepth 20000 in
theorem gL_law_X4_sheet : GoodIn wsL_law (wsV RL 73 RX4 yX4_sheet wsX4_sheet) := goodIn_app (goodIn_of _ (by decide +kernel)) ggL_law_X4_sheet
set_option maxRecDepth 20000 in
theorem ggL_law_X5_sheet : GoodIn wsL_law wsX5_sheet := goodIn_r _ [603, 528, 89, 548, 549, 550, 5, 551, 425, 530, 531, 532, 533, 427, 115, 116, 117, 707, 708, 709, 710, 711, 712, 713, 714, 715, 716, 717, 718, 719, 720, 721, 722, 723, 724, 725, 726, 727, 728, 729, 730, 731, 732, 733, 734, 735, 736, 737, 738, 739, 740, 741, 742, 743, 744] (by decide +kernel) (by decide +kernel)
set_option maxRecDepth 20000 in
theorem gL_law_X5_sheet : GoodIn wsL_law (wsV RL 76 RX5 yX5_sheet wsX5_sheet) := goodIn_app (goodIn_of _ (by decide +kernel)) ggL_law_X5_sheet
set_option maxRecDepth 20000 in
theorem ggL_law_X4_forge : GoodIn wsL_law wsX4_forge := goodIn_r _ [607, 20, 511, 26, 538, 539, 540, 19, 541, 230, 542, 521, 522, 523, 232, 543, 290, 2, 291, 703, 704, 705, 706, 753, 754, 755, 756, 757, 758, 759, 760, 761, 762, 763, 764, 765, 766, 767, 768, 769, 770] (by decide +kernel) (by decide +kernel)
set_option maxRecDepth 20000 in
theorem gL_law_X4_forge : GoodIn wsL_law (wsV RL 77 RX4 yX4_forge wsX4_forge) := goodIn_app (goodIn_of _ (by decide +kernel)) ggL_law_X4_forge
set_option maxRecDepth 20000 in
theorem ggL_law_X5_forge : GoodIn wsL_law wsX5_forge := goodIn_r _ [611, 528, 89, 548, 549, 550, 5, 551, 425, 530, 531, 532, 533, 427, 115, 116, 117, 707, 708, 709, 710, 711, 712, 713, 714, 715, 716, 717, 718, 719, 720, 721, 722, 723, 724, 725, 726, 727, 728, 729, 730, 731, 732, 733, 734, 735, 736, 737, 738, 739, 740, 741, 742, 743, 744] (by decide +kernel) (by decide +kernel)
set_option maxRecDepth 20000 in
theorem gL_law_X5_forge : GoodIn wsL_law (wsV RL 81 RX5 yX5_forge wsX5_forge) := goodIn_app (goodIn_of _ (by decide +kernel)) ggL_law_X5_forge
set_option maxRecDepth 20000 in
theorem ggL_law_X4_check : GoodIn wsL_law wsX4_check := goodIn_r _ [615, 20, 219, 616, 26, 214, 543, 290, 2, 291, 703, 704, 705, 706, 753, 754, 755, 756, 757, 758, 759, 760, 761, 762, 763, 764, 765, 766, 767, 768, 769, 770] (by decide +kernel) (by decide +kernel)
set_option maxRecDepth 20000 in
theorem gL_law_X4_check : GoodIn wsL_law (wsV RL 82 RX4 yX4_check wsX4_check) := goodIn_app (goodIn_of _ (by decide +kernel)) ggL_law_X4_check
set_option maxRecDepth 20000 in
theorem ggL_law_X5_check : GoodIn wsL_law wsX5_check := goodIn_r _ [620, 98, 427, 425, 89, 84, 707, 708, 709, 710, 711, 712, 713, 714, 715, 716, 717, 718, 719, 720, 721, 722, 723, 724, 725, 726, 727, 728, 729, 730, 731, 732, 733, 734, 735, 736, 737, 738, 739, 740, 741, 742, 743, 744] (by decide +kernel) (by decide +kernel)
set_option maxRecDepth 20000 in
theorem gL_law_X5_check : GoodIn wsL_law (wsV RL 86 RX5 yX5_check wsX5_check) := goodIn_app (goodIn_of _ (by decide +kernel)) ggL_law_X5_check
set_option maxRecDepth 20000 in
theorem ggL_law_X4_prefer : GoodIn wsL_law wsX4_prefer := goodIn_r _ [624, 16, 123, 124, 125, 15, 126, 43, 625, 626, 627, 628, 44, 38, 35, 703, 704, 705, 706, 745, 746, 747, 748, 749, 750, 751, 752] (by decide +kernel) (by decide +kernel)
set_option maxRecDepth 20000 in
theorem gL_law_X4_prefer : GoodIn wsL_law (wsV RL 87 RX4 yX4_prefer wsX4_prefer) := goodIn_app (goodIn_of _ (by decide +kernel)) ggL_law_X4_prefer

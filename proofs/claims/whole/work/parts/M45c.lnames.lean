set_option maxRecDepth 20000 in
theorem gL_law_X6_evenest : GoodIn wsL_law (wsV RL 140 RX6 yX6_evenest wsX6_evenest) := goodIn_app (goodIn_of _ (by decide +kernel)) ggL_law_X6_evenest
set_option maxRecDepth 20000 in
theorem ggL_law_L_type : GoodIn wsL_law wsL_type := goodIn_ca (goodIn_ca (goodIn_r _ [656, 91, 92, 657, 658, 659, 2, 660, 97, 98, 25, 541, 105, 106, 107, 108, 109, 661, 662, 663, 24, 664, 665, 67, 819, 820, 821, 822, 823, 824, 857, 858, 859] (by decide +kernel) (by decide +kernel)) (goodIn_sub (fun _ h => List.mem_append_left _ (List.mem_append_left _ (List.mem_append_right _ h))) (by decide +kernel))) (goodIn_sub (fun _ h => List.mem_append_right _ h) (by decide +kernel))
set_option maxRecDepth 20000 in
theorem gL_law_L_type : GoodIn wsL_law (va_wsS RL 141 yL_type wsL_type) := goodIn_app (goodIn_of _ (by decide +kernel)) ggL_law_L_type
set_option maxRecDepth 20000 in
theorem ggL_law_X6_type : GoodIn wsL_law wsX6_type := goodIn_r _ [669, 563, 80, 83, 84, 5, 85, 284, 285, 286, 287, 288, 309, 310, 311, 312, 825, 826, 827, 828, 829, 830, 831, 832, 833, 834, 835, 836, 837, 838, 839, 840] (by decide +kernel) (by decide +kernel)
set_option maxRecDepth 20000 in
theorem gL_law_X6_type : GoodIn wsL_law (wsV RL 143 RX6 yX6_type wsX6_type) := goodIn_app (goodIn_of _ (by decide +kernel)) ggL_law_X6_type
set_option maxRecDepth 20000 in
theorem ggL_law_X5_clearText : GoodIn wsL_law wsX5_clearText := goodIn_r _ [673, 25, 541, 819, 820, 821, 822, 823, 824, 857, 858, 859] (by decide +kernel) (by decide +kernel)
set_option maxRecDepth 20000 in
theorem gL_law_X5_clearText : GoodIn wsL_law (wsV RL 144 RX5 yX5_clearText wsX5_clearText) := goodIn_app (goodIn_of _ (by decide +kernel)) ggL_law_X5_clearText
set_option maxRecDepth 20000 in
theorem ggL_law_X6_clearText : GoodIn wsL_law wsX6_clearText := goodIn_r _ [677, 563, 309, 310, 311, 5, 312, 288, 825, 826, 827, 828, 829, 830, 831, 832, 833, 834, 835, 836, 837, 838, 839, 840] (by decide +kernel) (by decide +kernel)
set_option maxRecDepth 20000 in
theorem gL_law_X6_clearText : GoodIn wsL_law (wsV RL 147 RX6 yX6_clearText wsX6_clearText) := goodIn_app (goodIn_of _ (by decide +kernel)) ggL_law_X6_clearText
set_option maxRecDepth 20000 in
theorem ggL_law_X5_readWords : GoodIn wsL_law wsX5_readWords := goodIn_r _ [681, 25, 26, 30, 16, 99, 682, 683, 684, 24, 685, 686, 687, 665, 67, 688, 689, 690, 691, 692, 693, 694, 695, 696, 146, 147, 15, 148, 144, 36, 37, 38, 39, 41, 149, 150, 151, 152, 153, 154, 155, 156, 35, 136, 137, 138, 139, 114, 2, 115, 697, 166, 167, 168, 161, 162, 163, 164, 698, 158, 159, 160, 699, 700, 701, 702, 117, 118, 703, 221, 222, 223, 704, 705, 706, 707, 708, 348, 349, 350, 119, 120, 121, 29, 122, 123, 124, 125, 126, 127, 72, 128, 129, 130, 131, 132, 133, 134, 135, 48, 49, 140, 141, 142, 143, 709, 169, 170, 171, 172, 20, 173, 174, 175, 176, 177, 178, 179, 19, 180, 181, 56, 182, 183, 184, 185, 186, 187, 188, 189, 60, 190, 191, 192, 193, 194, 59, 195, 196, 197, 198, 199, 200, 201, 202, 203, 204, 205, 206, 207, 208, 209, 210, 211, 212, 213, 214, 215, 216, 217, 218, 219, 220, 224, 225, 226, 227, 228, 229, 230, 231, 232, 233, 234, 235, 236, 237, 238, 239, 240, 241, 242, 243, 244, 245, 246, 247, 248, 249, 250, 251, 252, 53, 253, 254, 255, 256, 257, 258, 259, 55, 260, 261, 262, 263, 264, 265, 266, 267, 268, 269, 270, 271, 272, 273, 274, 275, 54, 276, 277, 278, 279, 819, 820, 821, 822, 823, 824, 841, 842, 843, 844, 845, 846, 847, 848, 849, 857, 858, 859, 860, 861, 850, 851, 852, 853, 854, 855, 856, 862, 863, 864, 865, 866, 867, 868, 869] (by decide +kernel) (by decide +kernel)
set_option maxRecDepth 20000 in
theorem gL_law_X5_readWords : GoodIn wsL_law (wsV RL 148 RX5 yX5_readWords wsX5_readWords) := goodIn_app (goodIn_of _ (by decide +kernel)) ggL_law_X5_readWords
set_option maxRecDepth 20000 in
theorem ggL_law_X6_readWords : GoodIn wsL_law wsX6_readWords := goodIn_r _ [713, 77, 714, 563, 79, 292, 293, 294, 5, 295, 715, 716, 717, 718, 80, 719, 720, 721, 722, 296, 297, 298, 299, 300, 301, 302, 303, 723, 724, 725, 726, 727, 728, 729, 83, 84, 85, 309, 310, 311, 312, 288, 304, 305, 306, 307, 308, 78, 825, 826, 827, 828, 829, 830, 831, 832, 833, 834, 835, 836, 837, 838, 839, 840] (by decide +kernel) (by decide +kernel)
set_option maxRecDepth 20000 in
theorem gL_law_X6_readWords : GoodIn wsL_law (wsV RL 151 RX6 yX6_readWords wsX6_readWords) := goodIn_app (goodIn_of _ (by decide +kernel)) ggL_law_X6_readWords
set_option maxRecDepth 20000 in
theorem ggL_law_L_lineByte : GoodIn wsL_law wsL_lineByte := goodIn_ca (goodIn_ca (goodIn_r _ [732, 90, 91, 733, 734, 735, 2, 736, 108, 109, 20, 489, 100, 101, 102, 103, 104, 737, 738, 739, 740, 16, 432, 269, 270, 19, 271, 53, 741, 742, 743, 15, 744, 745, 221, 222, 223, 38, 161, 162, 163, 164, 144, 746, 233, 234, 235, 39, 747, 427, 428, 429, 36, 748, 749, 750, 751, 35, 752, 753, 754, 819, 820, 821, 822, 823, 824, 850, 851, 852, 853, 854, 855, 856, 841, 842, 843, 844, 845, 846, 847, 848, 849] (by decide +kernel) (by decide +kernel)) (goodIn_sub (fun _ h => List.mem_append_right _ h) (by decide +kernel))) (goodIn_sub (fun _ h => List.mem_append_left _ (List.mem_append_right _ h)) (by decide +kernel))
set_option maxRecDepth 20000 in
theorem gL_law_L_lineByte : GoodIn wsL_law (va_wsS RL 152 yL_lineByte wsL_lineByte) := goodIn_app (goodIn_of _ (by decide +kernel)) ggL_law_L_lineByte
set_option maxRecDepth 20000 in
theorem ggL_law_X6_lineByte : GoodIn wsL_law wsX6_lineByte := goodIn_r _ [758, 452, 441, 442, 443, 5, 444, 77, 445, 446, 447, 448, 449, 450, 451, 453, 454, 455, 456, 457, 81, 82, 458, 459, 460, 461, 355, 356, 357, 358, 462, 463, 464, 465, 375, 376, 377, 371, 372, 373, 374, 378, 379, 380, 466, 467, 468, 469, 284, 285, 286, 287, 288, 759, 760, 761, 762, 727, 728, 729, 309, 310, 311, 312, 825, 826, 827, 828, 829, 830, 831, 832, 833, 834, 835, 836, 837, 838, 839, 840] (by decide +kernel) (by decide +kernel)
set_option maxRecDepth 20000 in
theorem gL_law_X6_lineByte : GoodIn wsL_law (wsV RL 154 RX6 yX6_lineByte wsX6_lineByte) := goodIn_app (goodIn_of _ (by decide +kernel)) ggL_law_X6_lineByte
set_option maxRecDepth 20000 in
theorem ggL_law_L_undo : GoodIn wsL_law wsL_undo := goodIn_ca (goodIn_r _ [765, 92, 766, 767, 768, 2, 769, 97, 98, 30, 770, 16, 771, 772, 773, 29, 774, 123, 128, 129, 130, 131, 72, 132, 133, 134, 15, 135, 48, 136, 137, 138, 139, 49, 140, 141, 142, 143, 144, 35, 36, 37, 38, 39, 41, 169, 170, 171, 172, 20, 173, 174, 175, 176, 177, 178, 179, 19, 180, 181, 56, 182, 183, 184, 185, 186, 187, 188, 189, 60, 190, 191, 192, 193, 194, 59, 195, 196, 197, 155, 198, 199, 200, 201, 202, 154, 156, 203, 204, 205, 206, 207, 161, 162, 163, 164, 208, 209, 210, 211, 212, 213, 214, 215, 216, 217, 218, 219, 220, 221, 222, 223, 224, 225, 226, 227, 228, 229, 230, 231, 232, 233, 234, 235, 236, 237, 238, 239, 240, 241, 242, 243, 244, 245, 246, 247, 248, 249, 250, 251, 252, 53, 253, 254, 255, 256, 257, 258, 259, 55, 260, 261, 262, 263, 264, 265, 266, 267, 268, 269, 270, 271, 272, 273, 274, 275, 54, 276, 277, 278, 279, 819, 820, 821, 822, 823, 824, 860, 861, 841, 842, 843, 844, 845, 846, 847, 848, 849, 850, 851, 852, 853, 854, 855, 856, 862, 863, 864, 865, 866, 867, 868, 869] (by decide +kernel) (by decide +kernel)) (goodIn_sub (fun _ h => List.mem_append_left _ (List.mem_append_left _ (List.mem_append_right _ h))) (by decide +kernel))
set_option maxRecDepth 20000 in
theorem gL_law_L_undo : GoodIn wsL_law (va_wsS RL 155 yL_undo wsL_undo) := goodIn_app (goodIn_of _ (by decide +kernel)) ggL_law_L_undo
set_option maxRecDepth 20000 in
theorem ggL_law_X6_undo : GoodIn wsL_law wsX6_undo := goodIn_r _ [778, 308, 77, 78, 284, 285, 286, 5, 287, 288, 309, 310, 311, 312, 825, 826, 827, 828, 829, 830, 831, 832, 833, 834, 835, 836, 837, 838, 839, 840] (by decide +kernel) (by decide +kernel)
set_option maxRecDepth 20000 in
theorem gL_law_X6_undo : GoodIn wsL_law (wsV RL 158 RX6 yX6_undo wsX6_undo) := goodIn_app (goodIn_of _ (by decide +kernel)) ggL_law_X6_undo
set_option maxRecDepth 20000 in
theorem ggL_law_X5_digest : GoodIn wsL_law wsX5_digest := goodIn_r _ [782, 783, 30, 770, 16, 784, 785, 2, 786, 787, 537, 538, 539, 540, 99, 20, 489, 517, 25, 541, 542, 543, 544, 15, 545, 144, 546, 241, 242, 243, 41, 161, 162, 163, 164, 547, 548, 549, 19, 550, 183, 276, 277, 278, 279, 268, 269, 270, 271, 53, 551, 552, 553, 554, 173, 174, 175, 176, 48, 406, 229, 230, 231, 49, 788, 789, 790, 791, 418, 419, 420, 421, 422, 423, 424, 425, 55, 426, 427, 428, 429, 36, 366, 205, 206, 207, 37, 38, 39, 208, 209, 210, 430, 221, 222, 223, 431, 233, 234, 235, 343, 344, 345, 346, 432, 433, 434, 435, 436, 792, 793, 794, 795, 796, 797, 798, 799, 649, 154, 155, 156, 741, 742, 743, 744, 745, 746, 747, 737, 738, 739, 740, 748, 749, 750, 751, 35, 752, 753, 754, 800, 801, 802, 803, 518, 519, 520, 521, 54, 819, 820, 821, 822, 823, 824, 860, 861, 841, 842, 843, 844, 845, 846, 847, 848, 849, 850, 851, 852, 853, 854, 855, 856, 857, 858, 859] (by decide +kernel) (by decide +kernel)
set_option maxRecDepth 20000 in
theorem gL_law_X5_digest : GoodIn wsL_law (wsV RL 159 RX5 yX5_digest wsX5_digest) := goodIn_app (goodIn_of _ (by decide +kernel)) ggL_law_X5_digest

set_option maxRecDepth 20000 in
theorem ggL_law_X7_init : GoodIn wsL_law wsX7_init := goodIn_r _ [8, 9, 10, 11, 12, 13, 14, 15, 16, 17, 18, 19, 20, 21, 22, 23, 24, 25, 26, 27, 28, 29, 30, 31, 32, 33, 34, 35, 36, 37, 38, 39, 40, 41, 42, 43, 44, 45, 46, 47, 48, 49, 50, 51, 52, 53, 54, 55, 56, 57, 58, 59, 60, 61, 62, 63, 64, 65, 66, 67, 68, 69, 70, 71, 72, 73, 74, 75, 76, 77, 78, 79, 80, 81, 82, 83, 84, 85, 86, 87, 88, 89, 90, 91, 92, 93, 94, 95, 96, 97, 98, 99, 100, 101, 102, 103, 104, 105, 106, 107, 108, 109, 110, 111, 789, 790, 761, 762, 763, 764, 765, 766, 767, 791, 792, 793, 794, 795, 796, 797, 798, 799, 800, 801, 802, 803, 804, 805, 806, 807, 808, 809, 810, 811, 812, 813, 814, 815, 816, 817, 818, 819, 820, 821, 822, 823, 824, 825, 826, 827, 828, 829, 830, 831] (by decide +kernel) (by decide +kernel)
set_option maxRecDepth 20000 in
theorem gL_law_X7_init : GoodIn wsL_law (wsX7_init) := ggL_law_X7_init
set_option maxRecDepth 20000 in
theorem ggL_law_X8_init : GoodIn wsL_law wsX8_init := goodIn_r _ [114, 115, 10, 11, 43, 116, 117, 118, 119, 120, 121, 122, 123, 124, 125, 126, 127, 128, 129, 130, 131, 132, 133, 5, 134, 135, 136, 137, 138, 139, 140, 141, 142, 143, 768, 769, 770, 771, 772, 773, 774, 775, 776, 777, 778, 779, 780, 781, 782, 783, 784, 785, 786, 787, 788] (by decide +kernel) (by decide +kernel)
set_option maxRecDepth 20000 in
theorem gL_law_X8_init : GoodIn wsL_law (wsX8_init) := ggL_law_X8_init
set_option maxRecDepth 20000 in
theorem ggL_law_X7_write : GoodIn wsL_law wsX7_write := goodIn_r _ [147, 15, 148, 149, 150, 151, 14, 152, 45, 44, 761, 762, 763, 764, 765, 766, 767, 789, 790] (by decide +kernel) (by decide +kernel)
set_option maxRecDepth 20000 in
theorem gL_law_X7_write : GoodIn wsL_law (wsV RL 13 RX7 yX7_write wsX7_write) := goodIn_app (goodIn_of _ (by decide +kernel)) ggL_law_X7_write
set_option maxRecDepth 20000 in
theorem ggL_law_X8_write : GoodIn wsL_law wsX8_write := goodIn_r _ [156, 157, 116, 141, 142, 5, 143, 768, 769, 770, 771, 772, 773, 774, 775, 776, 777, 778, 779, 780, 781, 782, 783, 784, 785, 786, 787, 788] (by decide +kernel) (by decide +kernel)
set_option maxRecDepth 20000 in
theorem gL_law_X8_write : GoodIn wsL_law (wsV RL 17 RX8 yX8_write wsX8_write) := goodIn_app (goodIn_of _ (by decide +kernel)) ggL_law_X8_write
set_option maxRecDepth 20000 in
theorem ggL_law_X7_erase : GoodIn wsL_law wsX7_erase := goodIn_r _ [161, 15, 148, 761, 762, 763, 764, 765, 766, 767, 789, 790] (by decide +kernel) (by decide +kernel)
set_option maxRecDepth 20000 in
theorem gL_law_X7_erase : GoodIn wsL_law (wsV RL 18 RX7 yX7_erase wsX7_erase) := goodIn_app (goodIn_of _ (by decide +kernel)) ggL_law_X7_erase
set_option maxRecDepth 20000 in
theorem ggL_law_X8_erase : GoodIn wsL_law wsX8_erase := goodIn_r _ [165, 157, 768, 769, 770, 771, 772, 773, 774, 775, 776, 777, 778, 779, 780, 781, 782, 783, 784, 785, 786, 787, 788] (by decide +kernel) (by decide +kernel)
set_option maxRecDepth 20000 in
theorem gL_law_X8_erase : GoodIn wsL_law (wsV RL 22 RX8 yX8_erase wsX8_erase) := goodIn_app (goodIn_of _ (by decide +kernel)) ggL_law_X8_erase
set_option maxRecDepth 20000 in
theorem ggL_law_X7_fault : GoodIn wsL_law wsX7_fault := goodIn_r _ [169, 23, 15, 19, 170, 171, 172, 22, 173, 69, 70, 72, 71, 174, 175, 176, 177, 18, 178, 49, 50, 51, 52, 53, 54, 55, 56, 57, 58, 59, 60, 61, 62, 63, 179, 180, 181, 182, 183, 184, 185, 14, 186, 45, 44, 187, 188, 189, 190, 191, 192, 193, 194, 195, 196, 73, 197, 198, 199, 200, 201, 202, 203, 204, 205, 206, 207, 208, 209, 210, 211, 212, 213, 214, 215, 216, 217, 218, 219, 220, 221, 222, 223, 224, 225, 226, 227, 228, 229, 230, 231, 232, 233, 234, 235, 236, 237, 238, 239, 240, 241, 242, 243, 244, 245, 246, 247, 248, 249, 250, 251, 252, 253, 254, 255, 256, 257, 258, 259, 260, 261, 262, 263, 264, 265, 266, 267, 268, 269, 270, 271, 272, 273, 274, 275, 276, 277, 278, 279, 280, 281, 761, 762, 763, 764, 765, 766, 767, 807, 808, 809, 810, 811, 789, 790, 791, 792, 793, 794, 795, 796, 797, 798, 799, 800, 801, 802, 803, 804, 805, 806] (by decide +kernel) (by decide +kernel)
set_option maxRecDepth 20000 in
theorem gL_law_X7_fault : GoodIn wsL_law (wsV RL 23 RX7 yX7_fault wsX7_fault) := goodIn_app (goodIn_of _ (by decide +kernel)) ggL_law_X7_fault
set_option maxRecDepth 20000 in
theorem ggL_law_X8_fault : GoodIn wsL_law wsX8_fault := goodIn_r _ [285, 286, 287, 288, 289, 5, 290, 118, 117, 291, 292, 116, 293, 294, 295, 296, 297, 298, 299, 300, 301, 157, 302, 303, 304, 141, 142, 143, 305, 306, 307, 308, 309, 310, 311, 312, 313, 314, 315, 316, 317, 318, 319, 131, 132, 133, 134, 320, 321, 322, 323, 324, 325, 326, 327, 328, 329, 330, 331, 768, 769, 770, 771, 772, 773, 774, 775, 776, 777, 778, 779, 780, 781, 782, 783, 784, 785, 786, 787, 788] (by decide +kernel) (by decide +kernel)
set_option maxRecDepth 20000 in
theorem gL_law_X8_fault : GoodIn wsL_law (wsV RL 26 RX8 yX8_fault wsX8_fault) := goodIn_app (goodIn_of _ (by decide +kernel)) ggL_law_X8_fault
set_option maxRecDepth 20000 in
theorem ggL_law_X7_hall : GoodIn wsL_law wsX7_hall := goodIn_r _ [335, 23, 15, 19, 336, 148, 33, 337, 27, 338, 29, 339, 340, 170, 171, 172, 22, 173, 69, 70, 72, 71, 174, 175, 176, 177, 18, 178, 49, 50, 51, 52, 53, 54, 55, 56, 57, 58, 59, 60, 61, 62, 63, 179, 180, 181, 182, 183, 184, 185, 14, 186, 45, 44, 187, 188, 189, 190, 191, 192, 193, 194, 195, 196, 73, 197, 198, 199, 200, 201, 202, 203, 204, 205, 206, 207, 208, 209, 210, 211, 212, 213, 214, 215, 216, 217, 218, 219, 220, 221, 222, 223, 224, 225, 226, 227, 228, 229, 230, 231, 232, 233, 234, 235, 236, 237, 238, 239, 240, 241, 242, 243, 244, 245, 246, 247, 248, 249, 250, 251, 252, 253, 254, 255, 256, 257, 258, 259, 260, 261, 262, 263, 264, 265, 266, 267, 268, 269, 270, 271, 272, 273, 274, 275, 276, 277, 278, 279, 280, 281, 341, 342, 343, 344, 345, 761, 762, 763, 764, 765, 766, 767, 807, 808, 809, 810, 811, 789, 790, 815, 816, 817, 818, 819, 820, 821, 822, 812, 813, 814, 829, 830, 831, 791, 792, 793, 794, 795, 796, 797, 798, 799, 800, 801, 802, 803, 804, 805, 806] (by decide +kernel) (by decide +kernel)
set_option maxRecDepth 20000 in
theorem gL_law_X7_hall : GoodIn wsL_law (wsV RL 27 RX7 yX7_hall wsX7_hall) := goodIn_app (goodIn_of _ (by decide +kernel)) ggL_law_X7_hall
set_option maxRecDepth 20000 in
theorem ggL_law_X8_hall : GoodIn wsL_law wsX8_hall := goodIn_r _ [349, 117, 118, 157, 287, 288, 289, 5, 290, 291, 292, 116, 286, 293, 294, 295, 296, 297, 298, 299, 300, 301, 302, 303, 304, 141, 142, 143, 305, 306, 307, 308, 309, 310, 311, 312, 313, 314, 315, 316, 317, 318, 319, 131, 132, 133, 134, 320, 321, 322, 323, 324, 325, 326, 327, 328, 329, 330, 331, 135, 136, 137, 138, 119, 139, 140, 123, 768, 769, 770, 771, 772, 773, 774, 775, 776, 777, 778, 779, 780, 781, 782, 783, 784, 785, 786, 787, 788] (by decide +kernel) (by decide +kernel)
set_option maxRecDepth 20000 in
theorem gL_law_X8_hall : GoodIn wsL_law (wsV RL 30 RX8 yX8_hall wsX8_hall) := goodIn_app (goodIn_of _ (by decide +kernel)) ggL_law_X8_hall
set_option maxRecDepth 20000 in
theorem ggL_law_X7_person : GoodIn wsL_law wsX7_person := goodIn_r _ [353, 19, 354, 355, 356, 357, 358, 359, 360, 361, 362, 2, 363, 364, 365, 366, 367, 18, 368, 55, 58, 57, 369, 370, 371, 372, 59, 373, 761, 762, 763, 764, 765, 766, 767, 791, 792, 793, 794, 795, 796, 797, 798, 799, 800, 801, 802, 803, 804, 805, 806] (by decide +kernel) (by decide +kernel)
set_option maxRecDepth 20000 in
theorem gL_law_X7_person : GoodIn wsL_law (wsV RL 31 RX7 yX7_person wsX7_person) := goodIn_app (goodIn_of _ (by decide +kernel)) ggL_law_X7_person
set_option maxRecDepth 20000 in
theorem ggL_law_X8_person : GoodIn wsL_law wsX8_person := goodIn_r _ [377, 117, 119, 378, 379, 380, 5, 381, 141, 142, 143, 382, 383, 384, 385, 386, 387, 388, 389, 768, 769, 770, 771, 772, 773, 774, 775, 776, 777, 778, 779, 780, 781, 782, 783, 784, 785, 786, 787, 788] (by decide +kernel) (by decide +kernel)
set_option maxRecDepth 20000 in
theorem gL_law_X8_person : GoodIn wsL_law (wsV RL 35 RX8 yX8_person wsX8_person) := goodIn_app (goodIn_of _ (by decide +kernel)) ggL_law_X8_person
set_option maxRecDepth 20000 in
theorem ggL_law_X7_sort : GoodIn wsL_law wsX7_sort := goodIn_r _ [393, 19, 394, 395, 396, 397, 398, 2, 399, 400, 761, 762, 763, 764, 765, 766, 767, 791, 792, 793, 794, 795, 796, 797, 798, 799, 800, 801, 802, 803, 804, 805, 806] (by decide +kernel) (by decide +kernel)
set_option maxRecDepth 20000 in
theorem gL_law_X7_sort : GoodIn wsL_law (wsV RL 36 RX7 yX7_sort wsX7_sort) := goodIn_app (goodIn_of _ (by decide +kernel)) ggL_law_X7_sort
set_option maxRecDepth 20000 in
theorem ggL_law_X8_sort : GoodIn wsL_law wsX8_sort := goodIn_r _ [404, 117, 405, 406, 407, 5, 408, 141, 142, 143, 768, 769, 770, 771, 772, 773, 774, 775, 776, 777, 778, 779, 780, 781, 782, 783, 784, 785, 786, 787, 788] (by decide +kernel) (by decide +kernel)
set_option maxRecDepth 20000 in
theorem gL_law_X8_sort : GoodIn wsL_law (wsV RL 39 RX8 yX8_sort wsX8_sort) := goodIn_app (goodIn_of _ (by decide +kernel)) ggL_law_X8_sort
set_option maxRecDepth 20000 in
theorem ggL_law_X7_as : GoodIn wsL_law wsX7_as := goodIn_r _ [412, 413, 19, 354, 355, 360, 361, 362, 2, 363, 364, 414, 415, 416, 417, 418, 419, 18, 420, 58, 55, 57, 421, 422, 423, 424, 761, 762, 763, 764, 765, 766, 767, 791, 792, 793, 794, 795, 796, 797, 798, 799, 800, 801, 802, 803, 804, 805, 806] (by decide +kernel) (by decide +kernel)
set_option maxRecDepth 20000 in
theorem gL_law_X7_as : GoodIn wsL_law (wsV RL 40 RX7 yX7_as wsX7_as) := goodIn_app (goodIn_of _ (by decide +kernel)) ggL_law_X7_as
set_option maxRecDepth 20000 in
theorem ggL_law_X8_as : GoodIn wsL_law wsX8_as := goodIn_r _ [428, 117, 119, 378, 379, 380, 5, 381, 141, 142, 143, 429, 430, 431, 432, 768, 769, 770, 771, 772, 773, 774, 775, 776, 777, 778, 779, 780, 781, 782, 783, 784, 785, 786, 787, 788] (by decide +kernel) (by decide +kernel)
set_option maxRecDepth 20000 in
theorem gL_law_X8_as : GoodIn wsL_law (wsV RL 43 RX8 yX8_as wsX8_as) := goodIn_app (goodIn_of _ (by decide +kernel)) ggL_law_X8_as
set_option maxRecDepth 20000 in
theorem ggL_law_X7_deed : GoodIn wsL_law wsX7_deed := goodIn_r _ [436, 27, 19, 360, 361, 362, 2, 363, 364, 396, 397, 398, 399, 400, 437, 438, 439, 26, 440, 79, 80, 81, 441, 422, 423, 424, 442, 176, 177, 18, 178, 49, 50, 51, 52, 53, 54, 55, 56, 57, 58, 59, 60, 61, 62, 63, 443, 444, 445, 446, 447, 448, 449, 450, 421, 365, 366, 367, 368, 761, 762, 763, 764, 765, 766, 767, 791, 792, 793, 794, 795, 796, 797, 798, 799, 800, 801, 802, 803, 804, 805, 806, 812, 813, 814] (by decide +kernel) (by decide +kernel)
set_option maxRecDepth 20000 in
theorem gL_law_X7_deed : GoodIn wsL_law (wsV RL 44 RX7 yX7_deed wsX7_deed) := goodIn_app (goodIn_of _ (by decide +kernel)) ggL_law_X7_deed
set_option maxRecDepth 20000 in
theorem ggL_law_X8_deed : GoodIn wsL_law wsX8_deed := goodIn_r _ [454, 378, 379, 380, 5, 381, 117, 141, 142, 143, 405, 406, 407, 408, 455, 456, 457, 458, 139, 120, 119, 459, 460, 461, 462, 463, 464, 465, 382, 383, 384, 385, 768, 769, 770, 771, 772, 773, 774, 775, 776, 777, 778, 779, 780, 781, 782, 783, 784, 785, 786, 787, 788] (by decide +kernel) (by decide +kernel)
set_option maxRecDepth 20000 in
theorem gL_law_X8_deed : GoodIn wsL_law (wsV RL 47 RX8 yX8_deed wsX8_deed) := goodIn_app (goodIn_of _ (by decide +kernel)) ggL_law_X8_deed
set_option maxRecDepth 20000 in
theorem ggL_law_X7_feast : GoodIn wsL_law wsX7_feast := goodIn_r _ [469, 19, 364, 27, 437, 438, 439, 26, 440, 79, 80, 81, 441, 422, 423, 424, 442, 176, 177, 18, 178, 49, 50, 51, 52, 53, 54, 55, 56, 57, 58, 59, 60, 61, 62, 63, 470, 471, 472, 473, 474, 475, 476, 477, 64, 373, 366, 367, 368, 478, 479, 480, 481, 482, 483, 484, 485, 486, 487, 488, 489, 761, 762, 763, 764, 765, 766, 767, 791, 792, 793, 794, 795, 796, 797, 798, 799, 800, 801, 802, 803, 804, 805, 806, 812, 813, 814] (by decide +kernel) (by decide +kernel)
set_option maxRecDepth 20000 in
theorem gL_law_X7_feast : GoodIn wsL_law (wsV RL 48 RX7 yX7_feast wsX7_feast) := goodIn_app (goodIn_of _ (by decide +kernel)) ggL_law_X7_feast
set_option maxRecDepth 20000 in
theorem ggL_law_X8_feast : GoodIn wsL_law wsX8_feast := goodIn_r _ [493, 117, 119, 125, 455, 456, 457, 5, 458, 139, 120, 494, 495, 496, 497, 386, 387, 388, 389, 382, 383, 384, 385, 498, 499, 500, 501, 768, 769, 770, 771, 772, 773, 774, 775, 776, 777, 778, 779, 780, 781, 782, 783, 784, 785, 786, 787, 788] (by decide +kernel) (by decide +kernel)
set_option maxRecDepth 20000 in
theorem gL_law_X8_feast : GoodIn wsL_law (wsV RL 51 RX8 yX8_feast wsX8_feast) := goodIn_app (goodIn_of _ (by decide +kernel)) ggL_law_X8_feast
set_option maxRecDepth 20000 in
theorem ggL_law_X7_year : GoodIn wsL_law wsX7_year := goodIn_r _ [505, 19, 506, 27, 437, 438, 439, 26, 440, 79, 80, 81, 441, 422, 423, 424, 442, 176, 177, 18, 178, 49, 50, 51, 52, 53, 54, 55, 56, 57, 58, 59, 60, 61, 62, 63, 507, 508, 509, 510, 511, 418, 419, 420, 421, 761, 762, 763, 764, 765, 766, 767, 791, 792, 793, 794, 795, 796, 797, 798, 799, 800, 801, 802, 803, 804, 805, 806, 812, 813, 814] (by decide +kernel) (by decide +kernel)
set_option maxRecDepth 20000 in
theorem gL_law_X7_year : GoodIn wsL_law (wsV RL 52 RX7 yX7_year wsX7_year) := goodIn_app (goodIn_of _ (by decide +kernel)) ggL_law_X7_year
set_option maxRecDepth 20000 in
theorem ggL_law_X8_year : GoodIn wsL_law wsX8_year := goodIn_r _ [515, 119, 117, 455, 456, 457, 5, 458, 139, 120, 429, 430, 431, 432, 768, 769, 770, 771, 772, 773, 774, 775, 776, 777, 778, 779, 780, 781, 782, 783, 784, 785, 786, 787, 788] (by decide +kernel) (by decide +kernel)
set_option maxRecDepth 20000 in
theorem gL_law_X8_year : GoodIn wsL_law (wsV RL 55 RX8 yX8_year wsX8_year) := goodIn_app (goodIn_of _ (by decide +kernel)) ggL_law_X8_year
set_option maxRecDepth 20000 in
theorem ggL_law_X7_scale : GoodIn wsL_law wsX7_scale := goodIn_r _ [519, 27, 19, 520, 521, 437, 438, 439, 26, 440, 79, 80, 81, 441, 422, 423, 424, 442, 176, 177, 18, 178, 49, 50, 51, 52, 53, 54, 55, 56, 57, 58, 59, 60, 61, 62, 63, 761, 762, 763, 764, 765, 766, 767, 791, 792, 793, 794, 795, 796, 797, 798, 799, 800, 801, 802, 803, 804, 805, 806, 812, 813, 814] (by decide +kernel) (by decide +kernel)
set_option maxRecDepth 20000 in
theorem gL_law_X7_scale : GoodIn wsL_law (wsV RL 56 RX7 yX7_scale wsX7_scale) := goodIn_app (goodIn_of _ (by decide +kernel)) ggL_law_X7_scale
set_option maxRecDepth 20000 in
theorem ggL_law_X8_scale : GoodIn wsL_law wsX8_scale := goodIn_r _ [525, 119, 141, 142, 5, 143, 455, 456, 457, 458, 139, 120, 768, 769, 770, 771, 772, 773, 774, 775, 776, 777, 778, 779, 780, 781, 782, 783, 784, 785, 786, 787, 788] (by decide +kernel) (by decide +kernel)
set_option maxRecDepth 20000 in
theorem gL_law_X8_scale : GoodIn wsL_law (wsV RL 59 RX8 yX8_scale wsX8_scale) := goodIn_app (goodIn_of _ (by decide +kernel)) ggL_law_X8_scale
set_option maxRecDepth 20000 in
theorem ggL_law_X7_undo : GoodIn wsL_law wsX7_undo := goodIn_r _ [529, 27, 338, 19, 530, 531, 532, 26, 533, 81, 80, 79, 442, 176, 177, 18, 178, 49, 50, 51, 52, 53, 54, 55, 56, 57, 58, 59, 60, 61, 62, 63, 761, 762, 763, 764, 765, 766, 767, 812, 813, 814, 791, 792, 793, 794, 795, 796, 797, 798, 799, 800, 801, 802, 803, 804, 805, 806] (by decide +kernel) (by decide +kernel)
set_option maxRecDepth 20000 in
theorem gL_law_X7_undo : GoodIn wsL_law (wsV RL 60 RX7 yX7_undo wsX7_undo) := goodIn_app (goodIn_of _ (by decide +kernel)) ggL_law_X7_undo
set_option maxRecDepth 20000 in
theorem ggL_law_X8_undo : GoodIn wsL_law wsX8_undo := goodIn_r _ [537, 139, 119, 120, 768, 769, 770, 771, 772, 773, 774, 775, 776, 777, 778, 779, 780, 781, 782, 783, 784, 785, 786, 787, 788] (by decide +kernel) (by decide +kernel)
set_option maxRecDepth 20000 in
theorem gL_law_X8_undo : GoodIn wsL_law (wsV RL 63 RX8 yX8_undo wsX8_undo) := goodIn_app (goodIn_of _ (by decide +kernel)) ggL_law_X8_undo
set_option maxRecDepth 20000 in
theorem ggL_law_X7_keep : GoodIn wsL_law wsX7_keep := goodIn_r _ [541, 29, 542, 19, 543, 15, 339, 506, 544, 545, 2, 546, 341, 176, 177, 18, 178, 49, 50, 51, 52, 53, 54, 55, 56, 57, 58, 59, 60, 61, 62, 63, 547, 548, 549, 14, 550, 45, 44, 551, 552, 553, 554, 761, 762, 763, 764, 765, 766, 767, 829, 830, 831, 791, 792, 793, 794, 795, 796, 797, 798, 799, 800, 801, 802, 803, 804, 805, 806, 789, 790] (by decide +kernel) (by decide +kernel)
set_option maxRecDepth 20000 in
theorem gL_law_X7_keep : GoodIn wsL_law (wsV RL 64 RX7 yX7_keep wsX7_keep) := goodIn_app (goodIn_of _ (by decide +kernel)) ggL_law_X7_keep
set_option maxRecDepth 20000 in
theorem ggL_law_X8_keep : GoodIn wsL_law wsX8_keep := goodIn_r _ [558, 121, 119, 123, 141, 142, 5, 143, 768, 769, 770, 771, 772, 773, 774, 775, 776, 777, 778, 779, 780, 781, 782, 783, 784, 785, 786, 787, 788] (by decide +kernel) (by decide +kernel)
set_option maxRecDepth 20000 in
theorem gL_law_X8_keep : GoodIn wsL_law (wsV RL 67 RX8 yX8_keep wsX8_keep) := goodIn_app (goodIn_of _ (by decide +kernel)) ggL_law_X8_keep
set_option maxRecDepth 20000 in
theorem ggL_law_X7_back : GoodIn wsL_law wsX7_back := goodIn_r _ [562, 29, 339, 19, 542, 15, 543, 27, 338, 506, 544, 545, 2, 546, 341, 176, 177, 18, 178, 49, 50, 51, 52, 53, 54, 55, 56, 57, 58, 59, 60, 61, 62, 63, 547, 548, 549, 14, 550, 45, 44, 551, 552, 553, 554, 761, 762, 763, 764, 765, 766, 767, 829, 830, 831, 812, 813, 814, 791, 792, 793, 794, 795, 796, 797, 798, 799, 800, 801, 802, 803, 804, 805, 806, 789, 790] (by decide +kernel) (by decide +kernel)
set_option maxRecDepth 20000 in
theorem gL_law_X7_back : GoodIn wsL_law (wsV RL 68 RX7 yX7_back wsX7_back) := goodIn_app (goodIn_of _ (by decide +kernel)) ggL_law_X7_back
set_option maxRecDepth 20000 in
theorem ggL_law_X8_back : GoodIn wsL_law wsX8_back := goodIn_r _ [566, 123, 119, 121, 139, 141, 142, 5, 143, 768, 769, 770, 771, 772, 773, 774, 775, 776, 777, 778, 779, 780, 781, 782, 783, 784, 785, 786, 787, 788] (by decide +kernel) (by decide +kernel)
set_option maxRecDepth 20000 in
theorem gL_law_X8_back : GoodIn wsL_law (wsV RL 71 RX8 yX8_back wsX8_back) := goodIn_app (goodIn_of _ (by decide +kernel)) ggL_law_X8_back
set_option maxRecDepth 20000 in
theorem ggL_law_X7_gets : GoodIn wsL_law wsX7_gets := goodIn_r _ [570, 37, 19, 360, 361, 362, 2, 363, 364, 571, 572, 573, 36, 574, 99, 575, 475, 476, 18, 477, 53, 64, 59, 49, 55, 373, 366, 367, 368, 58, 57, 478, 479, 480, 481, 482, 483, 484, 485, 486, 487, 488, 489, 50, 51, 761, 762, 763, 764, 765, 766, 767, 791, 792, 793, 794, 795, 796, 797, 798, 799, 800, 801, 802, 803, 804, 805, 806, 823, 824, 825, 826, 827, 828] (by decide +kernel) (by decide +kernel)
set_option maxRecDepth 20000 in
theorem gL_law_X7_gets : GoodIn wsL_law (wsV RL 72 RX7 yX7_gets wsX7_gets) := goodIn_app (goodIn_of _ (by decide +kernel)) ggL_law_X7_gets
set_option maxRecDepth 20000 in
theorem ggL_law_X8_gets : GoodIn wsL_law wsX8_gets := goodIn_r _ [579, 378, 379, 380, 5, 381, 117, 141, 142, 143, 580, 581, 582, 583, 125, 494, 495, 496, 497, 119, 386, 387, 388, 389, 382, 383, 384, 385, 498, 499, 500, 501, 768, 769, 770, 771, 772, 773, 774, 775, 776, 777, 778, 779, 780, 781, 782, 783, 784, 785, 786, 787, 788] (by decide +kernel) (by decide +kernel)
set_option maxRecDepth 20000 in
theorem gL_law_X8_gets : GoodIn wsL_law (wsV RL 75 RX8 yX8_gets wsX8_gets) := goodIn_app (goodIn_of _ (by decide +kernel)) ggL_law_X8_gets
set_option maxRecDepth 20000 in
theorem ggL_law_X7_need : GoodIn wsL_law wsX7_need := goodIn_r _ [587, 37, 19, 360, 361, 362, 2, 363, 364, 588, 589, 590, 591, 592, 593, 594, 595, 36, 596, 98, 597, 176, 177, 18, 178, 49, 50, 51, 52, 53, 54, 55, 56, 57, 58, 59, 60, 61, 62, 63, 598, 448, 449, 450, 421, 422, 423, 424, 599, 572, 573, 574, 99, 575, 475, 476, 477, 64, 373, 366, 367, 368, 478, 479, 480, 481, 482, 483, 484, 485, 486, 487, 488, 489, 761, 762, 763, 764, 765, 766, 767, 791, 792, 793, 794, 795, 796, 797, 798, 799, 800, 801, 802, 803, 804, 805, 806, 823, 824, 825, 826, 827, 828] (by decide +kernel) (by decide +kernel)
set_option maxRecDepth 20000 in
theorem gL_law_X7_need : GoodIn wsL_law (wsV RL 76 RX7 yX7_need wsX7_need) := goodIn_app (goodIn_of _ (by decide +kernel)) ggL_law_X7_need
set_option maxRecDepth 20000 in
theorem ggL_law_X8_need : GoodIn wsL_law wsX8_need := goodIn_r _ [603, 119, 378, 379, 380, 5, 381, 117, 141, 142, 143, 604, 605, 606, 607, 463, 464, 465, 580, 581, 582, 583, 125, 494, 495, 496, 497, 386, 387, 388, 389, 382, 383, 384, 385, 498, 499, 500, 501, 768, 769, 770, 771, 772, 773, 774, 775, 776, 777, 778, 779, 780, 781, 782, 783, 784, 785, 786, 787, 788] (by decide +kernel) (by decide +kernel)
set_option maxRecDepth 20000 in
theorem gL_law_X8_need : GoodIn wsL_law (wsV RL 79 RX8 yX8_need wsX8_need) := goodIn_app (goodIn_of _ (by decide +kernel)) ggL_law_X8_need
set_option maxRecDepth 20000 in
theorem ggL_law_X7_deeds : GoodIn wsL_law wsX7_deeds := goodIn_r _ [611, 37, 19, 612, 613, 360, 361, 362, 2, 363, 364, 588, 589, 590, 591, 592, 614, 615, 616, 36, 617, 102, 618, 100, 619, 620, 621, 622, 98, 623, 103, 101, 597, 176, 177, 18, 178, 49, 50, 51, 52, 53, 54, 55, 56, 57, 58, 59, 60, 61, 62, 63, 624, 444, 445, 446, 447, 448, 449, 450, 421, 422, 423, 424, 599, 572, 573, 574, 99, 575, 475, 476, 477, 64, 373, 366, 367, 368, 478, 479, 480, 481, 482, 483, 484, 485, 486, 487, 488, 489, 761, 762, 763, 764, 765, 766, 767, 823, 824, 825, 826, 827, 828, 791, 792, 793, 794, 795, 796, 797, 798, 799, 800, 801, 802, 803, 804, 805, 806] (by decide +kernel) (by decide +kernel)
set_option maxRecDepth 20000 in
theorem gL_law_X7_deeds : GoodIn wsL_law (wsV RL 80 RX7 yX7_deeds wsX7_deeds) := goodIn_app (goodIn_of _ (by decide +kernel)) ggL_law_X7_deeds
set_option maxRecDepth 20000 in
theorem ggL_law_X8_deeds : GoodIn wsL_law wsX8_deeds := goodIn_r _ [628, 126, 117, 127, 378, 379, 380, 5, 381, 141, 142, 143, 604, 605, 606, 607, 629, 630, 631, 632, 119, 459, 460, 461, 462, 463, 464, 465, 580, 581, 582, 583, 125, 494, 495, 496, 497, 386, 387, 388, 389, 382, 383, 384, 385, 498, 499, 500, 501, 768, 769, 770, 771, 772, 773, 774, 775, 776, 777, 778, 779, 780, 781, 782, 783, 784, 785, 786, 787, 788] (by decide +kernel) (by decide +kernel)
set_option maxRecDepth 20000 in
theorem gL_law_X8_deeds : GoodIn wsL_law (wsV RL 84 RX8 yX8_deeds wsX8_deeds) := goodIn_app (goodIn_of _ (by decide +kernel)) ggL_law_X8_deeds
set_option maxRecDepth 20000 in
theorem ggL_law_X7_seen : GoodIn wsL_law wsX7_seen := goodIn_r _ [636, 33, 337, 588, 589, 590, 2, 591, 19, 592, 637, 638, 639, 32, 640, 87, 85, 86, 761, 762, 763, 764, 765, 766, 767, 815, 816, 817, 818, 819, 820, 821, 822, 791, 792, 793, 794, 795, 796, 797, 798, 799, 800, 801, 802, 803, 804, 805, 806] (by decide +kernel) (by decide +kernel)
set_option maxRecDepth 20000 in
theorem gL_law_X7_seen : GoodIn wsL_law (wsV RL 85 RX7 yX7_seen wsX7_seen) := goodIn_app (goodIn_of _ (by decide +kernel)) ggL_law_X7_seen
set_option maxRecDepth 20000 in
theorem ggL_law_X8_seen : GoodIn wsL_law wsX8_seen := goodIn_r _ [644, 140, 124, 604, 605, 606, 5, 607, 117, 141, 142, 143, 768, 769, 770, 771, 772, 773, 774, 775, 776, 777, 778, 779, 780, 781, 782, 783, 784, 785, 786, 787, 788] (by decide +kernel) (by decide +kernel)
set_option maxRecDepth 20000 in
theorem gL_law_X8_seen : GoodIn wsL_law (wsV RL 88 RX8 yX8_seen wsX8_seen) := goodIn_app (goodIn_of _ (by decide +kernel)) ggL_law_X8_seen
set_option maxRecDepth 20000 in
theorem ggL_law_X7_forget : GoodIn wsL_law wsX7_forget := goodIn_r _ [648, 33, 337, 761, 762, 763, 764, 765, 766, 767, 815, 816, 817, 818, 819, 820, 821, 822] (by decide +kernel) (by decide +kernel)
set_option maxRecDepth 20000 in
theorem gL_law_X7_forget : GoodIn wsL_law (wsV RL 89 RX7 yX7_forget wsX7_forget) := goodIn_app (goodIn_of _ (by decide +kernel)) ggL_law_X7_forget
set_option maxRecDepth 20000 in
theorem ggL_law_X8_forget : GoodIn wsL_law wsX8_forget := goodIn_r _ [652, 140, 768, 769, 770, 771, 772, 773, 774, 775, 776, 777, 778, 779, 780, 781, 782, 783, 784, 785, 786, 787, 788] (by decide +kernel) (by decide +kernel)
set_option maxRecDepth 20000 in
theorem gL_law_X8_forget : GoodIn wsL_law (wsV RL 92 RX8 yX8_forget wsX8_forget) := goodIn_app (goodIn_of _ (by decide +kernel)) ggL_law_X8_forget
set_option maxRecDepth 20000 in
theorem ggL_law_X7_scales : GoodIn wsL_law wsX7_scales := goodIn_r _ [656, 33, 19, 592, 657, 658, 659, 660, 661, 662, 32, 663, 664, 665, 666, 667, 88, 89, 90, 93, 92, 668, 669, 670, 671, 87, 85, 86, 672, 2, 673, 674, 675, 676, 677, 678, 679, 423, 680, 761, 762, 763, 764, 765, 766, 767, 791, 792, 793, 794, 795, 796, 797, 798, 799, 800, 801, 802, 803, 804, 805, 806, 815, 816, 817, 818, 819, 820, 821, 822] (by decide +kernel) (by decide +kernel)
set_option maxRecDepth 20000 in
theorem gL_law_X7_scales : GoodIn wsL_law (wsV RL 93 RX7 yX7_scales wsX7_scales) := goodIn_app (goodIn_of _ (by decide +kernel)) ggL_law_X7_scales
set_option maxRecDepth 20000 in
theorem ggL_law_X8_scales : GoodIn wsL_law wsX8_scales := goodIn_r _ [684, 141, 142, 5, 143, 685, 686, 687, 688, 140, 124, 689, 690, 691, 692, 117, 498, 499, 500, 501, 768, 769, 770, 771, 772, 773, 774, 775, 776, 777, 778, 779, 780, 781, 782, 783, 784, 785, 786, 787, 788] (by decide +kernel) (by decide +kernel)
set_option maxRecDepth 20000 in
theorem gL_law_X8_scales : GoodIn wsL_law (wsV RL 96 RX8 yX8_scales wsX8_scales) := goodIn_app (goodIn_of _ (by decide +kernel)) ggL_law_X8_scales
set_option maxRecDepth 20000 in
theorem ggL_law_X7_tells : GoodIn wsL_law wsX7_tells := goodIn_r _ [696, 33, 19, 592, 697, 698, 699, 32, 700, 88, 701, 661, 662, 663, 664, 665, 666, 667, 89, 90, 93, 92, 668, 669, 670, 671, 87, 85, 86, 672, 2, 673, 674, 675, 676, 677, 678, 679, 423, 680, 702, 703, 704, 705, 761, 762, 763, 764, 765, 766, 767, 791, 792, 793, 794, 795, 796, 797, 798, 799, 800, 801, 802, 803, 804, 805, 806, 815, 816, 817, 818, 819, 820, 821, 822] (by decide +kernel) (by decide +kernel)
set_option maxRecDepth 20000 in
theorem gL_law_X7_tells : GoodIn wsL_law (wsV RL 97 RX7 yX7_tells wsX7_tells) := goodIn_app (goodIn_of _ (by decide +kernel)) ggL_law_X7_tells
set_option maxRecDepth 20000 in
theorem ggL_law_X8_tells : GoodIn wsL_law wsX8_tells := goodIn_r _ [709, 128, 129, 685, 686, 687, 5, 688, 140, 124, 689, 690, 691, 692, 117, 498, 499, 500, 501, 768, 769, 770, 771, 772, 773, 774, 775, 776, 777, 778, 779, 780, 781, 782, 783, 784, 785, 786, 787, 788] (by decide +kernel) (by decide +kernel)
set_option maxRecDepth 20000 in
theorem gL_law_X8_tells : GoodIn wsL_law (wsV RL 100 RX8 yX8_tells wsX8_tells) := goodIn_app (goodIn_of _ (by decide +kernel)) ggL_law_X8_tells
set_option maxRecDepth 20000 in
theorem ggL_law_X7_chance : GoodIn wsL_law wsX7_chance := goodIn_r _ [713, 37, 19, 364, 360, 361, 362, 2, 363, 588, 589, 590, 591, 592, 396, 397, 398, 399, 400, 714, 715, 716, 36, 717, 718, 98, 719, 720, 721, 722, 597, 176, 177, 18, 178, 49, 50, 51, 52, 53, 54, 55, 56, 57, 58, 59, 60, 61, 62, 63, 624, 444, 445, 446, 447, 448, 449, 450, 421, 422, 423, 424, 599, 572, 573, 574, 99, 575, 475, 476, 477, 64, 373, 366, 367, 368, 478, 479, 480, 481, 482, 483, 484, 485, 486, 487, 488, 489, 723, 724, 725, 726, 727, 728, 729, 730, 731, 732, 733, 734, 735, 761, 762, 763, 764, 765, 766, 767, 791, 792, 793, 794, 795, 796, 797, 798, 799, 800, 801, 802, 803, 804, 805, 806, 823, 824, 825, 826, 827, 828] (by decide +kernel) (by decide +kernel)
set_option maxRecDepth 20000 in
theorem gL_law_X7_chance : GoodIn wsL_law (wsV RL 101 RX7 yX7_chance wsX7_chance) := goodIn_app (goodIn_of _ (by decide +kernel)) ggL_law_X7_chance
set_option maxRecDepth 20000 in
theorem ggL_law_X8_chance : GoodIn wsL_law wsX8_chance := goodIn_r _ [739, 117, 378, 379, 380, 5, 381, 141, 142, 143, 604, 605, 606, 607, 405, 406, 407, 408, 740, 741, 742, 743, 130, 119, 459, 460, 461, 462, 463, 464, 465, 580, 581, 582, 583, 125, 494, 495, 496, 497, 386, 387, 388, 389, 382, 383, 384, 385, 498, 499, 500, 501, 744, 745, 746, 747, 768, 769, 770, 771, 772, 773, 774, 775, 776, 777, 778, 779, 780, 781, 782, 783, 784, 785, 786, 787, 788] (by decide +kernel) (by decide +kernel)
set_option maxRecDepth 20000 in
theorem gL_law_X8_chance : GoodIn wsL_law (wsV RL 105 RX8 yX8_chance wsX8_chance) := goodIn_app (goodIn_of _ (by decide +kernel)) ggL_law_X8_chance
set_option maxRecDepth 20000 in
theorem ggL_law_X7_count : GoodIn wsL_law wsX7_count := goodIn_r _ [751, 19, 592, 364, 400, 506, 520, 521, 33, 337, 27, 338, 15, 148, 752, 753, 754, 18, 755, 53, 756, 370, 371, 372, 59, 373, 366, 367, 368, 55, 58, 57, 761, 762, 763, 764, 765, 766, 767, 791, 792, 793, 794, 795, 796, 797, 798, 799, 800, 801, 802, 803, 804, 805, 806, 815, 816, 817, 818, 819, 820, 821, 822, 812, 813, 814, 789, 790] (by decide +kernel) (by decide +kernel)
set_option maxRecDepth 20000 in
theorem gL_law_X7_count : GoodIn wsL_law (wsV RL 106 RX7 yX7_count wsX7_count) := goodIn_app (goodIn_of _ (by decide +kernel)) ggL_law_X7_count
set_option maxRecDepth 20000 in
theorem ggL_law_X8_count : GoodIn wsL_law wsX8_count := goodIn_r _ [760, 117, 119, 140, 139, 157, 386, 387, 388, 5, 389, 382, 383, 384, 385, 768, 769, 770, 771, 772, 773, 774, 775, 776, 777, 778, 779, 780, 781, 782, 783, 784, 785, 786, 787, 788] (by decide +kernel) (by decide +kernel)
set_option maxRecDepth 20000 in
theorem gL_law_X8_count : GoodIn wsL_law (wsV RL 109 RX8 yX8_count wsX8_count) := goodIn_app (goodIn_of _ (by decide +kernel)) ggL_law_X8_count

theorem in_r {big : List Cond} {ws : List Cond} (ps : List Nat) (hp : ws = ps.filterMap (fun i => big[i]?)) : ∀ w ∈ ws, w ∈ big := by
  intro w hw
  rw [hp] at hw
  obtain ⟨i, -, hi⟩ := List.mem_filterMap.mp hw
  exact List.mem_of_getElem? hi
set_option maxRecDepth 20000 in
theorem li_1 : ∀ w ∈ wsL_law_r1, w ∈ lw_tbl := in_r [63, 64, 47, 712, 713, 55, 65, 66, 67, 68, 69, 70, 71, 72, 48, 299, 87, 88, 49, 300, 163, 164, 50, 301] (by decide +kernel)
set_option maxRecDepth 20000 in
theorem li_2 : ∀ w ∈ wsL_law_r2, w ∈ lw_tbl := in_r [189, 190, 51, 302, 209, 303, 211, 212, 52, 304, 248, 249, 53, 305, 277, 54, 74, 75, 76, 86, 77, 78, 90, 91] (by decide +kernel)
set_option maxRecDepth 20000 in
theorem li_3 : ∀ w ∈ wsL_law_r3, w ∈ lw_tbl := in_r [92, 93, 95, 98, 101, 103, 107, 111, 113, 114, 116, 118, 120, 122, 124, 126, 129, 166, 167, 168, 169, 171, 173, 175] (by decide +kernel)
set_option maxRecDepth 20000 in
theorem li_4 : ∀ w ∈ wsL_law_r4, w ∈ lw_tbl := in_r [176, 177, 191, 192, 193, 194, 195, 198, 199, 200, 214, 215, 216, 219, 220, 221, 223, 225, 227, 217, 229, 230, 251, 252] (by decide +kernel)
set_option maxRecDepth 20000 in
theorem li_5 : ∀ w ∈ wsL_law_r5, w ∈ lw_tbl := in_r [253, 254, 256, 257, 258, 259, 261, 263, 279, 280, 281, 282, 286, 284, 288, 290, 714, 715, 716, 717, 729, 731, 732, 733] (by decide +kernel)
set_option maxRecDepth 20000 in
theorem li_6 : ∀ w ∈ wsL_law_r6, w ∈ lw_tbl := in_r [734, 736, 793, 737, 738, 744, 745, 746, 747, 748, 749, 718, 720, 19, 721, 722, 724, 20, 725, 735, 739, 726, 727, 728] (by decide +kernel)
set_option maxRecDepth 20000 in
theorem li_7 : ∀ w ∈ wsL_law_r7, w ∈ lw_tbl := in_r [321, 322, 323, 324, 79, 325, 326, 327, 328, 794, 795, 796, 797, 730, 329, 330, 331, 332, 798, 799, 800, 801, 333, 334] (by decide +kernel)
set_option maxRecDepth 20000 in
theorem li_8 : ∀ w ∈ wsL_law_r8, w ∈ lw_tbl := in_r [335, 336, 337, 338, 339, 340, 80, 341, 342, 343, 344, 345, 347, 0, 348, 349, 350, 351, 352, 353, 354, 355, 356, 357] (by decide +kernel)
set_option maxRecDepth 20000 in
theorem li_9 : ∀ w ∈ wsL_law_r9, w ∈ lw_tbl := in_r [358, 359, 361, 1, 362, 363, 365, 2, 366, 368, 370, 3, 371, 372, 373, 374, 56, 375, 995, 376, 377, 378, 379, 380] (by decide +kernel)
set_option maxRecDepth 20000 in
theorem li_10 : ∀ w ∈ wsL_law_r10, w ∈ lw_tbl := in_r [996, 382, 383, 384, 385, 386, 387, 388, 389, 390, 391, 57, 392, 393, 394, 395, 396, 398, 399, 58, 400, 401, 402, 59] (by decide +kernel)
set_option maxRecDepth 20000 in
theorem li_11 : ∀ w ∈ wsL_law_r11, w ∈ lw_tbl := in_r [403, 404, 405, 406, 407, 408, 409, 410, 411, 412, 413, 414, 416, 418, 426, 428, 4, 429, 105, 109, 434, 436, 5, 437] (by decide +kernel)
set_option maxRecDepth 20000 in
theorem li_12 : ∀ w ∈ wsL_law_r12, w ∈ lw_tbl := in_r [442, 444, 6, 445, 96, 99, 446, 447, 448, 449, 450, 451, 452, 453, 454, 455, 456, 457, 802, 803, 804, 805, 742, 806] (by decide +kernel)
set_option maxRecDepth 20000 in
theorem li_13 : ∀ w ∈ wsL_law_r13, w ∈ lw_tbl := in_r [808, 21, 809, 740, 741, 810, 812, 22, 813, 743, 814, 816, 23, 817, 818, 819, 820, 821, 822, 823, 824, 826, 24, 827] (by decide +kernel)
set_option maxRecDepth 20000 in
theorem li_14 : ∀ w ∈ wsL_law_r14, w ∈ lw_tbl := in_r [828, 830, 25, 831, 832, 834, 26, 835, 836, 838, 27, 839, 840, 842, 28, 843, 844, 846, 29, 847, 459, 460, 461, 462] (by decide +kernel)
set_option maxRecDepth 20000 in
theorem li_15 : ∀ w ∈ wsL_law_r15, w ∈ lw_tbl := in_r [172, 222, 201, 291, 174, 463, 464, 465, 466, 467, 848, 849, 850, 851, 468, 469, 470, 471, 112, 115, 117, 119, 121, 123] (by decide +kernel)
set_option maxRecDepth 20000 in
theorem li_16 : ∀ w ∈ wsL_law_r16, w ∈ lw_tbl := in_r [472, 474, 7, 475, 106, 476, 477, 478, 479, 480, 481, 482, 483, 484, 852, 853, 854, 855, 856, 858, 30, 859, 860, 862] (by decide +kernel)
set_option maxRecDepth 20000 in
theorem li_17 : ∀ w ∈ wsL_law_r17, w ∈ lw_tbl := in_r [31, 863, 864, 866, 32, 867, 485, 486, 487, 488, 125, 128, 489, 491, 8, 492, 110, 868, 869, 870, 871, 872, 874, 33] (by decide +kernel)
set_option maxRecDepth 20000 in
theorem li_18 : ∀ w ∈ wsL_law_r18, w ∈ lw_tbl := in_r [875, 493, 494, 495, 496, 497, 499, 500, 501, 502, 503, 504, 505, 506, 507, 60, 508, 876, 877, 878, 879, 880, 882, 34] (by decide +kernel)
set_option maxRecDepth 20000 in
theorem li_19 : ∀ w ∈ wsL_law_r19, w ∈ lw_tbl := in_r [883, 509, 510, 511, 512, 513, 514, 515, 516, 518, 517, 519, 520, 521, 522, 523, 524, 525, 526, 884, 885, 886, 887, 888] (by decide +kernel)
set_option maxRecDepth 20000 in
theorem li_20 : ∀ w ∈ wsL_law_r20, w ∈ lw_tbl := in_r [890, 35, 891, 892, 894, 36, 895, 896, 897, 898, 527, 528, 529, 530, 531, 532, 533, 534, 535, 536, 537, 538, 539, 541] (by decide +kernel)
set_option maxRecDepth 20000 in
theorem li_21 : ∀ w ∈ wsL_law_r21, w ∈ lw_tbl := in_r [9, 542, 543, 545, 10, 546, 547, 549, 11, 550, 899, 900, 901, 902, 903, 905, 37, 906, 907, 909, 38, 910, 551, 552] (by decide +kernel)
set_option maxRecDepth 20000 in
theorem li_22 : ∀ w ∈ wsL_law_r22, w ∈ lw_tbl := in_r [553, 554, 102, 555, 556, 557, 558, 559, 911, 912, 913, 914, 560, 561, 562, 563, 97, 100, 915, 916, 917, 918, 564, 565] (by decide +kernel)
set_option maxRecDepth 20000 in
theorem li_23 : ∀ w ∈ wsL_law_r23, w ∈ lw_tbl := in_r [566, 567, 568, 569, 570, 571, 919, 920, 921, 922, 572, 573, 574, 575, 287, 289, 576, 577, 578, 579, 580, 581, 582, 583] (by decide +kernel)
set_option maxRecDepth 20000 in
theorem li_24 : ∀ w ∈ wsL_law_r24, w ∈ lw_tbl := in_r [585, 584, 61, 923, 924, 925, 926, 586, 587, 588, 589, 927, 928, 929, 930, 590, 591, 592, 593, 594, 595, 596, 597, 598] (by decide +kernel)
set_option maxRecDepth 20000 in
theorem li_25 : ∀ w ∈ wsL_law_r25, w ∈ lw_tbl := in_r [931, 932, 933, 934, 935, 937, 39, 938, 599, 600, 601, 602, 603, 605, 12, 606, 94, 607, 608, 609, 610, 611, 612, 613] (by decide +kernel)
set_option maxRecDepth 20000 in
theorem li_26 : ∀ w ∈ wsL_law_r26, w ∈ lw_tbl := in_r [939, 940, 941, 942, 943, 945, 40, 946, 614, 615, 616, 617, 262, 260, 618, 619, 620, 621, 108, 622, 624, 13, 625, 127] (by decide +kernel)
set_option maxRecDepth 20000 in
theorem li_27 : ∀ w ∈ wsL_law_r27, w ∈ lw_tbl := in_r [626, 947, 948, 949, 950, 951, 953, 41, 954, 627, 628, 629, 630, 631, 632, 633, 634, 955, 956, 957, 958, 635, 636, 637] (by decide +kernel)
set_option maxRecDepth 20000 in
theorem li_28 : ∀ w ∈ wsL_law_r28, w ∈ lw_tbl := in_r [638, 959, 960, 961, 962, 639, 640, 641, 642, 224, 226, 228, 643, 644, 645, 646, 647, 649, 14, 650, 651, 653, 15, 654] (by decide +kernel)
set_option maxRecDepth 20000 in
theorem li_29 : ∀ w ∈ wsL_law_r29, w ∈ lw_tbl := in_r [656, 657, 658, 660, 16, 661, 662, 663, 664, 963, 964, 965, 966, 967, 969, 42, 970, 971, 973, 43, 974, 665, 666, 667] (by decide +kernel)
set_option maxRecDepth 20000 in
theorem li_30 : ∀ w ∈ wsL_law_r30, w ∈ lw_tbl := in_r [668, 669, 670, 671, 672, 673, 674, 676, 17, 677, 975, 976, 977, 978, 678, 679, 680, 681, 682, 683, 684, 685, 104, 686] (by decide +kernel)
set_option maxRecDepth 20000 in
theorem li_31 : ∀ w ∈ wsL_law_r31, w ∈ lw_tbl := in_r [688, 18, 689, 690, 691, 62, 692, 693, 694, 695, 697, 698, 699, 700, 701, 702, 979, 980, 981, 982, 983, 985, 44, 986] (by decide +kernel)
set_option maxRecDepth 20000 in
theorem li_32 : ∀ w ∈ wsL_law_r32, w ∈ lw_tbl := in_r [987, 989, 45, 990, 703, 704, 705, 706, 707, 708, 709, 710, 711, 991, 992, 993, 994] (by decide +kernel)
set_option maxRecDepth 20000 in
theorem lf_0 : ∀ w ∈ wsX00, w ∈ lw_tbl := in_r [264, 266, 268, 270, 272, 274] (by decide +kernel)
set_option maxRecDepth 20000 in
theorem lf_1 : ∀ w ∈ wsX10, w ∈ lw_tbl := in_r [130, 132, 134, 136, 138, 140, 142, 144, 146, 148, 150, 152, 154, 156, 158, 160] (by decide +kernel)
set_option maxRecDepth 20000 in
theorem lf_2 : ∀ w ∈ wsX20, w ∈ lw_tbl := in_r [292, 294, 296] (by decide +kernel)
set_option maxRecDepth 20000 in
theorem lf_3 : ∀ w ∈ wsX30, w ∈ lw_tbl := in_r [202, 204, 206] (by decide +kernel)
set_option maxRecDepth 20000 in
theorem lf_4 : ∀ w ∈ wsX40, w ∈ lw_tbl := in_r [178, 180, 182, 184, 186] (by decide +kernel)
set_option maxRecDepth 20000 in
theorem lf_5 : ∀ w ∈ wsX50, w ∈ lw_tbl := in_r [231, 233, 235, 237, 239, 241, 243, 245] (by decide +kernel)
set_option maxRecDepth 20000 in
theorem lf_6 : ∀ w ∈ wsX60, w ∈ lw_tbl := in_r [81, 83] (by decide +kernel)
set_option maxRecDepth 20000 in
theorem lf_7 : ∀ w ∈ wsX70, w ∈ lw_tbl := in_r [306, 308, 310, 312, 314, 316, 318] (by decide +kernel)
set_option maxRecDepth 20000 in
theorem lf_8 : ∀ w ∈ wsX80, w ∈ lw_tbl := in_r [750, 752, 754, 756, 758, 760, 762, 764, 766, 768, 770, 772, 774, 776, 778, 780, 782, 784, 786, 788, 790] (by decide +kernel)
theorem wsL_law_in : ∀ w ∈ wsL_law, w ∈ lw_tbl := (List.forall_mem_append.mpr ⟨(List.forall_mem_append.mpr ⟨(List.forall_mem_append.mpr ⟨(List.forall_mem_append.mpr ⟨(List.forall_mem_append.mpr ⟨(List.forall_mem_append.mpr ⟨(List.forall_mem_append.mpr ⟨(List.forall_mem_append.mpr ⟨(List.forall_mem_append.mpr ⟨(List.forall_mem_append.mpr ⟨(List.forall_mem_append.mpr ⟨li_1, (List.forall_mem_append.mpr ⟨li_2, (List.forall_mem_append.mpr ⟨li_3, (List.forall_mem_append.mpr ⟨li_4, (List.forall_mem_append.mpr ⟨li_5, (List.forall_mem_append.mpr ⟨li_6, (List.forall_mem_append.mpr ⟨li_7, (List.forall_mem_append.mpr ⟨li_8, (List.forall_mem_append.mpr ⟨li_9, (List.forall_mem_append.mpr ⟨li_10, (List.forall_mem_append.mpr ⟨li_11, (List.forall_mem_append.mpr ⟨li_12, (List.forall_mem_append.mpr ⟨li_13, (List.forall_mem_append.mpr ⟨li_14, (List.forall_mem_append.mpr ⟨li_15, (List.forall_mem_append.mpr ⟨li_16, (List.forall_mem_append.mpr ⟨li_17, (List.forall_mem_append.mpr ⟨li_18, (List.forall_mem_append.mpr ⟨li_19, (List.forall_mem_append.mpr ⟨li_20, (List.forall_mem_append.mpr ⟨li_21, (List.forall_mem_append.mpr ⟨li_22, (List.forall_mem_append.mpr ⟨li_23, (List.forall_mem_append.mpr ⟨li_24, (List.forall_mem_append.mpr ⟨li_25, (List.forall_mem_append.mpr ⟨li_26, (List.forall_mem_append.mpr ⟨li_27, (List.forall_mem_append.mpr ⟨li_28, (List.forall_mem_append.mpr ⟨li_29, (List.forall_mem_append.mpr ⟨li_30, (List.forall_mem_append.mpr ⟨li_31, li_32⟩)⟩)⟩)⟩)⟩)⟩)⟩)⟩)⟩)⟩)⟩)⟩)⟩)⟩)⟩)⟩)⟩)⟩)⟩)⟩)⟩)⟩)⟩)⟩)⟩)⟩)⟩)⟩)⟩)⟩)⟩), lf_7⟩), lf_8⟩), lf_6⟩), lf_1⟩), lf_4⟩), lf_3⟩), lf_5⟩), lf_0⟩), lf_2⟩), fun _ h => absurd h List.not_mem_nil⟩)
theorem inlX0 : ∀ w ∈ wsX00, w ∈ wsL_law := fun _ h => List.mem_append_left _ (List.mem_append_left _ (List.mem_append_right _ h))
theorem inlX1 : ∀ w ∈ wsX10, w ∈ wsL_law := fun _ h => List.mem_append_left _ (List.mem_append_left _ (List.mem_append_left _ (List.mem_append_left _ (List.mem_append_left _ (List.mem_append_left _ (List.mem_append_right _ h))))))
theorem inlX2 : ∀ w ∈ wsX20, w ∈ wsL_law := fun _ h => List.mem_append_left _ (List.mem_append_right _ h)
theorem inlX3 : ∀ w ∈ wsX30, w ∈ wsL_law := fun _ h => List.mem_append_left _ (List.mem_append_left _ (List.mem_append_left _ (List.mem_append_left _ (List.mem_append_right _ h))))
theorem inlX4 : ∀ w ∈ wsX40, w ∈ wsL_law := fun _ h => List.mem_append_left _ (List.mem_append_left _ (List.mem_append_left _ (List.mem_append_left _ (List.mem_append_left _ (List.mem_append_right _ h)))))
theorem inlX5 : ∀ w ∈ wsX50, w ∈ wsL_law := fun _ h => List.mem_append_left _ (List.mem_append_left _ (List.mem_append_left _ (List.mem_append_right _ h)))
theorem inlX6 : ∀ w ∈ wsX60, w ∈ wsL_law := fun _ h => List.mem_append_left _ (List.mem_append_left _ (List.mem_append_left _ (List.mem_append_left _ (List.mem_append_left _ (List.mem_append_left _ (List.mem_append_left _ (List.mem_append_right _ h)))))))
theorem inlX7 : ∀ w ∈ wsX70, w ∈ wsL_law := fun _ h => List.mem_append_left _ (List.mem_append_left _ (List.mem_append_left _ (List.mem_append_left _ (List.mem_append_left _ (List.mem_append_left _ (List.mem_append_left _ (List.mem_append_left _ (List.mem_append_left _ (List.mem_append_right _ h)))))))))
theorem inlX8 : ∀ w ∈ wsX80, w ∈ wsL_law := fun _ h => List.mem_append_left _ (List.mem_append_left _ (List.mem_append_left _ (List.mem_append_left _ (List.mem_append_left _ (List.mem_append_left _ (List.mem_append_left _ (List.mem_append_left _ (List.mem_append_right _ h))))))))

/-! the words of the law's body among the tables' -/
theorem lin {ws : List Cond} (ps : List Nat) (h : ws = ps.filterMap (fun i => lw_tbl[i]?)) : ∀ w ∈ ws, w ∈ lw_tbl := fun w hw => by
  rw [h] at hw
  obtain ⟨i, -, hi⟩ := List.mem_filterMap.mp hw
  exact List.mem_of_getElem? hi
theorem lapp {a b : List Cond} (ha : ∀ w ∈ a, w ∈ lw_tbl) (hb : ∀ w ∈ b, w ∈ lw_tbl) : ∀ w ∈ a ++ b, w ∈ lw_tbl := fun w h => (List.mem_append.mp h).elim (ha w) (hb w)
set_option maxRecDepth 20000 in
theorem in_wsL_law0_r1 : ∀ w ∈ wsL_law0_r1, w ∈ lw_tbl := lin [58, 59, 37, 710, 711, 45, 925, 60, 61, 62, 63, 64, 65, 66, 67, 38, 140, 141, 97, 98, 41, 142, 112, 113] (by decide +kernel)
set_option maxRecDepth 20000 in
theorem in_wsL_law0_r2 : ∀ w ∈ wsL_law0_r2, w ∈ lw_tbl := lin [44, 143, 144, 138, 73, 39, 145, 146, 147, 148, 149, 150, 69, 70, 71, 72, 86, 87, 88, 74, 75, 76, 77, 78] (by decide +kernel)
set_option maxRecDepth 20000 in
theorem in_wsL_law0_r3 : ∀ w ∈ wsL_law0_r3, w ∈ lw_tbl := lin [79, 40, 80, 85, 81, 100, 101, 102, 103, 105, 106, 104, 114, 115, 116, 124, 126, 117, 118, 43, 119, 128, 120, 121] (by decide +kernel)
set_option maxRecDepth 20000 in
theorem in_wsL_law0_r4 : ∀ w ∈ wsL_law0_r4, w ∈ lw_tbl := lin [42, 122, 123, 139, 712, 713, 714, 715, 716, 717, 719, 759, 720, 721, 723, 724, 725, 727, 728, 198, 199, 36, 200, 201] (by decide +kernel)
set_option maxRecDepth 20000 in
theorem in_wsL_law0_r5 : ∀ w ∈ wsL_law0_r5, w ∈ lw_tbl := lin [202, 203, 204, 205, 206, 282, 50, 207, 208, 209, 210, 49, 278, 279, 280, 281, 298, 299, 300, 301, 302, 303, 304, 305] (by decide +kernel)
set_option maxRecDepth 20000 in
theorem in_wsL_law0_r6 : ∀ w ∈ wsL_law0_r6, w ∈ lw_tbl := lin [307, 308, 178, 179, 180, 181, 764, 765, 766, 767, 768, 769, 770, 771, 772, 773, 774, 776, 19, 777, 729, 760, 761, 762] (by decide +kernel)
set_option maxRecDepth 20000 in
theorem in_wsL_law0_r7 : ∀ w ∈ wsL_law0_r7, w ∈ lw_tbl := lin [763, 174, 175, 176, 177, 182, 183, 184, 185, 778, 779, 780, 781, 309, 310, 311, 312, 313, 314, 315, 316, 317, 318, 319] (by decide +kernel)
set_option maxRecDepth 20000 in
theorem in_wsL_law0_r8 : ∀ w ∈ wsL_law0_r8, w ∈ lw_tbl := lin [320, 321, 322, 323, 325, 327, 1, 328, 343, 190, 191, 192, 193, 127, 329, 330, 331, 332, 333, 334, 51, 335, 336, 337] (by decide +kernel)
set_option maxRecDepth 20000 in
theorem in_wsL_law0_r9 : ∀ w ∈ wsL_law0_r9, w ∈ lw_tbl := lin [52, 338, 339, 340, 341, 342, 344, 345, 346, 347, 349, 351, 2, 352, 343, 353, 53, 354, 355, 356, 357, 358, 359, 360] (by decide +kernel)
set_option maxRecDepth 20000 in
theorem in_wsL_law0_r10 : ∀ w ∈ wsL_law0_r10, w ∈ lw_tbl := lin [361, 362, 363, 364, 365, 366, 367, 368, 369, 379, 381, 383, 385, 371, 373, 375, 377, 370, 404, 406, 3, 407, 408, 409] (by decide +kernel)
set_option maxRecDepth 20000 in
theorem in_wsL_law0_r11 : ∀ w ∈ wsL_law0_r11, w ∈ lw_tbl := lin [410, 411, 442, 443, 444, 445, 412, 413, 414, 415, 416, 417, 418, 419, 420, 421, 422, 423, 424, 425, 426, 427, 428, 429] (by decide +kernel)
set_option maxRecDepth 20000 in
theorem in_wsL_law0_r12 : ∀ w ∈ wsL_law0_r12, w ∈ lw_tbl := lin [430, 431, 432, 433, 434, 435, 436, 437, 438, 439, 440, 441, 446, 447, 449, 4, 450, 451, 452, 453, 454, 455, 456, 457] (by decide +kernel)
set_option maxRecDepth 20000 in
theorem in_wsL_law0_r13 : ∀ w ∈ wsL_law0_r13, w ∈ lw_tbl := lin [458, 459, 129, 130, 460, 462, 5, 463, 464, 466, 6, 467, 468, 470, 7, 471, 507, 508, 472, 473, 54, 474, 475, 476] (by decide +kernel)
set_option maxRecDepth 20000 in
theorem in_wsL_law0_r14 : ∀ w ∈ wsL_law0_r14, w ∈ lw_tbl := lin [477, 478, 479, 480, 481, 55, 482, 483, 940, 484, 496, 497, 498, 499, 500, 502, 503, 504, 506, 505, 56, 782, 783, 784] (by decide +kernel)
set_option maxRecDepth 20000 in
theorem in_wsL_law0_r15 : ∀ w ∈ wsL_law0_r15, w ∈ lw_tbl := lin [785, 718, 786, 788, 20, 789, 790, 792, 21, 793, 794, 796, 22, 797, 726, 798, 799, 800, 801, 802, 803, 805, 23, 806] (by decide +kernel)
set_option maxRecDepth 20000 in
theorem in_wsL_law0_r16 : ∀ w ∈ wsL_law0_r16, w ∈ lw_tbl := lin [186, 187, 188, 189, 807, 808, 809, 810, 509, 510, 511, 512, 513, 514, 515, 516, 517, 519, 8, 520, 521, 57, 537, 538] (by decide +kernel)
set_option maxRecDepth 20000 in
theorem in_wsL_law0_r17 : ∀ w ∈ wsL_law0_r17, w ∈ lw_tbl := lin [539, 541, 542, 543, 544, 545, 811, 812, 813, 814, 815, 817, 24, 818, 819, 820, 821, 822, 824, 25, 825, 546, 547, 548] (by decide +kernel)
set_option maxRecDepth 20000 in
theorem in_wsL_law0_r18 : ∀ w ∈ wsL_law0_r18, w ∈ lw_tbl := lin [549, 550, 551, 552, 826, 827, 828, 829, 553, 554, 555, 556, 557, 558, 559, 830, 831, 832, 833, 560, 561, 562, 563, 564] (by decide +kernel)
set_option maxRecDepth 20000 in
theorem in_wsL_law0_r19 : ∀ w ∈ wsL_law0_r19, w ∈ lw_tbl := lin [565, 566, 568, 569, 570, 571, 573, 575, 9, 576, 834, 835, 836, 837, 838, 840, 26, 841, 842, 844, 27, 845, 846, 848] (by decide +kernel)
set_option maxRecDepth 20000 in
theorem in_wsL_law0_r20 : ∀ w ∈ wsL_law0_r20, w ∈ lw_tbl := lin [28, 849, 578, 579, 580, 581, 582, 583, 584, 585, 586, 587, 850, 851, 852, 853, 589, 590, 591, 592, 593, 594, 595, 854] (by decide +kernel)
set_option maxRecDepth 20000 in
theorem in_wsL_law0_r21 : ∀ w ∈ wsL_law0_r21, w ∈ lw_tbl := lin [855, 856, 857, 596, 597, 598, 599, 600, 601, 602, 603, 858, 859, 860, 861, 604, 605, 606, 607, 608, 609, 610, 862, 863] (by decide +kernel)
set_option maxRecDepth 20000 in
theorem in_wsL_law0_r22 : ∀ w ∈ wsL_law0_r22, w ∈ lw_tbl := lin [864, 865, 611, 612, 613, 614, 615, 616, 617, 866, 867, 868, 869, 722, 194, 195, 196, 197, 870, 871, 872, 873, 619, 620] (by decide +kernel)
set_option maxRecDepth 20000 in
theorem in_wsL_law0_r23 : ∀ w ∈ wsL_law0_r23, w ∈ lw_tbl := lin [621, 622, 623, 624, 625, 627, 628, 629, 631, 632, 633, 634, 635, 636, 637, 638, 639, 640, 641, 642, 874, 875, 876, 877] (by decide +kernel)
set_option maxRecDepth 20000 in
theorem in_wsL_law0_r24 : ∀ w ∈ wsL_law0_r24, w ∈ lw_tbl := lin [878, 879, 880, 881, 883, 29, 884, 643, 644, 645, 646, 647, 648, 649, 650, 652, 10, 653, 654, 656, 11, 657, 658, 885] (by decide +kernel)
set_option maxRecDepth 20000 in
theorem in_wsL_law0_r25 : ∀ w ∈ wsL_law0_r25, w ∈ lw_tbl := lin [886, 887, 888, 889, 891, 30, 892, 893, 895, 31, 896, 659, 660, 661, 662, 663, 664, 665, 666, 668, 12, 669, 670, 672] (by decide +kernel)
set_option maxRecDepth 20000 in
theorem in_wsL_law0_r26 : ∀ w ∈ wsL_law0_r26, w ∈ lw_tbl := lin [13, 673, 897, 898, 899, 900, 674, 675, 676, 677, 678, 679, 680, 681, 683, 14, 684, 685, 687, 15, 688, 901, 902, 903] (by decide +kernel)
set_option maxRecDepth 20000 in
theorem in_wsL_law0_r27 : ∀ w ∈ wsL_law0_r27, w ∈ lw_tbl := lin [904, 905, 907, 32, 908, 909, 911, 33, 912, 689, 690, 691, 692, 693, 694, 695, 697, 699, 16, 700, 701, 703, 17, 704] (by decide +kernel)
set_option maxRecDepth 20000 in
theorem in_wsL_law0_r28 : ∀ w ∈ wsL_law0_r28, w ∈ lw_tbl := lin [705, 706, 708, 18, 709, 913, 914, 915, 916, 917, 919, 34, 920, 921, 923, 35, 924] (by decide +kernel)
set_option maxRecDepth 20000 in
theorem in_wsX40 : ∀ w ∈ wsX40, w ∈ lw_tbl := lin [151, 153, 155, 157, 159, 161, 163, 165, 167, 169, 171] (by decide +kernel)
set_option maxRecDepth 20000 in
theorem in_wsX50 : ∀ w ∈ wsX50, w ∈ lw_tbl := lin [730, 732, 734, 736, 738, 740, 742, 744, 746, 748, 750, 752, 754, 756] (by decide +kernel)
set_option maxRecDepth 20000 in
theorem in_wsX00 : ∀ w ∈ wsX00, w ∈ lw_tbl := lin [90, 92, 94] (by decide +kernel)
set_option maxRecDepth 20000 in
theorem in_wsX20 : ∀ w ∈ wsX20, w ∈ lw_tbl := lin [107, 109] (by decide +kernel)
set_option maxRecDepth 20000 in
theorem in_wsJx4a65c0 : ∀ w ∈ wsJx4a65c0, w ∈ lw_tbl := lin [135, 131, 133] (by decide +kernel)
set_option maxRecDepth 20000 in
theorem in_wsX10 : ∀ w ∈ wsX10, w ∈ lw_tbl := lin [82] (by decide +kernel)
set_option maxRecDepth 20000 in
theorem in_wsX30 : ∀ w ∈ wsX30, w ∈ lw_tbl := lin [387, 389, 391, 393, 395, 397, 399, 401] (by decide +kernel)
theorem in_law0 : ∀ w ∈ wsL_law0, w ∈ lw_tbl := lapp (lapp (lapp (lapp (lapp (lapp (lapp (lapp (lapp in_wsL_law0_r1 (lapp in_wsL_law0_r2 (lapp in_wsL_law0_r3 (lapp in_wsL_law0_r4 (lapp in_wsL_law0_r5 (lapp in_wsL_law0_r6 (lapp in_wsL_law0_r7 (lapp in_wsL_law0_r8 (lapp in_wsL_law0_r9 (lapp in_wsL_law0_r10 (lapp in_wsL_law0_r11 (lapp in_wsL_law0_r12 (lapp in_wsL_law0_r13 (lapp in_wsL_law0_r14 (lapp in_wsL_law0_r15 (lapp in_wsL_law0_r16 (lapp in_wsL_law0_r17 (lapp in_wsL_law0_r18 (lapp in_wsL_law0_r19 (lapp in_wsL_law0_r20 (lapp in_wsL_law0_r21 (lapp in_wsL_law0_r22 (lapp in_wsL_law0_r23 (lapp in_wsL_law0_r24 (lapp in_wsL_law0_r25 (lapp in_wsL_law0_r26 (lapp in_wsL_law0_r27 (in_wsL_law0_r28)))))))))))))))))))))))))))) in_wsX40) in_wsX50) in_wsX00) in_wsX20) in_wsJx4a65c0) in_wsX10) in_wsX30) (fun _ h => absurd h List.not_mem_nil)
theorem wsL_law_x0 : ∀ w ∈ (vx_atS RX4 72 "java/lang/IllegalStateException" ["java/lang/RuntimeException", "java/lang/Exception"]).filter goodWord, w ∈ lw_tbl := by decide +kernel
theorem wsL_law_x1 : ∀ w ∈ (vx_atS RX4 169 "java/lang/IllegalArgumentException" ["java/lang/RuntimeException", "java/lang/Exception"]).filter goodWord, w ∈ lw_tbl := by decide +kernel
theorem wsL_law_x2 : ∀ w ∈ (vx_atS RX4 223 "java/lang/IndexOutOfBoundsException" ["java/lang/RuntimeException", "java/lang/Exception"]).filter goodWord, w ∈ lw_tbl := by decide +kernel
theorem wsL_law_in : ∀ w ∈ wsL_law, w ∈ lw_tbl := lapp (lapp (lapp in_law0 wsL_law_x0) wsL_law_x1) wsL_law_x2

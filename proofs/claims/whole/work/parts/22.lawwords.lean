theorem lwm {ws : List Cond} (ps : List Nat) (hp : ws = ps.filterMap (fun i => lw_tbl[i]?)) : ∀ w ∈ ws, w ∈ lw_tbl := by
  intro w h
  rw [hp] at h
  obtain ⟨i, _, hi⟩ := List.mem_filterMap.mp h
  exact List.mem_of_getElem? hi
set_option maxRecDepth 20000 in
theorem wsL_law0_r1_in : ∀ w ∈ wsL_law0_r1, w ∈ lw_tbl := lwm [54, 55, 42, 626, 627, 45, 907, 56, 57, 58, 59, 60, 61, 62, 63, 43, 148, 120, 121, 44, 149, 64, 65, 66] (by decide +kernel)
set_option maxRecDepth 20000 in
theorem wsL_law0_r2_in : ∀ w ∈ wsL_law0_r2, w ∈ lw_tbl := lwm [67, 119, 68, 71, 74, 77, 80, 83, 86, 89, 122, 123, 124, 125, 129, 126, 131, 133, 128, 628, 629, 630, 631, 633] (by decide +kernel)
set_option maxRecDepth 20000 in
theorem wsL_law0_r3_in : ∀ w ∈ wsL_law0_r3, w ∈ lw_tbl := lwm [635, 636, 638, 639, 640, 641, 643, 645, 681, 646, 647, 217, 218, 41, 219, 220, 221, 222, 223, 224, 225, 300, 50, 69] (by decide +kernel)
set_option maxRecDepth 20000 in
theorem wsL_law0_r4_in : ∀ w ∈ wsL_law0_r4, w ∈ lw_tbl := lwm [226, 227, 228, 232, 49, 229, 230, 231, 316, 317, 318, 319, 135, 686, 687, 688, 689, 632, 642, 690, 691, 692, 693, 695] (by decide +kernel)
set_option maxRecDepth 20000 in
theorem wsL_law0_r5_in : ∀ w ∈ wsL_law0_r5, w ∈ lw_tbl := lwm [17, 696, 682, 683, 684, 685, 320, 321, 322, 323, 324, 325, 326, 327, 329, 51, 93, 345, 346, 347, 348, 92, 697, 698] (by decide +kernel)
set_option maxRecDepth 20000 in
theorem wsL_law0_r6_in : ∀ w ∈ wsL_law0_r6, w ∈ lw_tbl := lwm [699, 700, 634, 349, 350, 351, 352, 353, 354, 355, 96, 356, 358, 3, 359, 361, 362, 363, 367, 368, 369, 370, 95, 701] (by decide +kernel)
set_option maxRecDepth 20000 in
theorem wsL_law0_r7_in : ∀ w ∈ wsL_law0_r7, w ∈ lw_tbl := lwm [702, 703, 704, 637, 705, 707, 18, 708, 371, 372, 373, 374, 375, 376, 377, 84, 709, 710, 711, 712, 158, 159, 160, 161] (by decide +kernel)
set_option maxRecDepth 20000 in
theorem wsL_law0_r8_in : ∀ w ∈ wsL_law0_r8, w ∈ lw_tbl := lwm [713, 714, 715, 716, 162, 163, 164, 165, 717, 718, 719, 720, 166, 167, 168, 169, 170, 171, 172, 173, 178, 179, 52, 180] (by decide +kernel)
set_option maxRecDepth 20000 in
theorem wsL_law0_r9_in : ∀ w ∈ wsL_law0_r9, w ∈ lw_tbl := lwm [174, 176, 0, 177, 721, 722, 723, 724, 725, 727, 19, 728, 181, 182, 183, 184, 185, 186, 187, 188, 189, 190, 191, 192] (by decide +kernel)
set_option maxRecDepth 20000 in
theorem wsL_law0_r10_in : ∀ w ∈ wsL_law0_r10, w ∈ lw_tbl := lwm [193, 194, 53, 195, 196, 198, 1, 199, 729, 730, 731, 732, 733, 735, 20, 736, 737, 739, 21, 740, 741, 743, 22, 744] (by decide +kernel)
set_option maxRecDepth 20000 in
theorem wsL_law0_r11_in : ∀ w ∈ wsL_law0_r11, w ∈ lw_tbl := lwm [745, 747, 23, 748, 379, 380, 381, 382, 383, 384, 385, 91, 387, 749, 750, 751, 752, 388, 389, 390, 391, 392, 393, 394] (by decide +kernel)
set_option maxRecDepth 20000 in
theorem wsL_law0_r12_in : ∀ w ∈ wsL_law0_r12, w ∈ lw_tbl := lwm [150, 396, 397, 398, 399, 400, 94, 401, 402, 403, 405, 4, 406, 90, 407, 409, 5, 410, 421, 422, 423, 411, 413, 6] (by decide +kernel)
set_option maxRecDepth 20000 in
theorem wsL_law0_r13_in : ∀ w ∈ wsL_law0_r13, w ∈ lw_tbl := lwm [414, 97, 78, 81, 85, 87, 415, 416, 418, 7, 419, 420, 424, 426, 8, 427, 72, 75, 70, 428, 430, 9, 431, 432] (by decide +kernel)
set_option maxRecDepth 20000 in
theorem wsL_law0_r14_in : ∀ w ∈ wsL_law0_r14, w ∈ lw_tbl := lwm [434, 10, 435, 436, 753, 754, 755, 756, 644, 757, 758, 760, 24, 761, 762, 764, 25, 765, 766, 768, 26, 769, 770, 771] (by decide +kernel)
set_option maxRecDepth 20000 in
theorem wsL_law0_r15_in : ∀ w ∈ wsL_law0_r15, w ∈ lw_tbl := lwm [772, 774, 27, 775, 776, 778, 28, 779, 200, 201, 202, 203, 780, 781, 782, 783, 204, 205, 206, 207, 136, 784, 785, 786] (by decide +kernel)
set_option maxRecDepth 20000 in
theorem wsL_law0_r16_in : ∀ w ∈ wsL_law0_r16, w ∈ lw_tbl := lwm [787, 437, 438, 439, 440, 441, 442, 443, 444, 446, 11, 447, 788, 789, 790, 791, 792, 794, 29, 795, 449, 450, 451, 452] (by decide +kernel)
set_option maxRecDepth 20000 in
theorem wsL_law0_r17_in : ∀ w ∈ wsL_law0_r17, w ∈ lw_tbl := lwm [453, 454, 455, 130, 796, 797, 798, 799, 800, 802, 30, 803, 456, 457, 458, 459, 460, 461, 462, 464, 465, 466, 467, 468] (by decide +kernel)
set_option maxRecDepth 20000 in
theorem wsL_law0_r18_in : ∀ w ∈ wsL_law0_r18, w ∈ lw_tbl := lwm [470, 12, 471, 804, 805, 806, 807, 808, 810, 31, 811, 812, 814, 32, 815, 472, 473, 474, 475, 476, 477, 478, 479, 480] (by decide +kernel)
set_option maxRecDepth 20000 in
theorem wsL_law0_r19_in : ∀ w ∈ wsL_law0_r19, w ∈ lw_tbl := lwm [481, 482, 816, 817, 818, 819, 483, 484, 485, 486, 487, 488, 489, 490, 491, 492, 493, 494, 495, 496, 497, 820, 821, 822] (by decide +kernel)
set_option maxRecDepth 20000 in
theorem wsL_law0_r20_in : ∀ w ∈ wsL_law0_r20, w ∈ lw_tbl := lwm [823, 824, 826, 33, 827, 828, 830, 34, 831, 498, 499, 500, 501, 502, 503, 504, 132, 505, 507, 13, 508, 832, 833, 834] (by decide +kernel)
set_option maxRecDepth 20000 in
theorem wsL_law0_r21_in : ∀ w ∈ wsL_law0_r21, w ∈ lw_tbl := lwm [835, 836, 838, 35, 839, 510, 511, 512, 513, 514, 515, 516, 134, 517, 518, 519, 520, 840, 841, 842, 843, 844, 846, 36] (by decide +kernel)
set_option maxRecDepth 20000 in
theorem wsL_law0_r22_in : ∀ w ∈ wsL_law0_r22, w ∈ lw_tbl := lwm [847, 521, 522, 523, 524, 525, 526, 527, 528, 529, 530, 531, 532, 533, 52, 534, 848, 849, 850, 851, 852, 854, 37, 855] (by decide +kernel)
set_option maxRecDepth 20000 in
theorem wsL_law0_r23_in : ∀ w ∈ wsL_law0_r23, w ∈ lw_tbl := lwm [535, 536, 537, 538, 539, 540, 541, 856, 857, 858, 859, 542, 543, 544, 545, 546, 547, 548, 549, 550, 551, 552, 860, 861] (by decide +kernel)
set_option maxRecDepth 20000 in
theorem wsL_law0_r24_in : ∀ w ∈ wsL_law0_r24, w ∈ lw_tbl := lwm [862, 863, 864, 866, 38, 867, 553, 554, 555, 556, 557, 558, 559, 563, 564, 560, 561, 562, 868, 869, 870, 871, 872, 565] (by decide +kernel)
set_option maxRecDepth 20000 in
theorem wsL_law0_r25_in : ∀ w ∈ wsL_law0_r25, w ∈ lw_tbl := lwm [566, 567, 568, 569, 570, 571, 572, 573, 574, 576, 873, 874, 875, 876, 577, 578, 579, 580, 581, 582, 583, 584, 585, 586] (by decide +kernel)
set_option maxRecDepth 20000 in
theorem wsL_law0_r26_in : ∀ w ∈ wsL_law0_r26, w ∈ lw_tbl := lwm [588, 590, 14, 591, 877, 878, 879, 880, 881, 883, 39, 884, 592, 593, 594, 595, 596, 597, 598, 599, 601, 15, 602, 603] (by decide +kernel)
set_option maxRecDepth 20000 in
theorem wsL_law0_r27_in : ∀ w ∈ wsL_law0_r27, w ∈ lw_tbl := lwm [605, 16, 606, 885, 886, 887, 888, 889, 891, 40, 892, 608, 609, 610, 611, 612, 613, 614, 615, 616, 617, 618, 893, 894] (by decide +kernel)
set_option maxRecDepth 20000 in
theorem wsL_law0_r28_in : ∀ w ∈ wsL_law0_r28, w ∈ lw_tbl := lwm [895, 896, 619, 620, 621, 622, 623, 624, 625, 897, 898, 899, 900, 208, 209, 210, 211, 212, 73, 76, 79, 82, 88, 213] (by decide +kernel)
set_option maxRecDepth 20000 in
theorem wsL_law0_r29_in : ∀ w ∈ wsL_law0_r29, w ∈ lw_tbl := lwm [214, 215, 216, 901, 902, 903, 904, 905, 906] (by decide +kernel)
theorem inTX0 : ∀ w ∈ wsX00, w ∈ lw_tbl := lwm [98, 100, 102, 104, 106, 108, 110, 112, 114, 116] (by decide +kernel)
theorem inTX1 : ∀ w ∈ wsX10, w ∈ lw_tbl := lwm [137, 139, 141, 143, 145] (by decide +kernel)
theorem inTX2 : ∀ w ∈ wsX20, w ∈ lw_tbl := lwm [151, 153, 155] (by decide +kernel)
theorem inTX3 : ∀ w ∈ wsX30, w ∈ lw_tbl := lwm [648, 650, 652, 654, 656, 658, 660, 662, 664, 666, 668, 670, 672, 674, 676, 678] (by decide +kernel)
theorem wsL_law0_rs : ∀ w ∈ (wsL_law0_r1 ++ (wsL_law0_r2 ++ (wsL_law0_r3 ++ (wsL_law0_r4 ++ (wsL_law0_r5 ++ (wsL_law0_r6 ++ (wsL_law0_r7 ++ (wsL_law0_r8 ++ (wsL_law0_r9 ++ (wsL_law0_r10 ++ (wsL_law0_r11 ++ (wsL_law0_r12 ++ (wsL_law0_r13 ++ (wsL_law0_r14 ++ (wsL_law0_r15 ++ (wsL_law0_r16 ++ (wsL_law0_r17 ++ (wsL_law0_r18 ++ (wsL_law0_r19 ++ (wsL_law0_r20 ++ (wsL_law0_r21 ++ (wsL_law0_r22 ++ (wsL_law0_r23 ++ (wsL_law0_r24 ++ (wsL_law0_r25 ++ (wsL_law0_r26 ++ (wsL_law0_r27 ++ (wsL_law0_r28 ++ (wsL_law0_r29))))))))))))))))))))))))))))), w ∈ lw_tbl := fun w h => (List.mem_append.mp h).elim (fun h => wsL_law0_r1_in w h) (fun h => (List.mem_append.mp h).elim (fun h => wsL_law0_r2_in w h) (fun h => (List.mem_append.mp h).elim (fun h => wsL_law0_r3_in w h) (fun h => (List.mem_append.mp h).elim (fun h => wsL_law0_r4_in w h) (fun h => (List.mem_append.mp h).elim (fun h => wsL_law0_r5_in w h) (fun h => (List.mem_append.mp h).elim (fun h => wsL_law0_r6_in w h) (fun h => (List.mem_append.mp h).elim (fun h => wsL_law0_r7_in w h) (fun h => (List.mem_append.mp h).elim (fun h => wsL_law0_r8_in w h) (fun h => (List.mem_append.mp h).elim (fun h => wsL_law0_r9_in w h) (fun h => (List.mem_append.mp h).elim (fun h => wsL_law0_r10_in w h) (fun h => (List.mem_append.mp h).elim (fun h => wsL_law0_r11_in w h) (fun h => (List.mem_append.mp h).elim (fun h => wsL_law0_r12_in w h) (fun h => (List.mem_append.mp h).elim (fun h => wsL_law0_r13_in w h) (fun h => (List.mem_append.mp h).elim (fun h => wsL_law0_r14_in w h) (fun h => (List.mem_append.mp h).elim (fun h => wsL_law0_r15_in w h) (fun h => (List.mem_append.mp h).elim (fun h => wsL_law0_r16_in w h) (fun h => (List.mem_append.mp h).elim (fun h => wsL_law0_r17_in w h) (fun h => (List.mem_append.mp h).elim (fun h => wsL_law0_r18_in w h) (fun h => (List.mem_append.mp h).elim (fun h => wsL_law0_r19_in w h) (fun h => (List.mem_append.mp h).elim (fun h => wsL_law0_r20_in w h) (fun h => (List.mem_append.mp h).elim (fun h => wsL_law0_r21_in w h) (fun h => (List.mem_append.mp h).elim (fun h => wsL_law0_r22_in w h) (fun h => (List.mem_append.mp h).elim (fun h => wsL_law0_r23_in w h) (fun h => (List.mem_append.mp h).elim (fun h => wsL_law0_r24_in w h) (fun h => (List.mem_append.mp h).elim (fun h => wsL_law0_r25_in w h) (fun h => (List.mem_append.mp h).elim (fun h => wsL_law0_r26_in w h) (fun h => (List.mem_append.mp h).elim (fun h => wsL_law0_r27_in w h) (fun h => (List.mem_append.mp h).elim (fun h => wsL_law0_r28_in w h) (fun h => wsL_law0_r29_in w h))))))))))))))))))))))))))))
theorem wsL_law_in0 : ∀ w ∈ wsL_law0, w ∈ lw_tbl := fun w h => (List.mem_append.mp h).elim (fun h => (List.mem_append.mp h).elim (fun h => (List.mem_append.mp h).elim (fun h => (List.mem_append.mp h).elim (fun h => (List.mem_append.mp h).elim (fun h => wsL_law0_rs w h) (fun h => inTX2 w h)) (fun h => inTX3 w h)) (fun h => inTX0 w h)) (fun h => inTX1 w h)) (fun h => absurd h List.not_mem_nil)
theorem wsL_law_x0 : ∀ w ∈ (vx_atS RX2 33 "java/lang/IllegalArgumentException" ["java/lang/RuntimeException", "java/lang/Exception"]).filter goodWord, w ∈ lw_tbl := by decide +kernel
theorem wsL_law_x1 : ∀ w ∈ (vx_atS RX2 85 "java/lang/IndexOutOfBoundsException" ["java/lang/RuntimeException", "java/lang/Exception"]).filter goodWord, w ∈ lw_tbl := by decide +kernel
theorem wsL_law_x2 : ∀ w ∈ (vx_atS RX2 59 "java/lang/IllegalStateException" ["java/lang/RuntimeException", "java/lang/Exception"]).filter goodWord, w ∈ lw_tbl := by decide +kernel
theorem wsL_law_in : ∀ w ∈ wsL_law, w ∈ lw_tbl := fun w h => (List.mem_append.mp h).elim (fun h => (List.mem_append.mp h).elim (fun h => (List.mem_append.mp h).elim (fun h => wsL_law_in0 w h) (fun h => wsL_law_x0 w h)) (fun h => wsL_law_x1 w h)) (fun h => wsL_law_x2 w h)
theorem inX0 : ∀ w ∈ wsX00, w ∈ lw_tbl := fun w h => wsL_law_in w (inlX0 w h)
theorem inX1 : ∀ w ∈ wsX10, w ∈ lw_tbl := fun w h => wsL_law_in w (inlX1 w h)
theorem inX2 : ∀ w ∈ wsX20, w ∈ lw_tbl := fun w h => wsL_law_in w (inlX2 w h)
theorem inX3 : ∀ w ∈ wsX30, w ∈ lw_tbl := fun w h => wsL_law_in w (inlX3 w h)
theorem inJx145de : ∀ w ∈ wsJx145de0, w ∈ lw_tbl := by decide +kernel
theorem inJ9 : ∀ w ∈ wsJ90, w ∈ lw_tbl := by decide +kernel
theorem inJ0 : ∀ w ∈ wsJ00, w ∈ lw_tbl := by decide +kernel
theorem inJ7 : ∀ w ∈ wsJ70, w ∈ lw_tbl := by decide +kernel

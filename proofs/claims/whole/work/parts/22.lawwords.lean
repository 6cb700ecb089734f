theorem lwm {ws : List Cond} (ps : List Nat) (hp : ws = ps.filterMap (fun i => lw_tbl[i]?)) : ∀ w ∈ ws, w ∈ lw_tbl := by
  intro w h
  rw [hp] at h
  obtain ⟨i, _, hi⟩ := List.mem_filterMap.mp h
  exact List.mem_of_getElem? hi
set_option maxRecDepth 20000 in
theorem wsL_law0_r1_in : ∀ w ∈ wsL_law0_r1, w ∈ lw_tbl := lwm [54, 55, 42, 625, 626, 45, 906, 56, 57, 58, 59, 60, 61, 62, 63, 43, 148, 120, 121, 44, 149, 64, 65, 66] (by decide +kernel)
set_option maxRecDepth 20000 in
theorem wsL_law0_r2_in : ∀ w ∈ wsL_law0_r2, w ∈ lw_tbl := lwm [67, 119, 68, 71, 74, 77, 80, 83, 86, 89, 122, 123, 124, 125, 129, 126, 131, 133, 128, 627, 628, 629, 630, 632] (by decide +kernel)
set_option maxRecDepth 20000 in
theorem wsL_law0_r3_in : ∀ w ∈ wsL_law0_r3, w ∈ lw_tbl := lwm [634, 635, 637, 638, 639, 640, 642, 644, 680, 645, 646, 217, 218, 41, 219, 220, 221, 222, 223, 224, 225, 300, 50, 69] (by decide +kernel)
set_option maxRecDepth 20000 in
theorem wsL_law0_r4_in : ∀ w ∈ wsL_law0_r4, w ∈ lw_tbl := lwm [226, 227, 228, 232, 49, 229, 230, 231, 316, 317, 318, 319, 135, 685, 686, 687, 688, 631, 641, 689, 690, 691, 692, 694] (by decide +kernel)
set_option maxRecDepth 20000 in
theorem wsL_law0_r5_in : ∀ w ∈ wsL_law0_r5, w ∈ lw_tbl := lwm [17, 695, 681, 682, 683, 684, 320, 321, 322, 323, 324, 325, 326, 327, 329, 51, 93, 345, 346, 347, 348, 92, 696, 697] (by decide +kernel)
set_option maxRecDepth 20000 in
theorem wsL_law0_r6_in : ∀ w ∈ wsL_law0_r6, w ∈ lw_tbl := lwm [698, 699, 633, 349, 350, 351, 352, 353, 354, 355, 96, 356, 358, 3, 359, 361, 362, 363, 367, 368, 369, 370, 95, 700] (by decide +kernel)
set_option maxRecDepth 20000 in
theorem wsL_law0_r7_in : ∀ w ∈ wsL_law0_r7, w ∈ lw_tbl := lwm [701, 702, 703, 636, 704, 706, 18, 707, 371, 372, 373, 374, 375, 376, 377, 84, 708, 709, 710, 711, 158, 159, 160, 161] (by decide +kernel)
set_option maxRecDepth 20000 in
theorem wsL_law0_r8_in : ∀ w ∈ wsL_law0_r8, w ∈ lw_tbl := lwm [712, 713, 714, 715, 162, 163, 164, 165, 716, 717, 718, 719, 166, 167, 168, 169, 170, 171, 172, 173, 178, 179, 52, 180] (by decide +kernel)
set_option maxRecDepth 20000 in
theorem wsL_law0_r9_in : ∀ w ∈ wsL_law0_r9, w ∈ lw_tbl := lwm [174, 176, 0, 177, 720, 721, 722, 723, 724, 726, 19, 727, 181, 182, 183, 184, 185, 186, 187, 188, 189, 190, 191, 192] (by decide +kernel)
set_option maxRecDepth 20000 in
theorem wsL_law0_r10_in : ∀ w ∈ wsL_law0_r10, w ∈ lw_tbl := lwm [193, 194, 53, 195, 196, 198, 1, 199, 728, 729, 730, 731, 732, 734, 20, 735, 736, 738, 21, 739, 740, 742, 22, 743] (by decide +kernel)
set_option maxRecDepth 20000 in
theorem wsL_law0_r11_in : ∀ w ∈ wsL_law0_r11, w ∈ lw_tbl := lwm [744, 746, 23, 747, 379, 380, 381, 382, 383, 384, 385, 91, 387, 748, 749, 750, 751, 388, 389, 390, 391, 392, 393, 394] (by decide +kernel)
set_option maxRecDepth 20000 in
theorem wsL_law0_r12_in : ∀ w ∈ wsL_law0_r12, w ∈ lw_tbl := lwm [150, 396, 397, 398, 399, 400, 94, 401, 402, 403, 405, 4, 406, 90, 407, 409, 5, 410, 411, 413, 6, 414, 97, 78] (by decide +kernel)
set_option maxRecDepth 20000 in
theorem wsL_law0_r13_in : ∀ w ∈ wsL_law0_r13, w ∈ lw_tbl := lwm [81, 85, 87, 415, 416, 418, 7, 419, 420, 421, 422, 423, 425, 8, 426, 72, 75, 70, 427, 429, 9, 430, 431, 433] (by decide +kernel)
set_option maxRecDepth 20000 in
theorem wsL_law0_r14_in : ∀ w ∈ wsL_law0_r14, w ∈ lw_tbl := lwm [10, 434, 435, 752, 753, 754, 755, 643, 756, 757, 759, 24, 760, 761, 763, 25, 764, 765, 767, 26, 768, 769, 770, 771] (by decide +kernel)
set_option maxRecDepth 20000 in
theorem wsL_law0_r15_in : ∀ w ∈ wsL_law0_r15, w ∈ lw_tbl := lwm [773, 27, 774, 775, 777, 28, 778, 200, 201, 202, 203, 779, 780, 781, 782, 204, 205, 206, 207, 136, 783, 784, 785, 786] (by decide +kernel)
set_option maxRecDepth 20000 in
theorem wsL_law0_r16_in : ∀ w ∈ wsL_law0_r16, w ∈ lw_tbl := lwm [436, 437, 438, 439, 440, 441, 442, 443, 445, 11, 446, 787, 788, 789, 790, 791, 793, 29, 794, 448, 449, 450, 451, 452] (by decide +kernel)
set_option maxRecDepth 20000 in
theorem wsL_law0_r17_in : ∀ w ∈ wsL_law0_r17, w ∈ lw_tbl := lwm [453, 454, 130, 795, 796, 797, 798, 799, 801, 30, 802, 455, 456, 457, 458, 459, 460, 461, 463, 464, 465, 466, 467, 469] (by decide +kernel)
set_option maxRecDepth 20000 in
theorem wsL_law0_r18_in : ∀ w ∈ wsL_law0_r18, w ∈ lw_tbl := lwm [12, 470, 803, 804, 805, 806, 807, 809, 31, 810, 811, 813, 32, 814, 471, 472, 473, 474, 475, 476, 477, 478, 479, 480] (by decide +kernel)
set_option maxRecDepth 20000 in
theorem wsL_law0_r19_in : ∀ w ∈ wsL_law0_r19, w ∈ lw_tbl := lwm [481, 815, 816, 817, 818, 482, 483, 484, 485, 486, 487, 488, 489, 490, 491, 492, 493, 494, 495, 496, 819, 820, 821, 822] (by decide +kernel)
set_option maxRecDepth 20000 in
theorem wsL_law0_r20_in : ∀ w ∈ wsL_law0_r20, w ∈ lw_tbl := lwm [823, 825, 33, 826, 827, 829, 34, 830, 497, 498, 499, 500, 501, 502, 503, 132, 504, 506, 13, 507, 831, 832, 833, 834] (by decide +kernel)
set_option maxRecDepth 20000 in
theorem wsL_law0_r21_in : ∀ w ∈ wsL_law0_r21, w ∈ lw_tbl := lwm [835, 837, 35, 838, 509, 510, 511, 512, 513, 514, 515, 134, 516, 517, 518, 519, 839, 840, 841, 842, 843, 845, 36, 846] (by decide +kernel)
set_option maxRecDepth 20000 in
theorem wsL_law0_r22_in : ∀ w ∈ wsL_law0_r22, w ∈ lw_tbl := lwm [520, 521, 522, 523, 524, 525, 526, 527, 528, 529, 530, 531, 532, 52, 533, 847, 848, 849, 850, 851, 853, 37, 854, 534] (by decide +kernel)
set_option maxRecDepth 20000 in
theorem wsL_law0_r23_in : ∀ w ∈ wsL_law0_r23, w ∈ lw_tbl := lwm [535, 536, 537, 538, 539, 540, 855, 856, 857, 858, 541, 542, 543, 544, 545, 546, 547, 548, 549, 550, 551, 859, 860, 861] (by decide +kernel)
set_option maxRecDepth 20000 in
theorem wsL_law0_r24_in : ∀ w ∈ wsL_law0_r24, w ∈ lw_tbl := lwm [862, 863, 865, 38, 866, 552, 553, 554, 555, 556, 557, 558, 562, 563, 559, 560, 561, 867, 868, 869, 870, 871, 564, 565] (by decide +kernel)
set_option maxRecDepth 20000 in
theorem wsL_law0_r25_in : ∀ w ∈ wsL_law0_r25, w ∈ lw_tbl := lwm [566, 567, 568, 569, 570, 571, 572, 573, 575, 872, 873, 874, 875, 576, 577, 578, 579, 580, 581, 582, 583, 584, 585, 587] (by decide +kernel)
set_option maxRecDepth 20000 in
theorem wsL_law0_r26_in : ∀ w ∈ wsL_law0_r26, w ∈ lw_tbl := lwm [589, 14, 590, 876, 877, 878, 879, 880, 882, 39, 883, 591, 592, 593, 594, 595, 596, 597, 598, 600, 15, 601, 602, 604] (by decide +kernel)
set_option maxRecDepth 20000 in
theorem wsL_law0_r27_in : ∀ w ∈ wsL_law0_r27, w ∈ lw_tbl := lwm [16, 605, 884, 885, 886, 887, 888, 890, 40, 891, 607, 608, 609, 610, 611, 612, 613, 614, 615, 616, 617, 892, 893, 894] (by decide +kernel)
set_option maxRecDepth 20000 in
theorem wsL_law0_r28_in : ∀ w ∈ wsL_law0_r28, w ∈ lw_tbl := lwm [895, 618, 619, 620, 621, 622, 623, 624, 896, 897, 898, 899, 208, 209, 210, 211, 212, 73, 76, 79, 82, 88, 213, 214] (by decide +kernel)
set_option maxRecDepth 20000 in
theorem wsL_law0_r29_in : ∀ w ∈ wsL_law0_r29, w ∈ lw_tbl := lwm [215, 216, 900, 901, 902, 903, 904, 905] (by decide +kernel)
theorem inTX0 : ∀ w ∈ wsX00, w ∈ lw_tbl := lwm [98, 100, 102, 104, 106, 108, 110, 112, 114, 116] (by decide +kernel)
theorem inTX1 : ∀ w ∈ wsX10, w ∈ lw_tbl := lwm [137, 139, 141, 143, 145] (by decide +kernel)
theorem inTX2 : ∀ w ∈ wsX20, w ∈ lw_tbl := lwm [151, 153, 155] (by decide +kernel)
theorem inTX3 : ∀ w ∈ wsX30, w ∈ lw_tbl := lwm [647, 649, 651, 653, 655, 657, 659, 661, 663, 665, 667, 669, 671, 673, 675, 677] (by decide +kernel)
theorem wsL_law0_rs : ∀ w ∈ (wsL_law0_r1 ++ (wsL_law0_r2 ++ (wsL_law0_r3 ++ (wsL_law0_r4 ++ (wsL_law0_r5 ++ (wsL_law0_r6 ++ (wsL_law0_r7 ++ (wsL_law0_r8 ++ (wsL_law0_r9 ++ (wsL_law0_r10 ++ (wsL_law0_r11 ++ (wsL_law0_r12 ++ (wsL_law0_r13 ++ (wsL_law0_r14 ++ (wsL_law0_r15 ++ (wsL_law0_r16 ++ (wsL_law0_r17 ++ (wsL_law0_r18 ++ (wsL_law0_r19 ++ (wsL_law0_r20 ++ (wsL_law0_r21 ++ (wsL_law0_r22 ++ (wsL_law0_r23 ++ (wsL_law0_r24 ++ (wsL_law0_r25 ++ (wsL_law0_r26 ++ (wsL_law0_r27 ++ (wsL_law0_r28 ++ (wsL_law0_r29))))))))))))))))))))))))))))), w ∈ lw_tbl := fun w h => (List.mem_append.mp h).elim (fun h => wsL_law0_r1_in w h) (fun h => (List.mem_append.mp h).elim (fun h => wsL_law0_r2_in w h) (fun h => (List.mem_append.mp h).elim (fun h => wsL_law0_r3_in w h) (fun h => (List.mem_append.mp h).elim (fun h => wsL_law0_r4_in w h) (fun h => (List.mem_append.mp h).elim (fun h => wsL_law0_r5_in w h) (fun h => (List.mem_append.mp h).elim (fun h => wsL_law0_r6_in w h) (fun h => (List.mem_append.mp h).elim (fun h => wsL_law0_r7_in w h) (fun h => (List.mem_append.mp h).elim (fun h => wsL_law0_r8_in w h) (fun h => (List.mem_append.mp h).elim (fun h => wsL_law0_r9_in w h) (fun h => (List.mem_append.mp h).elim (fun h => wsL_law0_r10_in w h) (fun h => (List.mem_append.mp h).elim (fun h => wsL_law0_r11_in w h) (fun h => (List.mem_append.mp h).elim (fun h => wsL_law0_r12_in w h) (fun h => (List.mem_append.mp h).elim (fun h => wsL_law0_r13_in w h) (fun h => (List.mem_append.mp h).elim (fun h => wsL_law0_r14_in w h) (fun h => (List.mem_append.mp h).elim (fun h => wsL_law0_r15_in w h) (fun h => (List.mem_append.mp h).elim (fun h => wsL_law0_r16_in w h) (fun h => (List.mem_append.mp h).elim (fun h => wsL_law0_r17_in w h) (fun h => (List.mem_append.mp h).elim (fun h => wsL_law0_r18_in w h) (fun h => (List.mem_append.mp h).elim (fun h => wsL_law0_r19_in w h) (fun h => (List.mem_append.mp h).elim (fun h => wsL_law0_r20_in w h) (fun h => (List.mem_append.mp h).elim (fun h => wsL_law0_r21_in w h) (fun h => (List.mem_append.mp h).elim (fun h => wsL_law0_r22_in w h) (fun h => (List.mem_append.mp h).elim (fun h => wsL_law0_r23_in w h) (fun h => (List.mem_append.mp h).elim (fun h => wsL_law0_r24_in w h) (fun h => (List.mem_append.mp h).elim (fun h => wsL_law0_r25_in w h) (fun h => (List.mem_append.mp h).elim (fun h => wsL_law0_r26_in w h) (fun h => (List.mem_append.mp h).elim (fun h => wsL_law0_r27_in w h) (fun h => (List.mem_append.mp h).elim (fun h => wsL_law0_r28_in w h) (fun h => wsL_law0_r29_in w h))))))))))))))))))))))))))))
theorem wsL_law_in0 : ∀ w ∈ wsL_law0, w ∈ lw_tbl := fun w h => (List.mem_append.mp h).elim (fun h => (List.mem_append.mp h).elim (fun h => (List.mem_append.mp h).elim (fun h => (List.mem_append.mp h).elim (fun h => (List.mem_append.mp h).elim (fun h => wsL_law0_rs w h) (fun h => inTX2 w h)) (fun h => inTX3 w h)) (fun h => inTX0 w h)) (fun h => inTX1 w h)) (fun h => absurd h List.not_mem_nil)
theorem wsL_law_x0 : ∀ w ∈ (vx_atS RX2 33 "java/lang/IllegalArgumentException" ["java/lang/RuntimeException", "java/lang/Exception"]).filter goodWord, w ∈ lw_tbl := by decide +kernel
theorem wsL_law_x1 : ∀ w ∈ (vx_atS RX2 85 "java/lang/IndexOutOfBoundsException" ["java/lang/RuntimeException", "java/lang/Exception"]).filter goodWord, w ∈ lw_tbl := by decide +kernel
theorem wsL_law_x2 : ∀ w ∈ (vx_atS RX2 59 "java/lang/IllegalStateException" ["java/lang/RuntimeException", "java/lang/Exception"]).filter goodWord, w ∈ lw_tbl := by decide +kernel
theorem wsL_law_in : ∀ w ∈ wsL_law, w ∈ lw_tbl := fun w h => (List.mem_append.mp h).elim (fun h => (List.mem_append.mp h).elim (fun h => (List.mem_append.mp h).elim (fun h => wsL_law_in0 w h) (fun h => wsL_law_x0 w h)) (fun h => wsL_law_x1 w h)) (fun h => wsL_law_x2 w h)
theorem inX0 : ∀ w ∈ wsX00, w ∈ lw_tbl := fun w h => wsL_law_in w (inlX0 w h)
theorem inX1 : ∀ w ∈ wsX10, w ∈ lw_tbl := fun w h => wsL_law_in w (inlX1 w h)
theorem inX2 : ∀ w ∈ wsX20, w ∈ lw_tbl := fun w h => wsL_law_in w (inlX2 w h)
theorem inX3 : ∀ w ∈ wsX30, w ∈ lw_tbl := fun w h => wsL_law_in w (inlX3 w h)
theorem inJx145de : ∀ w ∈ wsJx145de0, w ∈ lw_tbl := by decide +kernel
theorem inJ9 : ∀ w ∈ wsJ90, w ∈ lw_tbl := by decide +kernel
theorem inJ0 : ∀ w ∈ wsJ00, w ∈ lw_tbl := by decide +kernel
theorem inJ7 : ∀ w ∈ wsJ70, w ∈ lw_tbl := by decide +kernel
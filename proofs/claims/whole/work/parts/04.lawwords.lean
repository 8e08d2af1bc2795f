def wsL_law : List Cond := wsL_law0 ++ (vx_atS RX2 47 "java/lang/IndexOutOfBoundsException" ["java/lang/RuntimeException", "java/lang/Exception"]).filter goodWord ++ (vx_atS RX2 54 "java/lang/IllegalArgumentException" ["java/lang/RuntimeException", "java/lang/Exception"]).filter goodWord ++ (vx_atS RX2 63 "java/lang/IllegalStateException" ["java/lang/RuntimeException", "java/lang/Exception"]).filter goodWord
/-- a list's words among another's, by their places -/
theorem lw_mem {big : List Cond} (ws : List Cond) (ps : List Nat) (hp : ws = ps.filterMap (fun i => big[i]?)) : ∀ w ∈ ws, w ∈ big := by
  intro w hw
  rw [hp] at hw
  obtain ⟨i, -, hi⟩ := List.mem_filterMap.mp hw
  first | exact List.mem_of_getElem? hi | exact List.getElem?_mem hi
theorem in_wsL_law0_r1 : ∀ w ∈ wsL_law0_r1, w ∈ lw_tbl := lw_mem _ [62, 63, 41, 765, 766, 43, 932, 64, 65, 66, 67, 68, 69, 70, 101, 72, 73, 42, 102, 103, 104, 105, 106, 75] (by decide +kernel)
theorem in_wsL_law0_r2 : ∀ w ∈ wsL_law0_r2, w ∈ lw_tbl := lw_mem _ [76, 77, 100, 78, 79, 80, 81, 82, 83, 84, 767, 768, 769, 770, 771, 772, 773, 774, 775, 776, 777, 778, 779, 780] (by decide +kernel)
theorem in_wsL_law0_r3 : ∀ w ∈ wsL_law0_r3, w ∈ lw_tbl := lw_mem _ [781, 782, 128, 129, 40, 130, 131, 132, 133, 134, 135, 136, 137, 143, 47, 211, 48, 236, 49, 141, 234, 50, 138, 139] (by decide +kernel)
theorem in_wsL_law0_r4 : ∀ w ∈ wsL_law0_r4, w ∈ lw_tbl := lw_mem _ [140, 227, 229, 1, 230, 233, 2, 235, 270, 252, 253, 254, 255, 257, 258, 259, 261, 262, 263, 267, 269, 272, 274, 276] (by decide +kernel)
theorem in_wsL_law0_r5 : ∀ w ∈ wsL_law0_r5, w ∈ lw_tbl := lw_mem _ [278, 279, 281, 283, 307, 3, 308, 309, 311, 4, 312, 827, 828, 829, 830, 783, 784, 831, 833, 21, 834, 835, 837, 22] (by decide +kernel)
theorem in_wsL_law0_r6 : ∀ w ∈ wsL_law0_r6, w ∈ lw_tbl := lw_mem _ [838, 787, 839, 841, 23, 842, 823, 824, 825, 826, 313, 314, 315, 316, 317, 318, 319, 843, 844, 845, 846, 321, 322, 323] (by decide +kernel)
theorem in_wsL_law0_r7 : ∀ w ∈ wsL_law0_r7, w ∈ lw_tbl := lw_mem _ [324, 325, 326, 327, 328, 330, 5, 331, 332, 334, 6, 335, 340, 7, 341, 342, 344, 8, 345, 347, 348, 352, 9, 353] (by decide +kernel)
theorem in_wsL_law0_r8 : ∀ w ∈ wsL_law0_r8, w ∈ lw_tbl := lw_mem _ [354, 356, 10, 357, 359, 360, 361, 362, 52, 363, 364, 365, 366, 367, 51, 368, 369, 370, 210, 379, 380, 372, 373, 54] (by decide +kernel)
theorem in_wsL_law0_r9 : ∀ w ∈ wsL_law0_r9, w ∈ lw_tbl := lw_mem _ [374, 375, 376, 377, 378, 392, 395, 396, 397, 398, 399, 934, 391, 400, 401, 382, 402, 935, 34, 404, 405, 406, 936, 35] (by decide +kernel)
theorem in_wsL_law0_r10 : ∀ w ∈ wsL_law0_r10, w ∈ lw_tbl := lw_mem _ [408, 409, 410, 937, 36, 412, 413, 424, 414, 415, 55, 416, 417, 418, 56, 419, 420, 421, 422, 423, 425, 426, 57, 427] (by decide +kernel)
theorem in_wsL_law0_r11 : ∀ w ∈ wsL_law0_r11, w ∈ lw_tbl := lw_mem _ [428, 429, 430, 431, 432, 434, 435, 436, 437, 438, 440, 439, 58, 441, 443, 444, 442, 445, 446, 447, 448, 466, 449, 450] (by decide +kernel)
theorem in_wsL_law0_r12 : ∀ w ∈ wsL_law0_r12, w ∈ lw_tbl := lw_mem _ [451, 452, 453, 454, 455, 456, 53, 457, 458, 460, 461, 59, 462, 463, 464, 465, 468, 470, 472, 473, 474, 475, 620, 476] (by decide +kernel)
theorem in_wsL_law0_r13 : ∀ w ∈ wsL_law0_r13, w ∈ lw_tbl := lw_mem _ [477, 478, 479, 480, 621, 481, 938, 37, 483, 484, 485, 939, 38, 487, 488, 489, 490, 940, 39, 492, 493, 494, 495, 60] (by decide +kernel)
theorem in_wsL_law0_r14 : ∀ w ∈ wsL_law0_r14, w ∈ lw_tbl := lw_mem _ [496, 497, 498, 499, 500, 501, 502, 503, 504, 505, 506, 507, 508, 509, 510, 511, 512, 513, 514, 515, 516, 517, 518, 519] (by decide +kernel)
theorem in_wsL_law0_r15 : ∀ w ∈ wsL_law0_r15, w ∈ lw_tbl := lw_mem _ [941, 520, 521, 522, 523, 61, 524, 525, 526, 527, 528, 530, 532, 533, 534, 535, 536, 537, 538, 539, 540, 541, 542, 543] (by decide +kernel)
theorem in_wsL_law0_r16 : ∀ w ∈ wsL_law0_r16, w ∈ lw_tbl := lw_mem _ [544, 942, 545, 546, 547, 548, 549, 550, 551, 552, 553, 554, 555, 556, 557, 558, 559, 560, 561, 563, 564, 565, 566, 567] (by decide +kernel)
theorem in_wsL_law0_r17 : ∀ w ∈ wsL_law0_r17, w ∈ lw_tbl := lw_mem _ [568, 569, 570, 571, 572, 573, 574, 575, 381, 576, 578, 579, 577, 580, 581, 583, 582, 584, 585, 586, 587, 582, 588, 589] (by decide +kernel)
theorem in_wsL_law0_r18 : ∀ w ∈ wsL_law0_r18, w ∈ lw_tbl := lw_mem _ [590, 591, 592, 593, 594, 595, 596, 597, 598, 600, 607, 608, 609, 610, 611, 612, 613, 614, 615, 616, 617, 618, 619, 847] (by decide +kernel)
theorem in_wsL_law0_r19 : ∀ w ∈ wsL_law0_r19, w ∈ lw_tbl := lw_mem _ [848, 849, 850, 851, 853, 24, 854, 855, 857, 25, 858, 859, 861, 26, 862, 631, 632, 633, 634, 635, 636, 637, 639, 640] (by decide +kernel)
theorem in_wsL_law0_r20 : ∀ w ∈ wsL_law0_r20, w ∈ lw_tbl := lw_mem _ [641, 642, 643, 644, 645, 646, 647, 648, 649, 650, 651, 652, 653, 654, 863, 864, 865, 866, 867, 869, 27, 870, 871, 873] (by decide +kernel)
theorem in_wsL_law0_r21 : ∀ w ∈ wsL_law0_r21, w ∈ lw_tbl := lw_mem _ [28, 874, 655, 656, 657, 658, 659, 660, 661, 664, 11, 665, 666, 670, 12, 671, 672, 674, 13, 675, 677, 678, 679, 680] (by decide +kernel)
theorem in_wsL_law0_r22 : ∀ w ∈ wsL_law0_r22, w ∈ lw_tbl := lw_mem _ [875, 876, 877, 878, 785, 879, 881, 29, 882, 883, 885, 30, 886, 887, 889, 31, 890, 891, 893, 32, 894, 681, 682, 683] (by decide +kernel)
theorem in_wsL_law0_r23 : ∀ w ∈ wsL_law0_r23, w ∈ lw_tbl := lw_mem _ [684, 685, 686, 687, 691, 14, 692, 693, 695, 15, 696, 895, 896, 897, 898, 899, 901, 33, 902, 786, 698, 699, 700, 701] (by decide +kernel)
theorem in_wsL_law0_r24 : ∀ w ∈ wsL_law0_r24, w ∈ lw_tbl := lw_mem _ [702, 703, 704, 709, 16, 710, 711, 712, 713, 716, 17, 717, 903, 904, 905, 906, 718, 719, 720, 721, 722, 723, 724, 727] (by decide +kernel)
theorem in_wsL_law0_r25 : ∀ w ∈ wsL_law0_r25, w ∈ lw_tbl := lw_mem _ [18, 728, 907, 908, 909, 910, 730, 731, 732, 733, 734, 735, 736, 739, 19, 740, 741, 743, 20, 744, 911, 912, 913, 914] (by decide +kernel)
theorem in_wsL_law0_r26 : ∀ w ∈ wsL_law0_r26, w ∈ lw_tbl := lw_mem _ [747, 748, 749, 750, 751, 752, 753, 915, 916, 917, 918, 120, 121, 122, 123, 919, 920, 921, 922, 124, 125, 126, 127, 923] (by decide +kernel)
theorem in_wsL_law0_r27 : ∀ w ∈ wsL_law0_r27, w ∈ lw_tbl := lw_mem _ [924, 925, 926, 755, 756, 757, 758, 759, 760, 761, 762, 764, 927, 928, 929, 930, 931] (by decide +kernel)
theorem in_wsX20 : ∀ w ∈ wsX20, w ∈ lw_tbl := lw_mem _ [107, 109, 111, 113, 115, 117] (by decide +kernel)
theorem in_wsX30 : ∀ w ∈ wsX30, w ∈ lw_tbl := lw_mem _ [788, 790, 792, 794, 796, 798, 800, 802, 804, 806, 808, 810, 812, 814, 816, 818, 820] (by decide +kernel)
theorem in_wsX10 : ∀ w ∈ wsX10, w ∈ lw_tbl := lw_mem _ [85, 87, 89, 91, 93, 95, 97] (by decide +kernel)
theorem in_wsX00 : ∀ w ∈ wsX00, w ∈ lw_tbl := lw_mem _ [284, 286, 288, 290, 292, 294, 296, 298, 300, 302] (by decide +kernel)
theorem in_wsJ40 : ∀ w ∈ wsJ40, w ∈ lw_tbl := lw_mem _ [383, 385, 387, 389] (by decide +kernel)
theorem in_wsJ00 : ∀ w ∈ wsJ00, w ∈ lw_tbl := lw_mem _ [622, 624, 626, 628] (by decide +kernel)
set_option maxRecDepth 20000 in
theorem wsL_law_in0 : ∀ w ∈ wsL_law0, w ∈ lw_tbl := fun w h => (List.mem_append.mp h).elim (fun h => ((List.mem_append.mp h).elim (fun h => ((List.mem_append.mp h).elim (fun h => ((List.mem_append.mp h).elim (fun h => ((List.mem_append.mp h).elim (fun h => ((List.mem_append.mp h).elim (fun h => ((List.mem_append.mp h).elim (fun h => ((List.mem_append.mp h).elim (fun h => in_wsL_law0_r1 w h) (fun h => (List.mem_append.mp h).elim (fun h => in_wsL_law0_r2 w h) (fun h => (List.mem_append.mp h).elim (fun h => in_wsL_law0_r3 w h) (fun h => (List.mem_append.mp h).elim (fun h => in_wsL_law0_r4 w h) (fun h => (List.mem_append.mp h).elim (fun h => in_wsL_law0_r5 w h) (fun h => (List.mem_append.mp h).elim (fun h => in_wsL_law0_r6 w h) (fun h => (List.mem_append.mp h).elim (fun h => in_wsL_law0_r7 w h) (fun h => (List.mem_append.mp h).elim (fun h => in_wsL_law0_r8 w h) (fun h => (List.mem_append.mp h).elim (fun h => in_wsL_law0_r9 w h) (fun h => (List.mem_append.mp h).elim (fun h => in_wsL_law0_r10 w h) (fun h => (List.mem_append.mp h).elim (fun h => in_wsL_law0_r11 w h) (fun h => (List.mem_append.mp h).elim (fun h => in_wsL_law0_r12 w h) (fun h => (List.mem_append.mp h).elim (fun h => in_wsL_law0_r13 w h) (fun h => (List.mem_append.mp h).elim (fun h => in_wsL_law0_r14 w h) (fun h => (List.mem_append.mp h).elim (fun h => in_wsL_law0_r15 w h) (fun h => (List.mem_append.mp h).elim (fun h => in_wsL_law0_r16 w h) (fun h => (List.mem_append.mp h).elim (fun h => in_wsL_law0_r17 w h) (fun h => (List.mem_append.mp h).elim (fun h => in_wsL_law0_r18 w h) (fun h => (List.mem_append.mp h).elim (fun h => in_wsL_law0_r19 w h) (fun h => (List.mem_append.mp h).elim (fun h => in_wsL_law0_r20 w h) (fun h => (List.mem_append.mp h).elim (fun h => in_wsL_law0_r21 w h) (fun h => (List.mem_append.mp h).elim (fun h => in_wsL_law0_r22 w h) (fun h => (List.mem_append.mp h).elim (fun h => in_wsL_law0_r23 w h) (fun h => (List.mem_append.mp h).elim (fun h => in_wsL_law0_r24 w h) (fun h => (List.mem_append.mp h).elim (fun h => in_wsL_law0_r25 w h) (fun h => (List.mem_append.mp h).elim (fun h => in_wsL_law0_r26 w h) (fun h => in_wsL_law0_r27 w h)))))))))))))))))))))))))))) (fun h => in_wsX20 w h))) (fun h => in_wsX30 w h))) (fun h => in_wsX10 w h))) (fun h => in_wsX00 w h))) (fun h => in_wsJ40 w h))) (fun h => in_wsJ00 w h))) (fun h => absurd h List.not_mem_nil)
theorem wsL_law_x0 : ∀ w ∈ (vx_atS RX2 47 "java/lang/IndexOutOfBoundsException" ["java/lang/RuntimeException", "java/lang/Exception"]).filter goodWord, w ∈ lw_tbl := by decide +kernel
theorem wsL_law_x1 : ∀ w ∈ (vx_atS RX2 54 "java/lang/IllegalArgumentException" ["java/lang/RuntimeException", "java/lang/Exception"]).filter goodWord, w ∈ lw_tbl := by decide +kernel
theorem wsL_law_x2 : ∀ w ∈ (vx_atS RX2 63 "java/lang/IllegalStateException" ["java/lang/RuntimeException", "java/lang/Exception"]).filter goodWord, w ∈ lw_tbl := by decide +kernel
theorem wsL_law_in : ∀ w ∈ wsL_law, w ∈ lw_tbl := fun w h => (List.mem_append.mp h).elim (fun h => (List.mem_append.mp h).elim (fun h => (List.mem_append.mp h).elim (fun h => wsL_law_in0 w h) (fun h => wsL_law_x0 w h)) (fun h => wsL_law_x1 w h)) (fun h => wsL_law_x2 w h)
theorem inlX0 : ∀ w ∈ wsX00, w ∈ wsL_law := fun _ h => List.mem_append_left _ (List.mem_append_left _ (List.mem_append_left _ (List.mem_append_left _ (List.mem_append_left _ (List.mem_append_left _ (List.mem_append_right _ h))))))
theorem inX0 : ∀ w ∈ wsX00, w ∈ lw_tbl := fun w h => wsL_law_in w (inlX0 w h)
theorem inlX1 : ∀ w ∈ wsX10, w ∈ wsL_law := fun _ h => List.mem_append_left _ (List.mem_append_left _ (List.mem_append_left _ (List.mem_append_left _ (List.mem_append_left _ (List.mem_append_left _ (List.mem_append_left _ (List.mem_append_right _ h)))))))
theorem inX1 : ∀ w ∈ wsX10, w ∈ lw_tbl := fun w h => wsL_law_in w (inlX1 w h)
theorem inlX2 : ∀ w ∈ wsX20, w ∈ wsL_law := fun _ h => List.mem_append_left _ (List.mem_append_left _ (List.mem_append_left _ (List.mem_append_left _ (List.mem_append_left _ (List.mem_append_left _ (List.mem_append_left _ (List.mem_append_left _ (List.mem_append_left _ (List.mem_append_right _ h)))))))))
theorem inX2 : ∀ w ∈ wsX20, w ∈ lw_tbl := fun w h => wsL_law_in w (inlX2 w h)
theorem inlX3 : ∀ w ∈ wsX30, w ∈ wsL_law := fun _ h => List.mem_append_left _ (List.mem_append_left _ (List.mem_append_left _ (List.mem_append_left _ (List.mem_append_left _ (List.mem_append_left _ (List.mem_append_left _ (List.mem_append_left _ (List.mem_append_right _ h))))))))
theorem inX3 : ∀ w ∈ wsX30, w ∈ lw_tbl := fun w h => wsL_law_in w (inlX3 w h)
theorem inJ5 : ∀ w ∈ wsJ50, w ∈ lw_tbl := by decide +kernel
theorem inJx8e188 : ∀ w ∈ wsJx8e1880, w ∈ lw_tbl := by decide +kernel
theorem inJ6 : ∀ w ∈ wsJ60, w ∈ lw_tbl := by decide +kernel
theorem inJ9 : ∀ w ∈ wsJ90, w ∈ lw_tbl := by decide +kernel
theorem inlJ0 : ∀ w ∈ wsJ00, w ∈ wsL_law := fun _ h => List.mem_append_left _ (List.mem_append_left _ (List.mem_append_left _ (List.mem_append_left _ (List.mem_append_right _ h))))
theorem inJ0 : ∀ w ∈ wsJ00, w ∈ lw_tbl := fun w h => wsL_law_in w (inlJ0 w h)
theorem inlJ4 : ∀ w ∈ wsJ40, w ∈ wsL_law := fun _ h => List.mem_append_left _ (List.mem_append_left _ (List.mem_append_left _ (List.mem_append_left _ (List.mem_append_left _ (List.mem_append_right _ h)))))
theorem inJ4 : ∀ w ∈ wsJ40, w ∈ lw_tbl := fun w h => wsL_law_in w (inlJ4 w h)
theorem inJ1 : ∀ w ∈ wsJ10, w ∈ lw_tbl := by decide +kernel
theorem inJ2 : ∀ w ∈ wsJ20, w ∈ lw_tbl := by decide +kernel
theorem inJ10 : ∀ w ∈ wsJ100, w ∈ lw_tbl := by decide +kernel
theorem inJ7 : ∀ w ∈ wsJ70, w ∈ lw_tbl := by decide +kernel
theorem inJ8 : ∀ w ∈ wsJ80, w ∈ lw_tbl := by decide +kernel
theorem inJ3 : ∀ w ∈ wsJ30, w ∈ lw_tbl := by decide +kernel

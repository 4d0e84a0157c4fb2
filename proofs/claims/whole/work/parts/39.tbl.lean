/-! ===== every word of the list stands in the tables, by its place ===== -/
def plc : List Cond → List Nat → Bool
  | [], _ => true
  | w :: ws, i :: is => decide (lw_tbl[i]? = some w) && plc ws is
  | _ :: _, [] => false
theorem plc_in : ∀ (ws : List Cond) (is : List Nat), plc ws is = true → ∀ w ∈ ws, w ∈ lw_tbl
  | [], _, _, _, h => absurd h List.not_mem_nil
  | w :: ws, i :: is, h, x, hx => by
    simp only [plc, Bool.and_eq_true, decide_eq_true_eq] at h
    rcases List.mem_cons.mp hx with e | e
    · rw [e]; exact List.mem_of_getElem? h.1
    · exact plc_in ws is h.2 x e
  | _ :: _, [], h, _, _ => absurd h (by simp [plc])
def plg : List Cond → List Nat → Bool
  | [], _ => true
  | w :: ws, i :: is => (!goodWord w || decide (lw_tbl[i]? = some w)) && plg ws is
  | _ :: _, [] => false
theorem plg_in : ∀ (ws : List Cond) (is : List Nat), plg ws is = true → ∀ w ∈ ws.filter goodWord, w ∈ lw_tbl
  | [], _, _, _, h => absurd h List.not_mem_nil
  | w :: ws, i :: is, h, x, hx => by
    simp only [plg, Bool.and_eq_true, Bool.or_eq_true, Bool.not_eq_true', decide_eq_true_eq] at h
    obtain ⟨h1, h2⟩ := List.mem_filter.mp hx
    rcases List.mem_cons.mp h1 with e | e
    · rw [e] at h2 ⊢
      exact List.mem_of_getElem? (h.1.elim (fun q => absurd (h2.symm.trans q) (by decide)) id)
    · exact plg_in ws is h.2 x (List.mem_filter.mpr ⟨e, h2⟩)
  | _ :: _, [], h, _, _ => absurd h (by simp [plg])
theorem tb_r1 : ∀ w ∈ wsL_law0_r1, w ∈ lw_tbl := plc_in _ [47, 48, 27, 734, 735, 34, 1040, 1041, 49, 50, 51, 52, 53, 54, 55, 193, 57, 194, 59, 195, 80, 198, 61, 62] (by decide +kernel)
theorem tb_r2 : ∀ w ∈ wsL_law0_r2, w ∈ lw_tbl := plc_in _ [28, 204, 81, 82, 29, 205, 206, 108, 30, 146, 33, 114, 31, 167, 64, 65, 66, 84, 85, 86, 110, 111, 112, 113] (by decide +kernel)
theorem tb_r3 : ∀ w ∈ wsL_law0_r3, w ∈ lw_tbl := plc_in _ [134, 136, 115, 116, 117, 118, 123, 124, 122, 119, 120, 32, 121, 148, 149, 150, 151, 153, 155, 157, 152, 166, 169, 171] (by decide +kernel)
theorem tb_r4 : ∀ w ∈ wsL_law0_r4, w ∈ lw_tbl := plc_in _ [0, 172, 199, 173, 174, 175, 176, 177, 178, 179, 180, 181, 182, 183, 184, 185, 186, 187, 188, 190, 1, 191, 192, 736] (by decide +kernel)
theorem tb_r5 : ∀ w ∈ wsL_law0_r5, w ∈ lw_tbl := plc_in _ [737, 738, 739, 747, 751, 752, 753, 754, 755, 828, 756, 757, 758, 759, 760, 761, 762, 740, 741, 742, 252, 253, 26, 254] (by decide +kernel)
theorem tb_r6 : ∀ w ∈ wsL_law0_r6, w ∈ lw_tbl := plc_in _ [255, 256, 257, 258, 259, 260, 336, 39, 196, 261, 262, 263, 264, 38, 833, 834, 835, 836, 744, 743, 837, 838, 839, 840] (by decide +kernel)
theorem tb_r7 : ∀ w ∈ wsL_law0_r7, w ∈ lw_tbl := plc_in _ [842, 11, 843, 829, 830, 831, 832, 352, 353, 354, 355, 356, 357, 358, 197, 844, 845, 846, 847, 745, 360, 361, 362, 363] (by decide +kernel)
theorem tb_r8 : ∀ w ∈ wsL_law0_r8, w ∈ lw_tbl := plc_in _ [387, 388, 389, 390, 391, 393, 3, 394, 395, 40, 408, 410, 4, 411, 413, 414, 415, 848, 849, 850, 851, 852, 854, 12] (by decide +kernel)
theorem tb_r9 : ∀ w ∈ wsL_law0_r9, w ∈ lw_tbl := plc_in _ [855, 856, 858, 13, 859, 860, 861, 862, 863, 865, 14, 866, 867, 868, 869, 417, 418, 419, 420, 421, 422, 423, 870, 871] (by decide +kernel)
theorem tb_r10 : ∀ w ∈ wsL_law0_r10, w ∈ lw_tbl := plc_in _ [872, 873, 424, 425, 426, 427, 428, 429, 430, 431, 433, 5, 434, 874, 875, 876, 877, 435, 436, 437, 438, 439, 440, 441] (by decide +kernel)
theorem tb_r11 : ∀ w ∈ wsL_law0_r11, w ∈ lw_tbl := plc_in _ [442, 464, 443, 444, 445, 448, 43, 446, 878, 879, 880, 881, 882, 883, 884, 885, 886, 887, 467, 468, 469, 470, 471, 472] (by decide +kernel)
theorem tb_r12 : ∀ w ∈ wsL_law0_r12, w ∈ lw_tbl := plc_in _ [473, 474, 475, 476, 478, 480, 6, 481, 482, 483, 484, 485, 888, 889, 890, 891, 892, 894, 15, 895, 486, 487, 488, 489] (by decide +kernel)
theorem tb_r13 : ∀ w ∈ wsL_law0_r13, w ∈ lw_tbl := plc_in _ [490, 491, 492, 896, 897, 898, 899, 493, 494, 495, 496, 497, 498, 499, 500, 501, 44, 900, 901, 902, 903, 517, 518, 519] (by decide +kernel)
theorem tb_r14 : ∀ w ∈ wsL_law0_r14, w ∈ lw_tbl := plc_in _ [520, 521, 522, 523, 200, 201, 202, 525, 527, 7, 528, 554, 555, 45, 556, 203, 529, 531, 8, 532, 533, 535, 9, 536] (by decide +kernel)
theorem tb_r15 : ∀ w ∈ wsL_law0_r15, w ∈ lw_tbl := plc_in _ [537, 539, 10, 540, 541, 542, 543, 544, 67, 69, 71, 545, 546, 547, 548, 549, 550, 551, 552, 553, 87, 89, 91, 93] (by decide +kernel)
theorem tb_r16 : ∀ w ∈ wsL_law0_r16, w ∈ lw_tbl := plc_in _ [95, 557, 558, 559, 560, 561, 562, 563, 564, 565, 566, 567, 568, 569, 570, 571, 572, 573, 574, 575, 576, 577, 578, 579] (by decide +kernel)
theorem tb_r17 : ∀ w ∈ wsL_law0_r17, w ∈ lw_tbl := plc_in _ [580, 581, 582, 583, 904, 905, 906, 907, 746, 748, 749, 908, 910, 16, 911, 750, 912, 914, 17, 915, 763, 764, 765, 916] (by decide +kernel)
theorem tb_r18 : ∀ w ∈ wsL_law0_r18, w ∈ lw_tbl := plc_in _ [918, 18, 919, 766, 767, 920, 922, 19, 923, 768, 924, 926, 20, 927, 928, 929, 930, 931, 933, 21, 934, 769, 935, 937] (by decide +kernel)
theorem tb_r19 : ∀ w ∈ wsL_law0_r19, w ∈ lw_tbl := plc_in _ [22, 938, 770, 236, 237, 238, 239, 939, 940, 941, 942, 584, 585, 586, 587, 588, 589, 590, 591, 592, 593, 943, 944, 945] (by decide +kernel)
theorem tb_r20 : ∀ w ∈ wsL_law0_r20, w ∈ lw_tbl := plc_in _ [946, 947, 949, 23, 950, 596, 597, 598, 599, 600, 601, 602, 951, 952, 953, 954, 603, 604, 605, 606, 607, 608, 609, 955] (by decide +kernel)
theorem tb_r21 : ∀ w ∈ wsL_law0_r21, w ∈ lw_tbl := plc_in _ [956, 957, 958, 959, 961, 24, 962, 610, 611, 612, 613, 614, 615, 616, 963, 964, 965, 966, 240, 241, 242, 243, 967, 968] (by decide +kernel)
theorem tb_r22 : ∀ w ∈ wsL_law0_r22, w ∈ lw_tbl := plc_in _ [969, 970, 244, 245, 246, 247, 971, 972, 973, 974, 617, 618, 619, 620, 621, 622, 623, 975, 976, 977, 978, 624, 625, 626] (by decide +kernel)
theorem tb_r23 : ∀ w ∈ wsL_law0_r23, w ∈ lw_tbl := plc_in _ [627, 628, 629, 630, 979, 980, 981, 982, 631, 632, 633, 634, 635, 636, 637, 983, 984, 985, 986, 987, 989, 25, 990, 638] (by decide +kernel)
theorem tb_r24 : ∀ w ∈ wsL_law0_r24, w ∈ lw_tbl := plc_in _ [639, 640, 641, 642, 643, 644, 991, 992, 993, 994, 645, 646, 647, 648, 649, 650, 651, 995, 996, 997, 998, 652, 653, 654] (by decide +kernel)
theorem tb_r25 : ∀ w ∈ wsL_law0_r25, w ∈ lw_tbl := plc_in _ [655, 656, 657, 658, 999, 1000, 1001, 1002, 659, 660, 661, 662, 663, 664, 665, 1003, 1004, 1005, 1006, 666, 667, 668, 669, 670] (by decide +kernel)
theorem tb_r26 : ∀ w ∈ wsL_law0_r26, w ∈ lw_tbl := plc_in _ [671, 672, 1007, 1008, 1009, 1010, 673, 674, 675, 676, 677, 678, 679, 1011, 1012, 1013, 1014, 680, 681, 682, 683, 684, 685, 686] (by decide +kernel)
theorem tb_r27 : ∀ w ∈ wsL_law0_r27, w ∈ lw_tbl := plc_in _ [1015, 1016, 1017, 1018, 688, 689, 690, 691, 692, 693, 694, 1019, 1020, 1021, 1022, 695, 696, 697, 698, 699, 700, 701, 1023, 1024] (by decide +kernel)
theorem tb_r28 : ∀ w ∈ wsL_law0_r28, w ∈ lw_tbl := plc_in _ [1025, 1026, 1027, 248, 249, 250, 251, 1028, 1029, 1030, 1031, 702, 703, 704, 705, 719, 720, 721, 722, 723, 46, 1032, 1033, 1034] (by decide +kernel)
theorem tb_r29 : ∀ w ∈ wsL_law0_r29, w ∈ lw_tbl := plc_in _ [1035, 726, 727, 728, 729, 730, 731, 732, 1036, 1037, 1038, 1039] (by decide +kernel)
theorem tb_RX0 : ∀ w ∈ wsX00, w ∈ lw_tbl := plc_in _ [97, 99, 101, 103, 105] (by decide +kernel)
theorem tb_RX1 : ∀ w ∈ wsX10, w ∈ lw_tbl := plc_in _ [159, 161, 163] (by decide +kernel)
theorem tb_RX2 : ∀ w ∈ wsX20, w ∈ lw_tbl := plc_in _ [139, 141, 143] (by decide +kernel)
theorem tb_RX3 : ∀ w ∈ wsX30, w ∈ lw_tbl := plc_in _ [73, 75, 77] (by decide +kernel)
theorem tb_RX4 : ∀ w ∈ wsX40, w ∈ lw_tbl := plc_in _ [125, 127, 129] (by decide +kernel)
theorem tb_RX5 : ∀ w ∈ wsX50, w ∈ lw_tbl := plc_in _ [207, 209, 211, 213, 215, 217, 219, 221, 223, 225, 227, 229, 231, 233] (by decide +kernel)
theorem tb_RX6 : ∀ w ∈ wsX60, w ∈ lw_tbl := plc_in _ [771, 773, 775, 777, 779, 781, 783, 785, 787, 789, 791, 793, 795, 797, 799, 801, 803, 805, 807, 809, 811, 813, 815, 817, 819, 821, 823, 825] (by decide +kernel)
theorem tb_x0 : ∀ w ∈ (vx_atM "java/lang/ArrayIndexOutOfBoundsException" ["java/lang/IndexOutOfBoundsException", "java/lang/RuntimeException", "java/lang/Exception"]).filter goodWord, w ∈ lw_tbl := plg_in _ [35, 286, 295, 303, 306, 308, 287, 288, 53, 54, 289, 294, 304, 324, 276, 325, 278, 326, 280, 290, 292, 282, 320, 321, 323, 282, 365, 366, 367, 368, 380, 368, 369, 370, 314, 268, 314, 315, 316, 317, 270, 317, 318, 319, 320, 272, 42, 382, 335, 383, 385, 384, 386, 41, 364, 378, 381, 298, 373, 374, 376, 372, 285, 284, 371] (by decide +kernel)
theorem tb_x1 : ∀ w ∈ (vx_atS RX5 71 "java/lang/IllegalStateException" ["java/lang/RuntimeException", "java/lang/Exception"]).filter goodWord, w ∈ lw_tbl := plg_in _ [35, 286, 295, 303, 306, 308, 287, 288, 53, 54, 289, 294, 304, 324, 276, 325, 278, 326, 280, 290, 292, 282, 320, 321, 323, 282, 347, 348, 349, 314, 268, 314, 315, 316, 317, 270, 317, 318, 319, 320, 272, 346, 337, 338, 339, 299, 340, 341, 342, 343, 285, 284, 344] (by decide +kernel)
theorem tb_x2 : ∀ w ∈ (vx_atS RX5 117 "java/lang/IllegalArgumentException" ["java/lang/RuntimeException", "java/lang/Exception"]).filter goodWord, w ∈ lw_tbl := plg_in _ [35, 286, 295, 303, 306, 308, 287, 288, 53, 54, 289, 294, 304, 324, 276, 325, 278, 326, 280, 290, 292, 282, 320, 321, 323, 282, 311, 312, 313, 314, 268, 314, 315, 316, 317, 270, 317, 318, 319, 320, 272, 310, 265, 266, 273, 274, 275, 277, 279, 281, 285, 284, 283] (by decide +kernel)
theorem tb_x3 : ∀ w ∈ (vx_atS RX5 222 "java/lang/IndexOutOfBoundsException" ["java/lang/RuntimeException", "java/lang/Exception"]).filter goodWord, w ∈ lw_tbl := plg_in _ [35, 286, 295, 303, 306, 308, 287, 288, 53, 54, 289, 294, 304, 324, 276, 325, 278, 326, 280, 290, 292, 282, 320, 321, 323, 282, 368, 369, 370, 314, 268, 314, 315, 316, 317, 270, 317, 318, 319, 320, 272, 405, 396, 397, 398, 300, 399, 400, 401, 402, 285, 284, 403] (by decide +kernel)
theorem tb_x4 : ∀ w ∈ (vx_atX RX5 154 "java/util/NoSuchElementException" 13 prog_22_method_4_code ["java/lang/RuntimeException", "java/lang/Exception"]).filter goodWord, w ∈ lw_tbl := plg_in _ [35, 286, 295, 303, 306, 308, 287, 288, 53, 54, 289, 294, 304, 324, 276, 325, 278, 326, 280, 290, 292, 282, 320, 321, 323, 282, 459, 460, 461, 314, 268, 314, 315, 316, 317, 270, 317, 318, 319, 320, 272, 458, 449, 450, 451, 302, 452, 453, 454, 455, 285, 284, 456] (by decide +kernel)
theorem tb_x5 : ∀ w ∈ (vx_atS RX5 130 "java/lang/UnsupportedOperationException" ["java/lang/RuntimeException", "java/lang/Exception"]).filter goodWord, w ∈ lw_tbl := plg_in _ [35, 286, 295, 303, 306, 308, 287, 288, 53, 54, 289, 294, 304, 324, 276, 325, 278, 326, 280, 290, 292, 282, 320, 321, 323, 282, 512, 513, 514, 314, 268, 314, 315, 316, 317, 270, 317, 318, 319, 320, 272, 511, 502, 503, 504, 301, 505, 506, 507, 508, 285, 284, 509] (by decide +kernel)
theorem tb_x6 : ∀ w ∈ (vx_atM "java/lang/ArithmeticException" ["java/lang/RuntimeException", "java/lang/Exception"]).filter goodWord, w ∈ lw_tbl := plg_in _ [35, 286, 295, 303, 306, 308, 287, 288, 53, 54, 289, 294, 304, 324, 276, 325, 278, 326, 280, 290, 292, 282, 320, 321, 323, 282, 707, 708, 709, 314, 268, 314, 315, 316, 317, 270, 317, 318, 319, 320, 272, 42, 382, 335, 383, 385, 384, 386, 46, 706, 717, 718, 297, 712, 713, 715, 711, 285, 284, 710] (by decide +kernel)
theorem tb_x7 : ∀ w ∈ (vx_atS RX5 215 "java/lang/ArithmeticException" ["java/lang/RuntimeException", "java/lang/Exception"]).filter goodWord, w ∈ lw_tbl := plg_in _ [35, 286, 295, 303, 306, 308, 287, 288, 53, 54, 289, 294, 304, 324, 276, 325, 278, 326, 280, 290, 292, 282, 320, 321, 323, 282, 707, 708, 709, 314, 268, 314, 315, 316, 317, 270, 317, 318, 319, 320, 272, 725, 706, 717, 718, 297, 712, 713, 715, 711, 285, 284, 710] (by decide +kernel)
theorem tb_law0 : ∀ w ∈ wsL_law0, w ∈ lw_tbl := fun w h => (List.mem_append.mp h).elim (fun h => (List.mem_append.mp h).elim (fun h => (List.mem_append.mp h).elim (fun h => (List.mem_append.mp h).elim (fun h => (List.mem_append.mp h).elim (fun h => (List.mem_append.mp h).elim (fun h => (List.mem_append.mp h).elim (fun h => (List.mem_append.mp h).elim (fun h => (List.mem_append.mp h).elim (fun h => tb_r1 w h) (fun h => (List.mem_append.mp h).elim (fun h => tb_r2 w h) (fun h => (List.mem_append.mp h).elim (fun h => tb_r3 w h) (fun h => (List.mem_append.mp h).elim (fun h => tb_r4 w h) (fun h => (List.mem_append.mp h).elim (fun h => tb_r5 w h) (fun h => (List.mem_append.mp h).elim (fun h => tb_r6 w h) (fun h => (List.mem_append.mp h).elim (fun h => tb_r7 w h) (fun h => (List.mem_append.mp h).elim (fun h => tb_r8 w h) (fun h => (List.mem_append.mp h).elim (fun h => tb_r9 w h) (fun h => (List.mem_append.mp h).elim (fun h => tb_r10 w h) (fun h => (List.mem_append.mp h).elim (fun h => tb_r11 w h) (fun h => (List.mem_append.mp h).elim (fun h => tb_r12 w h) (fun h => (List.mem_append.mp h).elim (fun h => tb_r13 w h) (fun h => (List.mem_append.mp h).elim (fun h => tb_r14 w h) (fun h => (List.mem_append.mp h).elim (fun h => tb_r15 w h) (fun h => (List.mem_append.mp h).elim (fun h => tb_r16 w h) (fun h => (List.mem_append.mp h).elim (fun h => tb_r17 w h) (fun h => (List.mem_append.mp h).elim (fun h => tb_r18 w h) (fun h => (List.mem_append.mp h).elim (fun h => tb_r19 w h) (fun h => (List.mem_append.mp h).elim (fun h => tb_r20 w h) (fun h => (List.mem_append.mp h).elim (fun h => tb_r21 w h) (fun h => (List.mem_append.mp h).elim (fun h => tb_r22 w h) (fun h => (List.mem_append.mp h).elim (fun h => tb_r23 w h) (fun h => (List.mem_append.mp h).elim (fun h => tb_r24 w h) (fun h => (List.mem_append.mp h).elim (fun h => tb_r25 w h) (fun h => (List.mem_append.mp h).elim (fun h => tb_r26 w h) (fun h => (List.mem_append.mp h).elim (fun h => tb_r27 w h) (fun h => (List.mem_append.mp h).elim (fun h => tb_r28 w h) (fun h => tb_r29 w h))))))))))))))))))))))))))))) (fun h => tb_RX5 w h)) (fun h => tb_RX6 w h)) (fun h => tb_RX3 w h)) (fun h => tb_RX0 w h)) (fun h => tb_RX2 w h)) (fun h => tb_RX1 w h)) (fun h => tb_RX4 w h)) (fun h => absurd h List.not_mem_nil)
theorem wsL_tbl : ∀ w ∈ wsL_law, w ∈ lw_tbl := fun w h => (List.mem_append.mp h).elim (fun h => (List.mem_append.mp h).elim (fun h => (List.mem_append.mp h).elim (fun h => (List.mem_append.mp h).elim (fun h => (List.mem_append.mp h).elim (fun h => (List.mem_append.mp h).elim (fun h => (List.mem_append.mp h).elim (fun h => (List.mem_append.mp h).elim (fun h => tb_law0 w h) (fun h => tb_x0 w h)) (fun h => tb_x1 w h)) (fun h => tb_x2 w h)) (fun h => tb_x3 w h)) (fun h => tb_x4 w h)) (fun h => tb_x5 w h)) (fun h => tb_x6 w h)) (fun h => tb_x7 w h)

/-! ===== every word of the list stands in the tables, by its place ===== -/
def plc : List Cond → List Nat → Bool
  | [], _ => true
  | w :: ws, i :: is => decide (lw_tbl[i]? = some w) && plc ws is
  | _ :: _, [] => false
theorem plc_in : ∀ (ws : List Cond) (is : List Nat), plc ws is = true → ∀ w ∈ ws, w ∈ lw_tbl
  | [], _, _, _, h => absurd h List.not_mem_nil
  | w :: ws, i :: is, h, x, hx => by
    simp only [plc, Bool.and_eq_true, decide_eq_true_eq] at h
    rcases List.mem_cons.mp hx with e | e
    · rw [e]; exact List.mem_of_getElem? h.1
    · exact plc_in ws is h.2 x e
  | _ :: _, [], h, _, _ => absurd h (by simp [plc])
def plg : List Cond → List Nat → Bool
  | [], _ => true
  | w :: ws, i :: is => (!goodWord w || decide (lw_tbl[i]? = some w)) && plg ws is
  | _ :: _, [] => false
theorem plg_in : ∀ (ws : List Cond) (is : List Nat), plg ws is = true → ∀ w ∈ ws.filter goodWord, w ∈ lw_tbl
  | [], _, _, _, h => absurd h List.not_mem_nil
  | w :: ws, i :: is, h, x, hx => by
    simp only [plg, Bool.and_eq_true, Bool.or_eq_true, Bool.not_eq_true', decide_eq_true_eq] at h
    obtain ⟨h1, h2⟩ := List.mem_filter.mp hx
    rcases List.mem_cons.mp h1 with e | e
    · rw [e] at h2 ⊢
      exact List.mem_of_getElem? (h.1.elim (fun q => absurd (h2.symm.trans q) (by decide)) id)
    · exact plg_in ws is h.2 x (List.mem_filter.mpr ⟨e, h2⟩)
  | _ :: _, [], h, _, _ => absurd h (by simp [plg])
theorem tb_r1 : ∀ w ∈ wsL_law0_r1, w ∈ lw_tbl := plc_in _ [47, 48, 27, 731, 732, 34, 1036, 1037, 49, 50, 51, 52, 53, 54, 55, 190, 57, 191, 59, 192, 80, 195, 61, 62] (by decide +kernel)
theorem tb_r2 : ∀ w ∈ wsL_law0_r2, w ∈ lw_tbl := plc_in _ [28, 201, 81, 82, 29, 202, 203, 108, 30, 147, 33, 114, 31, 168, 64, 65, 66, 84, 85, 86, 110, 111, 112, 113] (by decide +kernel)
theorem tb_r3 : ∀ w ∈ wsL_law0_r3, w ∈ lw_tbl := plc_in _ [135, 137, 115, 116, 117, 118, 123, 132, 124, 122, 119, 120, 32, 121, 149, 150, 151, 152, 154, 156, 158, 153, 167, 170] (by decide +kernel)
theorem tb_r4 : ∀ w ∈ wsL_law0_r4, w ∈ lw_tbl := plc_in _ [172, 0, 173, 196, 174, 175, 176, 177, 178, 179, 180, 181, 182, 183, 184, 185, 186, 188, 1, 189, 733, 734, 735, 736] (by decide +kernel)
theorem tb_r5 : ∀ w ∈ wsL_law0_r5, w ∈ lw_tbl := plc_in _ [744, 748, 749, 750, 751, 752, 753, 754, 755, 756, 757, 758, 759, 737, 738, 739, 249, 250, 26, 251, 252, 253, 254, 255] (by decide +kernel)
theorem tb_r6 : ∀ w ∈ wsL_law0_r6, w ∈ lw_tbl := plc_in _ [256, 257, 333, 39, 193, 258, 259, 260, 261, 38, 829, 830, 831, 832, 741, 740, 833, 834, 835, 836, 838, 11, 839, 825] (by decide +kernel)
theorem tb_r7 : ∀ w ∈ wsL_law0_r7, w ∈ lw_tbl := plc_in _ [826, 827, 828, 349, 350, 351, 352, 353, 354, 355, 194, 840, 841, 842, 843, 742, 357, 358, 359, 360, 384, 385, 386, 387] (by decide +kernel)
theorem tb_r8 : ∀ w ∈ wsL_law0_r8, w ∈ lw_tbl := plc_in _ [388, 390, 3, 391, 392, 40, 405, 407, 4, 408, 410, 411, 412, 844, 845, 846, 847, 848, 850, 12, 851, 852, 854, 13] (by decide +kernel)
theorem tb_r9 : ∀ w ∈ wsL_law0_r9, w ∈ lw_tbl := plc_in _ [855, 856, 857, 858, 859, 861, 14, 862, 863, 864, 865, 414, 415, 416, 417, 418, 419, 420, 866, 867, 868, 869, 421, 422] (by decide +kernel)
theorem tb_r10 : ∀ w ∈ wsL_law0_r10, w ∈ lw_tbl := plc_in _ [423, 424, 425, 426, 427, 428, 430, 5, 431, 870, 871, 872, 873, 432, 433, 434, 435, 436, 437, 438, 439, 461, 440, 441] (by decide +kernel)
theorem tb_r11 : ∀ w ∈ wsL_law0_r11, w ∈ lw_tbl := plc_in _ [442, 445, 43, 443, 874, 875, 876, 877, 878, 879, 880, 881, 882, 883, 464, 465, 466, 467, 468, 469, 470, 471, 472, 473] (by decide +kernel)
theorem tb_r12 : ∀ w ∈ wsL_law0_r12, w ∈ lw_tbl := plc_in _ [475, 477, 6, 478, 479, 480, 481, 482, 884, 885, 886, 887, 888, 890, 15, 891, 483, 484, 485, 486, 487, 488, 489, 892] (by decide +kernel)
theorem tb_r13 : ∀ w ∈ wsL_law0_r13, w ∈ lw_tbl := plc_in _ [893, 894, 895, 490, 491, 492, 493, 494, 495, 496, 497, 498, 44, 896, 897, 898, 899, 514, 515, 516, 517, 518, 519, 520] (by decide +kernel)
theorem tb_r14 : ∀ w ∈ wsL_law0_r14, w ∈ lw_tbl := plc_in _ [197, 198, 199, 522, 524, 7, 525, 551, 552, 45, 553, 200, 526, 528, 8, 529, 530, 532, 9, 533, 534, 536, 10, 537] (by decide +kernel)
theorem tb_r15 : ∀ w ∈ wsL_law0_r15, w ∈ lw_tbl := plc_in _ [538, 539, 540, 541, 67, 69, 71, 542, 543, 544, 545, 546, 547, 548, 549, 550, 87, 89, 91, 93, 95, 554, 555, 556] (by decide +kernel)
theorem tb_r16 : ∀ w ∈ wsL_law0_r16, w ∈ lw_tbl := plc_in _ [557, 558, 559, 560, 561, 562, 563, 564, 565, 566, 567, 568, 569, 570, 571, 572, 573, 574, 575, 576, 577, 578, 579, 580] (by decide +kernel)
theorem tb_r17 : ∀ w ∈ wsL_law0_r17, w ∈ lw_tbl := plc_in _ [900, 901, 902, 903, 743, 745, 746, 904, 906, 16, 907, 747, 908, 910, 17, 911, 760, 761, 762, 912, 914, 18, 915, 763] (by decide +kernel)
theorem tb_r18 : ∀ w ∈ wsL_law0_r18, w ∈ lw_tbl := plc_in _ [764, 916, 918, 19, 919, 765, 920, 922, 20, 923, 924, 925, 926, 927, 929, 21, 930, 766, 931, 933, 22, 934, 767, 233] (by decide +kernel)
theorem tb_r19 : ∀ w ∈ wsL_law0_r19, w ∈ lw_tbl := plc_in _ [234, 235, 236, 935, 936, 937, 938, 581, 582, 583, 584, 585, 586, 587, 588, 589, 590, 939, 940, 941, 942, 943, 945, 23] (by decide +kernel)
theorem tb_r20 : ∀ w ∈ wsL_law0_r20, w ∈ lw_tbl := plc_in _ [946, 593, 594, 595, 596, 597, 598, 599, 947, 948, 949, 950, 600, 601, 602, 603, 604, 605, 606, 951, 952, 953, 954, 955] (by decide +kernel)
theorem tb_r21 : ∀ w ∈ wsL_law0_r21, w ∈ lw_tbl := plc_in _ [957, 24, 958, 607, 608, 609, 610, 611, 612, 613, 959, 960, 961, 962, 237, 238, 239, 240, 963, 964, 965, 966, 241, 242] (by decide +kernel)
theorem tb_r22 : ∀ w ∈ wsL_law0_r22, w ∈ lw_tbl := plc_in _ [243, 244, 967, 968, 969, 970, 614, 615, 616, 617, 618, 619, 620, 971, 972, 973, 974, 621, 622, 623, 624, 625, 626, 627] (by decide +kernel)
theorem tb_r23 : ∀ w ∈ wsL_law0_r23, w ∈ lw_tbl := plc_in _ [975, 976, 977, 978, 628, 629, 630, 631, 632, 633, 634, 979, 980, 981, 982, 983, 985, 25, 986, 635, 636, 637, 638, 639] (by decide +kernel)
theorem tb_r24 : ∀ w ∈ wsL_law0_r24, w ∈ lw_tbl := plc_in _ [640, 641, 987, 988, 989, 990, 642, 643, 644, 645, 646, 647, 648, 991, 992, 993, 994, 649, 650, 651, 652, 653, 654, 655] (by decide +kernel)
theorem tb_r25 : ∀ w ∈ wsL_law0_r25, w ∈ lw_tbl := plc_in _ [995, 996, 997, 998, 656, 657, 658, 659, 660, 661, 662, 999, 1000, 1001, 1002, 663, 664, 665, 666, 667, 668, 669, 1003, 1004] (by decide +kernel)
theorem tb_r26 : ∀ w ∈ wsL_law0_r26, w ∈ lw_tbl := plc_in _ [1005, 1006, 670, 671, 672, 673, 674, 675, 676, 1007, 1008, 1009, 1010, 677, 678, 679, 680, 681, 682, 683, 1011, 1012, 1013, 1014] (by decide +kernel)
theorem tb_r27 : ∀ w ∈ wsL_law0_r27, w ∈ lw_tbl := plc_in _ [685, 686, 687, 688, 689, 690, 691, 1015, 1016, 1017, 1018, 692, 693, 694, 695, 696, 697, 698, 1019, 1020, 1021, 1022, 1023, 245] (by decide +kernel)
theorem tb_r28 : ∀ w ∈ wsL_law0_r28, w ∈ lw_tbl := plc_in _ [246, 247, 248, 1024, 1025, 1026, 1027, 699, 700, 701, 702, 716, 717, 718, 719, 720, 46, 1028, 1029, 1030, 1031, 723, 724, 725] (by decide +kernel)
theorem tb_r29 : ∀ w ∈ wsL_law0_r29, w ∈ lw_tbl := plc_in _ [726, 727, 728, 729, 1032, 1033, 1034, 1035] (by decide +kernel)
theorem tb_RX0 : ∀ w ∈ wsX00, w ∈ lw_tbl := plc_in _ [97, 99, 101, 103, 105] (by decide +kernel)
theorem tb_RX1 : ∀ w ∈ wsX10, w ∈ lw_tbl := plc_in _ [160, 162, 164] (by decide +kernel)
theorem tb_RX2 : ∀ w ∈ wsX20, w ∈ lw_tbl := plc_in _ [140, 142, 144] (by decide +kernel)
theorem tb_RX3 : ∀ w ∈ wsX30, w ∈ lw_tbl := plc_in _ [73, 75, 77] (by decide +kernel)
theorem tb_RX4 : ∀ w ∈ wsX40, w ∈ lw_tbl := plc_in _ [125, 127, 129] (by decide +kernel)
theorem tb_RX5 : ∀ w ∈ wsX50, w ∈ lw_tbl := plc_in _ [204, 206, 208, 210, 212, 214, 216, 218, 220, 222, 224, 226, 228, 230] (by decide +kernel)
theorem tb_RX6 : ∀ w ∈ wsX60, w ∈ lw_tbl := plc_in _ [768, 770, 772, 774, 776, 778, 780, 782, 784, 786, 788, 790, 792, 794, 796, 798, 800, 802, 804, 806, 808, 810, 812, 814, 816, 818, 820, 822] (by decide +kernel)
theorem tb_x0 : ∀ w ∈ (vx_atM "java/lang/ArrayIndexOutOfBoundsException" ["java/lang/IndexOutOfBoundsException", "java/lang/RuntimeException", "java/lang/Exception"]).filter goodWord, w ∈ lw_tbl := plg_in _ [35, 283, 292, 300, 303, 305, 284, 285, 53, 54, 286, 291, 301, 321, 273, 322, 275, 323, 277, 287, 289, 279, 317, 318, 320, 279, 362, 363, 364, 365, 377, 365, 366, 367, 311, 265, 311, 312, 313, 314, 267, 314, 315, 316, 317, 269, 42, 379, 332, 380, 382, 381, 383, 41, 361, 375, 378, 295, 370, 371, 373, 369, 282, 281, 368] (by decide +kernel)
theorem tb_x1 : ∀ w ∈ (vx_atS RX5 71 "java/lang/IllegalStateException" ["java/lang/RuntimeException", "java/lang/Exception"]).filter goodWord, w ∈ lw_tbl := plg_in _ [35, 283, 292, 300, 303, 305, 284, 285, 53, 54, 286, 291, 301, 321, 273, 322, 275, 323, 277, 287, 289, 279, 317, 318, 320, 279, 344, 345, 346, 311, 265, 311, 312, 313, 314, 267, 314, 315, 316, 317, 269, 343, 334, 335, 336, 296, 337, 338, 339, 340, 282, 281, 341] (by decide +kernel)
theorem tb_x2 : ∀ w ∈ (vx_atS RX5 117 "java/lang/IllegalArgumentException" ["java/lang/RuntimeException", "java/lang/Exception"]).filter goodWord, w ∈ lw_tbl := plg_in _ [35, 283, 292, 300, 303, 305, 284, 285, 53, 54, 286, 291, 301, 321, 273, 322, 275, 323, 277, 287, 289, 279, 317, 318, 320, 279, 308, 309, 310, 311, 265, 311, 312, 313, 314, 267, 314, 315, 316, 317, 269, 307, 262, 263, 270, 271, 272, 274, 276, 278, 282, 281, 280] (by decide +kernel)
theorem tb_x3 : ∀ w ∈ (vx_atS RX5 222 "java/lang/IndexOutOfBoundsException" ["java/lang/RuntimeException", "java/lang/Exception"]).filter goodWord, w ∈ lw_tbl := plg_in _ [35, 283, 292, 300, 303, 305, 284, 285, 53, 54, 286, 291, 301, 321, 273, 322, 275, 323, 277, 287, 289, 279, 317, 318, 320, 279, 365, 366, 367, 311, 265, 311, 312, 313, 314, 267, 314, 315, 316, 317, 269, 402, 393, 394, 395, 297, 396, 397, 398, 399, 282, 281, 400] (by decide +kernel)
theorem tb_x4 : ∀ w ∈ (vx_atX RX5 154 "java/util/NoSuchElementException" 13 prog_22_method_4_code ["java/lang/RuntimeException", "java/lang/Exception"]).filter goodWord, w ∈ lw_tbl := plg_in _ [35, 283, 292, 300, 303, 305, 284, 285, 53, 54, 286, 291, 301, 321, 273, 322, 275, 323, 277, 287, 289, 279, 317, 318, 320, 279, 456, 457, 458, 311, 265, 311, 312, 313, 314, 267, 314, 315, 316, 317, 269, 455, 446, 447, 448, 299, 449, 450, 451, 452, 282, 281, 453] (by decide +kernel)
theorem tb_x5 : ∀ w ∈ (vx_atS RX5 130 "java/lang/UnsupportedOperationException" ["java/lang/RuntimeException", "java/lang/Exception"]).filter goodWord, w ∈ lw_tbl := plg_in _ [35, 283, 292, 300, 303, 305, 284, 285, 53, 54, 286, 291, 301, 321, 273, 322, 275, 323, 277, 287, 289, 279, 317, 318, 320, 279, 509, 510, 511, 311, 265, 311, 312, 313, 314, 267, 314, 315, 316, 317, 269, 508, 499, 500, 501, 298, 502, 503, 504, 505, 282, 281, 506] (by decide +kernel)
theorem tb_x6 : ∀ w ∈ (vx_atM "java/lang/ArithmeticException" ["java/lang/RuntimeException", "java/lang/Exception"]).filter goodWord, w ∈ lw_tbl := plg_in _ [35, 283, 292, 300, 303, 305, 284, 285, 53, 54, 286, 291, 301, 321, 273, 322, 275, 323, 277, 287, 289, 279, 317, 318, 320, 279, 704, 705, 706, 311, 265, 311, 312, 313, 314, 267, 314, 315, 316, 317, 269, 42, 379, 332, 380, 382, 381, 383, 46, 703, 714, 715, 294, 709, 710, 712, 708, 282, 281, 707] (by decide +kernel)
theorem tb_x7 : ∀ w ∈ (vx_atS RX5 215 "java/lang/ArithmeticException" ["java/lang/RuntimeException", "java/lang/Exception"]).filter goodWord, w ∈ lw_tbl := plg_in _ [35, 283, 292, 300, 303, 305, 284, 285, 53, 54, 286, 291, 301, 321, 273, 322, 275, 323, 277, 287, 289, 279, 317, 318, 320, 279, 704, 705, 706, 311, 265, 311, 312, 313, 314, 267, 314, 315, 316, 317, 269, 722, 703, 714, 715, 294, 709, 710, 712, 708, 282, 281, 707] (by decide +kernel)
theorem tb_law0 : ∀ w ∈ wsL_law0, w ∈ lw_tbl := fun w h => (List.mem_append.mp h).elim (fun h => (List.mem_append.mp h).elim (fun h => (List.mem_append.mp h).elim (fun h => (List.mem_append.mp h).elim (fun h => (List.mem_append.mp h).elim (fun h => (List.mem_append.mp h).elim (fun h => (List.mem_append.mp h).elim (fun h => (List.mem_append.mp h).elim (fun h => (List.mem_append.mp h).elim (fun h => tb_r1 w h) (fun h => (List.mem_append.mp h).elim (fun h => tb_r2 w h) (fun h => (List.mem_append.mp h).elim (fun h => tb_r3 w h) (fun h => (List.mem_append.mp h).elim (fun h => tb_r4 w h) (fun h => (List.mem_append.mp h).elim (fun h => tb_r5 w h) (fun h => (List.mem_append.mp h).elim (fun h => tb_r6 w h) (fun h => (List.mem_append.mp h).elim (fun h => tb_r7 w h) (fun h => (List.mem_append.mp h).elim (fun h => tb_r8 w h) (fun h => (List.mem_append.mp h).elim (fun h => tb_r9 w h) (fun h => (List.mem_append.mp h).elim (fun h => tb_r10 w h) (fun h => (List.mem_append.mp h).elim (fun h => tb_r11 w h) (fun h => (List.mem_append.mp h).elim (fun h => tb_r12 w h) (fun h => (List.mem_append.mp h).elim (fun h => tb_r13 w h) (fun h => (List.mem_append.mp h).elim (fun h => tb_r14 w h) (fun h => (List.mem_append.mp h).elim (fun h => tb_r15 w h) (fun h => (List.mem_append.mp h).elim (fun h => tb_r16 w h) (fun h => (List.mem_append.mp h).elim (fun h => tb_r17 w h) (fun h => (List.mem_append.mp h).elim (fun h => tb_r18 w h) (fun h => (List.mem_append.mp h).elim (fun h => tb_r19 w h) (fun h => (List.mem_append.mp h).elim (fun h => tb_r20 w h) (fun h => (List.mem_append.mp h).elim (fun h => tb_r21 w h) (fun h => (List.mem_append.mp h).elim (fun h => tb_r22 w h) (fun h => (List.mem_append.mp h).elim (fun h => tb_r23 w h) (fun h => (List.mem_append.mp h).elim (fun h => tb_r24 w h) (fun h => (List.mem_append.mp h).elim (fun h => tb_r25 w h) (fun h => (List.mem_append.mp h).elim (fun h => tb_r26 w h) (fun h => (List.mem_append.mp h).elim (fun h => tb_r27 w h) (fun h => (List.mem_append.mp h).elim (fun h => tb_r28 w h) (fun h => tb_r29 w h))))))))))))))))))))))))))))) (fun h => tb_RX5 w h)) (fun h => tb_RX6 w h)) (fun h => tb_RX3 w h)) (fun h => tb_RX0 w h)) (fun h => tb_RX2 w h)) (fun h => tb_RX1 w h)) (fun h => tb_RX4 w h)) (fun h => absurd h List.not_mem_nil)
theorem wsL_tbl : ∀ w ∈ wsL_law, w ∈ lw_tbl := fun w h => (List.mem_append.mp h).elim (fun h => (List.mem_append.mp h).elim (fun h => (List.mem_append.mp h).elim (fun h => (List.mem_append.mp h).elim (fun h => (List.mem_append.mp h).elim (fun h => (List.mem_append.mp h).elim (fun h => (List.mem_append.mp h).elim (fun h => (List.mem_append.mp h).elim (fun h => tb_law0 w h) (fun h => tb_x0 w h)) (fun h => tb_x1 w h)) (fun h => tb_x2 w h)) (fun h => tb_x3 w h)) (fun h => tb_x4 w h)) (fun h => tb_x5 w h)) (fun h => tb_x6 w h)) (fun h => tb_x7 w h)

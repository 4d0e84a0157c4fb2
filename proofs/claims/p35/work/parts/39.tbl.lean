/-! ===== every word of the list stands in the tables, by its place ===== -/
def plc : List Cond → List Nat → Bool
  | [], _ => true
  | w :: ws, i :: is => decide (lw_tbl[i]? = some w) && plc ws is
  | _ :: _, [] => false
theorem plc_in : ∀ (ws : List Cond) (is : List Nat), plc ws is = true → ∀ w ∈ ws, w ∈ lw_tbl
  | [], _, _, _, h => absurd h List.not_mem_nil
  | w :: ws, i :: is, h, x, hx => by
    simp only [plc, Bool.and_eq_true, decide_eq_true_eq] at h
    rcases List.mem_cons.mp hx with e | e
    · rw [e]; exact List.mem_of_getElem? h.1
    · exact plc_in ws is h.2 x e
  | _ :: _, [], h, _, _ => absurd h (by simp [plc])
def plg : List Cond → List Nat → Bool
  | [], _ => true
  | w :: ws, i :: is => (!goodWord w || decide (lw_tbl[i]? = some w)) && plg ws is
  | _ :: _, [] => false
theorem plg_in : ∀ (ws : List Cond) (is : List Nat), plg ws is = true → ∀ w ∈ ws.filter goodWord, w ∈ lw_tbl
  | [], _, _, _, h => absurd h List.not_mem_nil
  | w :: ws, i :: is, h, x, hx => by
    simp only [plg, Bool.and_eq_true, Bool.or_eq_true, Bool.not_eq_true', decide_eq_true_eq] at h
    obtain ⟨h1, h2⟩ := List.mem_filter.mp hx
    rcases List.mem_cons.mp h1 with e | e
    · rw [e] at h2 ⊢
      exact List.mem_of_getElem? (h.1.elim (fun q => absurd (h2.symm.trans q) (by decide)) id)
    · exact plg_in ws is h.2 x (List.mem_filter.mpr ⟨e, h2⟩)
  | _ :: _, [], h, _, _ => absurd h (by simp [plg])
theorem tb_r1 : ∀ w ∈ wsL_law0_r1, w ∈ lw_tbl := plc_in _ [31, 32, 12, 33, 34, 35, 36, 37, 38, 39, 177, 41, 178, 43, 179, 64, 182, 45, 46, 13, 188, 65, 66, 14] (by decide +kernel)
theorem tb_r2 : ∀ w ∈ wsL_law0_r2, w ∈ lw_tbl := plc_in _ [189, 190, 92, 15, 130, 18, 98, 16, 151, 48, 49, 50, 68, 69, 70, 94, 95, 96, 97, 118, 120, 99, 100, 101] (by decide +kernel)
theorem tb_r3 : ∀ w ∈ wsL_law0_r3, w ∈ lw_tbl := plc_in _ [102, 107, 108, 106, 103, 104, 17, 105, 132, 133, 134, 135, 137, 139, 141, 136, 150, 153, 155, 0, 156, 183, 157, 158] (by decide +kernel)
theorem tb_r4 : ∀ w ∈ wsL_law0_r4, w ∈ lw_tbl := plc_in _ [159, 160, 161, 162, 163, 164, 165, 166, 167, 168, 169, 170, 171, 172, 174, 1, 175, 176, 232, 233, 11, 234, 235, 236] (by decide +kernel)
theorem tb_r5 : ∀ w ∈ wsL_law0_r5, w ∈ lw_tbl := plc_in _ [237, 238, 239, 240, 241, 242, 243, 244, 245, 246, 247, 323, 23, 180, 248, 249, 250, 251, 22, 339, 340, 341, 342, 343] (by decide +kernel)
theorem tb_r6 : ∀ w ∈ wsL_law0_r6, w ∈ lw_tbl := plc_in _ [344, 345, 181, 347, 348, 349, 350, 374, 375, 376, 377, 378, 380, 3, 381, 382, 24, 395, 397, 4, 398, 400, 401, 402] (by decide +kernel)
theorem tb_r7 : ∀ w ∈ wsL_law0_r7, w ∈ lw_tbl := plc_in _ [585, 586, 587, 588, 593, 601, 228, 229, 230, 231, 589, 590, 591, 592, 186, 224, 225, 226, 227, 187, 594, 595, 596, 597] (by decide +kernel)
theorem tb_r8 : ∀ w ∈ wsL_law0_r8, w ∈ lw_tbl := plc_in _ [598, 599, 600, 184, 418, 420, 5, 421, 516, 518, 8, 519, 520, 522, 9, 523, 541, 542, 27, 543, 524, 526, 10, 527] (by decide +kernel)
theorem tb_r9 : ∀ w ∈ wsL_law0_r9, w ∈ lw_tbl := plc_in _ [528, 529, 530, 531, 51, 53, 55, 532, 533, 534, 535, 536, 537, 538, 539, 540, 71, 73, 75, 77, 79, 544, 545, 546] (by decide +kernel)
theorem tb_r10 : ∀ w ∈ wsL_law0_r10, w ∈ lw_tbl := plc_in _ [547, 548, 549, 550, 551, 552, 553, 554, 555, 556, 557, 220, 221, 222, 223, 602, 603, 604, 605, 606, 607, 608, 609, 610] (by decide +kernel)
theorem tb_r11 : ∀ w ∈ wsL_law0_r11, w ∈ lw_tbl := plc_in _ [611, 571, 572, 573, 574, 575, 576, 577, 404, 405, 406, 407, 408, 409, 410, 411, 412, 413, 414, 415, 416, 417, 578, 579] (by decide +kernel)
theorem tb_r12 : ∀ w ∈ wsL_law0_r12, w ∈ lw_tbl := plc_in _ [580, 425, 581, 582, 583, 584, 430, 431, 432, 435, 28, 433, 422, 423, 424, 426, 427, 428, 429, 451, 454, 455, 456, 457] (by decide +kernel)
theorem tb_r13 : ∀ w ∈ wsL_law0_r13, w ∈ lw_tbl := plc_in _ [458, 459, 460, 461, 462, 463, 465, 467, 6, 468, 469, 470, 471, 472, 473, 474, 475, 476, 477, 478, 479, 480, 481, 482] (by decide +kernel)
theorem tb_r14 : ∀ w ∈ wsL_law0_r14, w ∈ lw_tbl := plc_in _ [483, 484, 485, 486, 487, 488, 29, 613, 614, 615, 504, 505, 506, 507, 508, 509, 510, 185, 512, 514, 7, 515, 558, 559] (by decide +kernel)
theorem tb_r15 : ∀ w ∈ wsL_law0_r15, w ∈ lw_tbl := plc_in _ [560, 561, 562, 563, 564, 565, 566, 567, 568, 569, 570, 616, 617, 618, 619, 620, 621, 622, 623, 624, 625, 627, 628, 629] (by decide +kernel)
theorem tb_r16 : ∀ w ∈ wsL_law0_r16, w ∈ lw_tbl := plc_in _ [630, 631, 632, 633, 634, 635, 636, 637, 638, 639, 640, 641, 642, 643, 644, 645, 646, 647, 648, 649, 650, 651, 652, 653] (by decide +kernel)
theorem tb_r17 : ∀ w ∈ wsL_law0_r17, w ∈ lw_tbl := plc_in _ [654, 655, 656, 657, 658, 659, 660, 661, 662, 663, 664, 665, 666, 667, 668, 669, 670, 671, 672, 673, 674, 675, 676, 677] (by decide +kernel)
theorem tb_r18 : ∀ w ∈ wsL_law0_r18, w ∈ lw_tbl := plc_in _ [678, 679, 680, 681, 682, 683, 684, 685, 687, 688, 689, 690, 691, 692, 693, 694, 695, 696, 728, 737, 697, 698, 699, 700] (by decide +kernel)
theorem tb_r19 : ∀ w ∈ wsL_law0_r19, w ∈ lw_tbl := plc_in _ [701, 702, 703, 704, 705, 706, 707, 721, 722, 723, 724, 725, 30, 729, 730, 731, 732, 733, 734, 735] (by decide +kernel)
theorem tb_RX0 : ∀ w ∈ wsX00, w ∈ lw_tbl := plc_in _ [81, 83, 85, 87, 89] (by decide +kernel)
theorem tb_RX1 : ∀ w ∈ wsX10, w ∈ lw_tbl := plc_in _ [143, 145, 147] (by decide +kernel)
theorem tb_RX2 : ∀ w ∈ wsX20, w ∈ lw_tbl := plc_in _ [123, 125, 127] (by decide +kernel)
theorem tb_RX3 : ∀ w ∈ wsX30, w ∈ lw_tbl := plc_in _ [57, 59, 61] (by decide +kernel)
theorem tb_RX4 : ∀ w ∈ wsX40, w ∈ lw_tbl := plc_in _ [109, 111, 113] (by decide +kernel)
theorem tb_RX5 : ∀ w ∈ wsX50, w ∈ lw_tbl := plc_in _ [191, 193, 195, 197, 199, 201, 203, 205, 207, 209, 211, 213, 215, 217] (by decide +kernel)
theorem tb_x0 : ∀ w ∈ (vx_atM "java/lang/ArrayIndexOutOfBoundsException" ["java/lang/IndexOutOfBoundsException", "java/lang/RuntimeException", "java/lang/Exception"]).filter goodWord, w ∈ lw_tbl := plg_in _ [19, 273, 282, 290, 293, 295, 274, 275, 37, 38, 276, 281, 291, 311, 263, 312, 265, 313, 267, 277, 279, 269, 307, 308, 310, 269, 352, 353, 354, 355, 367, 355, 356, 357, 301, 255, 301, 302, 303, 304, 257, 304, 305, 306, 307, 259, 26, 369, 322, 370, 372, 371, 373, 25, 351, 365, 368, 285, 360, 361, 363, 359, 272, 271, 358] (by decide +kernel)
theorem tb_x1 : ∀ w ∈ (vx_atM "java/lang/ArithmeticException" ["java/lang/RuntimeException", "java/lang/Exception"]).filter goodWord, w ∈ lw_tbl := plg_in _ [19, 273, 282, 290, 293, 295, 274, 275, 37, 38, 276, 281, 291, 311, 263, 312, 265, 313, 267, 277, 279, 269, 307, 308, 310, 269, 709, 710, 711, 301, 255, 301, 302, 303, 304, 257, 304, 305, 306, 307, 259, 26, 369, 322, 370, 372, 371, 373, 30, 708, 719, 720, 284, 714, 715, 717, 713, 272, 271, 712] (by decide +kernel)
theorem tb_x2 : ∀ w ∈ (vx_atS RX5 71 "java/lang/IllegalStateException" ["java/lang/RuntimeException", "java/lang/Exception"]).filter goodWord, w ∈ lw_tbl := plg_in _ [19, 273, 282, 290, 293, 295, 274, 275, 37, 38, 276, 281, 291, 311, 263, 312, 265, 313, 267, 277, 279, 269, 307, 308, 310, 269, 334, 335, 336, 301, 255, 301, 302, 303, 304, 257, 304, 305, 306, 307, 259, 333, 324, 325, 326, 286, 327, 328, 329, 330, 272, 271, 331] (by decide +kernel)
theorem tb_x3 : ∀ w ∈ (vx_atS RX5 117 "java/lang/IllegalArgumentException" ["java/lang/RuntimeException", "java/lang/Exception"]).filter goodWord, w ∈ lw_tbl := plg_in _ [19, 273, 282, 290, 293, 295, 274, 275, 37, 38, 276, 281, 291, 311, 263, 312, 265, 313, 267, 277, 279, 269, 307, 308, 310, 269, 298, 299, 300, 301, 255, 301, 302, 303, 304, 257, 304, 305, 306, 307, 259, 297, 252, 253, 260, 261, 262, 264, 266, 268, 272, 271, 270] (by decide +kernel)
theorem tb_x4 : ∀ w ∈ (vx_atS RX5 222 "java/lang/IndexOutOfBoundsException" ["java/lang/RuntimeException", "java/lang/Exception"]).filter goodWord, w ∈ lw_tbl := plg_in _ [19, 273, 282, 290, 293, 295, 274, 275, 37, 38, 276, 281, 291, 311, 263, 312, 265, 313, 267, 277, 279, 269, 307, 308, 310, 269, 355, 356, 357, 301, 255, 301, 302, 303, 304, 257, 304, 305, 306, 307, 259, 392, 383, 384, 385, 287, 386, 387, 388, 389, 272, 271, 390] (by decide +kernel)
theorem tb_x5 : ∀ w ∈ (vx_atX RX5 154 "java/util/NoSuchElementException" 13 prog_22_method_4_code ["java/lang/RuntimeException", "java/lang/Exception"]).filter goodWord, w ∈ lw_tbl := plg_in _ [19, 273, 282, 290, 293, 295, 274, 275, 37, 38, 276, 281, 291, 311, 263, 312, 265, 313, 267, 277, 279, 269, 307, 308, 310, 269, 446, 447, 448, 301, 255, 301, 302, 303, 304, 257, 304, 305, 306, 307, 259, 445, 436, 437, 438, 289, 439, 440, 441, 442, 272, 271, 443] (by decide +kernel)
theorem tb_x6 : ∀ w ∈ (vx_atS RX5 130 "java/lang/UnsupportedOperationException" ["java/lang/RuntimeException", "java/lang/Exception"]).filter goodWord, w ∈ lw_tbl := plg_in _ [19, 273, 282, 290, 293, 295, 274, 275, 37, 38, 276, 281, 291, 311, 263, 312, 265, 313, 267, 277, 279, 269, 307, 308, 310, 269, 499, 500, 501, 301, 255, 301, 302, 303, 304, 257, 304, 305, 306, 307, 259, 498, 489, 490, 491, 288, 492, 493, 494, 495, 272, 271, 496] (by decide +kernel)
theorem tb_x7 : ∀ w ∈ (vx_atS RX5 215 "java/lang/ArithmeticException" ["java/lang/RuntimeException", "java/lang/Exception"]).filter goodWord, w ∈ lw_tbl := plg_in _ [19, 273, 282, 290, 293, 295, 274, 275, 37, 38, 276, 281, 291, 311, 263, 312, 265, 313, 267, 277, 279, 269, 307, 308, 310, 269, 709, 710, 711, 301, 255, 301, 302, 303, 304, 257, 304, 305, 306, 307, 259, 727, 708, 719, 720, 284, 714, 715, 717, 713, 272, 271, 712] (by decide +kernel)
theorem tb_law0 : ∀ w ∈ wsL_law0, w ∈ lw_tbl := fun w h => (List.mem_append.mp h).elim (fun h => (List.mem_append.mp h).elim (fun h => (List.mem_append.mp h).elim (fun h => (List.mem_append.mp h).elim (fun h => (List.mem_append.mp h).elim (fun h => (List.mem_append.mp h).elim (fun h => (List.mem_append.mp h).elim (fun h => (List.mem_append.mp h).elim (fun h => tb_r1 w h) (fun h => (List.mem_append.mp h).elim (fun h => tb_r2 w h) (fun h => (List.mem_append.mp h).elim (fun h => tb_r3 w h) (fun h => (List.mem_append.mp h).elim (fun h => tb_r4 w h) (fun h => (List.mem_append.mp h).elim (fun h => tb_r5 w h) (fun h => (List.mem_append.mp h).elim (fun h => tb_r6 w h) (fun h => (List.mem_append.mp h).elim (fun h => tb_r7 w h) (fun h => (List.mem_append.mp h).elim (fun h => tb_r8 w h) (fun h => (List.mem_append.mp h).elim (fun h => tb_r9 w h) (fun h => (List.mem_append.mp h).elim (fun h => tb_r10 w h) (fun h => (List.mem_append.mp h).elim (fun h => tb_r11 w h) (fun h => (List.mem_append.mp h).elim (fun h => tb_r12 w h) (fun h => (List.mem_append.mp h).elim (fun h => tb_r13 w h) (fun h => (List.mem_append.mp h).elim (fun h => tb_r14 w h) (fun h => (List.mem_append.mp h).elim (fun h => tb_r15 w h) (fun h => (List.mem_append.mp h).elim (fun h => tb_r16 w h) (fun h => (List.mem_append.mp h).elim (fun h => tb_r17 w h) (fun h => (List.mem_append.mp h).elim (fun h => tb_r18 w h) (fun h => tb_r19 w h))))))))))))))))))) (fun h => tb_RX5 w h)) (fun h => tb_RX3 w h)) (fun h => tb_RX0 w h)) (fun h => tb_RX2 w h)) (fun h => tb_RX1 w h)) (fun h => tb_RX4 w h)) (fun h => absurd h List.not_mem_nil)
theorem wsL_tbl : ∀ w ∈ wsL_law, w ∈ lw_tbl := fun w h => (List.mem_append.mp h).elim (fun h => (List.mem_append.mp h).elim (fun h => (List.mem_append.mp h).elim (fun h => (List.mem_append.mp h).elim (fun h => (List.mem_append.mp h).elim (fun h => (List.mem_append.mp h).elim (fun h => (List.mem_append.mp h).elim (fun h => (List.mem_append.mp h).elim (fun h => tb_law0 w h) (fun h => tb_x0 w h)) (fun h => tb_x1 w h)) (fun h => tb_x2 w h)) (fun h => tb_x3 w h)) (fun h => tb_x4 w h)) (fun h => tb_x5 w h)) (fun h => tb_x6 w h)) (fun h => tb_x7 w h)

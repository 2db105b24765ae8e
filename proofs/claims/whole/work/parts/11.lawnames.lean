theorem lw_memr {big : List Cond} (ws : List Cond) (ps : List Nat) (hp : ws = ps.filterMap (fun i => big[i]?)) : ∀ w ∈ ws, w ∈ big := by
  intro w hw
  rw [hp] at hw
  obtain ⟨i, -, hi⟩ := List.mem_filterMap.mp hw
  exact List.mem_of_getElem? hi
set_option maxRecDepth 200000 in
theorem in_wsL_law_r1 : ∀ w ∈ wsL_law_r1, w ∈ lw_tbl := lw_memr _ [41, 42, 32, 597, 598, 40, 43, 44, 45, 46, 47, 48, 49, 50, 33, 188, 76, 77, 36, 189, 108, 109, 38, 190] rfl
set_option maxRecDepth 200000 in
theorem in_wsL_law_r2 : ∀ w ∈ wsL_law_r2, w ∈ lw_tbl := lw_memr _ [151, 152, 39, 191, 184, 56, 34, 192, 186, 85, 37, 193, 194, 195, 196, 197, 52, 53, 54, 55, 69, 70, 57, 58] rfl
set_option maxRecDepth 200000 in
theorem in_wsL_law_r3 : ∀ w ∈ wsL_law_r3, w ∈ lw_tbl := lw_memr _ [59, 60, 61, 62, 35, 63, 68, 64, 79, 80, 81, 82, 98, 99, 84, 100, 83, 86, 87, 88, 89, 92, 90, 91] rfl
set_option maxRecDepth 200000 in
theorem in_wsL_law_r4 : ∀ w ∈ wsL_law_r4, w ∈ lw_tbl := lw_memr _ [110, 111, 112, 113, 114, 126, 127, 128, 129, 130, 131, 116, 132, 133, 115, 117, 118, 119, 120, 121, 122, 123, 124, 125] rfl
set_option maxRecDepth 200000 in
theorem in_wsL_law_r5 : ∀ w ∈ wsL_law_r5, w ∈ lw_tbl := lw_memr _ [154, 155, 156, 157, 159, 160, 161, 162, 163, 164, 165, 166, 158, 185, 187, 599, 600, 601, 602, 608, 609, 610, 611, 612] rfl
set_option maxRecDepth 200000 in
theorem in_wsL_law_r6 : ∀ w ∈ wsL_law_r6, w ∈ lw_tbl := lw_memr _ [613, 614, 617, 618, 619, 620, 622, 623, 624, 625, 628, 629, 630, 631, 632, 633, 635, 637, 638, 639, 603, 605, 13, 606] rfl
set_option maxRecDepth 200000 in
theorem in_wsL_law_r7 : ∀ w ∈ wsL_law_r7, w ∈ lw_tbl := lw_memr _ [621, 219, 220, 221, 222, 223, 224, 225, 226, 228, 0, 229, 230, 231, 232, 233, 234, 235, 236, 237, 238, 239, 240, 241] rfl
set_option maxRecDepth 200000 in
theorem in_wsL_law_r8 : ∀ w ∈ wsL_law_r8, w ∈ lw_tbl := lw_memr _ [710, 711, 712, 713, 634, 607, 714, 715, 716, 242, 243, 244, 245, 246, 247, 248, 249, 717, 718, 719, 720, 250, 251, 252] rfl
set_option maxRecDepth 200000 in
theorem in_wsL_law_r9 : ∀ w ∈ wsL_law_r9, w ∈ lw_tbl := lw_memr _ [253, 258, 259, 254, 255, 256, 257, 260, 261, 262, 263, 264, 721, 722, 723, 724, 725, 726, 727, 729, 14, 730, 265, 266] rfl
set_option maxRecDepth 200000 in
theorem in_wsL_law_r10 : ∀ w ∈ wsL_law_r10, w ∈ lw_tbl := lw_memr _ [267, 268, 731, 732, 733, 734, 616, 269, 270, 271, 272, 273, 274, 275, 276, 277, 278, 279, 280, 281, 282, 283, 284, 285] rfl
set_option maxRecDepth 200000 in
theorem in_wsL_law_r11 : ∀ w ∈ wsL_law_r11, w ∈ lw_tbl := lw_memr _ [286, 287, 288, 289, 290, 291, 292, 293, 294, 295, 735, 736, 737, 738, 615, 627, 626, 636, 296, 297, 298, 299, 300, 301] rfl
set_option maxRecDepth 200000 in
theorem in_wsL_law_r12 : ∀ w ∈ wsL_law_r12, w ∈ lw_tbl := lw_memr _ [303, 1, 304, 305, 306, 307, 308, 309, 310, 311, 312, 313, 315, 2, 316, 317, 319, 3, 320, 321, 322, 323, 324, 325] rfl
set_option maxRecDepth 200000 in
theorem in_wsL_law_r13 : ∀ w ∈ wsL_law_r13, w ∈ lw_tbl := lw_memr _ [326, 327, 328, 329, 330, 332, 4, 333, 334, 335, 336, 337, 338, 339, 340, 341, 342, 343, 344, 345, 346, 347, 348, 349] rfl
set_option maxRecDepth 200000 in
theorem in_wsL_law_r14 : ∀ w ∈ wsL_law_r14, w ∈ lw_tbl := lw_memr _ [350, 351, 352, 353, 355, 356, 357, 358, 359, 360, 378, 361, 362, 363, 364, 365, 366, 367, 368, 369, 370, 371, 372, 373] rfl
set_option maxRecDepth 200000 in
theorem in_wsL_law_r15 : ∀ w ∈ wsL_law_r15, w ∈ lw_tbl := lw_memr _ [375, 5, 376, 377, 379, 381, 6, 382, 383, 384, 385, 386, 387, 388, 389, 390, 391, 392, 393, 394, 395, 396, 397, 398] rfl
set_option maxRecDepth 200000 in
theorem in_wsL_law_r16 : ∀ w ∈ wsL_law_r16, w ∈ lw_tbl := lw_memr _ [399, 400, 401, 402, 403, 404, 405, 406, 407, 408, 409, 410, 411, 412, 413, 414, 415, 416, 417, 418, 419, 421, 7, 422] rfl
set_option maxRecDepth 200000 in
theorem in_wsL_law_r17 : ∀ w ∈ wsL_law_r17, w ∈ lw_tbl := lw_memr _ [423, 424, 425, 426, 427, 428, 429, 430, 431, 432, 433, 434, 435, 436, 438, 440, 8, 441, 442, 443, 444, 445, 446, 447] rfl
set_option maxRecDepth 200000 in
theorem in_wsL_law_r18 : ∀ w ∈ wsL_law_r18, w ∈ lw_tbl := lw_memr _ [448, 450, 9, 451, 452, 453, 454, 455, 456, 457, 458, 459, 460, 461, 462, 463, 464, 465, 466, 467, 468, 469, 470, 471] rfl
set_option maxRecDepth 200000 in
theorem in_wsL_law_r19 : ∀ w ∈ wsL_law_r19, w ∈ lw_tbl := lw_memr _ [472, 473, 474, 475, 476, 477, 478, 479, 480, 482, 10, 483, 484, 485, 486, 487, 739, 740, 741, 742, 743, 745, 15, 746] rfl
set_option maxRecDepth 200000 in
theorem in_wsL_law_r20 : ∀ w ∈ wsL_law_r20, w ∈ lw_tbl := lw_memr _ [747, 749, 16, 750, 751, 753, 17, 754, 755, 757, 18, 758, 759, 761, 19, 762, 763, 764, 766, 20, 767, 768, 770, 21] rfl
set_option maxRecDepth 200000 in
theorem in_wsL_law_r21 : ∀ w ∈ wsL_law_r21, w ∈ lw_tbl := lw_memr _ [771, 772, 774, 22, 775, 776, 777, 778, 779, 781, 23, 782, 783, 785, 24, 786, 787, 789, 25, 790, 791, 793, 26, 794] rfl
set_option maxRecDepth 200000 in
theorem in_wsL_law_r22 : ∀ w ∈ wsL_law_r22, w ∈ lw_tbl := lw_memr _ [795, 797, 27, 798, 488, 489, 490, 491, 799, 800, 801, 802, 492, 493, 494, 495, 803, 804, 805, 806, 496, 497, 498, 499] rfl
set_option maxRecDepth 200000 in
theorem in_wsL_law_r23 : ∀ w ∈ wsL_law_r23, w ∈ lw_tbl := lw_memr _ [500, 501, 502, 503, 504, 505, 506, 507, 508, 509, 510, 511, 512, 513, 514, 515, 517, 11, 518, 807, 808, 809, 810, 811] rfl
set_option maxRecDepth 200000 in
theorem in_wsL_law_r24 : ∀ w ∈ wsL_law_r24, w ∈ lw_tbl := lw_memr _ [813, 28, 814, 815, 817, 29, 818, 519, 520, 521, 522, 523, 819, 820, 821, 822, 524, 525, 526, 527, 528, 529, 530, 531] rfl
set_option maxRecDepth 200000 in
theorem in_wsL_law_r25 : ∀ w ∈ wsL_law_r25, w ∈ lw_tbl := lw_memr _ [532, 533, 823, 824, 825, 826, 534, 535, 536, 537, 538, 539, 540, 541, 827, 828, 829, 830, 542, 543, 544, 545, 546, 547] rfl
set_option maxRecDepth 200000 in
theorem in_wsL_law_r26 : ∀ w ∈ wsL_law_r26, w ∈ lw_tbl := lw_memr _ [548, 549, 550, 831, 832, 833, 834, 551, 552, 553, 554, 555, 835, 836, 837, 838, 556, 557, 558, 559, 560, 561, 562, 563] rfl
set_option maxRecDepth 200000 in
theorem in_wsL_law_r27 : ∀ w ∈ wsL_law_r27, w ∈ lw_tbl := lw_memr _ [839, 840, 841, 842, 564, 565, 566, 567, 843, 844, 845, 846, 568, 569, 570, 571, 847, 848, 849, 850, 572, 573, 574, 575] rfl
set_option maxRecDepth 200000 in
theorem in_wsL_law_r28 : ∀ w ∈ wsL_law_r28, w ∈ lw_tbl := lw_memr _ [576, 577, 578, 579, 580, 851, 852, 853, 854, 581, 582, 583, 584, 585, 586, 587, 588, 589, 590, 592, 12, 593, 594, 595] rfl
set_option maxRecDepth 200000 in
theorem in_wsL_law_r29 : ∀ w ∈ wsL_law_r29, w ∈ lw_tbl := lw_memr _ [596, 855, 856, 857, 858, 859, 640, 860, 861, 863, 30, 864, 865, 866] rfl
set_option maxRecDepth 200000 in
theorem in_wsX00 : ∀ w ∈ wsX00, w ∈ lw_tbl := lw_memr _ [101, 103, 105] rfl
set_option maxRecDepth 200000 in
theorem in_wsX10 : ∀ w ∈ wsX10, w ∈ lw_tbl := lw_memr _ [134, 136, 138, 140, 142, 144, 146, 148] rfl
set_option maxRecDepth 200000 in
theorem in_wsX20 : ∀ w ∈ wsX20, w ∈ lw_tbl := lw_memr _ [93, 95] rfl
set_option maxRecDepth 200000 in
theorem in_wsX30 : ∀ w ∈ wsX30, w ∈ lw_tbl := lw_memr _ [71, 73] rfl
set_option maxRecDepth 200000 in
theorem in_wsX40 : ∀ w ∈ wsX40, w ∈ lw_tbl := lw_memr _ [167, 169, 171, 173, 175, 177, 179, 181] rfl
set_option maxRecDepth 200000 in
theorem in_wsX50 : ∀ w ∈ wsX50, w ∈ lw_tbl := lw_memr _ [65] rfl
set_option maxRecDepth 200000 in
theorem in_wsX60 : ∀ w ∈ wsX60, w ∈ lw_tbl := lw_memr _ [198, 200, 202, 204, 206, 208, 210, 212, 214, 216] rfl
set_option maxRecDepth 200000 in
theorem in_wsX70 : ∀ w ∈ wsX70, w ∈ lw_tbl := lw_memr _ [641, 643, 645, 647, 649, 651, 653, 655, 657, 659, 661, 663, 665, 667, 669, 671, 673, 675, 677, 679, 681, 683, 685, 687, 689, 691, 693, 695, 697, 699, 701, 703, 705, 707] rfl
theorem wsL_law_in : ∀ w ∈ wsL_law, w ∈ lw_tbl := List.forall_mem_append.mpr ⟨(List.forall_mem_append.mpr ⟨(List.forall_mem_append.mpr ⟨(List.forall_mem_append.mpr ⟨(List.forall_mem_append.mpr ⟨(List.forall_mem_append.mpr ⟨(List.forall_mem_append.mpr ⟨(List.forall_mem_append.mpr ⟨(List.forall_mem_append.mpr ⟨(List.forall_mem_append.mpr ⟨in_wsL_law_r1, List.forall_mem_append.mpr ⟨in_wsL_law_r2, List.forall_mem_append.mpr ⟨in_wsL_law_r3, List.forall_mem_append.mpr ⟨in_wsL_law_r4, List.forall_mem_append.mpr ⟨in_wsL_law_r5, List.forall_mem_append.mpr ⟨in_wsL_law_r6, List.forall_mem_append.mpr ⟨in_wsL_law_r7, List.forall_mem_append.mpr ⟨in_wsL_law_r8, List.forall_mem_append.mpr ⟨in_wsL_law_r9, List.forall_mem_append.mpr ⟨in_wsL_law_r10, List.forall_mem_append.mpr ⟨in_wsL_law_r11, List.forall_mem_append.mpr ⟨in_wsL_law_r12, List.forall_mem_append.mpr ⟨in_wsL_law_r13, List.forall_mem_append.mpr ⟨in_wsL_law_r14, List.forall_mem_append.mpr ⟨in_wsL_law_r15, List.forall_mem_append.mpr ⟨in_wsL_law_r16, List.forall_mem_append.mpr ⟨in_wsL_law_r17, List.forall_mem_append.mpr ⟨in_wsL_law_r18, List.forall_mem_append.mpr ⟨in_wsL_law_r19, List.forall_mem_append.mpr ⟨in_wsL_law_r20, List.forall_mem_append.mpr ⟨in_wsL_law_r21, List.forall_mem_append.mpr ⟨in_wsL_law_r22, List.forall_mem_append.mpr ⟨in_wsL_law_r23, List.forall_mem_append.mpr ⟨in_wsL_law_r24, List.forall_mem_append.mpr ⟨in_wsL_law_r25, List.forall_mem_append.mpr ⟨in_wsL_law_r26, List.forall_mem_append.mpr ⟨in_wsL_law_r27, List.forall_mem_append.mpr ⟨in_wsL_law_r28, in_wsL_law_r29⟩⟩⟩⟩⟩⟩⟩⟩⟩⟩⟩⟩⟩⟩⟩⟩⟩⟩⟩⟩⟩⟩⟩⟩⟩⟩⟩⟩), in_wsX60⟩), in_wsX70⟩), in_wsX30⟩), in_wsX00⟩), in_wsX10⟩), in_wsX40⟩), in_wsX50⟩), in_wsX20⟩), fun _ h => absurd h List.not_mem_nil⟩
set_option maxRecDepth 200000 in
theorem lw_n1 : Cond.methodLinkNest RX6 9 yX3_init "GuessFetch" ∈ lw_tbl := List.mem_of_getElem? (i := 51) rfl
set_option maxRecDepth 200000 in
theorem lw_n2 : Cond.methodLinkNest RX6 18 yX0_init "GuessFetch" ∈ lw_tbl := List.mem_of_getElem? (i := 78) rfl
set_option maxRecDepth 200000 in
theorem lw_n3 : Cond.methodLinkNest RX6 32 yX4_init "GuessFetch" ∈ lw_tbl := List.mem_of_getElem? (i := 153) rfl
set_option maxRecDepth 200000 in
theorem lw_n4 : Cond.methodLinkNest RX0 51 yX6_isTurn "GuessFetch" ∈ lw_tbl := List.mem_of_getElem? (i := 354) rfl
set_option maxRecDepth 200000 in
theorem lw_n5 : Cond.methodLinkNest RX1 74 yX6_isBranch "GuessFetch" ∈ lw_tbl := List.mem_of_getElem? (i := 437) rfl
set_option maxRecDepth 200000 in
theorem lw_arr : Cond.arrayClass .int ∈ lw_tbl := List.mem_of_getElem? (i := 68) rfl
set_option maxRecDepth 200000 in
theorem lw_i0 : Cond.instantiable RX0 3 ∈ lw_tbl := List.mem_of_getElem? (i := 77) rfl
set_option maxRecDepth 200000 in
theorem lw_i1 : Cond.instantiable RX1 8 ∈ lw_tbl := List.mem_of_getElem? (i := 109) rfl
set_option maxRecDepth 200000 in
theorem lw_i2 : Cond.instantiable RX2 2 ∈ lw_tbl := List.mem_of_getElem? (i := 85) rfl
set_option maxRecDepth 200000 in
theorem lw_i3 : Cond.instantiable RX3 2 ∈ lw_tbl := List.mem_of_getElem? (i := 50) rfl
set_option maxRecDepth 200000 in
theorem lw_i4 : Cond.instantiable RX4 8 ∈ lw_tbl := List.mem_of_getElem? (i := 152) rfl
set_option maxRecDepth 200000 in
theorem lw_i5 : Cond.instantiable RX5 1 ∈ lw_tbl := List.mem_of_getElem? (i := 56) rfl
set_option maxRecDepth 200000 in
theorem lw_i6 : Cond.instantiable RX6 10 ∈ lw_tbl := List.mem_of_getElem? (i := 42) rfl
set_option maxRecDepth 200000 in
theorem lw_i7 : Cond.instantiable RX7 34 ∈ lw_tbl := List.mem_of_getElem? (i := 598) rfl
set_option maxRecDepth 200000 in
theorem ggL_law_X6_init : GoodIn wsL_law wsX6_init := goodIn_r _ [8, 9, 10, 11, 12, 13, 14, 15, 16, 17, 18, 19, 20, 21, 22, 23, 24, 25, 26, 27, 28, 29, 30, 31, 32, 33, 34, 35, 36, 37, 38, 39, 40, 41, 42, 43, 44, 45, 46, 47, 48, 49, 50, 51, 52, 53, 54, 55, 56, 57, 58, 59, 60, 61, 62, 63, 64, 65, 66, 67, 68, 69, 70, 71, 72, 73, 74, 75, 76, 77, 78, 79, 80, 81, 82, 83, 84, 85, 86, 87, 88, 89, 90, 91, 92, 93, 94, 95, 96, 97, 98, 99, 100, 101, 102, 103, 104, 105, 106, 107, 108, 109, 110, 730, 731, 686, 687, 688, 689, 690, 691, 692, 693, 694, 695, 732, 733, 734, 735, 736, 737, 738, 739, 740, 741, 742, 743, 744, 745, 746, 747, 748, 749, 750, 751, 752, 753] rfl (by decide +kernel)
set_option maxRecDepth 200000 in
theorem gL_law_X6_init : GoodIn wsL_law (wsX6_init) := ggL_law_X6_init
set_option maxRecDepth 200000 in
theorem ggL_law_X7_init : GoodIn wsL_law wsX7_init := goodIn_r _ [113, 114, 10, 11, 54, 115, 116, 117, 118, 119, 120, 121, 122, 123, 124, 125, 126, 127, 128, 129, 130, 131, 132, 133, 134, 135, 136, 137, 138, 139, 140, 141, 142, 5, 143, 144, 696, 697, 698, 699, 700, 701, 702, 703, 704, 705, 706, 707, 708, 709, 710, 711, 712, 713, 714, 715, 716, 717, 718, 719, 720, 721, 722, 723, 724, 725, 726, 727, 728, 729] rfl (by decide +kernel)
set_option maxRecDepth 200000 in
theorem gL_law_X7_init : GoodIn wsL_law (wsX7_init) := ggL_law_X7_init
set_option maxRecDepth 200000 in
theorem ggL_law_X6_act : GoodIn wsL_law wsX6_act := goodIn_r _ [148, 15, 149, 150, 2, 151, 152, 153, 154, 155, 39, 156, 157, 158, 14, 159, 45, 44, 160, 161, 162, 30, 163, 55, 164, 165, 166, 167, 686, 687, 688, 689, 690, 691, 692, 693, 694, 695, 730, 731, 751] rfl (by decide +kernel)
set_option maxRecDepth 200000 in
theorem gL_law_X6_act : GoodIn wsL_law (wsV RL 13 RX6 yX6_act wsX6_act) := goodIn_app (goodIn_of _ (by decide +kernel)) ggL_law_X6_act
set_option maxRecDepth 200000 in
theorem ggL_law_X7_act : GoodIn wsL_law wsX7_act := goodIn_r _ [171, 172, 173, 115, 116, 117, 118, 174, 175, 5, 176, 696, 697, 698, 699, 700, 701, 702, 703, 704, 705, 706, 707, 708, 709, 710, 711, 712, 713, 714, 715, 716, 717, 718, 719, 720, 721, 722, 723, 724, 725, 726, 727, 728, 729] rfl (by decide +kernel)
set_option maxRecDepth 200000 in
theorem gL_law_X7_act : GoodIn wsL_law (wsV RL 17 RX7 yX7_act wsX7_act) := goodIn_app (goodIn_of _ (by decide +kernel)) ggL_law_X7_act
set_option maxRecDepth 200000 in
theorem ggL_law_X6_wipe : GoodIn wsL_law wsX6_wipe := goodIn_r _ [180, 15, 152, 153, 154, 2, 155, 39, 181, 182, 183, 14, 184, 45, 686, 687, 688, 689, 690, 691, 692, 693, 694, 695, 730, 731] rfl (by decide +kernel)
set_option maxRecDepth 200000 in
theorem gL_law_X6_wipe : GoodIn wsL_law (wsV RL 18 RX6 yX6_wipe wsX6_wipe) := goodIn_app (goodIn_of _ (by decide +kernel)) ggL_law_X6_wipe
set_option maxRecDepth 200000 in
theorem ggL_law_X7_wipe : GoodIn wsL_law wsX7_wipe := goodIn_r _ [188, 172, 173, 696, 697, 698, 699, 700, 701, 702, 703, 704, 705, 706, 707, 708, 709, 710, 711, 712, 713, 714, 715, 716, 717, 718, 719, 720, 721, 722, 723, 724, 725, 726, 727, 728, 729] rfl (by decide +kernel)
set_option maxRecDepth 200000 in
theorem gL_law_X7_wipe : GoodIn wsL_law (wsV RL 22 RX7 yX7_wipe wsX7_wipe) := goodIn_app (goodIn_of _ (by decide +kernel)) ggL_law_X7_wipe
set_option maxRecDepth 200000 in
theorem ggL_law_X6_put : GoodIn wsL_law wsX6_put := goodIn_r _ [192, 19, 193, 194, 195, 196, 197, 18, 198, 152, 153, 154, 2, 155, 39, 199, 200, 201, 202, 60, 61, 203, 161, 162, 30, 163, 55, 686, 687, 688, 689, 690, 691, 692, 693, 694, 695, 732, 733, 734, 751] rfl (by decide +kernel)
set_option maxRecDepth 200000 in
theorem gL_law_X6_put : GoodIn wsL_law (wsV RL 23 RX6 yX6_put wsX6_put) := goodIn_app (goodIn_of _ (by decide +kernel)) ggL_law_X6_put
set_option maxRecDepth 200000 in
theorem ggL_law_X7_put : GoodIn wsL_law wsX7_put := goodIn_r _ [207, 208, 172, 209, 119, 120, 174, 175, 5, 176, 210, 211, 212, 213, 696, 697, 698, 699, 700, 701, 702, 703, 704, 705, 706, 707, 708, 709, 710, 711, 712, 713, 714, 715, 716, 717, 718, 719, 720, 721, 722, 723, 724, 725, 726, 727, 728, 729] rfl (by decide +kernel)
set_option maxRecDepth 200000 in
theorem gL_law_X7_put : GoodIn wsL_law (wsV RL 27 RX7 yX7_put wsX7_put) := goodIn_app (goodIn_of _ (by decide +kernel)) ggL_law_X7_put
set_option maxRecDepth 200000 in
theorem ggL_law_X6_way : GoodIn wsL_law wsX6_way := goodIn_r _ [217, 36, 37, 149, 150, 2, 151, 152, 153, 154, 155, 39, 686, 687, 688, 689, 690, 691, 692, 693, 694, 695] rfl (by decide +kernel)
set_option maxRecDepth 200000 in
theorem gL_law_X6_way : GoodIn wsL_law (wsV RL 28 RX6 yX6_way wsX6_way) := goodIn_app (goodIn_of _ (by decide +kernel)) ggL_law_X6_way
set_option maxRecDepth 200000 in
theorem ggL_law_X7_way : GoodIn wsL_law wsX7_way := goodIn_r _ [221, 172, 222, 122, 174, 175, 5, 176, 696, 697, 698, 699, 700, 701, 702, 703, 704, 705, 706, 707, 708, 709, 710, 711, 712, 713, 714, 715, 716, 717, 718, 719, 720, 721, 722, 723, 724, 725, 726, 727, 728, 729] rfl (by decide +kernel)
set_option maxRecDepth 200000 in
theorem gL_law_X7_way : GoodIn wsL_law (wsV RL 32 RX7 yX7_way wsX7_way) := goodIn_app (goodIn_of _ (by decide +kernel)) ggL_law_X7_way
set_option maxRecDepth 200000 in
theorem ggL_law_X6_begin : GoodIn wsL_law wsX6_begin := goodIn_r _ [226, 31, 35, 19, 23, 38, 39, 152, 153, 154, 2, 155, 227, 161, 162, 30, 163, 55, 228, 229, 230, 231, 232, 233, 234, 235, 236, 237, 238, 239, 34, 240, 69, 241, 242, 243, 18, 244, 63, 245, 246, 247, 248, 22, 249, 84, 686, 687, 688, 689, 690, 691, 692, 693, 694, 695, 751, 752, 753, 732, 733, 734, 735, 736, 737, 738, 739, 740, 741, 742] rfl (by decide +kernel)
set_option maxRecDepth 200000 in
theorem gL_law_X6_begin : GoodIn wsL_law (wsV RL 33 RX6 yX6_begin wsX6_begin) := goodIn_app (goodIn_of _ (by decide +kernel)) ggL_law_X6_begin
set_option maxRecDepth 200000 in
theorem ggL_law_X7_begin : GoodIn wsL_law wsX7_begin := goodIn_r _ [253, 172, 136, 254, 255, 256, 257, 137, 696, 697, 698, 699, 700, 701, 702, 703, 704, 705, 706, 707, 708, 709, 710, 711, 712, 713, 714, 715, 716, 717, 718, 719, 720, 721, 722, 723, 724, 725, 726, 727, 728, 729] rfl (by decide +kernel)
set_option maxRecDepth 200000 in
theorem gL_law_X7_begin : GoodIn wsL_law (wsV RL 36 RX7 yX7_begin wsX7_begin) := goodIn_app (goodIn_of _ (by decide +kernel)) ggL_law_X7_begin
set_option maxRecDepth 200000 in
theorem ggL_law_X6_run : GoodIn wsL_law wsX6_run := goodIn_r _ [261, 31, 149, 150, 2, 151, 152, 153, 154, 155, 39, 262, 233, 234, 30, 235, 55, 263, 264, 265, 266, 27, 15, 38, 37, 228, 229, 230, 231, 232, 236, 161, 162, 163, 267, 268, 269, 26, 270, 107, 271, 272, 273, 14, 274, 45, 275, 276, 277, 278, 279, 280, 281, 282, 283, 284, 285, 286, 287, 288, 289, 290, 102, 106, 291, 292, 293, 294, 295, 19, 23, 296, 297, 298, 299, 300, 51, 52, 53, 301, 302, 303, 304, 100, 305, 306, 307, 308, 44, 309, 310, 311, 312, 18, 313, 60, 314, 315, 316, 317, 318, 319, 320, 321, 61, 63, 322, 203, 323, 324, 325, 34, 326, 69, 71, 327, 328, 329, 330, 70, 331, 332, 333, 334, 335, 336, 337, 338, 339, 165, 166, 167, 340, 341, 342, 343, 35, 344, 345, 346, 347, 348, 349, 350, 351, 352, 103, 353, 354, 355, 22, 356, 77, 78, 79, 357, 358, 359, 360, 361, 362, 363, 364, 365, 366, 367, 368, 369, 370, 371, 372, 373, 374, 375, 80, 81, 82, 376, 377, 378, 379, 101, 380, 381, 382, 383, 384, 385, 386, 387, 85, 246, 247, 248, 249, 84, 388, 389, 390, 391, 104, 105, 392, 238, 239, 240, 393, 394, 395, 396, 397, 398, 399, 400, 401, 402, 403, 404, 405, 406, 407, 408, 409, 410, 411, 36, 412, 413, 414, 415, 416, 417, 418, 419, 420, 421, 422, 423, 424, 425, 426, 427, 428, 429, 430, 431, 432, 433, 434, 435, 436, 437, 438, 439, 440, 441, 442, 443, 444, 445, 446, 447, 686, 687, 688, 689, 690, 691, 692, 693, 694, 695, 751, 743, 744, 745, 746, 747, 748, 749, 750, 730, 731, 732, 733, 734, 752, 753, 735, 736, 737, 738, 739, 740, 741, 742] rfl (by decide +kernel)
set_option maxRecDepth 200000 in
theorem gL_law_X6_run : GoodIn wsL_law (wsV RL 37 RX6 yX6_run wsX6_run) := goodIn_app (goodIn_of _ (by decide +kernel)) ggL_law_X6_run
set_option maxRecDepth 200000 in
theorem ggL_law_X7_run : GoodIn wsL_law wsX7_run := goodIn_r _ [451, 172, 137, 174, 175, 5, 176, 452, 453, 454, 455, 255, 257, 173, 131, 122, 456, 457, 458, 459, 136, 460, 461, 462, 463, 130, 115, 132, 133, 134, 139, 135, 138, 126, 127, 128, 144, 256, 129, 464, 465, 466, 467, 119, 116, 117, 468, 469, 470, 471, 118, 120, 254, 121, 472, 473, 474, 475, 476, 477, 478, 479, 480, 123, 124, 125, 481, 482, 483, 484, 485, 486, 487, 488, 489, 490, 491, 492, 493, 494, 495, 496, 497, 498, 499, 500, 501, 502, 503, 504, 505, 506, 507, 222, 696, 697, 698, 699, 700, 701, 702, 703, 704, 705, 706, 707, 708, 709, 710, 711, 712, 713, 714, 715, 716, 717, 718, 719, 720, 721, 722, 723, 724, 725, 726, 727, 728, 729] rfl (by decide +kernel)
set_option maxRecDepth 200000 in
theorem gL_law_X7_run : GoodIn wsL_law (wsV RL 41 RX7 yX7_run wsX7_run) := goodIn_app (goodIn_of _ (by decide +kernel)) ggL_law_X7_run
set_option maxRecDepth 200000 in
theorem ggL_law_X6_stop : GoodIn wsL_law wsX6_stop := goodIn_r _ [511, 31, 152, 153, 154, 2, 155, 39, 275, 276, 277, 278, 279, 280, 281, 282, 27, 267, 268, 269, 26, 270, 107, 228, 229, 230, 30, 231, 232, 233, 234, 235, 55, 236, 161, 162, 163, 283, 284, 285, 286, 262, 686, 687, 688, 689, 690, 691, 692, 693, 694, 695, 743, 744, 745, 746, 747, 748, 749, 750, 751] rfl (by decide +kernel)
set_option maxRecDepth 200000 in
theorem gL_law_X6_stop : GoodIn wsL_law (wsV RL 42 RX6 yX6_stop wsX6_stop) := goodIn_app (goodIn_of _ (by decide +kernel)) ggL_law_X6_stop
set_option maxRecDepth 200000 in
theorem ggL_law_X7_stop : GoodIn wsL_law wsX7_stop := goodIn_r _ [515, 172, 137, 456, 457, 458, 5, 459, 136, 255, 696, 697, 698, 699, 700, 701, 702, 703, 704, 705, 706, 707, 708, 709, 710, 711, 712, 713, 714, 715, 716, 717, 718, 719, 720, 721, 722, 723, 724, 725, 726, 727, 728, 729] rfl (by decide +kernel)
set_option maxRecDepth 200000 in
theorem gL_law_X7_stop : GoodIn wsL_law (wsV RL 45 RX7 yX7_stop wsX7_stop) := goodIn_app (goodIn_of _ (by decide +kernel)) ggL_law_X7_stop
set_option maxRecDepth 200000 in
theorem ggL_law_X6_ended : GoodIn wsL_law wsX6_ended := goodIn_r _ [519, 39, 686, 687, 688, 689, 690, 691, 692, 693, 694, 695] rfl (by decide +kernel)
set_option maxRecDepth 200000 in
theorem gL_law_X6_ended : GoodIn wsL_law (wsV RL 46 RX6 yX6_ended wsX6_ended) := goodIn_app (goodIn_of _ (by decide +kernel)) ggL_law_X6_ended
set_option maxRecDepth 200000 in
theorem ggL_law_X7_ended : GoodIn wsL_law wsX7_ended := goodIn_r _ [523, 136, 696, 697, 698, 699, 700, 701, 702, 703, 704, 705, 706, 707, 708, 709, 710, 711, 712, 713, 714, 715, 716, 717, 718, 719, 720, 721, 722, 723, 724, 725, 726, 727, 728, 729] rfl (by decide +kernel)
set_option maxRecDepth 200000 in
theorem gL_law_X7_ended : GoodIn wsL_law (wsV RL 49 RX7 yX7_ended wsX7_ended) := goodIn_app (goodIn_of _ (by decide +kernel)) ggL_law_X7_ended
set_option maxRecDepth 200000 in
theorem ggL_law_X6_harm : GoodIn wsL_law wsX6_harm := goodIn_r _ [527, 23, 149, 150, 2, 151, 528, 529, 530, 246, 247, 248, 22, 249, 84, 531, 427, 428, 34, 429, 69, 532, 533, 534, 535, 536, 537, 538, 85, 539, 540, 541, 542, 71, 335, 336, 337, 338, 543, 544, 545, 546, 77, 78, 79, 80, 81, 82, 371, 161, 162, 30, 163, 55, 686, 687, 688, 689, 690, 691, 692, 693, 694, 695, 735, 736, 737, 738, 739, 740, 741, 742, 752, 753, 751] rfl (by decide +kernel)
set_option maxRecDepth 200000 in
theorem gL_law_X6_harm : GoodIn wsL_law (wsV RL 50 RX6 yX6_harm wsX6_harm) := goodIn_app (goodIn_of _ (by decide +kernel)) ggL_law_X6_harm
set_option maxRecDepth 200000 in
theorem ggL_law_X7_harm : GoodIn wsL_law wsX7_harm := goodIn_r _ [550, 256, 123, 124, 125, 126, 127, 128, 144, 129, 174, 175, 5, 176, 551, 552, 553, 554, 555, 556, 557, 558, 696, 697, 698, 699, 700, 701, 702, 703, 704, 705, 706, 707, 708, 709, 710, 711, 712, 713, 714, 715, 716, 717, 718, 719, 720, 721, 722, 723, 724, 725, 726, 727, 728, 729] rfl (by decide +kernel)
set_option maxRecDepth 200000 in
theorem gL_law_X7_harm : GoodIn wsL_law (wsV RL 54 RX7 yX7_harm wsX7_harm) := goodIn_app (goodIn_of _ (by decide +kernel)) ggL_law_X7_harm
set_option maxRecDepth 200000 in
theorem ggL_law_X6_forget : GoodIn wsL_law wsX6_forget := goodIn_r _ [562, 23, 152, 153, 154, 2, 155, 39, 563, 89, 90, 22, 91, 77, 78, 79, 80, 81, 82, 85, 92, 93, 94, 30, 95, 55, 686, 687, 688, 689, 690, 691, 692, 693, 694, 695, 735, 736, 737, 738, 739, 740, 741, 742, 751] rfl (by decide +kernel)
set_option maxRecDepth 200000 in
theorem gL_law_X6_forget : GoodIn wsL_law (wsV RL 55 RX6 yX6_forget wsX6_forget) := goodIn_app (goodIn_of _ (by decide +kernel)) ggL_law_X6_forget
set_option maxRecDepth 200000 in
theorem ggL_law_X7_forget : GoodIn wsL_law wsX7_forget := goodIn_r _ [567, 172, 140, 141, 142, 5, 143, 123, 124, 125, 126, 127, 128, 144, 696, 697, 698, 699, 700, 701, 702, 703, 704, 705, 706, 707, 708, 709, 710, 711, 712, 713, 714, 715, 716, 717, 718, 719, 720, 721, 722, 723, 724, 725, 726, 727, 728, 729] rfl (by decide +kernel)
set_option maxRecDepth 200000 in
theorem gL_law_X7_forget : GoodIn wsL_law (wsV RL 58 RX7 yX7_forget wsX7_forget) := goodIn_app (goodIn_of _ (by decide +kernel)) ggL_law_X7_forget
set_option maxRecDepth 200000 in
theorem ggL_law_X6_table : GoodIn wsL_law wsX6_table := goodIn_r _ [571, 23, 149, 150, 2, 151, 528, 529, 530, 572, 573, 574, 22, 575, 85, 84, 576, 332, 333, 34, 334, 71, 335, 336, 337, 338, 69, 577, 427, 428, 429, 543, 544, 545, 546, 77, 78, 79, 80, 81, 82, 363, 233, 234, 30, 235, 55, 686, 687, 688, 689, 690, 691, 692, 693, 694, 695, 735, 736, 737, 738, 739, 740, 741, 742, 752, 753, 751] rfl (by decide +kernel)
set_option maxRecDepth 200000 in
theorem gL_law_X6_table : GoodIn wsL_law (wsV RL 59 RX6 yX6_table wsX6_table) := goodIn_app (goodIn_of _ (by decide +kernel)) ggL_law_X6_table
set_option maxRecDepth 200000 in
theorem ggL_law_X7_table : GoodIn wsL_law wsX7_table := goodIn_r _ [581, 174, 175, 5, 176, 551, 552, 553, 554, 555, 556, 557, 558, 123, 124, 125, 126, 127, 128, 144, 256, 129, 696, 697, 698, 699, 700, 701, 702, 703, 704, 705, 706, 707, 708, 709, 710, 711, 712, 713, 714, 715, 716, 717, 718, 719, 720, 721, 722, 723, 724, 725, 726, 727, 728, 729] rfl (by decide +kernel)
set_option maxRecDepth 200000 in
theorem gL_law_X7_table : GoodIn wsL_law (wsV RL 62 RX7 yX7_table wsX7_table) := goodIn_app (goodIn_of _ (by decide +kernel)) ggL_law_X7_table
set_option maxRecDepth 200000 in
theorem ggL_law_X6_value : GoodIn wsL_law wsX6_value := goodIn_r _ [585, 19, 193, 195, 196, 197, 18, 198, 586, 587, 588, 589, 60, 61, 315, 233, 234, 30, 235, 55, 686, 687, 688, 689, 690, 691, 692, 693, 694, 695, 732, 733, 734, 751] rfl (by decide +kernel)
set_option maxRecDepth 200000 in
theorem gL_law_X6_value : GoodIn wsL_law (wsV RL 63 RX6 yX6_value wsX6_value) := goodIn_app (goodIn_of _ (by decide +kernel)) ggL_law_X6_value
set_option maxRecDepth 200000 in
theorem ggL_law_X7_value : GoodIn wsL_law wsX7_value := goodIn_r _ [593, 208, 174, 175, 5, 176, 210, 211, 212, 213, 119, 120, 696, 697, 698, 699, 700, 701, 702, 703, 704, 705, 706, 707, 708, 709, 710, 711, 712, 713, 714, 715, 716, 717, 718, 719, 720, 721, 722, 723, 724, 725, 726, 727, 728, 729] rfl (by decide +kernel)
set_option maxRecDepth 200000 in
theorem gL_law_X7_value : GoodIn wsL_law (wsV RL 67 RX7 yX7_value wsX7_value) := goodIn_app (goodIn_of _ (by decide +kernel)) ggL_law_X7_value
set_option maxRecDepth 200000 in
theorem ggL_law_X6_stack : GoodIn wsL_law wsX6_stack := goodIn_r _ [597, 19, 598, 599, 600, 18, 601, 63, 602, 332, 333, 34, 334, 71, 335, 336, 337, 338, 69, 686, 687, 688, 689, 690, 691, 692, 693, 694, 695, 732, 733, 734, 752, 753] rfl (by decide +kernel)
set_option maxRecDepth 200000 in
theorem gL_law_X6_stack : GoodIn wsL_law (wsV RL 68 RX6 yX6_stack wsX6_stack) := goodIn_app (goodIn_of _ (by decide +kernel)) ggL_law_X6_stack
set_option maxRecDepth 200000 in
theorem ggL_law_X7_stack : GoodIn wsL_law wsX7_stack := goodIn_r _ [606, 254, 121, 174, 175, 5, 176, 696, 697, 698, 699, 700, 701, 702, 703, 704, 705, 706, 707, 708, 709, 710, 711, 712, 713, 714, 715, 716, 717, 718, 719, 720, 721, 722, 723, 724, 725, 726, 727, 728, 729] rfl (by decide +kernel)
set_option maxRecDepth 200000 in
theorem gL_law_X7_stack : GoodIn wsL_law (wsV RL 71 RX7 yX7_stack wsX7_stack) := goodIn_app (goodIn_of _ (by decide +kernel)) ggL_law_X7_stack
set_option maxRecDepth 200000 in
theorem ggL_law_X6_done : GoodIn wsL_law wsX6_done := goodIn_r _ [610, 35, 611, 332, 333, 34, 334, 71, 335, 336, 337, 338, 69, 686, 687, 688, 689, 690, 691, 692, 693, 694, 695, 752, 753] rfl (by decide +kernel)
set_option maxRecDepth 200000 in
theorem gL_law_X6_done : GoodIn wsL_law (wsV RL 72 RX6 yX6_done wsX6_done) := goodIn_app (goodIn_of _ (by decide +kernel)) ggL_law_X6_done
set_option maxRecDepth 200000 in
theorem ggL_law_X7_done : GoodIn wsL_law wsX7_done := goodIn_r _ [615, 137, 138, 174, 175, 5, 176, 696, 697, 698, 699, 700, 701, 702, 703, 704, 705, 706, 707, 708, 709, 710, 711, 712, 713, 714, 715, 716, 717, 718, 719, 720, 721, 722, 723, 724, 725, 726, 727, 728, 729] rfl (by decide +kernel)
set_option maxRecDepth 200000 in
theorem gL_law_X7_done : GoodIn wsL_law (wsV RL 75 RX7 yX7_done wsX7_done) := goodIn_app (goodIn_of _ (by decide +kernel)) ggL_law_X7_done
set_option maxRecDepth 200000 in
theorem ggL_law_X6_fetched : GoodIn wsL_law wsX6_fetched := goodIn_r _ [619, 27, 620, 621, 622, 26, 623, 107, 100, 106, 291, 233, 234, 30, 235, 55, 686, 687, 688, 689, 690, 691, 692, 693, 694, 695, 743, 744, 745, 746, 747, 748, 749, 750, 751] rfl (by decide +kernel)
set_option maxRecDepth 200000 in
theorem gL_law_X6_fetched : GoodIn wsL_law (wsV RL 76 RX6 yX6_fetched wsX6_fetched) := goodIn_app (goodIn_of _ (by decide +kernel)) ggL_law_X6_fetched
set_option maxRecDepth 200000 in
theorem ggL_law_X7_fetched : GoodIn wsL_law wsX7_fetched := goodIn_r _ [627, 255, 130, 174, 175, 5, 176, 696, 697, 698, 699, 700, 701, 702, 703, 704, 705, 706, 707, 708, 709, 710, 711, 712, 713, 714, 715, 716, 717, 718, 719, 720, 721, 722, 723, 724, 725, 726, 727, 728, 729] rfl (by decide +kernel)
set_option maxRecDepth 200000 in
theorem gL_law_X7_fetched : GoodIn wsL_law (wsV RL 79 RX7 yX7_fetched wsX7_fetched) := goodIn_app (goodIn_of _ (by decide +kernel)) ggL_law_X7_fetched
set_option maxRecDepth 200000 in
theorem ggL_law_X6_known : GoodIn wsL_law wsX6_known := goodIn_r _ [631, 27, 38, 152, 153, 154, 2, 155, 39, 267, 268, 269, 26, 270, 107, 620, 621, 622, 623, 100, 106, 291, 233, 234, 30, 235, 55, 686, 687, 688, 689, 690, 691, 692, 693, 694, 695, 743, 744, 745, 746, 747, 748, 749, 750, 751] rfl (by decide +kernel)
set_option maxRecDepth 200000 in
theorem gL_law_X6_known : GoodIn wsL_law (wsV RL 80 RX6 yX6_known wsX6_known) := goodIn_app (goodIn_of _ (by decide +kernel)) ggL_law_X6_known
set_option maxRecDepth 200000 in
theorem ggL_law_X7_known : GoodIn wsL_law wsX7_known := goodIn_r _ [635, 172, 255, 130, 257, 696, 697, 698, 699, 700, 701, 702, 703, 704, 705, 706, 707, 708, 709, 710, 711, 712, 713, 714, 715, 716, 717, 718, 719, 720, 721, 722, 723, 724, 725, 726, 727, 728, 729] rfl (by decide +kernel)
set_option maxRecDepth 200000 in
theorem gL_law_X7_known : GoodIn wsL_law (wsV RL 83 RX7 yX7_known wsX7_known) := goodIn_app (goodIn_of _ (by decide +kernel)) ggL_law_X7_known
set_option maxRecDepth 200000 in
theorem ggL_law_X6_told : GoodIn wsL_law wsX6_told := goodIn_r _ [639, 15, 271, 272, 273, 14, 274, 45, 149, 150, 2, 151, 305, 306, 307, 308, 44, 309, 233, 234, 30, 235, 55, 686, 687, 688, 689, 690, 691, 692, 693, 694, 695, 730, 731, 751] rfl (by decide +kernel)
set_option maxRecDepth 200000 in
theorem gL_law_X6_told : GoodIn wsL_law (wsV RL 84 RX6 yX6_told wsX6_told) := goodIn_app (goodIn_of _ (by decide +kernel)) ggL_law_X6_told
set_option maxRecDepth 200000 in
theorem ggL_law_X7_told : GoodIn wsL_law wsX7_told := goodIn_r _ [643, 173, 115, 116, 117, 118, 174, 175, 5, 176, 696, 697, 698, 699, 700, 701, 702, 703, 704, 705, 706, 707, 708, 709, 710, 711, 712, 713, 714, 715, 716, 717, 718, 719, 720, 721, 722, 723, 724, 725, 726, 727, 728, 729] rfl (by decide +kernel)
set_option maxRecDepth 200000 in
theorem gL_law_X7_told : GoodIn wsL_law (wsV RL 87 RX7 yX7_told wsX7_told) := goodIn_app (goodIn_of _ (by decide +kernel)) ggL_law_X7_told
set_option maxRecDepth 200000 in
theorem ggL_law_X6_count : GoodIn wsL_law wsX6_count := goodIn_r _ [647, 19, 27, 38, 15, 36, 37, 31, 648, 649, 650, 18, 651, 63, 652, 427, 428, 34, 429, 69, 267, 268, 269, 26, 270, 107, 164, 165, 166, 14, 167, 45, 149, 150, 2, 151, 262, 233, 234, 30, 235, 55, 686, 687, 688, 689, 690, 691, 692, 693, 694, 695, 732, 733, 734, 752, 753, 743, 744, 745, 746, 747, 748, 749, 750, 730, 731, 751] rfl (by decide +kernel)
set_option maxRecDepth 200000 in
theorem gL_law_X6_count : GoodIn wsL_law (wsV RL 88 RX6 yX6_count wsX6_count) := goodIn_app (goodIn_of _ (by decide +kernel)) ggL_law_X6_count
set_option maxRecDepth 200000 in
theorem ggL_law_X7_count : GoodIn wsL_law wsX7_count := goodIn_r _ [656, 254, 255, 257, 173, 222, 122, 137, 174, 175, 5, 176, 696, 697, 698, 699, 700, 701, 702, 703, 704, 705, 706, 707, 708, 709, 710, 711, 712, 713, 714, 715, 716, 717, 718, 719, 720, 721, 722, 723, 724, 725, 726, 727, 728, 729] rfl (by decide +kernel)
set_option maxRecDepth 200000 in
theorem gL_law_X7_count : GoodIn wsL_law (wsV RL 91 RX7 yX7_count wsX7_count) := goodIn_app (goodIn_of _ (by decide +kernel)) ggL_law_X7_count
set_option maxRecDepth 200000 in
theorem ggL_law_X6_digest : GoodIn wsL_law wsX6_digest := goodIn_r _ [660, 661, 15, 662, 19, 27, 164, 165, 166, 14, 167, 45, 663, 637, 638, 2, 639, 271, 272, 273, 274, 149, 150, 151, 305, 306, 307, 308, 44, 309, 233, 234, 30, 235, 55, 664, 583, 584, 585, 193, 195, 196, 197, 18, 198, 586, 587, 588, 589, 60, 61, 315, 648, 649, 650, 651, 63, 652, 427, 428, 34, 429, 69, 665, 595, 596, 597, 598, 599, 600, 601, 602, 332, 333, 334, 71, 335, 336, 337, 338, 666, 667, 668, 669, 23, 670, 569, 570, 571, 528, 529, 530, 572, 573, 574, 22, 575, 85, 84, 576, 577, 543, 544, 545, 546, 77, 78, 79, 80, 81, 82, 363, 246, 247, 248, 249, 531, 267, 268, 269, 26, 270, 107, 671, 617, 618, 619, 620, 621, 622, 623, 100, 106, 291, 672, 645, 646, 647, 38, 36, 37, 31, 262, 686, 687, 688, 689, 690, 691, 692, 693, 694, 695, 730, 731, 751, 732, 733, 734, 752, 753, 735, 736, 737, 738, 739, 740, 741, 742, 743, 744, 745, 746, 747, 748, 749, 750] rfl (by decide +kernel)
set_option maxRecDepth 200000 in
theorem gL_law_X6_digest : GoodIn wsL_law (wsV RL 92 RX6 yX6_digest wsX6_digest) := goodIn_app (goodIn_of _ (by decide +kernel)) ggL_law_X6_digest
set_option maxRecDepth 200000 in
theorem ggL_law_X7_digest : GoodIn wsL_law wsX7_digest := goodIn_r _ [676, 677, 678, 173, 254, 121, 144, 256, 129, 255, 130, 679, 641, 642, 5, 643, 115, 116, 117, 118, 174, 175, 176, 680, 681, 682, 683, 684, 210, 211, 212, 213, 119, 120, 555, 556, 557, 558, 123, 124, 125, 126, 127, 128, 685, 654, 655, 656, 257, 222, 122, 137, 696, 697, 698, 699, 700, 701, 702, 703, 704, 705, 706, 707, 708, 709, 710, 711, 712, 713, 714, 715, 716, 717, 718, 719, 720, 721, 722, 723, 724, 725, 726, 727, 728, 729] rfl (by decide +kernel)
set_option maxRecDepth 200000 in
theorem gL_law_X7_digest : GoodIn wsL_law (wsV RL 96 RX7 yX7_digest wsX7_digest) := goodIn_app (goodIn_of _ (by decide +kernel)) ggL_law_X7_digest


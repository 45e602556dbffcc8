theorem inTbl {big ws : List Cond} (ps : List Nat) (hp : ws = ps.filterMap (fun i => big[i]?)) : ∀ w ∈ ws, w ∈ big := by
  intro w hw
  rw [hp] at hw
  obtain ⟨i, -, hi⟩ := List.mem_filterMap.mp hw
  exact List.mem_of_getElem? hi
theorem inApp {big a b : List Cond} (ha : ∀ w ∈ a, w ∈ big) (hb : ∀ w ∈ b, w ∈ big) : ∀ w ∈ a ++ b, w ∈ big := fun w h => (List.mem_append.mp h).elim (ha w) (hb w)
set_option maxRecDepth 100000 in
theorem wsL_in_r1 : ∀ w ∈ wsL_law_r1, w ∈ lw_tbl := inTbl [50, 51, 36, 555, 556, 41, 828, 52, 53, 54, 55, 56, 57, 58, 59, 37, 158, 88, 89, 38, 159, 160, 112, 113] (by decide +kernel)
set_option maxRecDepth 100000 in
theorem wsL_in_r2 : ∀ w ∈ wsL_law_r2, w ∈ lw_tbl := inTbl [39, 161, 162, 163, 141, 142, 40, 166, 87, 167, 168, 61, 62, 63, 66, 91, 92, 93, 97, 98, 99, 100, 115, 116] (by decide +kernel)
set_option maxRecDepth 100000 in
theorem wsL_in_r3 : ∀ w ∈ wsL_law_r3, w ∈ lw_tbl := inTbl [117, 120, 126, 127, 144, 145, 146, 149, 150, 557, 558, 559, 560, 316, 562, 564, 565, 566, 567, 568, 574, 646, 575, 576] (by decide +kernel)
set_option maxRecDepth 100000 in
theorem wsL_in_r4 : ∀ w ∈ wsL_law_r4, w ∈ lw_tbl := inTbl [578, 580, 581, 583, 584, 585, 586, 588, 195, 196, 197, 198, 199, 200, 201, 202, 64, 647, 648, 649, 650, 563, 654, 651] (by decide +kernel)
set_option maxRecDepth 100000 in
theorem wsL_in_r5 : ∀ w ∈ wsL_law_r5, w ∈ lw_tbl := inTbl [652, 653, 203, 204, 205, 206, 655, 656, 657, 658, 207, 208, 209, 210, 164, 165, 211, 212, 213, 214, 67, 68, 69, 215] (by decide +kernel)
set_option maxRecDepth 100000 in
theorem wsL_in_r6 : ∀ w ∈ wsL_law_r6, w ∈ lw_tbl := inTbl [217, 0, 218, 70, 71, 219, 221, 1, 222, 223, 224, 225, 226, 228, 2, 229, 231, 233, 3, 234, 235, 236, 237, 42] (by decide +kernel)
set_option maxRecDepth 100000 in
theorem wsL_in_r7 : ∀ w ∈ wsL_law_r7, w ∈ lw_tbl := inTbl [238, 829, 239, 240, 241, 242, 243, 830, 245, 246, 247, 248, 249, 250, 251, 252, 253, 254, 43, 255, 256, 257, 258, 259] (by decide +kernel)
set_option maxRecDepth 100000 in
theorem wsL_in_r8 : ∀ w ∈ wsL_law_r8, w ∈ lw_tbl := inTbl [261, 262, 44, 263, 264, 265, 45, 266, 267, 268, 269, 270, 271, 272, 273, 274, 275, 276, 277, 279, 281, 286, 287, 288] (by decide +kernel)
set_option maxRecDepth 100000 in
theorem wsL_in_r9 : ∀ w ∈ wsL_law_r9, w ∈ lw_tbl := inTbl [289, 291, 4, 292, 293, 295, 5, 296, 297, 299, 6, 300, 301, 303, 7, 304, 305, 306, 307, 308, 94, 309, 310, 311] (by decide +kernel)
set_option maxRecDepth 100000 in
theorem wsL_in_r10 : ∀ w ∈ wsL_law_r10, w ∈ lw_tbl := inTbl [312, 118, 122, 124, 313, 314, 46, 315, 659, 660, 661, 662, 569, 573, 571, 587, 663, 665, 16, 666, 570, 572, 671, 672] (by decide +kernel)
set_option maxRecDepth 100000 in
theorem wsL_in_r11 : ∀ w ∈ wsL_law_r11, w ∈ lw_tbl := inTbl [673, 667, 669, 17, 670, 674, 676, 18, 677, 678, 680, 19, 681, 682, 684, 20, 685, 317, 318, 319, 320, 321, 322, 323] (by decide +kernel)
set_option maxRecDepth 100000 in
theorem wsL_in_r12 : ∀ w ∈ wsL_law_r12, w ∈ lw_tbl := inTbl [324, 325, 326, 327, 328, 329, 330, 331, 332, 333, 334, 335, 336, 337, 338, 339, 340, 341, 342, 343, 47, 344, 345, 346] (by decide +kernel)
set_option maxRecDepth 100000 in
theorem wsL_in_r13 : ∀ w ∈ wsL_law_r13, w ∈ lw_tbl := inTbl [347, 348, 686, 687, 688, 689, 690, 692, 21, 693, 349, 350, 351, 352, 353, 354, 355, 356, 357, 358, 359, 360, 361, 362] (by decide +kernel)
set_option maxRecDepth 100000 in
theorem wsL_in_r14 : ∀ w ∈ wsL_law_r14, w ∈ lw_tbl := inTbl [363, 364, 365, 366, 367, 368, 369, 370, 374, 376, 375, 48, 371, 372, 373, 377, 378, 380, 8, 381, 382, 383, 384, 385] (by decide +kernel)
set_option maxRecDepth 100000 in
theorem wsL_in_r15 : ∀ w ∈ wsL_law_r15, w ∈ lw_tbl := inTbl [386, 694, 695, 696, 697, 698, 700, 22, 701, 577, 702, 704, 23, 705, 387, 388, 389, 390, 391, 392, 393, 394, 706, 707] (by decide +kernel)
set_option maxRecDepth 100000 in
theorem wsL_in_r16 : ∀ w ∈ wsL_law_r16, w ∈ lw_tbl := inTbl [708, 709, 395, 396, 397, 398, 710, 711, 712, 713, 399, 400, 401, 402, 403, 404, 405, 406, 407, 408, 409, 410, 411, 714] (by decide +kernel)
set_option maxRecDepth 100000 in
theorem wsL_in_r17 : ∀ w ∈ wsL_law_r17, w ∈ lw_tbl := inTbl [715, 716, 717, 412, 413, 414, 415, 416, 417, 418, 419, 420, 421, 422, 423, 424, 425, 426, 427, 718, 719, 720, 721, 579] (by decide +kernel)
set_option maxRecDepth 100000 in
theorem wsL_in_r18 : ∀ w ∈ wsL_law_r18, w ∈ lw_tbl := inTbl [722, 724, 24, 725, 726, 728, 25, 729, 428, 429, 430, 431, 432, 434, 9, 435, 436, 437, 438, 439, 440, 442, 10, 443] (by decide +kernel)
set_option maxRecDepth 100000 in
theorem wsL_in_r19 : ∀ w ∈ wsL_law_r19, w ∈ lw_tbl := inTbl [730, 731, 732, 733, 734, 736, 26, 737, 582, 738, 740, 27, 741, 444, 445, 446, 447, 448, 449, 450, 451, 452, 453, 742] (by decide +kernel)
set_option maxRecDepth 100000 in
theorem wsL_in_r20 : ∀ w ∈ wsL_law_r20, w ∈ lw_tbl := inTbl [743, 744, 745, 746, 748, 28, 749, 454, 455, 456, 457, 458, 460, 11, 461, 750, 751, 752, 753, 754, 756, 29, 757, 462] (by decide +kernel)
set_option maxRecDepth 100000 in
theorem wsL_in_r21 : ∀ w ∈ wsL_law_r21, w ∈ lw_tbl := inTbl [463, 464, 465, 758, 759, 760, 761, 466, 467, 468, 469, 470, 471, 472, 473, 147, 762, 763, 764, 765, 474, 475, 476, 477] (by decide +kernel)
set_option maxRecDepth 100000 in
theorem wsL_in_r22 : ∀ w ∈ wsL_law_r22, w ∈ lw_tbl := inTbl [766, 767, 768, 769, 478, 479, 480, 481, 482, 484, 12, 485, 486, 487, 488, 489, 490, 491, 492, 493, 494, 495, 770, 771] (by decide +kernel)
set_option maxRecDepth 100000 in
theorem wsL_in_r23 : ∀ w ∈ wsL_law_r23, w ∈ lw_tbl := inTbl [772, 773, 774, 776, 30, 777, 778, 780, 31, 781, 782, 784, 32, 785, 496, 497, 498, 499, 508, 509, 49, 510, 500, 502] (by decide +kernel)
set_option maxRecDepth 100000 in
theorem wsL_in_r24 : ∀ w ∈ wsL_law_r24, w ∈ lw_tbl := inTbl [13, 503, 505, 506, 507, 504, 786, 787, 788, 789, 790, 792, 33, 793, 511, 512, 513, 514, 515, 517, 14, 518, 794, 795] (by decide +kernel)
set_option maxRecDepth 100000 in
theorem wsL_in_r25 : ∀ w ∈ wsL_law_r25, w ∈ lw_tbl := inTbl [796, 797, 519, 520, 521, 522, 523, 524, 526, 15, 527, 169, 528, 798, 799, 800, 801, 802, 561, 803, 804, 805, 806, 807] (by decide +kernel)
set_option maxRecDepth 100000 in
theorem wsL_in_r26 : ∀ w ∈ wsL_law_r26, w ∈ lw_tbl := inTbl [530, 531, 532, 533, 534, 535, 536, 537, 808, 809, 810, 811, 812, 814, 34, 815, 538, 539, 540, 541, 816, 817, 818, 819] (by decide +kernel)
set_option maxRecDepth 100000 in
theorem wsL_in_r27 : ∀ w ∈ wsL_law_r27, w ∈ lw_tbl := inTbl [542, 543, 544, 545, 546, 547, 548, 549, 550, 820, 821, 822, 823, 551, 552, 553, 554, 824, 825, 826, 827] (by decide +kernel)
set_option maxRecDepth 100000 in
theorem wsL_in_X5 : ∀ w ∈ wsX50, w ∈ lw_tbl := inTbl [170, 172, 174, 176, 178, 180, 182, 184, 186, 188, 190, 192] (by decide +kernel)
set_option maxRecDepth 100000 in
theorem wsL_in_X6 : ∀ w ∈ wsX60, w ∈ lw_tbl := inTbl [589, 591, 593, 595, 597, 599, 601, 603, 605, 607, 609, 611, 613, 615, 617, 619, 621, 623, 625, 627, 629, 631, 633, 635, 637, 639, 641, 643] (by decide +kernel)
set_option maxRecDepth 100000 in
theorem wsL_in_X3 : ∀ w ∈ wsX30, w ∈ lw_tbl := inTbl [72, 74, 76, 78, 80, 82, 84] (by decide +kernel)
set_option maxRecDepth 100000 in
theorem wsL_in_X0 : ∀ w ∈ wsX00, w ∈ lw_tbl := inTbl [101, 103, 105, 107, 109] (by decide +kernel)
set_option maxRecDepth 100000 in
theorem wsL_in_X1 : ∀ w ∈ wsX10, w ∈ lw_tbl := inTbl [128, 130, 132, 134, 136, 138] (by decide +kernel)
set_option maxRecDepth 100000 in
theorem wsL_in_X4 : ∀ w ∈ wsX40, w ∈ lw_tbl := inTbl [151, 153, 155] (by decide +kernel)
theorem wsL_law_in : ∀ w ∈ wsL_law, w ∈ lw_tbl := inApp (inApp (inApp (inApp (inApp (inApp (inApp (inApp wsL_in_r1 (inApp wsL_in_r2 (inApp wsL_in_r3 (inApp wsL_in_r4 (inApp wsL_in_r5 (inApp wsL_in_r6 (inApp wsL_in_r7 (inApp wsL_in_r8 (inApp wsL_in_r9 (inApp wsL_in_r10 (inApp wsL_in_r11 (inApp wsL_in_r12 (inApp wsL_in_r13 (inApp wsL_in_r14 (inApp wsL_in_r15 (inApp wsL_in_r16 (inApp wsL_in_r17 (inApp wsL_in_r18 (inApp wsL_in_r19 (inApp wsL_in_r20 (inApp wsL_in_r21 (inApp wsL_in_r22 (inApp wsL_in_r23 (inApp wsL_in_r24 (inApp wsL_in_r25 (inApp wsL_in_r26 (wsL_in_r27))))))))))))))))))))))))))) wsL_in_X5) wsL_in_X6) wsL_in_X3) wsL_in_X0) wsL_in_X1) wsL_in_X4) (fun _ h => absurd h List.not_mem_nil)
theorem inlX0 : ∀ w ∈ wsX00, w ∈ wsL_law := fun _ h => List.mem_append_left _ (List.mem_append_left _ (List.mem_append_left _ (List.mem_append_right _ h)))
theorem inX0 : ∀ w ∈ wsX00, w ∈ lw_tbl := fun w h => wsL_law_in w (inlX0 w h)
theorem inlX1 : ∀ w ∈ wsX10, w ∈ wsL_law := fun _ h => List.mem_append_left _ (List.mem_append_left _ (List.mem_append_right _ h))
theorem inX1 : ∀ w ∈ wsX10, w ∈ lw_tbl := fun w h => wsL_law_in w (inlX1 w h)
theorem inX2 : ∀ w ∈ wsX20, w ∈ lw_tbl := by decide +kernel
theorem inlX3 : ∀ w ∈ wsX30, w ∈ wsL_law := fun _ h => List.mem_append_left _ (List.mem_append_left _ (List.mem_append_left _ (List.mem_append_left _ (List.mem_append_right _ h))))
theorem inX3 : ∀ w ∈ wsX30, w ∈ lw_tbl := fun w h => wsL_law_in w (inlX3 w h)
theorem inlX4 : ∀ w ∈ wsX40, w ∈ wsL_law := fun _ h => List.mem_append_left _ (List.mem_append_right _ h)
theorem inX4 : ∀ w ∈ wsX40, w ∈ lw_tbl := fun w h => wsL_law_in w (inlX4 w h)
theorem inlX5 : ∀ w ∈ wsX50, w ∈ wsL_law := fun _ h => List.mem_append_left _ (List.mem_append_left _ (List.mem_append_left _ (List.mem_append_left _ (List.mem_append_left _ (List.mem_append_left _ (List.mem_append_right _ h))))))
theorem inX5 : ∀ w ∈ wsX50, w ∈ lw_tbl := fun w h => wsL_law_in w (inlX5 w h)
theorem inlX6 : ∀ w ∈ wsX60, w ∈ wsL_law := fun _ h => List.mem_append_left _ (List.mem_append_left _ (List.mem_append_left _ (List.mem_append_left _ (List.mem_append_left _ (List.mem_append_right _ h)))))
theorem inX6 : ∀ w ∈ wsX60, w ∈ lw_tbl := fun w h => wsL_law_in w (inlX6 w h)
theorem inJx145de : ∀ w ∈ wsJx145de0, w ∈ lw_tbl := by decide +kernel
theorem inJx9f9b0 : ∀ w ∈ wsJx9f9b00, w ∈ lw_tbl := by decide +kernel
theorem inJxb160c : ∀ w ∈ wsJxb160c0, w ∈ lw_tbl := by decide +kernel
theorem inJ9 : ∀ w ∈ wsJ90, w ∈ lw_tbl := by decide +kernel
theorem inJ0 : ∀ w ∈ wsJ00, w ∈ lw_tbl := by decide +kernel
theorem inJ1 : ∀ w ∈ wsJ10, w ∈ lw_tbl := by decide +kernel
theorem inJ2 : ∀ w ∈ wsJ20, w ∈ lw_tbl := by decide +kernel
theorem inJ10 : ∀ w ∈ wsJ100, w ∈ lw_tbl := by decide +kernel
theorem inJxfd54e : ∀ w ∈ wsJxfd54e0, w ∈ lw_tbl := by decide +kernel
theorem inJx3cf43 : ∀ w ∈ wsJx3cf430, w ∈ lw_tbl := by decide +kernel
theorem inJ7 : ∀ w ∈ wsJ70, w ∈ lw_tbl := by decide +kernel
theorem inJ3 : ∀ w ∈ wsJ30, w ∈ lw_tbl := by decide +kernel

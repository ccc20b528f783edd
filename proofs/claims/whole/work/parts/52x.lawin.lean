theorem mem_ps {big : List Cond} (ws : List Cond) (ps : List Nat) (hp : ws = ps.filterMap (fun i => big[i]?)) : ∀ w ∈ ws, w ∈ big := by
  intro w hw
  rw [hp] at hw
  obtain ⟨i, -, hi⟩ := List.mem_filterMap.mp hw
  exact List.mem_of_getElem? hi
theorem ap_in {a b T : List Cond} (ha : ∀ w ∈ a, w ∈ T) (hb : ∀ w ∈ b, w ∈ T) : ∀ w ∈ a ++ b, w ∈ T := fun w h => (List.mem_append.mp h).elim (ha w) (hb w)
set_option maxRecDepth 20000 in
theorem in_wsL_law0_r1 : ∀ w ∈ wsL_law0_r1, w ∈ lw_tbl := mem_ps wsL_law0_r1 [41, 42, 27, 552, 553, 34, 127, 788, 43, 44, 45, 46, 47, 48, 49, 50, 28, 188, 189, 70, 71, 30, 190, 94] (by decide +kernel)
set_option maxRecDepth 20000 in
theorem in_wsL_law0_r2 : ∀ w ∈ wsL_law0_r2, w ∈ lw_tbl := mem_ps wsL_law0_r2 [95, 31, 191, 128, 129, 32, 192, 145, 146, 33, 193, 51, 52, 53, 54, 61, 55, 56, 29, 57, 69, 58, 73, 74] (by decide +kernel)
set_option maxRecDepth 20000 in
theorem in_wsL_law0_r3 : ∀ w ∈ wsL_law0_r3, w ∈ lw_tbl := mem_ps wsL_law0_r3 [75, 76, 77, 78, 79, 81, 97, 98, 99, 100, 102, 103, 105, 131, 132, 133, 134, 135, 136, 147, 148, 149, 150, 151] (by decide +kernel)
set_option maxRecDepth 20000 in
theorem in_wsL_law0_r4 : ∀ w ∈ wsL_law0_r4, w ∈ lw_tbl := mem_ps wsL_law0_r4 [153, 155, 157, 160, 163, 179, 180, 181, 182, 183, 107, 187, 109, 111, 185, 186, 554, 555, 556, 557, 558, 638, 566, 567] (by decide +kernel)
set_option maxRecDepth 20000 in
theorem in_wsL_law0_r5 : ∀ w ∈ wsL_law0_r5, w ∈ lw_tbl := mem_ps wsL_law0_r5 [568, 569, 570, 571, 573, 574, 639, 578, 587, 559, 561, 11, 562, 563, 575, 564, 576, 577, 207, 208, 209, 210, 211, 212] (by decide +kernel)
set_option maxRecDepth 20000 in
theorem in_wsL_law0_r6 : ∀ w ∈ wsL_law0_r6, w ∈ lw_tbl := mem_ps wsL_law0_r6 [213, 214, 215, 216, 217, 218, 640, 641, 642, 643, 565, 579, 644, 646, 12, 647, 219, 220, 221, 222, 648, 649, 650, 651] (by decide +kernel)
set_option maxRecDepth 20000 in
theorem in_wsL_law0_r7 : ∀ w ∈ wsL_law0_r7, w ∈ lw_tbl := mem_ps wsL_law0_r7 [223, 224, 225, 226, 227, 228, 229, 230, 231, 233, 0, 234, 239, 235, 237, 1, 238, 240, 242, 2, 243, 244, 245, 246] (by decide +kernel)
set_option maxRecDepth 20000 in
theorem in_wsL_law0_r8 : ∀ w ∈ wsL_law0_r8, w ∈ lw_tbl := mem_ps wsL_law0_r8 [247, 248, 249, 250, 251, 252, 254, 3, 255, 256, 257, 258, 259, 260, 261, 262, 275, 277, 276, 35, 263, 264, 265, 266] (by decide +kernel)
set_option maxRecDepth 20000 in
theorem in_wsL_law0_r9 : ∀ w ∈ wsL_law0_r9, w ∈ lw_tbl := mem_ps wsL_law0_r9 [267, 268, 269, 270, 271, 273, 4, 274, 278, 280, 5, 281, 282, 284, 6, 285, 652, 653, 654, 655, 580, 581, 582, 583] (by decide +kernel)
set_option maxRecDepth 20000 in
theorem in_wsL_law0_r10 : ∀ w ∈ wsL_law0_r10, w ∈ lw_tbl := mem_ps wsL_law0_r10 [586, 572, 656, 658, 13, 659, 584, 585, 660, 662, 14, 663, 668, 664, 666, 15, 667, 669, 671, 16, 672, 286, 287, 288] (by decide +kernel)
set_option maxRecDepth 20000 in
theorem in_wsL_law0_r11 : ∀ w ∈ wsL_law0_r11, w ∈ lw_tbl := mem_ps wsL_law0_r11 [289, 673, 674, 675, 676, 290, 291, 292, 293, 294, 295, 677, 678, 679, 680, 296, 297, 298, 299, 300, 681, 682, 683, 684] (by decide +kernel)
set_option maxRecDepth 20000 in
theorem in_wsL_law0_r12 : ∀ w ∈ wsL_law0_r12, w ∈ lw_tbl := mem_ps wsL_law0_r12 [685, 687, 17, 688, 689, 691, 18, 692, 301, 302, 303, 304, 305, 306, 307, 308, 693, 694, 695, 696, 309, 310, 311, 312] (by decide +kernel)
set_option maxRecDepth 20000 in
theorem in_wsL_law0_r13 : ∀ w ∈ wsL_law0_r13, w ∈ lw_tbl := mem_ps wsL_law0_r13 [313, 697, 698, 699, 700, 415, 416, 26, 417, 418, 419, 420, 421, 422, 424, 39, 423, 406, 323, 324, 325, 486, 487, 488] (by decide +kernel)
set_option maxRecDepth 20000 in
theorem in_wsL_law0_r14 : ∀ w ∈ wsL_law0_r14, w ∈ lw_tbl := mem_ps wsL_law0_r14 [489, 701, 702, 703, 704, 705, 707, 19, 708, 709, 711, 20, 712, 548, 549, 550, 551, 314, 315, 316, 317, 318, 319, 320] (by decide +kernel)
set_option maxRecDepth 20000 in
theorem in_wsL_law0_r15 : ∀ w ∈ wsL_law0_r15, w ∈ lw_tbl := mem_ps wsL_law0_r15 [321, 322, 326, 327, 328, 329, 713, 714, 715, 716, 330, 331, 332, 333, 334, 335, 336, 337, 717, 718, 719, 720, 721, 723] (by decide +kernel)
set_option maxRecDepth 20000 in
theorem in_wsL_law0_r16 : ∀ w ∈ wsL_law0_r16, w ∈ lw_tbl := mem_ps wsL_law0_r16 [21, 724, 338, 339, 340, 341, 342, 343, 344, 345, 346, 725, 726, 727, 728, 729, 490, 491, 492, 493, 494, 495, 496, 497] (by decide +kernel)
set_option maxRecDepth 20000 in
theorem in_wsL_law0_r17 : ∀ w ∈ wsL_law0_r17, w ∈ lw_tbl := mem_ps wsL_law0_r17 [498, 40, 513, 514, 515, 516, 517, 518, 519, 520, 521, 365, 366, 367, 368, 522, 524, 9, 525, 526, 387, 388, 389, 527] (by decide +kernel)
set_option maxRecDepth 20000 in
theorem in_wsL_law0_r18 : ∀ w ∈ wsL_law0_r18, w ∈ lw_tbl := mem_ps wsL_law0_r18 [529, 10, 530, 531, 532, 533, 730, 731, 732, 733, 734, 736, 22, 737, 738, 740, 23, 741, 742, 744, 24, 745, 347, 348] (by decide +kernel)
set_option maxRecDepth 20000 in
theorem in_wsL_law0_r19 : ∀ w ∈ wsL_law0_r19, w ∈ lw_tbl := mem_ps wsL_law0_r19 [349, 350, 746, 747, 748, 749, 534, 535, 536, 537, 538, 539, 540, 750, 751, 752, 753, 351, 352, 353, 354, 369, 355, 356] (by decide +kernel)
set_option maxRecDepth 20000 in
theorem in_wsL_law0_r20 : ∀ w ∈ wsL_law0_r20, w ∈ lw_tbl := mem_ps wsL_law0_r20 [357, 358, 359, 360, 361, 362, 363, 364, 754, 755, 756, 757, 758, 759, 370, 371, 372, 373, 374, 375, 376, 377, 378, 379] (by decide +kernel)
set_option maxRecDepth 20000 in
theorem in_wsL_law0_r21 : ∀ w ∈ wsL_law0_r21, w ∈ lw_tbl := mem_ps wsL_law0_r21 [380, 381, 760, 761, 762, 763, 382, 383, 384, 385, 386, 764, 765, 766, 767, 390, 391, 392, 393, 768, 769, 770, 771, 394] (by decide +kernel)
set_option maxRecDepth 20000 in
theorem in_wsL_law0_r22 : ∀ w ∈ wsL_law0_r22, w ∈ lw_tbl := mem_ps wsL_law0_r22 [395, 396, 397, 398, 399, 400, 401, 402, 404, 7, 405, 772, 773, 774, 775, 588, 776, 778, 25, 779, 541, 542, 543, 544] (by decide +kernel)
set_option maxRecDepth 20000 in
theorem in_wsL_law0_r23 : ∀ w ∈ wsL_law0_r23, w ∈ lw_tbl := mem_ps wsL_law0_r23 [545, 546, 547, 780, 781, 782, 783, 407, 408, 409, 410, 411, 412, 413, 414, 784, 785, 786, 787] (by decide +kernel)
set_option maxRecDepth 20000 in
theorem in_wsX50 : ∀ w ∈ wsX50, w ∈ lw_tbl := mem_ps wsX50 [194, 196, 198, 200, 202, 204] (by decide +kernel)
set_option maxRecDepth 20000 in
theorem in_wsX60 : ∀ w ∈ wsX60, w ∈ lw_tbl := mem_ps wsX60 [589, 591, 593, 595, 597, 599, 601, 603, 605, 607, 609, 611, 613, 615, 617, 619, 621, 623, 625, 627, 629, 631, 633, 635] (by decide +kernel)
set_option maxRecDepth 20000 in
theorem in_wsX00 : ∀ w ∈ wsX00, w ∈ lw_tbl := mem_ps wsX00 [64, 66] (by decide +kernel)
set_option maxRecDepth 20000 in
theorem in_wsX10 : ∀ w ∈ wsX10, w ∈ lw_tbl := mem_ps wsX10 [83, 85, 87, 89, 91] (by decide +kernel)
set_option maxRecDepth 20000 in
theorem in_wsX40 : ∀ w ∈ wsX40, w ∈ lw_tbl := mem_ps wsX40 [112, 114, 116, 118, 120, 122, 124] (by decide +kernel)
set_option maxRecDepth 20000 in
theorem in_wsX30 : ∀ w ∈ wsX30, w ∈ lw_tbl := mem_ps wsX30 [138, 140, 142] (by decide +kernel)
set_option maxRecDepth 20000 in
theorem in_wsX20 : ∀ w ∈ wsX20, w ∈ lw_tbl := mem_ps wsX20 [166, 168, 170, 172, 174, 176] (by decide +kernel)
theorem wsL_law_in0 : ∀ w ∈ wsL_law0, w ∈ lw_tbl := (ap_in (ap_in (ap_in (ap_in (ap_in (ap_in (ap_in (ap_in (ap_in in_wsL_law0_r1 (ap_in in_wsL_law0_r2 (ap_in in_wsL_law0_r3 (ap_in in_wsL_law0_r4 (ap_in in_wsL_law0_r5 (ap_in in_wsL_law0_r6 (ap_in in_wsL_law0_r7 (ap_in in_wsL_law0_r8 (ap_in in_wsL_law0_r9 (ap_in in_wsL_law0_r10 (ap_in in_wsL_law0_r11 (ap_in in_wsL_law0_r12 (ap_in in_wsL_law0_r13 (ap_in in_wsL_law0_r14 (ap_in in_wsL_law0_r15 (ap_in in_wsL_law0_r16 (ap_in in_wsL_law0_r17 (ap_in in_wsL_law0_r18 (ap_in in_wsL_law0_r19 (ap_in in_wsL_law0_r20 (ap_in in_wsL_law0_r21 (ap_in in_wsL_law0_r22 in_wsL_law0_r23)))))))))))))))))))))) in_wsX50) in_wsX60) in_wsX00) in_wsX10) in_wsX40) in_wsX30) in_wsX20) (fun w h => absurd h List.not_mem_nil))
theorem wsL_law_x0 : ∀ w ∈ (vx_at0 RX5 101 "java/util/NoSuchElementException" ["java/lang/RuntimeException", "java/lang/Exception"]).filter goodWord, w ∈ lw_tbl := by decide +kernel
theorem wsL_law_x1 : ∀ w ∈ (vx_at0 RX5 124 "java/lang/IllegalArgumentException" ["java/lang/RuntimeException", "java/lang/Exception"]).filter goodWord, w ∈ lw_tbl := by decide +kernel
theorem wsL_law_in : ∀ w ∈ wsL_law, w ∈ lw_tbl := fun w h => (List.mem_append.mp h).elim (fun h => (List.mem_append.mp h).elim (fun h => wsL_law_in0 w h) (fun h => wsL_law_x0 w h)) (fun h => wsL_law_x1 w h)
theorem inlX0 : ∀ w ∈ wsX00, w ∈ wsL_law := fun _ h => List.mem_append_left _ (List.mem_append_left _ (List.mem_append_left _ (List.mem_append_left _ (List.mem_append_left _ (List.mem_append_left _ (List.mem_append_left _ (List.mem_append_right _ h)))))))
theorem inX0 : ∀ w ∈ wsX00, w ∈ lw_tbl := fun w h => wsL_law_in w (inlX0 w h)
theorem inlX1 : ∀ w ∈ wsX10, w ∈ wsL_law := fun _ h => List.mem_append_left _ (List.mem_append_left _ (List.mem_append_left _ (List.mem_append_left _ (List.mem_append_left _ (List.mem_append_left _ (List.mem_append_right _ h))))))
theorem inX1 : ∀ w ∈ wsX10, w ∈ lw_tbl := fun w h => wsL_law_in w (inlX1 w h)
theorem inlX2 : ∀ w ∈ wsX20, w ∈ wsL_law := fun _ h => List.mem_append_left _ (List.mem_append_left _ (List.mem_append_left _ (List.mem_append_right _ h)))
theorem inX2 : ∀ w ∈ wsX20, w ∈ lw_tbl := fun w h => wsL_law_in w (inlX2 w h)
theorem inlX3 : ∀ w ∈ wsX30, w ∈ wsL_law := fun _ h => List.mem_append_left _ (List.mem_append_left _ (List.mem_append_left _ (List.mem_append_left _ (List.mem_append_right _ h))))
theorem inX3 : ∀ w ∈ wsX30, w ∈ lw_tbl := fun w h => wsL_law_in w (inlX3 w h)
theorem inlX4 : ∀ w ∈ wsX40, w ∈ wsL_law := fun _ h => List.mem_append_left _ (List.mem_append_left _ (List.mem_append_left _ (List.mem_append_left _ (List.mem_append_left _ (List.mem_append_right _ h)))))
theorem inX4 : ∀ w ∈ wsX40, w ∈ lw_tbl := fun w h => wsL_law_in w (inlX4 w h)
theorem inlX5 : ∀ w ∈ wsX50, w ∈ wsL_law := fun _ h => List.mem_append_left _ (List.mem_append_left _ (List.mem_append_left _ (List.mem_append_left _ (List.mem_append_left _ (List.mem_append_left _ (List.mem_append_left _ (List.mem_append_left _ (List.mem_append_left _ (List.mem_append_right _ h)))))))))
theorem inX5 : ∀ w ∈ wsX50, w ∈ lw_tbl := fun w h => wsL_law_in w (inlX5 w h)
theorem inlX6 : ∀ w ∈ wsX60, w ∈ wsL_law := fun _ h => List.mem_append_left _ (List.mem_append_left _ (List.mem_append_left _ (List.mem_append_left _ (List.mem_append_left _ (List.mem_append_left _ (List.mem_append_left _ (List.mem_append_left _ (List.mem_append_right _ h))))))))
theorem inX6 : ∀ w ∈ wsX60, w ∈ lw_tbl := fun w h => wsL_law_in w (inlX6 w h)
theorem inJ9 : ∀ w ∈ wsJ90, w ∈ lw_tbl := by decide +kernel
theorem inJ10 : ∀ w ∈ wsJ100, w ∈ lw_tbl := by decide +kernel

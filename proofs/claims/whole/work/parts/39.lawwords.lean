theorem of_ix {big : List Cond} {ws : List Cond} (ps : List Nat) (hp : ps.map (fun i => big[i]?) = ws.map some) : ∀ w ∈ ws, w ∈ big := by
  intro w hw
  have h1 : some w ∈ ps.map (fun i => big[i]?) := by rw [hp]; exact List.mem_map_of_mem hw
  obtain ⟨i, -, hi⟩ := List.mem_map.mp h1
  exact List.mem_of_getElem? hi
theorem mem_ap {a b c : List Cond} (ha : ∀ w ∈ a, w ∈ c) (hb : ∀ w ∈ b, w ∈ c) : ∀ w ∈ a ++ b, w ∈ c := fun w h => (List.mem_append.mp h).elim (ha w) (hb w)
set_option maxRecDepth 100000 in
theorem in_wsL_law0_r1 : ∀ w ∈ wsL_law0_r1, w ∈ lw_tbl := of_ix [85, 86, 71, 772, 773, 78, 1069, 87, 88, 89, 90, 91, 92, 93, 94, 72, 244, 245, 104, 105, 73, 246, 126, 127] rfl
set_option maxRecDepth 100000 in
theorem in_wsL_law0_r2 : ∀ w ∈ wsL_law0_r2, w ∈ lw_tbl := of_ix [74, 247, 166, 167, 75, 248, 96, 97, 98, 103, 99, 107, 108, 109, 110, 113, 128, 129, 130, 131, 132, 133, 168, 169] rfl
set_option maxRecDepth 100000 in
theorem in_wsL_law0_r3 : ∀ w ∈ wsL_law0_r3, w ∈ lw_tbl := of_ix [170, 171, 172, 173, 76, 207, 194, 195, 77, 208, 209, 215, 204, 205, 206, 175, 176, 177, 196, 197, 198, 199, 200, 774] rfl
set_option maxRecDepth 100000 in
theorem in_wsL_law0_r4 : ∀ w ∈ wsL_law0_r4, w ∈ lw_tbl := of_ix [775, 776, 777, 779, 780, 781, 792, 795, 797, 284, 285, 70, 286, 287, 288, 289, 290, 291, 298, 82, 292, 293, 294, 295] rfl
set_option maxRecDepth 100000 in
theorem in_wsL_law0_r5 : ∀ w ∈ wsL_law0_r5, w ∈ lw_tbl := of_ix [296, 297, 360, 361, 362, 363, 364, 365, 366, 367, 368, 369, 370, 371, 873, 874, 875, 876, 778, 877, 878, 879, 880, 881] rfl
set_option maxRecDepth 100000 in
theorem in_wsL_law0_r6 : ∀ w ∈ wsL_law0_r6, w ∈ lw_tbl := of_ix [882, 869, 870, 871, 872, 372, 373, 374, 375, 376, 377, 378, 379, 883, 884, 885, 886, 380, 381, 382, 383, 384, 385, 386] rfl
set_option maxRecDepth 100000 in
theorem in_wsL_law0_r7 : ∀ w ∈ wsL_law0_r7, w ∈ lw_tbl := of_ix [887, 888, 889, 890, 387, 388, 389, 390, 391, 392, 393, 891, 892, 893, 894, 394, 395, 396, 397, 398, 399, 400, 401, 405] rfl
set_option maxRecDepth 100000 in
theorem in_wsL_law0_r8 : ∀ w ∈ wsL_law0_r8, w ∈ lw_tbl := of_ix [83, 402, 403, 404, 420, 421, 422, 423, 210, 211, 424, 425, 426, 427, 178, 179, 180, 181, 182, 899, 900, 901, 902, 787] rfl
set_option maxRecDepth 100000 in
theorem in_wsL_law0_r9 : ∀ w ∈ wsL_law0_r9, w ∈ lw_tbl := of_ix [788, 903, 905, 37, 906, 782, 783, 784, 785, 786, 428, 429, 430, 431, 432, 433, 434, 435, 436, 437, 438, 443, 439, 440] rfl
set_option maxRecDepth 100000 in
theorem in_wsL_law0_r10 : ∀ w ∈ wsL_law0_r10, w ∈ lw_tbl := of_ix [441, 442, 907, 908, 909, 910, 915, 911, 913, 38, 914, 444, 445, 446, 447, 448, 449, 450, 451, 452, 453, 454, 112, 111] rfl
set_option maxRecDepth 100000 in
theorem in_wsL_law0_r11 : ∀ w ∈ wsL_law0_r11, w ∈ lw_tbl := of_ix [1045, 1046, 1047, 1048, 796, 260, 261, 262, 263, 264, 265, 266, 267, 114, 1049, 1050, 1051, 1052, 798, 455, 456, 457, 458, 459] rfl
set_option maxRecDepth 100000 in
theorem in_wsL_law0_r12 : ∀ w ∈ wsL_law0_r12, w ∈ lw_tbl := of_ix [460, 461, 462, 463, 464, 465, 466, 467, 468, 469, 1053, 1054, 1055, 1056, 470, 471, 472, 473, 474, 475, 476, 477, 478, 479] rfl
set_option maxRecDepth 100000 in
theorem in_wsL_law0_r13 : ∀ w ∈ wsL_law0_r13, w ∈ lw_tbl := of_ix [480, 1057, 1058, 1059, 1060, 481, 482, 483, 484, 485, 486, 487, 488, 489, 490, 491, 213, 214, 212, 216, 492, 494, 1, 495] rfl
set_option maxRecDepth 100000 in
theorem in_wsL_law0_r14 : ∀ w ∈ wsL_law0_r14, w ∈ lw_tbl := of_ix [496, 498, 2, 499, 500, 501, 502, 503, 504, 506, 3, 507, 508, 510, 4, 511, 512, 513, 515, 5, 516, 517, 519, 6] rfl
set_option maxRecDepth 100000 in
theorem in_wsL_law0_r15 : ∀ w ∈ wsL_law0_r15, w ∈ lw_tbl := of_ix [520, 521, 523, 7, 524, 525, 526, 527, 528, 529, 531, 8, 532, 533, 535, 9, 536, 537, 538, 539, 540, 541, 543, 10] rfl
set_option maxRecDepth 100000 in
theorem in_wsL_law0_r16 : ∀ w ∈ wsL_law0_r16, w ∈ lw_tbl := of_ix [544, 545, 546, 548, 11, 549, 550, 552, 12, 553, 554, 555, 556, 557, 558, 559, 560, 561, 562, 563, 564, 565, 566, 567] rfl
set_option maxRecDepth 100000 in
theorem in_wsL_law0_r17 : ∀ w ∈ wsL_law0_r17, w ∈ lw_tbl := of_ix [84, 568, 569, 570, 571, 572, 574, 13, 575, 576, 577, 578, 579, 580, 581, 582, 583, 584, 586, 14, 587, 588, 589, 591] rfl
set_option maxRecDepth 100000 in
theorem in_wsL_law0_r18 : ∀ w ∈ wsL_law0_r18, w ∈ lw_tbl := of_ix [15, 592, 593, 594, 595, 596, 597, 599, 16, 600, 601, 602, 603, 604, 605, 606, 607, 608, 609, 611, 17, 612, 613, 614] rfl
set_option maxRecDepth 100000 in
theorem in_wsL_law0_r19 : ∀ w ∈ wsL_law0_r19, w ∈ lw_tbl := of_ix [615, 616, 617, 619, 18, 620, 621, 623, 19, 624, 625, 627, 20, 628, 629, 631, 21, 632, 633, 635, 22, 636, 637, 638] rfl
set_option maxRecDepth 100000 in
theorem in_wsL_law0_r20 : ∀ w ∈ wsL_law0_r20, w ∈ lw_tbl := of_ix [639, 640, 641, 643, 23, 644, 645, 647, 24, 648, 649, 651, 25, 652, 653, 655, 26, 656, 657, 659, 27, 660, 661, 663] rfl
set_option maxRecDepth 100000 in
theorem in_wsL_law0_r21 : ∀ w ∈ wsL_law0_r21, w ∈ lw_tbl := of_ix [28, 664, 665, 666, 667, 668, 669, 670, 671, 672, 134, 673, 674, 675, 676, 135, 677, 678, 679, 680, 681, 682, 683, 684] rfl
set_option maxRecDepth 100000 in
theorem in_wsL_law0_r22 : ∀ w ∈ wsL_law0_r22, w ∈ lw_tbl := of_ix [685, 136, 686, 687, 688, 689, 137, 138, 139, 140, 141, 142, 690, 692, 29, 693, 694, 696, 30, 697, 698, 699, 700, 701] rfl
set_option maxRecDepth 100000 in
theorem in_wsL_law0_r23 : ∀ w ∈ wsL_law0_r23, w ∈ lw_tbl := of_ix [702, 703, 704, 705, 706, 707, 708, 709, 710, 712, 31, 713, 714, 716, 32, 717, 718, 720, 33, 721, 722, 724, 34, 725] rfl
set_option maxRecDepth 100000 in
theorem in_wsL_law0_r24 : ∀ w ∈ wsL_law0_r24, w ∈ lw_tbl := of_ix [726, 727, 728, 729, 730, 732, 35, 733, 736, 734, 735, 737, 739, 36, 740, 916, 917, 918, 919, 790, 791, 794, 789, 920] rfl
set_option maxRecDepth 100000 in
theorem in_wsL_law0_r25 : ∀ w ∈ wsL_law0_r25, w ∈ lw_tbl := of_ix [922, 39, 923, 924, 926, 40, 927, 928, 930, 41, 931, 932, 934, 42, 935, 936, 938, 43, 939, 940, 942, 44, 943, 944] rfl
set_option maxRecDepth 100000 in
theorem in_wsL_law0_r26 : ∀ w ∈ wsL_law0_r26, w ∈ lw_tbl := of_ix [946, 45, 947, 948, 950, 46, 951, 952, 954, 47, 955, 956, 958, 48, 959, 960, 962, 49, 963, 964, 966, 50, 967, 968] rfl
set_option maxRecDepth 100000 in
theorem in_wsL_law0_r27 : ∀ w ∈ wsL_law0_r27, w ∈ lw_tbl := of_ix [970, 51, 971, 972, 974, 52, 975, 976, 978, 53, 979, 980, 982, 54, 983, 984, 986, 55, 987, 988, 990, 56, 991, 992] rfl
set_option maxRecDepth 100000 in
theorem in_wsL_law0_r28 : ∀ w ∈ wsL_law0_r28, w ∈ lw_tbl := of_ix [994, 57, 995, 996, 998, 58, 999, 1000, 1002, 59, 1003, 1004, 1006, 60, 1007, 1008, 1010, 61, 1011, 1012, 1014, 62, 1015, 1016] rfl
set_option maxRecDepth 100000 in
theorem in_wsL_law0_r29 : ∀ w ∈ wsL_law0_r29, w ∈ lw_tbl := of_ix [1018, 63, 1019, 1020, 1022, 64, 1023, 1024, 1026, 65, 1027, 1028, 1030, 66, 1031, 799, 800, 1032, 801, 802, 803, 804, 805, 806] rfl
set_option maxRecDepth 100000 in
theorem in_wsL_law0_r30 : ∀ w ∈ wsL_law0_r30, w ∈ lw_tbl := of_ix [807, 1033, 1035, 67, 1036, 1037, 1039, 68, 1040, 793, 1041, 1043, 69, 1044, 268, 269, 270, 271, 272, 273, 274, 275, 1061, 1062] rfl
set_option maxRecDepth 100000 in
theorem in_wsL_law0_r31 : ∀ w ∈ wsL_law0_r31, w ∈ lw_tbl := of_ix [1063, 1064, 741, 742, 743, 744, 745, 746, 747, 748, 749, 750, 751, 752, 753, 754, 755, 756, 757, 758, 759, 760, 761, 762] rfl
set_option maxRecDepth 100000 in
theorem in_wsL_law0_r32 : ∀ w ∈ wsL_law0_r32, w ∈ lw_tbl := of_ix [763, 764, 765, 766, 767, 768, 769, 770, 771, 1065, 1066, 1067, 1068, 276, 277, 278, 279, 280, 281, 282, 283, 895, 896, 897] rfl
set_option maxRecDepth 100000 in
theorem in_wsL_law0_r33 : ∀ w ∈ wsL_law0_r33, w ∈ lw_tbl := of_ix [898] rfl
set_option maxRecDepth 100000 in
theorem in_wsX00 : ∀ w ∈ wsX00, w ∈ lw_tbl := of_ix [201] rfl
set_option maxRecDepth 100000 in
theorem in_wsX10 : ∀ w ∈ wsX10, w ∈ lw_tbl := of_ix [115, 117, 119, 121, 123] rfl
set_option maxRecDepth 100000 in
theorem in_wsX20 : ∀ w ∈ wsX20, w ∈ lw_tbl := of_ix [143, 145, 147, 149, 151, 153, 155, 157, 159, 161, 163] rfl
set_option maxRecDepth 100000 in
theorem in_wsX30 : ∀ w ∈ wsX30, w ∈ lw_tbl := of_ix [183, 185, 187, 189, 191] rfl
set_option maxRecDepth 100000 in
theorem in_wsX40 : ∀ w ∈ wsX40, w ∈ lw_tbl := of_ix [217, 219, 221, 223, 225, 227, 229, 231, 233, 235, 237, 239, 241] rfl
set_option maxRecDepth 100000 in
theorem in_wsX50 : ∀ w ∈ wsX50, w ∈ lw_tbl := of_ix [100] rfl
set_option maxRecDepth 100000 in
theorem in_wsX60 : ∀ w ∈ wsX60, w ∈ lw_tbl := of_ix [249, 251, 253, 255, 257] rfl
set_option maxRecDepth 100000 in
theorem in_wsX70 : ∀ w ∈ wsX70, w ∈ lw_tbl := of_ix [808, 810, 812, 814, 816, 818, 820, 822, 824, 826, 828, 830, 832, 834, 836, 838, 840, 842, 844, 846, 848, 850, 852, 854, 856, 858, 860, 862, 864, 866] rfl
theorem wsL_law_in0 : ∀ w ∈ wsL_law0, w ∈ lw_tbl := (mem_ap (mem_ap (mem_ap (mem_ap (mem_ap (mem_ap (mem_ap (mem_ap (mem_ap (mem_ap in_wsL_law0_r1 (mem_ap in_wsL_law0_r2 (mem_ap in_wsL_law0_r3 (mem_ap in_wsL_law0_r4 (mem_ap in_wsL_law0_r5 (mem_ap in_wsL_law0_r6 (mem_ap in_wsL_law0_r7 (mem_ap in_wsL_law0_r8 (mem_ap in_wsL_law0_r9 (mem_ap in_wsL_law0_r10 (mem_ap in_wsL_law0_r11 (mem_ap in_wsL_law0_r12 (mem_ap in_wsL_law0_r13 (mem_ap in_wsL_law0_r14 (mem_ap in_wsL_law0_r15 (mem_ap in_wsL_law0_r16 (mem_ap in_wsL_law0_r17 (mem_ap in_wsL_law0_r18 (mem_ap in_wsL_law0_r19 (mem_ap in_wsL_law0_r20 (mem_ap in_wsL_law0_r21 (mem_ap in_wsL_law0_r22 (mem_ap in_wsL_law0_r23 (mem_ap in_wsL_law0_r24 (mem_ap in_wsL_law0_r25 (mem_ap in_wsL_law0_r26 (mem_ap in_wsL_law0_r27 (mem_ap in_wsL_law0_r28 (mem_ap in_wsL_law0_r29 (mem_ap in_wsL_law0_r30 (mem_ap in_wsL_law0_r31 (mem_ap in_wsL_law0_r32 in_wsL_law0_r33)))))))))))))))))))))))))))))))) in_wsX60) in_wsX70) in_wsX50) in_wsX10) in_wsX20) in_wsX40) in_wsX30) in_wsX00) (fun _ h => nomatch h))
set_option maxRecDepth 20000 in
theorem wsL_law_x0 : ∀ w ∈ (vx_at0 RX6 53 "java/lang/IllegalArgumentException" ["java/lang/RuntimeException", "java/lang/Exception"]).filter goodWord, w ∈ lw_tbl := by decide +kernel
theorem wsL_law_x1 : ∀ w ∈ (vx_at0 RX6 67 "java/lang/IndexOutOfBoundsException" ["java/lang/RuntimeException", "java/lang/Exception"]).filter goodWord, w ∈ lw_tbl := by decide +kernel
theorem wsL_law_in : ∀ w ∈ wsL_law, w ∈ lw_tbl := fun w h => (List.mem_append.mp h).elim (fun h => (List.mem_append.mp h).elim (fun h => wsL_law_in0 w h) (fun h => wsL_law_x0 w h)) (fun h => wsL_law_x1 w h)
theorem inlX0 : ∀ w ∈ wsX00, w ∈ wsL_law := fun _ h => List.mem_append_left _ (List.mem_append_left _ (List.mem_append_left _ (List.mem_append_right _ h)))
theorem inX0 : ∀ w ∈ wsX00, w ∈ lw_tbl := fun w h => wsL_law_in w (inlX0 w h)
theorem inlX1 : ∀ w ∈ wsX10, w ∈ wsL_law := fun _ h => List.mem_append_left _ (List.mem_append_left _ (List.mem_append_left _ (List.mem_append_left _ (List.mem_append_left _ (List.mem_append_left _ (List.mem_append_left _ (List.mem_append_right _ h)))))))
theorem inX1 : ∀ w ∈ wsX10, w ∈ lw_tbl := fun w h => wsL_law_in w (inlX1 w h)
theorem inlX2 : ∀ w ∈ wsX20, w ∈ wsL_law := fun _ h => List.mem_append_left _ (List.mem_append_left _ (List.mem_append_left _ (List.mem_append_left _ (List.mem_append_left _ (List.mem_append_left _ (List.mem_append_right _ h))))))
theorem inX2 : ∀ w ∈ wsX20, w ∈ lw_tbl := fun w h => wsL_law_in w (inlX2 w h)
theorem inlX3 : ∀ w ∈ wsX30, w ∈ wsL_law := fun _ h => List.mem_append_left _ (List.mem_append_left _ (List.mem_append_left _ (List.mem_append_left _ (List.mem_append_right _ h))))
theorem inX3 : ∀ w ∈ wsX30, w ∈ lw_tbl := fun w h => wsL_law_in w (inlX3 w h)
theorem inlX4 : ∀ w ∈ wsX40, w ∈ wsL_law := fun _ h => List.mem_append_left _ (List.mem_append_left _ (List.mem_append_left _ (List.mem_append_left _ (List.mem_append_left _ (List.mem_append_right _ h)))))
theorem inX4 : ∀ w ∈ wsX40, w ∈ lw_tbl := fun w h => wsL_law_in w (inlX4 w h)
theorem inlX5 : ∀ w ∈ wsX50, w ∈ wsL_law := fun _ h => List.mem_append_left _ (List.mem_append_left _ (List.mem_append_left _ (List.mem_append_left _ (List.mem_append_left _ (List.mem_append_left _ (List.mem_append_left _ (List.mem_append_left _ (List.mem_append_right _ h))))))))
theorem inX5 : ∀ w ∈ wsX50, w ∈ lw_tbl := fun w h => wsL_law_in w (inlX5 w h)
theorem inlX6 : ∀ w ∈ wsX60, w ∈ wsL_law := fun _ h => List.mem_append_left _ (List.mem_append_left _ (List.mem_append_left _ (List.mem_append_left _ (List.mem_append_left _ (List.mem_append_left _ (List.mem_append_left _ (List.mem_append_left _ (List.mem_append_left _ (List.mem_append_left _ (List.mem_append_right _ h))))))))))
theorem inX6 : ∀ w ∈ wsX60, w ∈ lw_tbl := fun w h => wsL_law_in w (inlX6 w h)
theorem inlX7 : ∀ w ∈ wsX70, w ∈ wsL_law := fun _ h => List.mem_append_left _ (List.mem_append_left _ (List.mem_append_left _ (List.mem_append_left _ (List.mem_append_left _ (List.mem_append_left _ (List.mem_append_left _ (List.mem_append_left _ (List.mem_append_left _ (List.mem_append_right _ h)))))))))
theorem inX7 : ∀ w ∈ wsX70, w ∈ lw_tbl := fun w h => wsL_law_in w (inlX7 w h)
theorem inJ6 : ∀ w ∈ wsJ60, w ∈ lw_tbl := by decide +kernel


/-! the law's words -/
theorem sel_priv {C : String} {x y z : MethodName} {s : State} {args : Array Value} (hy : y.cls ≠ "java/lang/invoke/MethodHandle" ∧ y.cls ≠ "java/lang/invoke/VarHandle") (hpriv : (Cond.privateMethod y).before args s = true) (hinst : (Cond.instanceMethod y).before args s = true) (hs : (Cond.selects C x z).before args s = true) (hz : z.cls = y.cls) : (Cond.selects C y y).before args s = true := by
  obtain ⟨c, r, m2, hc, -, hn2, -, k2, hk2, hi2⟩ := Cond.selects_spec hs
  obtain ⟨mk, methM, hnamed, hmethM, -, -⟩ := Cond.instanceMethod_spec hinst
  have hfound : s.methodFound? y.cls y.name y.desc = some mk := State.methodFound?_of_named hnamed hy
  have h2 : s.vm.findClass y.cls = some m2.cls := by rw [← hz]; exact findClass_of_methodNamed hn2
  have hcls : mk.cls = m2.cls := Option.some.inj ((findClass_of_methodNamed hnamed).symm.trans h2)
  have hsel : selectMethod {} s.vm c mk = .method mk := selectMethod_private hmethM (Cond.privateMethod_at hpriv mk methM hnamed hmethM)
  simp only [Cond.before, Cond.holds, Cond.value, hc, hfound, hnamed, hsel, hcls, hk2]
  simp; exact hi2
def prv8 : List MethodName := [yX0_leastEstimate, yX0_sumOfEstimates, yX0_isBefore, yX0_seekAll, yX0_seekAny, yX0_seekSome, yX0_neededPlace, yX0_placesUpTo]
def sel16 : List Cond := prv8.map (fun y => Cond.selects RX2 y y) ++ prv8.map (fun y => Cond.selects RX3 y y)
theorem prv8_ok : ∀ y ∈ prv8, ((y.cls ≠ "java/lang/invoke/MethodHandle" ∧ y.cls ≠ "java/lang/invoke/VarHandle") ∧ yX0_fix.cls = y.cls) ∧ Cond.privateMethod y ∈ lw_tbl ∧ Cond.instanceMethod y ∈ lw_tbl := by decide +kernel
theorem sel16_ok {args : Array Value} {s : State} (hts : ∀ w ∈ lw_tbl, w.before args s = true) : ∀ w ∈ sel16 ++ lw_tbl, w.before args s = true := by
  intro w hw
  rcases List.mem_append.mp hw with hw | hw
  · rcases List.mem_append.mp hw with hw | hw
    · obtain ⟨y, hy, rfl⟩ := List.mem_map.mp hw
      obtain ⟨⟨h0, h3⟩, h1, h2⟩ := prv8_ok y hy
      exact sel_priv (z := yX0_fix) h0 (hts _ h1) (hts _ h2) (hts (.selects RX2 ⟨"PostingPlanner$Group", "fix", "(I)V"⟩ yX0_fix) (by decide +kernel)) h3
    · obtain ⟨y, hy, rfl⟩ := List.mem_map.mp hw
      obtain ⟨⟨h0, h3⟩, h1, h2⟩ := prv8_ok y hy
      exact sel_priv (z := yX0_fix) h0 (hts _ h1) (hts _ h2) (hts (.selects RX3 ⟨"PostingPlanner$Group", "fix", "(I)V"⟩ yX0_fix) (by decide +kernel)) h3
  · exact hts w hw
theorem mem_at {big ws : List Cond} (ps : List Nat) (hp : ws = ps.filterMap (fun i => big[i]?)) : ∀ w ∈ ws, w ∈ big := by
  subst hp
  intro w hw
  obtain ⟨i, -, h⟩ := List.mem_filterMap.mp hw
  exact List.mem_of_getElem? h
set_option maxRecDepth 100000 in
theorem lwr_1 : ∀ w ∈ wsL_law0_r1, w ∈ sel16 ++ lw_tbl := mem_at [70, 71, 49, 840, 841, 61, 1139, 72, 73, 74, 75, 76, 77, 78, 79, 50, 298, 92, 93, 52, 299, 142, 143, 56] rfl
set_option maxRecDepth 100000 in
theorem lwr_2 : ∀ w ∈ wsL_law0_r2, w ∈ sel16 ++ lw_tbl := mem_at [144, 145, 57, 300, 273, 274, 60, 301, 80, 81, 82, 83, 91, 87, 84, 85, 51, 86, 94, 95, 96, 97, 98, 127] rfl
set_option maxRecDepth 100000 in
theorem lwr_3 : ∀ w ∈ wsL_law0_r3, w ∈ sel16 ++ lw_tbl := mem_at [100, 53, 128, 101, 102, 103, 104, 105, 147, 148, 149, 156, 157, 158, 168, 261, 170, 58, 159, 160, 55, 161, 166, 223] rfl
set_option maxRecDepth 100000 in
theorem lwr_4 : ∀ w ∈ wsL_law0_r4, w ∈ sel16 ++ lw_tbl := mem_at [163, 54, 164, 165, 171, 172, 173, 185, 186, 175, 222, 177, 59, 174, 178, 179, 180, 182, 275, 276, 277, 278, 279, 283] rfl
set_option maxRecDepth 100000 in
theorem lwr_5 : ∀ w ∈ wsL_law0_r5, w ∈ sel16 ++ lw_tbl := mem_at [281, 285, 282, 842, 843, 844, 845, 952, 846, 847, 851, 852, 853, 854, 855, 856, 857, 858, 859, 860, 864, 866, 867, 871] rfl
set_option maxRecDepth 100000 in
theorem lwr_6 : ∀ w ∈ wsL_law0_r6, w ∈ sel16 ++ lw_tbl := mem_at [872, 873, 874, 875, 876, 529, 530, 48, 531, 532, 533, 534, 535, 536, 537, 610, 66, 538, 540, 21, 541, 542, 65, 626] rfl
set_option maxRecDepth 100000 in
theorem lwr_7 : ∀ w ∈ wsL_law0_r7, w ∈ sel16 ++ lw_tbl := mem_at [627, 628, 629, 957, 958, 959, 960, 961, 962, 963, 964, 965, 966, 967, 969, 28, 970, 880, 953, 954, 955, 956, 630, 631] rfl
set_option maxRecDepth 100000 in
theorem lwr_8 : ∀ w ∈ wsL_law0_r8, w ∈ sel16 ++ lw_tbl := mem_at [632, 633, 634, 635, 636, 971, 972, 973, 974, 311, 312, 313, 314, 315, 316, 317, 318, 319, 320, 67, 321, 322, 323, 324] rfl
set_option maxRecDepth 100000 in
theorem lwr_9 : ∀ w ∈ wsL_law0_r9, w ∈ sel16 ++ lw_tbl := mem_at [975, 976, 977, 978, 979, 981, 29, 982, 637, 638, 639, 640, 641, 642, 643, 644, 646, 23, 647, 649, 650, 651, 652, 424] rfl
set_option maxRecDepth 100000 in
theorem lwr_10 : ∀ w ∈ wsL_law0_r10, w ∈ sel16 ++ lw_tbl := mem_at [425, 426, 350, 351, 983, 984, 985, 986, 987, 989, 30, 990, 991, 992, 993, 653, 654, 655, 656, 657, 658, 659, 660, 662] rfl
set_option maxRecDepth 100000 in
theorem lwr_11 : ∀ w ∈ wsL_law0_r11, w ∈ sel16 ++ lw_tbl := mem_at [24, 663, 666, 667, 668, 669, 132, 131, 994, 995, 996, 997, 850, 848, 849, 998, 999, 1000, 670, 671, 672, 673, 674, 675] rfl
set_option maxRecDepth 100000 in
theorem lwr_12 : ∀ w ∈ wsL_law0_r12, w ∈ sel16 ++ lw_tbl := mem_at [676, 677, 686, 68, 678, 679, 680, 681, 682, 683, 684, 685, 107, 110, 111, 113, 1001, 1002, 1003, 1004, 702, 703, 704, 705] rfl
set_option maxRecDepth 100000 in
theorem lwr_13 : ∀ w ∈ wsL_law0_r13, w ∈ sel16 ++ lw_tbl := mem_at [706, 707, 708, 115, 709, 342, 343, 344, 711, 712, 713, 714, 1005, 1006, 1007, 1008, 716, 717, 718, 719, 720, 721, 722, 329] rfl
set_option maxRecDepth 100000 in
theorem lwr_14 : ∀ w ∈ wsL_law0_r14, w ∈ sel16 ++ lw_tbl := mem_at [331, 16, 332, 333, 334, 335, 336, 337, 338, 339, 340, 341, 345, 346, 347, 348, 353, 354, 1009, 1010, 1011, 1012, 1013, 1015] rfl
set_option maxRecDepth 100000 in
theorem lwr_15 : ∀ w ∈ wsL_law0_r15, w ∈ sel16 ++ lw_tbl := mem_at [31, 1016, 1017, 1018, 1019, 325, 326, 327, 328, 1020, 1021, 1022, 1023, 356, 357, 358, 359, 230, 229, 360, 361, 362, 363, 129] rfl
set_option maxRecDepth 100000 in
theorem lwr_16 : ∀ w ∈ wsL_law0_r16, w ∈ sel16 ++ lw_tbl := mem_at [130, 239, 240, 364, 365, 366, 368, 369, 370, 224, 232, 238, 244, 204, 205, 371, 372, 374, 375, 376, 377, 378, 379, 380] rfl
set_option maxRecDepth 100000 in
theorem lwr_17 : ∀ w ∈ wsL_law0_r17, w ∈ sel16 ++ lw_tbl := mem_at [381, 108, 109, 112, 114, 382, 383, 384, 385, 387, 17, 388, 225, 226, 233, 234, 389, 390, 392, 393, 394, 395, 397, 398] rfl
set_option maxRecDepth 100000 in
theorem lwr_18 : ∀ w ∈ wsL_law0_r18, w ∈ sel16 ++ lw_tbl := mem_at [396, 400, 399, 401, 403, 18, 404, 106, 405, 406, 407, 409, 410, 411, 412, 414, 415, 416, 190, 417, 419, 420, 418, 422] rfl
set_option maxRecDepth 100000 in
theorem lwr_19 : ∀ w ∈ wsL_law0_r19, w ∈ sel16 ++ lw_tbl := mem_at [421, 423, 428, 429, 430, 431, 183, 184, 187, 188, 194, 195, 206, 207, 432, 433, 434, 436, 437, 438, 439, 441, 19, 442] rfl
set_option maxRecDepth 100000 in
theorem lwr_20 : ∀ w ∈ wsL_law0_r20, w ∈ sel16 ++ lw_tbl := mem_at [241, 242, 191, 443, 444, 446, 447, 448, 450, 451, 452, 454, 455, 456, 457, 458, 460, 461, 462, 198, 199, 468, 469, 69] rfl
set_option maxRecDepth 100000 in
theorem lwr_21 : ∀ w ∈ wsL_law0_r21, w ∈ sel16 ++ lw_tbl := mem_at [470, 463, 464, 1140, 0, 466, 467, 200, 8, 471, 1141, 1, 473, 474, 9, 475, 476, 478, 479, 480, 481, 1142, 2, 483] rfl
set_option maxRecDepth 100000 in
theorem lwr_22 : ∀ w ∈ wsL_law0_r22, w ∈ sel16 ++ lw_tbl := mem_at [484, 10, 485, 487, 20, 488, 227, 228, 235, 236, 489, 490, 491, 492, 493, 494, 495, 496, 497, 498, 499, 500, 501, 502] rfl
set_option maxRecDepth 100000 in
theorem lwr_23 : ∀ w ∈ wsL_law0_r23, w ∈ sel16 ++ lw_tbl := mem_at [503, 504, 505, 506, 507, 1024, 1025, 1026, 1027, 861, 1028, 1030, 32, 1031, 862, 863, 1032, 1034, 33, 1035, 1036, 1037, 1038, 1039] rfl
set_option maxRecDepth 100000 in
theorem lwr_24 : ∀ w ∈ wsL_law0_r24, w ∈ sel16 ++ lw_tbl := mem_at [1041, 34, 1042, 1043, 1045, 35, 1046, 1047, 1049, 36, 1050, 1051, 1053, 37, 1054, 1055, 1057, 38, 1058, 1059, 1061, 39, 1062, 508] rfl
set_option maxRecDepth 100000 in
theorem lwr_25 : ∀ w ∈ wsL_law0_r25, w ∈ sel16 ++ lw_tbl := mem_at [509, 510, 511, 237, 1063, 1064, 1065, 1066, 512, 513, 514, 515, 243, 1067, 1068, 1069, 1070, 516, 517, 518, 519, 201, 197, 1071] rfl
set_option maxRecDepth 100000 in
theorem lwr_26 : ∀ w ∈ wsL_law0_r26, w ∈ sel16 ++ lw_tbl := mem_at [1072, 1073, 1074, 1075, 1077, 40, 1078, 723, 724, 725, 726, 727, 728, 729, 192, 730, 732, 25, 733, 734, 735, 736, 737, 189] rfl
set_option maxRecDepth 100000 in
theorem lwr_27 : ∀ w ∈ wsL_law0_r27, w ∈ sel16 ++ lw_tbl := mem_at [738, 739, 740, 1079, 1080, 1081, 1082, 1083, 1085, 41, 1086, 742, 743, 744, 745, 746, 747, 748, 231, 1087, 1088, 1089, 1090, 749] rfl
set_option maxRecDepth 100000 in
theorem lwr_28 : ∀ w ∈ wsL_law0_r28, w ∈ sel16 ++ lw_tbl := mem_at [750, 751, 752, 753, 754, 755, 202, 203, 1091, 1092, 1093, 1094, 756, 757, 758, 759, 760, 761, 762, 193, 763, 1095, 1096, 1097] rfl
set_option maxRecDepth 100000 in
theorem lwr_29 : ∀ w ∈ wsL_law0_r29, w ∈ sel16 ++ lw_tbl := mem_at [1098, 520, 521, 522, 523, 524, 525, 526, 527, 150, 286, 288, 196, 528, 1099, 1100, 1101, 1102, 865, 868, 869, 870, 877, 878] rfl
set_option maxRecDepth 100000 in
theorem lwr_30 : ∀ w ∈ wsL_law0_r30, w ∈ sel16 ++ lw_tbl := mem_at [879, 765, 766, 767, 768, 769, 770, 771, 772, 774, 26, 775, 287, 777, 778, 779, 780, 781, 782, 783, 784, 785, 787, 788] rfl
set_option maxRecDepth 100000 in
theorem lwr_31 : ∀ w ∈ wsL_law0_r31, w ∈ sel16 ++ lw_tbl := mem_at [789, 790, 1144, 3, 792, 11, 809, 1145, 4, 811, 12, 813, 1146, 5, 815, 13, 803, 804, 793, 794, 796, 797, 798, 799] rfl
set_option maxRecDepth 100000 in
theorem lwr_32 : ∀ w ∈ wsL_law0_r32, w ∈ sel16 ++ lw_tbl := mem_at [800, 801, 151, 805, 807, 27, 808, 812, 816, 817, 1147, 6, 819, 820, 208, 821, 1148, 7, 823, 824, 15, 14, 1103, 1104] rfl
set_option maxRecDepth 100000 in
theorem lwr_33 : ∀ w ∈ wsL_law0_r33, w ∈ sel16 ++ lw_tbl := mem_at [1105, 1106, 1107, 1109, 42, 1110, 1111, 1113, 43, 1114, 1115, 1117, 44, 1118, 1119, 1121, 45, 1122, 1123, 1125, 46, 1126, 1127, 1129] rfl
set_option maxRecDepth 100000 in
theorem lwr_34 : ∀ w ∈ wsL_law0_r34, w ∈ sel16 ++ lw_tbl := mem_at [47, 1130, 826, 827, 828, 829, 830, 831, 832, 1131, 1132, 1133, 1134, 833, 834, 835, 836, 837, 838, 839, 284, 152, 1135, 1136] rfl
set_option maxRecDepth 100000 in
theorem lwr_35 : ∀ w ∈ wsL_law0_r35, w ∈ sel16 ++ lw_tbl := mem_at [1137, 1138] rfl
set_option maxRecDepth 100000 in
theorem lwl_X10 : ∀ w ∈ wsX100, w ∈ sel16 ++ lw_tbl := mem_at [302, 304, 306, 308] rfl
set_option maxRecDepth 100000 in
theorem lwl_X11 : ∀ w ∈ wsX110, w ∈ sel16 ++ lw_tbl := mem_at [881, 883, 885, 887, 889, 891, 893, 895, 897, 899, 901, 903, 905, 907, 909, 911, 913, 915, 917, 919, 921, 923, 925, 927, 929, 931, 933, 935, 937, 939, 941, 943, 945, 947, 949] rfl
set_option maxRecDepth 100000 in
theorem lwl_X7 : ∀ w ∈ wsX70, w ∈ sel16 ++ lw_tbl := mem_at [88] rfl
set_option maxRecDepth 100000 in
theorem lwl_X5 : ∀ w ∈ wsX50, w ∈ sel16 ++ lw_tbl := mem_at [133, 135, 137, 139] rfl
set_option maxRecDepth 100000 in
theorem lwl_X2 : ∀ w ∈ wsX20, w ∈ sel16 ++ lw_tbl := mem_at [264, 265, 266, 267, 268, 269, 270, 271, 262] rfl
set_option maxRecDepth 100000 in
theorem lwl_X8 : ∀ w ∈ wsX80, w ∈ sel16 ++ lw_tbl := mem_at [153] rfl
set_option maxRecDepth 100000 in
theorem lwl_X6 : ∀ w ∈ wsX60, w ∈ sel16 ++ lw_tbl := mem_at [289, 291, 293, 295] rfl
set_option maxRecDepth 100000 in
theorem lwl_X9 : ∀ w ∈ wsX90, w ∈ sel16 ++ lw_tbl := mem_at [116, 118, 120, 122, 124] rfl
set_option maxRecDepth 100000 in
theorem lwl_X3 : ∀ w ∈ wsX30, w ∈ sel16 ++ lw_tbl := mem_at [247, 249, 251, 253, 255, 257, 258, 259, 245] rfl
set_option maxRecDepth 100000 in
theorem lwl_X4 : ∀ w ∈ wsX40, w ∈ sel16 ++ lw_tbl := mem_at [215, 217, 219, 209, 211, 213] rfl
theorem wsL_law_in0 : ∀ w ∈ wsL_law0, w ∈ sel16 ++ lw_tbl := fun w h => (List.mem_append.mp h).elim (fun h => (List.mem_append.mp h).elim (fun h => (List.mem_append.mp h).elim (fun h => (List.mem_append.mp h).elim (fun h => (List.mem_append.mp h).elim (fun h => (List.mem_append.mp h).elim (fun h => (List.mem_append.mp h).elim (fun h => (List.mem_append.mp h).elim (fun h => (List.mem_append.mp h).elim (fun h => (List.mem_append.mp h).elim (fun h => (List.mem_append.mp h).elim (fun h => (List.mem_append.mp h).elim (fun h => lwr_1 w h) (fun h => (List.mem_append.mp h).elim (fun h => lwr_2 w h) (fun h => (List.mem_append.mp h).elim (fun h => lwr_3 w h) (fun h => (List.mem_append.mp h).elim (fun h => lwr_4 w h) (fun h => (List.mem_append.mp h).elim (fun h => lwr_5 w h) (fun h => (List.mem_append.mp h).elim (fun h => lwr_6 w h) (fun h => (List.mem_append.mp h).elim (fun h => lwr_7 w h) (fun h => (List.mem_append.mp h).elim (fun h => lwr_8 w h) (fun h => (List.mem_append.mp h).elim (fun h => lwr_9 w h) (fun h => (List.mem_append.mp h).elim (fun h => lwr_10 w h) (fun h => (List.mem_append.mp h).elim (fun h => lwr_11 w h) (fun h => (List.mem_append.mp h).elim (fun h => lwr_12 w h) (fun h => (List.mem_append.mp h).elim (fun h => lwr_13 w h) (fun h => (List.mem_append.mp h).elim (fun h => lwr_14 w h) (fun h => (List.mem_append.mp h).elim (fun h => lwr_15 w h) (fun h => (List.mem_append.mp h).elim (fun h => lwr_16 w h) (fun h => (List.mem_append.mp h).elim (fun h => lwr_17 w h) (fun h => (List.mem_append.mp h).elim (fun h => lwr_18 w h) (fun h => (List.mem_append.mp h).elim (fun h => lwr_19 w h) (fun h => (List.mem_append.mp h).elim (fun h => lwr_20 w h) (fun h => (List.mem_append.mp h).elim (fun h => lwr_21 w h) (fun h => (List.mem_append.mp h).elim (fun h => lwr_22 w h) (fun h => (List.mem_append.mp h).elim (fun h => lwr_23 w h) (fun h => (List.mem_append.mp h).elim (fun h => lwr_24 w h) (fun h => (List.mem_append.mp h).elim (fun h => lwr_25 w h) (fun h => (List.mem_append.mp h).elim (fun h => lwr_26 w h) (fun h => (List.mem_append.mp h).elim (fun h => lwr_27 w h) (fun h => (List.mem_append.mp h).elim (fun h => lwr_28 w h) (fun h => (List.mem_append.mp h).elim (fun h => lwr_29 w h) (fun h => (List.mem_append.mp h).elim (fun h => lwr_30 w h) (fun h => (List.mem_append.mp h).elim (fun h => lwr_31 w h) (fun h => (List.mem_append.mp h).elim (fun h => lwr_32 w h) (fun h => (List.mem_append.mp h).elim (fun h => lwr_33 w h) (fun h => (List.mem_append.mp h).elim (fun h => lwr_34 w h) (fun h => lwr_35 w h))))))))))))))))))))))))))))))))))) (fun h => lwl_X10 w h)) (fun h => lwl_X11 w h)) (fun h => lwl_X7 w h)) (fun h => lwl_X5 w h)) (fun h => lwl_X2 w h)) (fun h => lwl_X8 w h)) (fun h => lwl_X6 w h)) (fun h => lwl_X9 w h)) (fun h => lwl_X3 w h)) (fun h => lwl_X4 w h)) (fun h => absurd h List.not_mem_nil)
theorem wsL_law_x0 : ∀ w ∈ (vx_atS RX10 50 "java/lang/IllegalArgumentException" ["java/lang/RuntimeException", "java/lang/Exception"]).filter goodWord, w ∈ lw_tbl := by decide +kernel
theorem wsL_law_x1 : ∀ w ∈ (vx_atS RX10 103 "java/lang/IndexOutOfBoundsException" ["java/lang/RuntimeException", "java/lang/Exception"]).filter goodWord, w ∈ lw_tbl := by decide +kernel
theorem wsL_law_x2 : ∀ w ∈ (vx_atS RX10 94 "java/lang/IllegalStateException" ["java/lang/RuntimeException", "java/lang/Exception"]).filter goodWord, w ∈ lw_tbl := by decide +kernel
theorem wsL_ok {args : Array Value} {s : State} (hts : ∀ w ∈ lw_tbl, w.before args s = true) : ∀ w ∈ wsL_law, w.before args s = true := fun w h => sel16_ok hts w ((List.mem_append.mp h).elim (fun h => (List.mem_append.mp h).elim (fun h => (List.mem_append.mp h).elim (fun h => wsL_law_in0 w h) (fun h => List.mem_append_right _ (wsL_law_x0 w h))) (fun h => List.mem_append_right _ (wsL_law_x1 w h))) (fun h => List.mem_append_right _ (wsL_law_x2 w h)))

theorem dX1_strengthAfter_71 : decode cX1_strengthAfter 71 = .ok (.ireturn, 1) := by decide +kernel
set_option maxRecDepth 20000 in
theorem ggX2_init_X1_init : GoodIn wsX2_init wsX1_init := goodIn_r _ [15, 16, 2, 3, 17, 18, 19, 20, 21, 22, 23, 24, 31, 32, 33, 34, 35, 36, 37] (by decide +kernel) (by decide +kernel)
set_option maxRecDepth 20000 in
theorem gX2_init_X1_init_n17 : GoodIn wsX2_init (wsX1_init) := ggX2_init_X1_init
theorem dX2_init_0 : decode cX2_init 0 = .ok (.aload_n 0, 1) := by decide +kernel
theorem dX2_init_1 : decode cX2_init 1 = .ok (.invokespecial 1, 3) := by decide +kernel
theorem dX2_init_4 : decode cX2_init 4 = .ok (.aload_n 0, 1) := by decide +kernel
theorem dX2_init_5 : decode cX2_init 5 = .ok (.bipush 20, 2) := by decide +kernel
theorem dX2_init_7 : decode cX2_init 7 = .ok (.anewarray 9, 3) := by decide +kernel
theorem dX2_init_10 : decode cX2_init 10 = .ok (.putfield 11, 3) := by decide +kernel
theorem dX2_init_13 : decode cX2_init 13 = .ok (.aload_n 0, 1) := by decide +kernel
theorem dX2_init_14 : decode cX2_init 14 = .ok (.new 15, 3) := by decide +kernel
theorem dX2_init_17 : decode cX2_init 17 = .ok (.dup, 1) := by decide +kernel
theorem dX2_init_18 : decode cX2_init 18 = .ok (.invokespecial 17, 3) := by decide +kernel
theorem dX2_init_21 : decode cX2_init 21 = .ok (.putfield 18, 3) := by decide +kernel
theorem dX2_init_24 : decode cX2_init 24 = .ok (.aload_n 0, 1) := by decide +kernel
theorem dX2_init_25 : decode cX2_init 25 = .ok (.iconst 0, 1) := by decide +kernel
theorem dX2_init_26 : decode cX2_init 26 = .ok (.putfield 22, 3) := by decide +kernel
theorem dX2_init_29 : decode cX2_init 29 = .ok (.aload_n 0, 1) := by decide +kernel
theorem dX2_init_30 : decode cX2_init 30 = .ok (.iconst 0, 1) := by decide +kernel
theorem dX2_init_31 : decode cX2_init 31 = .ok (.putfield 26, 3) := by decide +kernel
theorem dX2_init_34 : decode cX2_init 34 = .ok (.aload_n 0, 1) := by decide +kernel
theorem dX2_init_35 : decode cX2_init 35 = .ok (.iconst 0, 1) := by decide +kernel
theorem dX2_init_36 : decode cX2_init 36 = .ok (.putfield 29, 3) := by decide +kernel
theorem dX2_init_39 : decode cX2_init 39 = .ok (.aload_n 0, 1) := by decide +kernel
theorem dX2_init_40 : decode cX2_init 40 = .ok (.iconst 0, 1) := by decide +kernel
theorem dX2_init_41 : decode cX2_init 41 = .ok (.putfield 32, 3) := by decide +kernel
theorem dX2_init_44 : decode cX2_init 44 = .ok (.return_, 1) := by decide +kernel
set_option maxRecDepth 20000 in
theorem ggX2_brew_X2_isWithin : GoodIn wsX2_brew wsX2_isWithin := goodIn_r _ [18] (by decide +kernel) (by decide +kernel)
set_option maxRecDepth 20000 in
theorem gX2_brew_X2_isWithin : GoodIn wsX2_brew (va_wsS RX2 35 yX2_isWithin wsX2_isWithin) := goodIn_app (goodIn_of _ (by decide +kernel)) ggX2_brew_X2_isWithin
set_option maxRecDepth 20000 in
theorem ggX2_brew_X2_brewIn : GoodIn wsX2_brew wsX2_brewIn := goodIn_r _ [22, 8, 9, 23, 12, 24, 25, 26, 63, 64, 65, 66, 67, 68, 69, 70, 71, 72, 73, 74, 75, 76, 77, 78] (by decide +kernel) (by decide +kernel)
set_option maxRecDepth 20000 in
theorem gX2_brew_X2_brewIn : GoodIn wsX2_brew (wsV RX2 55 RX2 yX2_brewIn wsX2_brewIn) := goodIn_app (goodIn_of _ (by decide +kernel)) ggX2_brew_X2_brewIn
set_option maxRecDepth 20000 in
theorem ggX2_brew_X2_foretoldStrength : GoodIn wsX2_brew wsX2_foretoldStrength := goodIn_r _ [29, 30, 31, 32, 17, 33] (by decide +kernel) (by decide +kernel)
set_option maxRecDepth 20000 in
theorem gX2_brew_X2_foretoldStrength : GoodIn wsX2_brew (va_wsS RX2 64 yX2_foretoldStrength wsX2_foretoldStrength) := goodIn_app (goodIn_of _ (by decide +kernel)) ggX2_brew_X2_foretoldStrength
set_option maxRecDepth 20000 in
theorem ggX2_brew_X2_valueAt : GoodIn wsX2_brew wsX2_valueAt := goodIn_r _ [33] (by decide +kernel) (by decide +kernel)
set_option maxRecDepth 20000 in
theorem gX2_brew_X2_valueAt : GoodIn wsX2_brew (va_wsS RX2 68 yX2_valueAt wsX2_valueAt) := goodIn_app (goodIn_of _ (by decide +kernel)) ggX2_brew_X2_valueAt
set_option maxRecDepth 20000 in
theorem ggX2_brew_X0_init : GoodIn wsX2_brew wsX0_init := goodIn_r _ [35, 36, 37, 38, 39, 40, 26, 41, 42, 43, 44, 45, 46, 47, 48, 69, 70, 71, 72, 73, 74, 75, 76, 77, 78] (by decide +kernel) (by decide +kernel)
set_option maxRecDepth 20000 in
theorem gX2_brew_X0_init_n72 : GoodIn wsX2_brew (wsX0_init) := ggX2_brew_X0_init
set_option maxRecDepth 20000 in
theorem ggX2_brew_X1_addStrength : GoodIn wsX2_brew wsX1_addStrength := goodIn_r _ [52, 53, 54, 55, 50, 56, 57, 58, 59, 60, 61, 62, 79, 80, 81, 82, 83, 84, 85] (by decide +kernel) (by decide +kernel)
set_option maxRecDepth 20000 in
theorem gX2_brew_X1_addStrength_n75 : GoodIn wsX2_brew (wsX1_addStrength) := ggX2_brew_X1_addStrength
theorem dX2_brew_0 : decode cX2_brew 0 = .ok (.iload_n 1, 1) := by decide +kernel
theorem dX2_brew_1 : decode cX2_brew 1 = .ok (.iconst 0, 1) := by decide +kernel
theorem dX2_brew_2 : decode cX2_brew 2 = .ok (.bipush 7, 2) := by decide +kernel
theorem dX2_brew_4 : decode cX2_brew 4 = .ok (.invokestatic 35, 3) := by decide +kernel
theorem dX2_brew_7 : decode cX2_brew 7 = .ok (.ifCond .eq 18, 3) := by decide +kernel
theorem dX2_brew_10 : decode cX2_brew 10 = .ok (.iload 4, 2) := by decide +kernel
theorem dX2_brew_12 : decode cX2_brew 12 = .ok (.iconst 0, 1) := by decide +kernel
theorem dX2_brew_13 : decode cX2_brew 13 = .ok (.getstatic 39, 3) := by decide +kernel
theorem dX2_brew_16 : decode cX2_brew 16 = .ok (.arraylength, 1) := by decide +kernel
theorem dX2_brew_17 : decode cX2_brew 17 = .ok (.iconst 1, 1) := by decide +kernel
theorem dX2_brew_18 : decode cX2_brew 18 = .ok (.isub, 1) := by decide +kernel
theorem dX2_brew_19 : decode cX2_brew 19 = .ok (.invokestatic 35, 3) := by decide +kernel
theorem dX2_brew_22 : decode cX2_brew 22 = .ok (.ifCond .ne 13, 3) := by decide +kernel
theorem dX2_brew_25 : decode cX2_brew 25 = .ok (.new 43, 3) := by decide +kernel
theorem dX2_brew_28 : decode cX2_brew 28 = .ok (.dup, 1) := by decide +kernel
theorem dX2_brew_29 : decode cX2_brew 29 = .ok (.ldc 45, 2) := by decide +kernel
theorem dX2_brew_31 : decode cX2_brew 31 = .ok (.invokespecial 47, 3) := by decide +kernel
theorem dX2_brew_34 : decode cX2_brew 34 = .ok (.athrow, 1) := by decide +kernel
theorem dX2_brew_35 : decode cX2_brew 35 = .ok (.iload_n 2, 1) := by decide +kernel
theorem dX2_brew_36 : decode cX2_brew 36 = .ok (.iconst 1, 1) := by decide +kernel
theorem dX2_brew_37 : decode cX2_brew 37 = .ok (.sipush 1000, 3) := by decide +kernel
theorem dX2_brew_40 : decode cX2_brew 40 = .ok (.invokestatic 35, 3) := by decide +kernel
theorem dX2_brew_43 : decode cX2_brew 43 = .ok (.ifCond .eq 15, 3) := by decide +kernel
theorem dX2_brew_46 : decode cX2_brew 46 = .ok (.iload_n 3, 1) := by decide +kernel
theorem dX2_brew_47 : decode cX2_brew 47 = .ok (.bipush 50, 2) := by decide +kernel
theorem dX2_brew_49 : decode cX2_brew 49 = .ok (.sipush 300, 3) := by decide +kernel
theorem dX2_brew_52 : decode cX2_brew 52 = .ok (.invokestatic 35, 3) := by decide +kernel
theorem dX2_brew_55 : decode cX2_brew 55 = .ok (.ifCond .ne 13, 3) := by decide +kernel
theorem dX2_brew_58 : decode cX2_brew 58 = .ok (.new 50, 3) := by decide +kernel
theorem dX2_brew_61 : decode cX2_brew 61 = .ok (.dup, 1) := by decide +kernel
theorem dX2_brew_62 : decode cX2_brew 62 = .ok (.ldc 52, 2) := by decide +kernel
theorem dX2_brew_64 : decode cX2_brew 64 = .ok (.invokespecial 54, 3) := by decide +kernel
theorem dX2_brew_67 : decode cX2_brew 67 = .ok (.athrow, 1) := by decide +kernel
theorem dX2_brew_68 : decode cX2_brew 68 = .ok (.aload_n 0, 1) := by decide +kernel
theorem dX2_brew_69 : decode cX2_brew 69 = .ok (.getfield 22, 3) := by decide +kernel
theorem dX2_brew_72 : decode cX2_brew 72 = .ok (.istore 5, 2) := by decide +kernel
theorem dX2_brew_74 : decode cX2_brew 74 = .ok (.aload_n 0, 1) := by decide +kernel
theorem dX2_brew_75 : decode cX2_brew 75 = .ok (.iload_n 1, 1) := by decide +kernel
theorem dX2_brew_76 : decode cX2_brew 76 = .ok (.invokevirtual 55, 3) := by decide +kernel
theorem dX2_brew_79 : decode cX2_brew 79 = .ok (.iconst (-1), 1) := by decide +kernel
theorem dX2_brew_80 : decode cX2_brew 80 = .ok (.if_icmp .ne 18, 3) := by decide +kernel
theorem dX2_brew_83 : decode cX2_brew 83 = .ok (.iload 5, 2) := by decide +kernel
theorem dX2_brew_85 : decode cX2_brew 85 = .ok (.ifCond .lt 13, 3) := by decide +kernel
theorem dX2_brew_88 : decode cX2_brew 88 = .ok (.iload 5, 2) := by decide +kernel
theorem dX2_brew_90 : decode cX2_brew 90 = .ok (.aload_n 0, 1) := by decide +kernel
theorem dX2_brew_91 : decode cX2_brew 91 = .ok (.getfield 11, 3) := by decide +kernel
theorem dX2_brew_94 : decode cX2_brew 94 = .ok (.arraylength, 1) := by decide +kernel
theorem dX2_brew_95 : decode cX2_brew 95 = .ok (.if_icmp .lt 13, 3) := by decide +kernel
theorem dX2_brew_98 : decode cX2_brew 98 = .ok (.new 59, 3) := by decide +kernel
theorem dX2_brew_101 : decode cX2_brew 101 = .ok (.dup, 1) := by decide +kernel
theorem dX2_brew_102 : decode cX2_brew 102 = .ok (.ldc 61, 2) := by decide +kernel
theorem dX2_brew_104 : decode cX2_brew 104 = .ok (.invokespecial 63, 3) := by decide +kernel
theorem dX2_brew_107 : decode cX2_brew 107 = .ok (.athrow, 1) := by decide +kernel
theorem dX2_brew_108 : decode cX2_brew 108 = .ok (.iload_n 3, 1) := by decide +kernel
theorem dX2_brew_109 : decode cX2_brew 109 = .ok (.iload 4, 2) := by decide +kernel
theorem dX2_brew_111 : decode cX2_brew 111 = .ok (.invokestatic 64, 3) := by decide +kernel
theorem dX2_brew_114 : decode cX2_brew 114 = .ok (.istore 6, 2) := by decide +kernel
theorem dX2_brew_116 : decode cX2_brew 116 = .ok (.aload_n 0, 1) := by decide +kernel
theorem dX2_brew_117 : decode cX2_brew 117 = .ok (.getfield 11, 3) := by decide +kernel
theorem dX2_brew_120 : decode cX2_brew 120 = .ok (.iload 5, 2) := by decide +kernel
theorem dX2_brew_122 : decode cX2_brew 122 = .ok (.new 9, 3) := by decide +kernel
theorem dX2_brew_125 : decode cX2_brew 125 = .ok (.dup, 1) := by decide +kernel
theorem dX2_brew_126 : decode cX2_brew 126 = .ok (.iload_n 1, 1) := by decide +kernel
theorem dX2_brew_127 : decode cX2_brew 127 = .ok (.iload_n 2, 1) := by decide +kernel
theorem dX2_brew_128 : decode cX2_brew 128 = .ok (.iload 6, 2) := by decide +kernel
theorem dX2_brew_130 : decode cX2_brew 130 = .ok (.aload_n 0, 1) := by decide +kernel
theorem dX2_brew_131 : decode cX2_brew 131 = .ok (.getfield 26, 3) := by decide +kernel
theorem dX2_brew_134 : decode cX2_brew 134 = .ok (.getstatic 39, 3) := by decide +kernel
theorem dX2_brew_137 : decode cX2_brew 137 = .ok (.iload 4, 2) := by decide +kernel
theorem dX2_brew_139 : decode cX2_brew 139 = .ok (.invokestatic 68, 3) := by decide +kernel
theorem dX2_brew_142 : decode cX2_brew 142 = .ok (.iadd, 1) := by decide +kernel
theorem dX2_brew_143 : decode cX2_brew 143 = .ok (.invokespecial 72, 3) := by decide +kernel
theorem dX2_brew_146 : decode cX2_brew 146 = .ok (.aastore, 1) := by decide +kernel
theorem dX2_brew_147 : decode cX2_brew 147 = .ok (.aload_n 0, 1) := by decide +kernel
theorem dX2_brew_148 : decode cX2_brew 148 = .ok (.getfield 18, 3) := by decide +kernel
theorem dX2_brew_151 : decode cX2_brew 151 = .ok (.iload 5, 2) := by decide +kernel
theorem dX2_brew_153 : decode cX2_brew 153 = .ok (.iload 6, 2) := by decide +kernel
theorem dX2_brew_155 : decode cX2_brew 155 = .ok (.invokevirtual 75, 3) := by decide +kernel
theorem dX2_brew_158 : decode cX2_brew 158 = .ok (.aload_n 0, 1) := by decide +kernel
theorem dX2_brew_159 : decode cX2_brew 159 = .ok (.iload 5, 2) := by decide +kernel
theorem dX2_brew_161 : decode cX2_brew 161 = .ok (.iconst 1, 1) := by decide +kernel
theorem dX2_brew_162 : decode cX2_brew 162 = .ok (.iadd, 1) := by decide +kernel
theorem dX2_brew_163 : decode cX2_brew 163 = .ok (.putfield 22, 3) := by decide +kernel
theorem dX2_brew_166 : decode cX2_brew 166 = .ok (.iload 5, 2) := by decide +kernel
theorem dX2_brew_168 : decode cX2_brew 168 = .ok (.ireturn, 1) := by decide +kernel
set_option maxRecDepth 20000 in
theorem ggX2_pass_X2_isWithin : GoodIn wsX2_pass wsX2_isWithin := goodIn_r _ [7] (by decide +kernel) (by decide +kernel)
set_option maxRecDepth 20000 in
theorem gX2_pass_X2_isWithin : GoodIn wsX2_pass (va_wsS RX2 35 yX2_isWithin wsX2_isWithin) := goodIn_app (goodIn_of _ (by decide +kernel)) ggX2_pass_X2_isWithin
theorem dX2_pass_0 : decode cX2_pass 0 = .ok (.iload_n 1, 1) := by decide +kernel
theorem dX2_pass_1 : decode cX2_pass 1 = .ok (.iconst 1, 1) := by decide +kernel
theorem dX2_pass_2 : decode cX2_pass 2 = .ok (.bipush 100, 2) := by decide +kernel
theorem dX2_pass_4 : decode cX2_pass 4 = .ok (.invokestatic 35, 3) := by decide +kernel
theorem dX2_pass_7 : decode cX2_pass 7 = .ok (.ifCond .ne 13, 3) := by decide +kernel
theorem dX2_pass_10 : decode cX2_pass 10 = .ok (.new 50, 3) := by decide +kernel
theorem dX2_pass_13 : decode cX2_pass 13 = .ok (.dup, 1) := by decide +kernel
theorem dX2_pass_14 : decode cX2_pass 14 = .ok (.ldc 79, 2) := by decide +kernel
theorem dX2_pass_16 : decode cX2_pass 16 = .ok (.invokespecial 54, 3) := by decide +kernel
theorem dX2_pass_19 : decode cX2_pass 19 = .ok (.athrow, 1) := by decide +kernel
theorem dX2_pass_20 : decode cX2_pass 20 = .ok (.aload_n 0, 1) := by decide +kernel
theorem dX2_pass_21 : decode cX2_pass 21 = .ok (.dup, 1) := by decide +kernel
theorem dX2_pass_22 : decode cX2_pass 22 = .ok (.getfield 26, 3) := by decide +kernel
theorem dX2_pass_25 : decode cX2_pass 25 = .ok (.iload_n 1, 1) := by decide +kernel
theorem dX2_pass_26 : decode cX2_pass 26 = .ok (.iadd, 1) := by decide +kernel
theorem dX2_pass_27 : decode cX2_pass 27 = .ok (.putfield 26, 3) := by decide +kernel
theorem dX2_pass_30 : decode cX2_pass 30 = .ok (.aload_n 0, 1) := by decide +kernel
theorem dX2_pass_31 : decode cX2_pass 31 = .ok (.getfield 26, 3) := by decide +kernel
theorem dX2_pass_34 : decode cX2_pass 34 = .ok (.ireturn, 1) := by decide +kernel
set_option maxRecDepth 20000 in
theorem ggX2_print_X2_findBrew : GoodIn wsX2_print wsX2_findBrew := goodIn_ca (goodIn_r _ [9, 10, 11, 12, 13, 14, 15, 8, 16, 17, 319, 320, 321, 322, 323, 324] (by decide +kernel) (by decide +kernel)) (goodIn_sub (fun _ h => List.mem_cons_of_mem _ (List.mem_append_right _ h)) (by decide +kernel))
set_option maxRecDepth 20000 in
theorem gX2_print_X2_findBrew : GoodIn wsX2_print (wsV RX2 81 RX2 yX2_findBrew wsX2_findBrew) := goodIn_app (goodIn_of _ (by decide +kernel)) ggX2_print_X2_findBrew
set_option maxRecDepth 20000 in
theorem ggX2_print_X2_isWithin : GoodIn wsX2_print wsX2_isWithin := goodIn_r _ [20] (by decide +kernel) (by decide +kernel)
set_option maxRecDepth 20000 in
theorem gX2_print_X2_isWithin : GoodIn wsX2_print (va_wsS RX2 35 yX2_isWithin wsX2_isWithin) := goodIn_app (goodIn_of _ (by decide +kernel)) ggX2_print_X2_isWithin
set_option maxRecDepth 20000 in
theorem ggX2_print_X0_isGone : GoodIn wsX2_print wsX0_isGone := goodIn_r _ [24, 25, 309, 310, 311, 312, 313, 314, 315, 316, 317, 318] (by decide +kernel) (by decide +kernel)
set_option maxRecDepth 20000 in
theorem gX2_print_X0_isGone_n87 : GoodIn wsX2_print (wsX0_isGone) := ggX2_print_X0_isGone
set_option maxRecDepth 20000 in
theorem ggX2_print_X0_labelsOfItsClass : GoodIn wsX2_print wsX0_labelsOfItsClass := goodIn_r _ [28, 29, 30, 31, 32, 33, 22, 34, 35, 36, 8, 37, 309, 310, 311, 312, 313, 314, 315, 316, 317, 318] (by decide +kernel) (by decide +kernel)
set_option maxRecDepth 20000 in
theorem gX2_print_X0_labelsOfItsClass_n91 : GoodIn wsX2_print (wsX0_labelsOfItsClass) := ggX2_print_X0_labelsOfItsClass
set_option maxRecDepth 20000 in
theorem ggX2_print_X0_addLabels : GoodIn wsX2_print wsX0_addLabels := goodIn_r _ [40, 29, 30, 35, 41, 42, 31, 32, 33, 22, 34, 36, 8, 37, 43, 44, 45, 46, 47, 48, 49, 50, 51, 52, 53, 54, 55, 56, 57, 58, 59, 60, 61, 62, 63, 64, 65, 66, 67, 68, 69, 70, 71, 72, 73, 74, 75, 76, 77, 78, 79, 80, 81, 82, 83, 84, 85, 86, 87, 88, 89, 90, 91, 92, 93, 94, 95, 96, 97, 98, 99, 100, 101, 102, 103, 104, 105, 106, 107, 108, 109, 110, 111, 112, 113, 114, 115, 116, 117, 118, 119, 120, 121, 122, 123, 124, 125, 126, 127, 128, 129, 130, 131, 132, 133, 134, 135, 136, 137, 138, 139, 140, 141, 142, 143, 144, 145, 146, 147, 148, 149, 150, 151, 152, 153, 154, 155, 156, 157, 158, 159, 160, 161, 162, 163, 164, 165, 166, 167, 168, 169, 170, 171, 172, 173, 174, 175, 176, 177, 178, 179, 180, 181, 182, 183, 184, 185, 186, 187, 188, 189, 190, 191, 192, 193, 194, 195, 196, 197, 198, 199, 200, 201, 202, 203, 204, 205, 206, 207, 208, 209, 210, 211, 212, 213, 214, 215, 216, 217, 218, 219, 220, 221, 222, 223, 224, 225, 226, 227, 228, 229, 230, 231, 232, 233, 234, 235, 236, 237, 238, 239, 240, 241, 242, 243, 244, 245, 246, 247, 248, 249, 250, 251, 252, 253, 254, 255, 256, 257, 258, 259, 260, 261, 262, 263, 264, 265, 266, 267, 268, 269, 270, 271, 272, 273, 274, 275, 276, 277, 278, 279, 280, 281, 282, 283, 284, 285, 286, 287, 288, 289, 290, 291, 292, 293, 294, 295, 296, 297, 298, 299, 300, 301, 302, 303, 304, 305, 306, 307, 308, 309, 310, 311, 312, 313, 314, 315, 316, 317, 318, 325, 326, 327, 328, 329, 330, 331, 332] (by decide +kernel) (by decide +kernel)
set_option maxRecDepth 20000 in
theorem gX2_print_X0_addLabels_n97 : GoodIn wsX2_print (wsX0_addLabels) := ggX2_print_X0_addLabels
theorem dX2_print_0 : decode cX2_print 0 = .ok (.aload_n 0, 1) := by decide +kernel
theorem dX2_print_1 : decode cX2_print 1 = .ok (.iload_n 1, 1) := by decide +kernel
theorem dX2_print_2 : decode cX2_print 2 = .ok (.invokevirtual 81, 3) := by decide +kernel
theorem dX2_print_5 : decode cX2_print 5 = .ok (.astore_n 3, 1) := by decide +kernel
theorem dX2_print_6 : decode cX2_print 6 = .ok (.iload_n 2, 1) := by decide +kernel
theorem dX2_print_7 : decode cX2_print 7 = .ok (.iconst 1, 1) := by decide +kernel
theorem dX2_print_8 : decode cX2_print 8 = .ok (.sipush 1000, 3) := by decide +kernel
theorem dX2_print_11 : decode cX2_print 11 = .ok (.invokestatic 35, 3) := by decide +kernel
theorem dX2_print_14 : decode cX2_print 14 = .ok (.ifCond .ne 13, 3) := by decide +kernel
theorem dX2_print_17 : decode cX2_print 17 = .ok (.new 50, 3) := by decide +kernel
theorem dX2_print_20 : decode cX2_print 20 = .ok (.dup, 1) := by decide +kernel
theorem dX2_print_21 : decode cX2_print 21 = .ok (.ldc 85, 2) := by decide +kernel
theorem dX2_print_23 : decode cX2_print 23 = .ok (.invokespecial 54, 3) := by decide +kernel
theorem dX2_print_26 : decode cX2_print 26 = .ok (.athrow, 1) := by decide +kernel
theorem dX2_print_27 : decode cX2_print 27 = .ok (.aload_n 3, 1) := by decide +kernel
theorem dX2_print_28 : decode cX2_print 28 = .ok (.invokevirtual 87, 3) := by decide +kernel
theorem dX2_print_31 : decode cX2_print 31 = .ok (.ifCond .ne 15, 3) := by decide +kernel
theorem dX2_print_34 : decode cX2_print 34 = .ok (.aload_n 3, 1) := by decide +kernel
theorem dX2_print_35 : decode cX2_print 35 = .ok (.invokevirtual 91, 3) := by decide +kernel
theorem dX2_print_38 : decode cX2_print 38 = .ok (.iload_n 2, 1) := by decide +kernel
theorem dX2_print_39 : decode cX2_print 39 = .ok (.iadd, 1) := by decide +kernel
theorem dX2_print_40 : decode cX2_print 40 = .ok (.sipush 2000, 3) := by decide +kernel
theorem dX2_print_43 : decode cX2_print 43 = .ok (.if_icmp .le 13, 3) := by decide +kernel
theorem dX2_print_46 : decode cX2_print 46 = .ok (.new 59, 3) := by decide +kernel
theorem dX2_print_49 : decode cX2_print 49 = .ok (.dup, 1) := by decide +kernel
theorem dX2_print_50 : decode cX2_print 50 = .ok (.ldc 95, 2) := by decide +kernel
theorem dX2_print_52 : decode cX2_print 52 = .ok (.invokespecial 63, 3) := by decide +kernel
theorem dX2_print_55 : decode cX2_print 55 = .ok (.athrow, 1) := by decide +kernel
theorem dX2_print_56 : decode cX2_print 56 = .ok (.aload_n 3, 1) := by decide +kernel
theorem dX2_print_57 : decode cX2_print 57 = .ok (.iload_n 2, 1) := by decide +kernel
theorem dX2_print_58 : decode cX2_print 58 = .ok (.invokevirtual 97, 3) := by decide +kernel
theorem dX2_print_61 : decode cX2_print 61 = .ok (.aload_n 3, 1) := by decide +kernel
theorem dX2_print_62 : decode cX2_print 62 = .ok (.getfield 101, 3) := by decide +kernel
theorem dX2_print_65 : decode cX2_print 65 = .ok (.ireturn, 1) := by decide +kernel
set_option maxRecDepth 20000 in
theorem ggX2_label_X2_findBrew : GoodIn wsX2_label wsX2_findBrew := goodIn_ca (goodIn_r _ [7, 1, 2, 8, 9, 10, 11, 6, 12, 13, 73, 74, 75, 76, 77, 78] (by decide +kernel) (by decide +kernel)) (goodIn_sub (fun _ h => List.mem_cons_of_mem _ (List.mem_append_right _ h)) (by decide +kernel))
set_option maxRecDepth 20000 in
theorem gX2_label_X2_findBrew : GoodIn wsX2_label (wsV RX2 81 RX2 yX2_findBrew wsX2_findBrew) := goodIn_app (goodIn_of _ (by decide +kernel)) ggX2_label_X2_findBrew
set_option maxRecDepth 20000 in
theorem ggX2_label_J0_length_8abf5 : GoodIn wsX2_label wsJ0_length_8abf5 := goodIn_r _ [18, 19, 20, 21, 22, 17, 23, 24, 25, 79, 80, 81, 82] (by decide +kernel) (by decide +kernel)
set_option maxRecDepth 20000 in
theorem gX2_label_J0_length_8abf5 : GoodIn wsX2_label (wsV RX2 110 RJ0 yJ0_length_8abf5 wsJ0_length_8abf5) := goodIn_app (goodIn_of _ (by decide +kernel)) ggX2_label_J0_length_8abf5
set_option maxRecDepth 20000 in
theorem ggX2_label_J0_charAt_5068e : GoodIn wsX2_label wsJ0_charAt_5068e := goodIn_r _ [29, 19, 30, 31, 32, 17, 33, 24, 25, 34, 35, 36, 37, 38, 39, 40, 41, 42, 43, 44, 45, 46, 47, 48, 49, 50, 51, 52, 53, 54, 55, 56, 57, 58, 59, 60, 61, 62, 79, 80, 81, 82] (by decide +kernel) (by decide +kernel)
set_option maxRecDepth 20000 in
theorem gX2_label_J0_charAt_5068e : GoodIn wsX2_label (wsV RX2 115 RJ0 yJ0_charAt_5068e wsJ0_charAt_5068e) := goodIn_app (goodIn_of _ (by decide +kernel)) ggX2_label_J0_charAt_5068e
theorem dX2_label_0 : decode cX2_label 0 = .ok (.aload_n 0, 1) := by decide +kernel
theorem dX2_label_1 : decode cX2_label 1 = .ok (.iload_n 1, 1) := by decide +kernel
theorem dX2_label_2 : decode cX2_label 2 = .ok (.invokevirtual 81, 3) := by decide +kernel
theorem dX2_label_5 : decode cX2_label 5 = .ok (.astore_n 3, 1) := by decide +kernel
theorem dX2_label_6 : decode cX2_label 6 = .ok (.iload_n 2, 1) := by decide +kernel
theorem dX2_label_7 : decode cX2_label 7 = .ok (.ifCond .ge 13, 3) := by decide +kernel
theorem dX2_label_10 : decode cX2_label 10 = .ok (.new 43, 3) := by decide +kernel
theorem dX2_label_13 : decode cX2_label 13 = .ok (.dup, 1) := by decide +kernel
theorem dX2_label_14 : decode cX2_label 14 = .ok (.ldc 104, 2) := by decide +kernel
theorem dX2_label_16 : decode cX2_label 16 = .ok (.invokespecial 47, 3) := by decide +kernel
theorem dX2_label_19 : decode cX2_label 19 = .ok (.athrow, 1) := by decide +kernel
theorem dX2_label_20 : decode cX2_label 20 = .ok (.aload_n 3, 1) := by decide +kernel
theorem dX2_label_21 : decode cX2_label 21 = .ok (.getfield 106, 3) := by decide +kernel
theorem dX2_label_24 : decode cX2_label 24 = .ok (.astore 4, 2) := by decide +kernel
theorem dX2_label_26 : decode cX2_label 26 = .ok (.iload_n 2, 1) := by decide +kernel
theorem dX2_label_27 : decode cX2_label 27 = .ok (.aload 4, 2) := by decide +kernel
theorem dX2_label_29 : decode cX2_label 29 = .ok (.invokevirtual 110, 3) := by decide +kernel
theorem dX2_label_32 : decode cX2_label 32 = .ok (.if_icmp .ge 12, 3) := by decide +kernel
theorem dX2_label_35 : decode cX2_label 35 = .ok (.aload 4, 2) := by decide +kernel
theorem dX2_label_37 : decode cX2_label 37 = .ok (.iload_n 2, 1) := by decide +kernel
theorem dX2_label_38 : decode cX2_label 38 = .ok (.invokevirtual 115, 3) := by decide +kernel
theorem dX2_label_41 : decode cX2_label 41 = .ok (.goto 4, 3) := by decide +kernel
theorem dX2_label_44 : decode cX2_label 44 = .ok (.iconst 0, 1) := by decide +kernel
theorem dX2_label_45 : decode cX2_label 45 = .ok (.ireturn, 1) := by decide +kernel
set_option maxRecDepth 20000 in
theorem ggX2_bottle_X2_findBrew : GoodIn wsX2_bottle wsX2_findBrew := goodIn_ca (goodIn_r _ [11, 12, 13, 14, 15, 16, 17, 10, 18, 19, 60, 61, 62, 63, 64, 65] (by decide +kernel) (by decide +kernel)) (goodIn_sub (fun _ h => List.mem_cons_of_mem _ (List.mem_append_right _ h)) (by decide +kernel))
set_option maxRecDepth 20000 in
theorem gX2_bottle_X2_findBrew : GoodIn wsX2_bottle (wsV RX2 81 RX2 yX2_findBrew wsX2_findBrew) := goodIn_app (goodIn_of _ (by decide +kernel)) ggX2_bottle_X2_findBrew
set_option maxRecDepth 20000 in
theorem ggX2_bottle_X2_isWithin : GoodIn wsX2_bottle wsX2_isWithin := goodIn_r _ [22] (by decide +kernel) (by decide +kernel)
set_option maxRecDepth 20000 in
theorem gX2_bottle_X2_isWithin : GoodIn wsX2_bottle (va_wsS RX2 35 yX2_isWithin wsX2_isWithin) := goodIn_app (goodIn_of _ (by decide +kernel)) ggX2_bottle_X2_isWithin
set_option maxRecDepth 20000 in
theorem ggX2_bottle_X0_isReady : GoodIn wsX2_bottle wsX0_isReady := goodIn_r _ [26, 27, 28, 29, 30, 24, 31, 32, 66, 67, 68, 69, 70, 71, 72, 73, 74, 75] (by decide +kernel) (by decide +kernel)
set_option maxRecDepth 20000 in
theorem gX2_bottle_X0_isReady_n119 : GoodIn wsX2_bottle (wsX0_isReady) := ggX2_bottle_X0_isReady
set_option maxRecDepth 20000 in
theorem ggX2_bottle_X0_labelsOfItsClass : GoodIn wsX2_bottle wsX0_labelsOfItsClass := goodIn_r _ [35, 36, 37, 38, 39, 40, 24, 41, 42, 43, 10, 44, 66, 67, 68, 69, 70, 71, 72, 73, 74, 75] (by decide +kernel) (by decide +kernel)
set_option maxRecDepth 20000 in
theorem gX2_bottle_X0_labelsOfItsClass_n91 : GoodIn wsX2_bottle (wsX0_labelsOfItsClass) := ggX2_bottle_X0_labelsOfItsClass
set_option maxRecDepth 20000 in
theorem ggX2_bottle_X0_fillBottles : GoodIn wsX2_bottle wsX0_fillBottles := goodIn_r _ [47, 32, 37, 38, 39, 40, 24, 41, 42, 43, 10, 44, 48, 49, 50, 51, 52, 66, 67, 68, 69, 70, 71, 72, 73, 74, 75] (by decide +kernel) (by decide +kernel)
set_option maxRecDepth 20000 in
theorem gX2_bottle_X0_fillBottles_n128 : GoodIn wsX2_bottle (wsX0_fillBottles) := ggX2_bottle_X0_fillBottles
set_option maxRecDepth 20000 in
theorem ggX2_bottle_X0_strengthClass : GoodIn wsX2_bottle wsX0_strengthClass := goodIn_r _ [41, 42, 43, 10, 44, 66, 67, 68, 69, 70, 71, 72, 73, 74, 75] (by decide +kernel) (by decide +kernel)
set_option maxRecDepth 20000 in
theorem gX2_bottle_X0_strengthClass_n131 : GoodIn wsX2_bottle (wsX0_strengthClass) := ggX2_bottle_X0_strengthClass
set_option maxRecDepth 20000 in
theorem ggX2_bottle_X2_stampOf : GoodIn wsX2_bottle wsX2_stampOf := goodIn_r _ [55, 56, 57, 58, 10, 59] (by decide +kernel) (by decide +kernel)
set_option maxRecDepth 20000 in
theorem gX2_bottle_X2_stampOf : GoodIn wsX2_bottle (va_wsS RX2 134 yX2_stampOf wsX2_stampOf) := goodIn_app (goodIn_of _ (by decide +kernel)) ggX2_bottle_X2_stampOf
theorem dX2_bottle_0 : decode cX2_bottle 0 = .ok (.aload_n 0, 1) := by decide +kernel
theorem dX2_bottle_1 : decode cX2_bottle 1 = .ok (.iload_n 1, 1) := by decide +kernel
theorem dX2_bottle_2 : decode cX2_bottle 2 = .ok (.invokevirtual 81, 3) := by decide +kernel
theorem dX2_bottle_5 : decode cX2_bottle 5 = .ok (.astore_n 3, 1) := by decide +kernel
theorem dX2_bottle_6 : decode cX2_bottle 6 = .ok (.iload_n 2, 1) := by decide +kernel
theorem dX2_bottle_7 : decode cX2_bottle 7 = .ok (.iconst 1, 1) := by decide +kernel
theorem dX2_bottle_8 : decode cX2_bottle 8 = .ok (.sipush 1000, 3) := by decide +kernel
theorem dX2_bottle_11 : decode cX2_bottle 11 = .ok (.invokestatic 35, 3) := by decide +kernel
theorem dX2_bottle_14 : decode cX2_bottle 14 = .ok (.ifCond .ne 13, 3) := by decide +kernel
theorem dX2_bottle_17 : decode cX2_bottle 17 = .ok (.new 50, 3) := by decide +kernel
theorem dX2_bottle_20 : decode cX2_bottle 20 = .ok (.dup, 1) := by decide +kernel
theorem dX2_bottle_21 : decode cX2_bottle 21 = .ok (.ldc 85, 2) := by decide +kernel
theorem dX2_bottle_23 : decode cX2_bottle 23 = .ok (.invokespecial 54, 3) := by decide +kernel
theorem dX2_bottle_26 : decode cX2_bottle 26 = .ok (.athrow, 1) := by decide +kernel
theorem dX2_bottle_27 : decode cX2_bottle 27 = .ok (.aload_n 3, 1) := by decide +kernel
theorem dX2_bottle_28 : decode cX2_bottle 28 = .ok (.aload_n 0, 1) := by decide +kernel
theorem dX2_bottle_29 : decode cX2_bottle 29 = .ok (.getfield 26, 3) := by decide +kernel
theorem dX2_bottle_32 : decode cX2_bottle 32 = .ok (.invokevirtual 119, 3) := by decide +kernel
theorem dX2_bottle_35 : decode cX2_bottle 35 = .ok (.ifCond .eq 19, 3) := by decide +kernel
theorem dX2_bottle_38 : decode cX2_bottle 38 = .ok (.aload_n 3, 1) := by decide +kernel
theorem dX2_bottle_39 : decode cX2_bottle 39 = .ok (.getfield 123, 3) := by decide +kernel
theorem dX2_bottle_42 : decode cX2_bottle 42 = .ok (.iload_n 2, 1) := by decide +kernel
theorem dX2_bottle_43 : decode cX2_bottle 43 = .ok (.if_icmp .lt 11, 3) := by decide +kernel
theorem dX2_bottle_46 : decode cX2_bottle 46 = .ok (.aload_n 3, 1) := by decide +kernel
theorem dX2_bottle_47 : decode cX2_bottle 47 = .ok (.invokevirtual 91, 3) := by decide +kernel
theorem dX2_bottle_50 : decode cX2_bottle 50 = .ok (.iload_n 2, 1) := by decide +kernel
theorem dX2_bottle_51 : decode cX2_bottle 51 = .ok (.if_icmp .ge 13, 3) := by decide +kernel
theorem dX2_bottle_54 : decode cX2_bottle 54 = .ok (.new 59, 3) := by decide +kernel
theorem dX2_bottle_57 : decode cX2_bottle 57 = .ok (.dup, 1) := by decide +kernel
theorem dX2_bottle_58 : decode cX2_bottle 58 = .ok (.ldc 126, 2) := by decide +kernel
theorem dX2_bottle_60 : decode cX2_bottle 60 = .ok (.invokespecial 63, 3) := by decide +kernel
theorem dX2_bottle_63 : decode cX2_bottle 63 = .ok (.athrow, 1) := by decide +kernel
theorem dX2_bottle_64 : decode cX2_bottle 64 = .ok (.aload_n 3, 1) := by decide +kernel
theorem dX2_bottle_65 : decode cX2_bottle 65 = .ok (.iload_n 2, 1) := by decide +kernel
theorem dX2_bottle_66 : decode cX2_bottle 66 = .ok (.invokevirtual 128, 3) := by decide +kernel
theorem dX2_bottle_69 : decode cX2_bottle 69 = .ok (.iload_n 2, 1) := by decide +kernel
theorem dX2_bottle_70 : decode cX2_bottle 70 = .ok (.aload_n 3, 1) := by decide +kernel
theorem dX2_bottle_71 : decode cX2_bottle 71 = .ok (.invokevirtual 131, 3) := by decide +kernel
theorem dX2_bottle_74 : decode cX2_bottle 74 = .ok (.invokestatic 134, 3) := by decide +kernel
theorem dX2_bottle_77 : decode cX2_bottle 77 = .ok (.imul, 1) := by decide +kernel
theorem dX2_bottle_78 : decode cX2_bottle 78 = .ok (.istore 4, 2) := by decide +kernel
theorem dX2_bottle_80 : decode cX2_bottle 80 = .ok (.aload_n 0, 1) := by decide +kernel
theorem dX2_bottle_81 : decode cX2_bottle 81 = .ok (.dup, 1) := by decide +kernel
theorem dX2_bottle_82 : decode cX2_bottle 82 = .ok (.getfield 29, 3) := by decide +kernel
theorem dX2_bottle_85 : decode cX2_bottle 85 = .ok (.iload 4, 2) := by decide +kernel
theorem dX2_bottle_87 : decode cX2_bottle 87 = .ok (.iadd, 1) := by decide +kernel
theorem dX2_bottle_88 : decode cX2_bottle 88 = .ok (.putfield 29, 3) := by decide +kernel
theorem dX2_bottle_91 : decode cX2_bottle 91 = .ok (.iload 4, 2) := by decide +kernel
theorem dX2_bottle_93 : decode cX2_bottle 93 = .ok (.ireturn, 1) := by decide +kernel
set_option maxRecDepth 20000 in
theorem ggX2_measure_X2_findBrew : GoodIn wsX2_measure wsX2_findBrew := goodIn_ca (goodIn_r _ [9, 10, 11, 12, 13, 14, 15, 8, 16, 17, 69, 70, 71, 72, 73, 74] (by decide +kernel) (by decide +kernel)) (goodIn_sub (fun _ h => List.mem_cons_of_mem _ (List.mem_append_right _ h)) (by decide +kernel))
set_option maxRecDepth 20000 in
theorem gX2_measure_X2_findBrew : GoodIn wsX2_measure (wsV RX2 81 RX2 yX2_findBrew wsX2_findBrew) := goodIn_app (goodIn_of _ (by decide +kernel)) ggX2_measure_X2_findBrew
set_option maxRecDepth 20000 in
theorem ggX2_measure_X2_isWithin : GoodIn wsX2_measure wsX2_isWithin := goodIn_r _ [20] (by decide +kernel) (by decide +kernel)
set_option maxRecDepth 20000 in
theorem gX2_measure_X2_isWithin : GoodIn wsX2_measure (va_wsS RX2 35 yX2_isWithin wsX2_isWithin) := goodIn_app (goodIn_of _ (by decide +kernel)) ggX2_measure_X2_isWithin
set_option maxRecDepth 20000 in
theorem ggX2_measure_X1_addStrength : GoodIn wsX2_measure wsX1_addStrength := goodIn_r _ [24, 25, 26, 27, 22, 28, 29, 30, 31, 32, 33, 34, 75, 76, 77, 78, 79, 80, 81] (by decide +kernel) (by decide +kernel)
set_option maxRecDepth 20000 in
theorem gX2_measure_X1_addStrength_n75 : GoodIn wsX2_measure (wsX1_addStrength) := ggX2_measure_X1_addStrength
set_option maxRecDepth 20000 in
theorem ggX2_measure_X0_setMeasured : GoodIn wsX2_measure wsX0_setMeasured := goodIn_r _ [38, 39, 40, 41, 42, 43, 44, 36, 45, 46, 8, 47, 48, 49, 50, 51, 52, 53, 54, 55, 56, 57, 58, 59, 60, 61, 62, 63, 64, 65, 66, 67, 68, 82, 83, 84, 85, 86, 87, 88, 89, 90, 91] (by decide +kernel) (by decide +kernel)
set_option maxRecDepth 20000 in
theorem gX2_measure_X0_setMeasured_n139 : GoodIn wsX2_measure (wsX0_setMeasured) := ggX2_measure_X0_setMeasured
theorem dX2_measure_0 : decode cX2_measure 0 = .ok (.aload_n 0, 1) := by decide +kernel
theorem dX2_measure_1 : decode cX2_measure 1 = .ok (.iload_n 1, 1) := by decide +kernel
theorem dX2_measure_2 : decode cX2_measure 2 = .ok (.invokevirtual 81, 3) := by decide +kernel
theorem dX2_measure_5 : decode cX2_measure 5 = .ok (.astore_n 3, 1) := by decide +kernel
theorem dX2_measure_6 : decode cX2_measure 6 = .ok (.iload_n 2, 1) := by decide +kernel
theorem dX2_measure_7 : decode cX2_measure 7 = .ok (.iconst 0, 1) := by decide +kernel
theorem dX2_measure_8 : decode cX2_measure 8 = .ok (.sipush 250, 3) := by decide +kernel
theorem dX2_measure_11 : decode cX2_measure 11 = .ok (.invokestatic 35, 3) := by decide +kernel
theorem dX2_measure_14 : decode cX2_measure 14 = .ok (.ifCond .ne 13, 3) := by decide +kernel
theorem dX2_measure_17 : decode cX2_measure 17 = .ok (.new 50, 3) := by decide +kernel
theorem dX2_measure_20 : decode cX2_measure 20 = .ok (.dup, 1) := by decide +kernel
theorem dX2_measure_21 : decode cX2_measure 21 = .ok (.ldc 137, 2) := by decide +kernel
theorem dX2_measure_23 : decode cX2_measure 23 = .ok (.invokespecial 54, 3) := by decide +kernel
theorem dX2_measure_26 : decode cX2_measure 26 = .ok (.athrow, 1) := by decide +kernel
theorem dX2_measure_27 : decode cX2_measure 27 = .ok (.aload_n 0, 1) := by decide +kernel
theorem dX2_measure_28 : decode cX2_measure 28 = .ok (.getfield 18, 3) := by decide +kernel
theorem dX2_measure_31 : decode cX2_measure 31 = .ok (.iload_n 1, 1) := by decide +kernel
theorem dX2_measure_32 : decode cX2_measure 32 = .ok (.iload_n 2, 1) := by decide +kernel
theorem dX2_measure_33 : decode cX2_measure 33 = .ok (.invokevirtual 75, 3) := by decide +kernel
theorem dX2_measure_36 : decode cX2_measure 36 = .ok (.aload_n 3, 1) := by decide +kernel
theorem dX2_measure_37 : decode cX2_measure 37 = .ok (.iload_n 2, 1) := by decide +kernel
theorem dX2_measure_38 : decode cX2_measure 38 = .ok (.invokevirtual 139, 3) := by decide +kernel
theorem dX2_measure_41 : decode cX2_measure 41 = .ok (.istore 4, 2) := by decide +kernel
theorem dX2_measure_43 : decode cX2_measure 43 = .ok (.aload_n 0, 1) := by decide +kernel
theorem dX2_measure_44 : decode cX2_measure 44 = .ok (.dup, 1) := by decide +kernel
theorem dX2_measure_45 : decode cX2_measure 45 = .ok (.getfield 32, 3) := by decide +kernel
theorem dX2_measure_48 : decode cX2_measure 48 = .ok (.iload 4, 2) := by decide +kernel
theorem dX2_measure_50 : decode cX2_measure 50 = .ok (.iadd, 1) := by decide +kernel
theorem dX2_measure_51 : decode cX2_measure 51 = .ok (.putfield 32, 3) := by decide +kernel
theorem dX2_measure_54 : decode cX2_measure 54 = .ok (.iload 4, 2) := by decide +kernel
theorem dX2_measure_56 : decode cX2_measure 56 = .ok (.ireturn, 1) := by decide +kernel
set_option maxRecDepth 20000 in
theorem ggX2_blend_X2_findBrew : GoodIn wsX2_blend wsX2_findBrew := goodIn_ca (goodIn_r _ [12, 13, 14, 15, 16, 17, 18, 11, 19, 20, 87, 88, 89, 90, 91, 92] (by decide +kernel) (by decide +kernel)) (goodIn_sub (fun _ h => List.mem_cons_of_mem _ (List.mem_append_right _ h)) (by decide +kernel))
set_option maxRecDepth 20000 in
theorem gX2_blend_X2_findBrew : GoodIn wsX2_blend (wsV RX2 81 RX2 yX2_findBrew wsX2_findBrew) := goodIn_app (goodIn_of _ (by decide +kernel)) ggX2_blend_X2_findBrew
set_option maxRecDepth 20000 in
theorem ggX2_blend_X2_isWithin : GoodIn wsX2_blend wsX2_isWithin := goodIn_r _ [23] (by decide +kernel) (by decide +kernel)
set_option maxRecDepth 20000 in
theorem gX2_blend_X2_isWithin : GoodIn wsX2_blend (va_wsS RX2 35 yX2_isWithin wsX2_isWithin) := goodIn_app (goodIn_of _ (by decide +kernel)) ggX2_blend_X2_isWithin
set_option maxRecDepth 20000 in
theorem ggX2_blend_X0_isReady : GoodIn wsX2_blend wsX0_isReady := goodIn_r _ [27, 28, 29, 30, 31, 25, 32, 33, 93, 94, 95, 96, 97, 98, 99, 100, 101, 102] (by decide +kernel) (by decide +kernel)
set_option maxRecDepth 20000 in
theorem gX2_blend_X0_isReady_n119 : GoodIn wsX2_blend (wsX0_isReady) := ggX2_blend_X0_isReady
set_option maxRecDepth 20000 in
theorem ggX2_blend_X1_addBlend : GoodIn wsX2_blend wsX1_addBlend := goodIn_r _ [37, 38, 39, 40, 35, 41, 42, 43, 44, 45, 46, 47, 103, 104, 105, 106, 107, 108, 109] (by decide +kernel) (by decide +kernel)
set_option maxRecDepth 20000 in
theorem gX2_blend_X1_addBlend_n146 : GoodIn wsX2_blend (wsX1_addBlend) := ggX2_blend_X1_addBlend
set_option maxRecDepth 20000 in
theorem ggX2_blend_X2_blendedStrength : GoodIn wsX2_blend wsX2_blendedStrength := goodIn_r _ [50] (by decide +kernel) (by decide +kernel)
set_option maxRecDepth 20000 in
theorem gX2_blend_X2_blendedStrength : GoodIn wsX2_blend (va_wsS RX2 152 yX2_blendedStrength wsX2_blendedStrength) := goodIn_app (goodIn_of _ (by decide +kernel)) ggX2_blend_X2_blendedStrength
set_option maxRecDepth 20000 in
theorem ggX2_blend_X0_setMeasured : GoodIn wsX2_blend wsX0_setMeasured := goodIn_r _ [53, 54, 55, 56, 57, 58, 59, 25, 60, 61, 11, 62, 63, 64, 65, 66, 67, 68, 69, 70, 71, 72, 73, 74, 75, 76, 77, 78, 79, 80, 81, 82, 83, 93, 94, 95, 96, 97, 98, 99, 100, 101, 102] (by decide +kernel) (by decide +kernel)
set_option maxRecDepth 20000 in
theorem gX2_blend_X0_setMeasured_n139 : GoodIn wsX2_blend (wsX0_setMeasured) := ggX2_blend_X0_setMeasured
set_option maxRecDepth 20000 in
theorem ggX2_blend_X0_setForetold : GoodIn wsX2_blend wsX0_setForetold := goodIn_r _ [86, 54, 55, 93, 94, 95, 96, 97, 98, 99, 100, 101, 102] (by decide +kernel) (by decide +kernel)
set_option maxRecDepth 20000 in
theorem gX2_blend_X0_setForetold_n160 : GoodIn wsX2_blend (wsX0_setForetold) := ggX2_blend_X0_setForetold
theorem dX2_blend_0 : decode cX2_blend 0 = .ok (.aload_n 0, 1) := by decide +kernel
theorem dX2_blend_1 : decode cX2_blend 1 = .ok (.iload_n 1, 1) := by decide +kernel
theorem dX2_blend_2 : decode cX2_blend 2 = .ok (.invokevirtual 81, 3) := by decide +kernel
theorem dX2_blend_5 : decode cX2_blend 5 = .ok (.astore 4, 2) := by decide +kernel
theorem dX2_blend_7 : decode cX2_blend 7 = .ok (.aload_n 0, 1) := by decide +kernel
theorem dX2_blend_8 : decode cX2_blend 8 = .ok (.iload_n 2, 1) := by decide +kernel
theorem dX2_blend_9 : decode cX2_blend 9 = .ok (.invokevirtual 81, 3) := by decide +kernel
theorem dX2_blend_12 : decode cX2_blend 12 = .ok (.astore 5, 2) := by decide +kernel
theorem dX2_blend_14 : decode cX2_blend 14 = .ok (.iload_n 1, 1) := by decide +kernel
theorem dX2_blend_15 : decode cX2_blend 15 = .ok (.iload_n 2, 1) := by decide +kernel
theorem dX2_blend_16 : decode cX2_blend 16 = .ok (.if_icmp .eq 14, 3) := by decide +kernel
theorem dX2_blend_19 : decode cX2_blend 19 = .ok (.iload_n 3, 1) := by decide +kernel
theorem dX2_blend_20 : decode cX2_blend 20 = .ok (.iconst 1, 1) := by decide +kernel
theorem dX2_blend_21 : decode cX2_blend 21 = .ok (.sipush 1000, 3) := by decide +kernel
theorem dX2_blend_24 : decode cX2_blend 24 = .ok (.invokestatic 35, 3) := by decide +kernel
theorem dX2_blend_27 : decode cX2_blend 27 = .ok (.ifCond .ne 13, 3) := by decide +kernel
theorem dX2_blend_30 : decode cX2_blend 30 = .ok (.new 50, 3) := by decide +kernel
theorem dX2_blend_33 : decode cX2_blend 33 = .ok (.dup, 1) := by decide +kernel
theorem dX2_blend_34 : decode cX2_blend 34 = .ok (.ldc 142, 2) := by decide +kernel
theorem dX2_blend_36 : decode cX2_blend 36 = .ok (.invokespecial 54, 3) := by decide +kernel
theorem dX2_blend_39 : decode cX2_blend 39 = .ok (.athrow, 1) := by decide +kernel
theorem dX2_blend_40 : decode cX2_blend 40 = .ok (.aload 4, 2) := by decide +kernel
theorem dX2_blend_42 : decode cX2_blend 42 = .ok (.aload_n 0, 1) := by decide +kernel
theorem dX2_blend_43 : decode cX2_blend 43 = .ok (.getfield 26, 3) := by decide +kernel
theorem dX2_blend_46 : decode cX2_blend 46 = .ok (.invokevirtual 119, 3) := by decide +kernel
theorem dX2_blend_49 : decode cX2_blend 49 = .ok (.ifCond .eq 37, 3) := by decide +kernel
theorem dX2_blend_52 : decode cX2_blend 52 = .ok (.aload 5, 2) := by decide +kernel
theorem dX2_blend_54 : decode cX2_blend 54 = .ok (.aload_n 0, 1) := by decide +kernel
theorem dX2_blend_55 : decode cX2_blend 55 = .ok (.getfield 26, 3) := by decide +kernel
theorem dX2_blend_58 : decode cX2_blend 58 = .ok (.invokevirtual 119, 3) := by decide +kernel
theorem dX2_blend_61 : decode cX2_blend 61 = .ok (.ifCond .eq 25, 3) := by decide +kernel
theorem dX2_blend_64 : decode cX2_blend 64 = .ok (.aload 5, 2) := by decide +kernel
theorem dX2_blend_66 : decode cX2_blend 66 = .ok (.getfield 123, 3) := by decide +kernel
theorem dX2_blend_69 : decode cX2_blend 69 = .ok (.iload_n 3, 1) := by decide +kernel
theorem dX2_blend_70 : decode cX2_blend 70 = .ok (.if_icmp .lt 16, 3) := by decide +kernel
theorem dX2_blend_73 : decode cX2_blend 73 = .ok (.aload 4, 2) := by decide +kernel
theorem dX2_blend_75 : decode cX2_blend 75 = .ok (.getfield 123, 3) := by decide +kernel
theorem dX2_blend_78 : decode cX2_blend 78 = .ok (.iload_n 3, 1) := by decide +kernel
theorem dX2_blend_79 : decode cX2_blend 79 = .ok (.iadd, 1) := by decide +kernel
theorem dX2_blend_80 : decode cX2_blend 80 = .ok (.sipush 1000, 3) := by decide +kernel
theorem dX2_blend_83 : decode cX2_blend 83 = .ok (.if_icmp .le 13, 3) := by decide +kernel
theorem dX2_blend_86 : decode cX2_blend 86 = .ok (.new 59, 3) := by decide +kernel
theorem dX2_blend_89 : decode cX2_blend 89 = .ok (.dup, 1) := by decide +kernel
theorem dX2_blend_90 : decode cX2_blend 90 = .ok (.ldc 144, 2) := by decide +kernel
theorem dX2_blend_92 : decode cX2_blend 92 = .ok (.invokespecial 63, 3) := by decide +kernel
theorem dX2_blend_95 : decode cX2_blend 95 = .ok (.athrow, 1) := by decide +kernel
theorem dX2_blend_96 : decode cX2_blend 96 = .ok (.aload_n 0, 1) := by decide +kernel
theorem dX2_blend_97 : decode cX2_blend 97 = .ok (.getfield 18, 3) := by decide +kernel
theorem dX2_blend_100 : decode cX2_blend 100 = .ok (.iload_n 1, 1) := by decide +kernel
theorem dX2_blend_101 : decode cX2_blend 101 = .ok (.iload_n 2, 1) := by decide +kernel
theorem dX2_blend_102 : decode cX2_blend 102 = .ok (.aload 4, 2) := by decide +kernel
theorem dX2_blend_104 : decode cX2_blend 104 = .ok (.getfield 123, 3) := by decide +kernel
theorem dX2_blend_107 : decode cX2_blend 107 = .ok (.iload_n 3, 1) := by decide +kernel
theorem dX2_blend_108 : decode cX2_blend 108 = .ok (.invokevirtual 146, 3) := by decide +kernel
theorem dX2_blend_111 : decode cX2_blend 111 = .ok (.aload 4, 2) := by decide +kernel
theorem dX2_blend_113 : decode cX2_blend 113 = .ok (.getfield 149, 3) := by decide +kernel
theorem dX2_blend_116 : decode cX2_blend 116 = .ok (.aload 4, 2) := by decide +kernel
theorem dX2_blend_118 : decode cX2_blend 118 = .ok (.getfield 123, 3) := by decide +kernel
theorem dX2_blend_121 : decode cX2_blend 121 = .ok (.aload 5, 2) := by decide +kernel
theorem dX2_blend_123 : decode cX2_blend 123 = .ok (.getfield 149, 3) := by decide +kernel
theorem dX2_blend_126 : decode cX2_blend 126 = .ok (.iload_n 3, 1) := by decide +kernel
theorem dX2_blend_127 : decode cX2_blend 127 = .ok (.invokestatic 152, 3) := by decide +kernel
theorem dX2_blend_130 : decode cX2_blend 130 = .ok (.istore 6, 2) := by decide +kernel
theorem dX2_blend_132 : decode cX2_blend 132 = .ok (.aload 4, 2) := by decide +kernel
theorem dX2_blend_134 : decode cX2_blend 134 = .ok (.dup, 1) := by decide +kernel
theorem dX2_blend_135 : decode cX2_blend 135 = .ok (.getfield 123, 3) := by decide +kernel
theorem dX2_blend_138 : decode cX2_blend 138 = .ok (.iload_n 3, 1) := by decide +kernel
theorem dX2_blend_139 : decode cX2_blend 139 = .ok (.iadd, 1) := by decide +kernel
theorem dX2_blend_140 : decode cX2_blend 140 = .ok (.putfield 123, 3) := by decide +kernel
theorem dX2_blend_143 : decode cX2_blend 143 = .ok (.aload 5, 2) := by decide +kernel
theorem dX2_blend_145 : decode cX2_blend 145 = .ok (.dup, 1) := by decide +kernel
theorem dX2_blend_146 : decode cX2_blend 146 = .ok (.getfield 123, 3) := by decide +kernel
theorem dX2_blend_149 : decode cX2_blend 149 = .ok (.iload_n 3, 1) := by decide +kernel
theorem dX2_blend_150 : decode cX2_blend 150 = .ok (.isub, 1) := by decide +kernel
theorem dX2_blend_151 : decode cX2_blend 151 = .ok (.putfield 123, 3) := by decide +kernel
theorem dX2_blend_154 : decode cX2_blend 154 = .ok (.aload 4, 2) := by decide +kernel
theorem dX2_blend_156 : decode cX2_blend 156 = .ok (.getfield 156, 3) := by decide +kernel
theorem dX2_blend_159 : decode cX2_blend 159 = .ok (.ifCond .eq 30, 3) := by decide +kernel
theorem dX2_blend_162 : decode cX2_blend 162 = .ok (.aload 5, 2) := by decide +kernel
theorem dX2_blend_164 : decode cX2_blend 164 = .ok (.getfield 156, 3) := by decide +kernel
theorem dX2_blend_167 : decode cX2_blend 167 = .ok (.ifCond .eq 22, 3) := by decide +kernel
theorem dX2_blend_170 : decode cX2_blend 170 = .ok (.aload_n 0, 1) := by decide +kernel
theorem dX2_blend_171 : decode cX2_blend 171 = .ok (.dup, 1) := by decide +kernel
theorem dX2_blend_172 : decode cX2_blend 172 = .ok (.getfield 32, 3) := by decide +kernel
theorem dX2_blend_175 : decode cX2_blend 175 = .ok (.aload 4, 2) := by decide +kernel
theorem dX2_blend_177 : decode cX2_blend 177 = .ok (.iload 6, 2) := by decide +kernel
theorem dX2_blend_179 : decode cX2_blend 179 = .ok (.invokevirtual 139, 3) := by decide +kernel
theorem dX2_blend_182 : decode cX2_blend 182 = .ok (.iadd, 1) := by decide +kernel
theorem dX2_blend_183 : decode cX2_blend 183 = .ok (.putfield 32, 3) := by decide +kernel
theorem dX2_blend_186 : decode cX2_blend 186 = .ok (.goto 10, 3) := by decide +kernel
theorem dX2_blend_189 : decode cX2_blend 189 = .ok (.aload 4, 2) := by decide +kernel
theorem dX2_blend_191 : decode cX2_blend 191 = .ok (.iload 6, 2) := by decide +kernel
theorem dX2_blend_193 : decode cX2_blend 193 = .ok (.invokevirtual 160, 3) := by decide +kernel
theorem dX2_blend_196 : decode cX2_blend 196 = .ok (.iload 6, 2) := by decide +kernel
theorem dX2_blend_198 : decode cX2_blend 198 = .ok (.ireturn, 1) := by decide +kernel
set_option maxRecDepth 20000 in
theorem ggX2_ofBrew_X2_findBrew : GoodIn wsX2_ofBrew wsX2_findBrew := goodIn_ca (goodIn_r _ [8, 9, 10, 11, 12, 13, 14, 7, 15, 16, 47, 48, 49, 50, 51, 52] (by decide +kernel) (by decide +kernel)) (goodIn_sub (fun _ h => List.mem_cons_of_mem _ (List.mem_append_right _ h)) (by decide +kernel))
set_option maxRecDepth 20000 in
theorem gX2_ofBrew_X2_findBrew : GoodIn wsX2_ofBrew (wsV RX2 81 RX2 yX2_findBrew wsX2_findBrew) := goodIn_app (goodIn_of _ (by decide +kernel)) ggX2_ofBrew_X2_findBrew
set_option maxRecDepth 20000 in
theorem ggX2_ofBrew_X0_strengthClass : GoodIn wsX2_ofBrew wsX0_strengthClass := goodIn_r _ [20, 21, 22, 7, 23, 37, 38, 39, 40, 41, 42, 43, 44, 45, 46] (by decide +kernel) (by decide +kernel)
set_option maxRecDepth 20000 in
theorem gX2_ofBrew_X0_strengthClass_n131 : GoodIn wsX2_ofBrew (wsX0_strengthClass) := ggX2_ofBrew_X0_strengthClass
set_option maxRecDepth 20000 in
theorem ggX2_ofBrew_X0_countBottles : GoodIn wsX2_ofBrew wsX0_countBottles := goodIn_r _ [26, 27, 37, 38, 39, 40, 41, 42, 43, 44, 45, 46] (by decide +kernel) (by decide +kernel)
set_option maxRecDepth 20000 in
theorem gX2_ofBrew_X0_countBottles_n169 : GoodIn wsX2_ofBrew (wsX0_countBottles) := ggX2_ofBrew_X0_countBottles
set_option maxRecDepth 20000 in
theorem ggX2_ofBrew_X0_isGone : GoodIn wsX2_ofBrew wsX0_isGone := goodIn_r _ [30, 31, 37, 38, 39, 40, 41, 42, 43, 44, 45, 46] (by decide +kernel) (by decide +kernel)
set_option maxRecDepth 20000 in
theorem gX2_ofBrew_X0_isGone_n87 : GoodIn wsX2_ofBrew (wsX0_isGone) := ggX2_ofBrew_X0_isGone
set_option maxRecDepth 20000 in
theorem ggX2_ofBrew_X0_isReady : GoodIn wsX2_ofBrew wsX0_isReady := goodIn_r _ [34, 35, 36, 28, 29, 18, 30, 31, 37, 38, 39, 40, 41, 42, 43, 44, 45, 46] (by decide +kernel) (by decide +kernel)
set_option maxRecDepth 20000 in
theorem gX2_ofBrew_X0_isReady_n119 : GoodIn wsX2_ofBrew (wsX0_isReady) := ggX2_ofBrew_X0_isReady
theorem dX2_ofBrew_0 : decode cX2_ofBrew 0 = .ok (.aload_n 0, 1) := by decide +kernel
theorem dX2_ofBrew_1 : decode cX2_ofBrew 1 = .ok (.iload_n 1, 1) := by decide +kernel
theorem dX2_ofBrew_2 : decode cX2_ofBrew 2 = .ok (.invokevirtual 81, 3) := by decide +kernel
theorem dX2_ofBrew_5 : decode cX2_ofBrew 5 = .ok (.astore_n 3, 1) := by decide +kernel
theorem dX2_ofBrew_6 : decode cX2_ofBrew 6 = .ok (.iload_n 2, 1) := by decide +kernel
theorem dX2_ofBrew_7 : decode cX2_ofBrew 7 = .ok (.tableswitch 125 0 8 #[49, 54, 59, 64, 77, 82, 87, 92, 97], 49) := by decide +kernel
theorem dX2_ofBrew_56 : decode cX2_ofBrew 56 = .ok (.aload_n 3, 1) := by decide +kernel
theorem dX2_ofBrew_57 : decode cX2_ofBrew 57 = .ok (.getfield 163, 3) := by decide +kernel
theorem dX2_ofBrew_60 : decode cX2_ofBrew 60 = .ok (.ireturn, 1) := by decide +kernel
theorem dX2_ofBrew_61 : decode cX2_ofBrew 61 = .ok (.aload_n 3, 1) := by decide +kernel
theorem dX2_ofBrew_62 : decode cX2_ofBrew 62 = .ok (.getfield 123, 3) := by decide +kernel
theorem dX2_ofBrew_65 : decode cX2_ofBrew 65 = .ok (.ireturn, 1) := by decide +kernel
theorem dX2_ofBrew_66 : decode cX2_ofBrew 66 = .ok (.aload_n 3, 1) := by decide +kernel
theorem dX2_ofBrew_67 : decode cX2_ofBrew 67 = .ok (.getfield 149, 3) := by decide +kernel
theorem dX2_ofBrew_70 : decode cX2_ofBrew 70 = .ok (.ireturn, 1) := by decide +kernel
theorem dX2_ofBrew_71 : decode cX2_ofBrew 71 = .ok (.aload_n 3, 1) := by decide +kernel
theorem dX2_ofBrew_72 : decode cX2_ofBrew 72 = .ok (.getfield 156, 3) := by decide +kernel
theorem dX2_ofBrew_75 : decode cX2_ofBrew 75 = .ok (.ifCond .eq 7, 3) := by decide +kernel
theorem dX2_ofBrew_78 : decode cX2_ofBrew 78 = .ok (.iconst 1, 1) := by decide +kernel
theorem dX2_ofBrew_79 : decode cX2_ofBrew 79 = .ok (.goto 4, 3) := by decide +kernel
theorem dX2_ofBrew_82 : decode cX2_ofBrew 82 = .ok (.iconst 0, 1) := by decide +kernel
theorem dX2_ofBrew_83 : decode cX2_ofBrew 83 = .ok (.ireturn, 1) := by decide +kernel
theorem dX2_ofBrew_84 : decode cX2_ofBrew 84 = .ok (.aload_n 3, 1) := by decide +kernel
theorem dX2_ofBrew_85 : decode cX2_ofBrew 85 = .ok (.invokevirtual 131, 3) := by decide +kernel
theorem dX2_ofBrew_88 : decode cX2_ofBrew 88 = .ok (.ireturn, 1) := by decide +kernel
theorem dX2_ofBrew_89 : decode cX2_ofBrew 89 = .ok (.aload_n 3, 1) := by decide +kernel
theorem dX2_ofBrew_90 : decode cX2_ofBrew 90 = .ok (.getfield 101, 3) := by decide +kernel
theorem dX2_ofBrew_93 : decode cX2_ofBrew 93 = .ok (.ireturn, 1) := by decide +kernel
theorem dX2_ofBrew_94 : decode cX2_ofBrew 94 = .ok (.aload_n 3, 1) := by decide +kernel
theorem dX2_ofBrew_95 : decode cX2_ofBrew 95 = .ok (.getfield 166, 3) := by decide +kernel
theorem dX2_ofBrew_98 : decode cX2_ofBrew 98 = .ok (.ireturn, 1) := by decide +kernel
theorem dX2_ofBrew_99 : decode cX2_ofBrew 99 = .ok (.aload_n 3, 1) := by decide +kernel
theorem dX2_ofBrew_100 : decode cX2_ofBrew 100 = .ok (.invokevirtual 169, 3) := by decide +kernel
theorem dX2_ofBrew_103 : decode cX2_ofBrew 103 = .ok (.ireturn, 1) := by decide +kernel
theorem dX2_ofBrew_104 : decode cX2_ofBrew 104 = .ok (.aload_n 3, 1) := by decide +kernel
theorem dX2_ofBrew_105 : decode cX2_ofBrew 105 = .ok (.invokevirtual 87, 3) := by decide +kernel
theorem dX2_ofBrew_108 : decode cX2_ofBrew 108 = .ok (.ifCond .eq 7, 3) := by decide +kernel
theorem dX2_ofBrew_111 : decode cX2_ofBrew 111 = .ok (.iconst 2, 1) := by decide +kernel
theorem dX2_ofBrew_112 : decode cX2_ofBrew 112 = .ok (.goto 19, 3) := by decide +kernel
theorem dX2_ofBrew_115 : decode cX2_ofBrew 115 = .ok (.aload_n 3, 1) := by decide +kernel
theorem dX2_ofBrew_116 : decode cX2_ofBrew 116 = .ok (.aload_n 0, 1) := by decide +kernel
theorem dX2_ofBrew_117 : decode cX2_ofBrew 117 = .ok (.getfield 26, 3) := by decide +kernel
theorem dX2_ofBrew_120 : decode cX2_ofBrew 120 = .ok (.invokevirtual 119, 3) := by decide +kernel
theorem dX2_ofBrew_123 : decode cX2_ofBrew 123 = .ok (.ifCond .eq 7, 3) := by decide +kernel
theorem dX2_ofBrew_126 : decode cX2_ofBrew 126 = .ok (.iconst 1, 1) := by decide +kernel
theorem dX2_ofBrew_127 : decode cX2_ofBrew 127 = .ok (.goto 4, 3) := by decide +kernel
theorem dX2_ofBrew_130 : decode cX2_ofBrew 130 = .ok (.iconst 0, 1) := by decide +kernel
theorem dX2_ofBrew_131 : decode cX2_ofBrew 131 = .ok (.ireturn, 1) := by decide +kernel
theorem dX2_ofBrew_132 : decode cX2_ofBrew 132 = .ok (.new 50, 3) := by decide +kernel
theorem dX2_ofBrew_135 : decode cX2_ofBrew 135 = .ok (.dup, 1) := by decide +kernel
theorem dX2_ofBrew_136 : decode cX2_ofBrew 136 = .ok (.ldc 172, 2) := by decide +kernel
theorem dX2_ofBrew_138 : decode cX2_ofBrew 138 = .ok (.invokespecial 54, 3) := by decide +kernel
theorem dX2_ofBrew_141 : decode cX2_ofBrew 141 = .ok (.athrow, 1) := by decide +kernel
set_option maxRecDepth 20000 in
theorem ggX2_classAnew_X2_isBegun : GoodIn wsX2_classAnew wsX2_isBegun := goodIn_r _ [8, 9, 32, 33, 34, 35, 36, 37] (by decide +kernel) (by decide +kernel)
set_option maxRecDepth 20000 in
theorem gX2_classAnew_X2_isBegun : GoodIn wsX2_classAnew (wsV RX2 174 RX2 yX2_isBegun wsX2_isBegun) := goodIn_app (goodIn_of _ (by decide +kernel)) ggX2_classAnew_X2_isBegun
set_option maxRecDepth 20000 in
theorem ggX2_classAnew_X1_strengthAnew : GoodIn wsX2_classAnew wsX1_strengthAnew := goodIn_r _ [13, 14, 15, 16, 17, 18, 19, 11, 20, 21, 22, 23, 24, 25, 7, 26, 27, 28, 38, 39, 40, 41, 42, 43, 44] (by decide +kernel) (by decide +kernel)
set_option maxRecDepth 20000 in
theorem gX2_classAnew_X1_strengthAnew_n179 : GoodIn wsX2_classAnew (wsX1_strengthAnew) := ggX2_classAnew_X1_strengthAnew
set_option maxRecDepth 20000 in
theorem ggX2_classAnew_X2_classOf : GoodIn wsX2_classAnew wsX2_classOf := goodIn_r _ [31] (by decide +kernel) (by decide +kernel)
set_option maxRecDepth 20000 in
theorem gX2_classAnew_X2_classOf : GoodIn wsX2_classAnew (va_wsS RX2 182 yX2_classOf wsX2_classOf) := goodIn_app (goodIn_of _ (by decide +kernel)) ggX2_classAnew_X2_classOf
theorem dX2_classAnew_0 : decode cX2_classAnew 0 = .ok (.aload_n 0, 1) := by decide +kernel
theorem dX2_classAnew_1 : decode cX2_classAnew 1 = .ok (.iload_n 1, 1) := by decide +kernel
theorem dX2_classAnew_2 : decode cX2_classAnew 2 = .ok (.invokevirtual 174, 3) := by decide +kernel
theorem dX2_classAnew_5 : decode cX2_classAnew 5 = .ok (.ifCond .ne 13, 3) := by decide +kernel
theorem dX2_classAnew_8 : decode cX2_classAnew 8 = .ok (.new 43, 3) := by decide +kernel
theorem dX2_classAnew_11 : decode cX2_classAnew 11 = .ok (.dup, 1) := by decide +kernel
theorem dX2_classAnew_12 : decode cX2_classAnew 12 = .ok (.ldc 177, 2) := by decide +kernel
theorem dX2_classAnew_14 : decode cX2_classAnew 14 = .ok (.invokespecial 47, 3) := by decide +kernel
theorem dX2_classAnew_17 : decode cX2_classAnew 17 = .ok (.athrow, 1) := by decide +kernel
theorem dX2_classAnew_18 : decode cX2_classAnew 18 = .ok (.aload_n 0, 1) := by decide +kernel
theorem dX2_classAnew_19 : decode cX2_classAnew 19 = .ok (.getfield 18, 3) := by decide +kernel
theorem dX2_classAnew_22 : decode cX2_classAnew 22 = .ok (.iload_n 1, 1) := by decide +kernel
theorem dX2_classAnew_23 : decode cX2_classAnew 23 = .ok (.invokevirtual 179, 3) := by decide +kernel
theorem dX2_classAnew_26 : decode cX2_classAnew 26 = .ok (.invokestatic 182, 3) := by decide +kernel
theorem dX2_classAnew_29 : decode cX2_classAnew 29 = .ok (.ireturn, 1) := by decide +kernel
set_option maxRecDepth 20000 in
theorem ggX2_inTank_X2_isWithin : GoodIn wsX2_inTank wsX2_isWithin := goodIn_r _ [6] (by decide +kernel) (by decide +kernel)
set_option maxRecDepth 20000 in
theorem gX2_inTank_X2_isWithin : GoodIn wsX2_inTank (va_wsS RX2 35 yX2_isWithin wsX2_isWithin) := goodIn_app (goodIn_of _ (by decide +kernel)) ggX2_inTank_X2_isWithin
set_option maxRecDepth 20000 in
theorem ggX2_inTank_X2_brewIn : GoodIn wsX2_inTank wsX2_brewIn := goodIn_r _ [10, 11, 12, 13, 14, 15, 16, 17, 18, 19, 20, 21, 22, 23, 24, 25, 26, 27, 28, 29, 30, 31, 32, 33] (by decide +kernel) (by decide +kernel)
set_option maxRecDepth 20000 in
theorem gX2_inTank_X2_brewIn : GoodIn wsX2_inTank (wsV RX2 55 RX2 yX2_brewIn wsX2_brewIn) := goodIn_app (goodIn_of _ (by decide +kernel)) ggX2_inTank_X2_brewIn
theorem dX2_inTank_0 : decode cX2_inTank 0 = .ok (.iload_n 1, 1) := by decide +kernel
theorem dX2_inTank_1 : decode cX2_inTank 1 = .ok (.iconst 0, 1) := by decide +kernel
theorem dX2_inTank_2 : decode cX2_inTank 2 = .ok (.bipush 7, 2) := by decide +kernel
theorem dX2_inTank_4 : decode cX2_inTank 4 = .ok (.invokestatic 35, 3) := by decide +kernel
theorem dX2_inTank_7 : decode cX2_inTank 7 = .ok (.ifCond .ne 13, 3) := by decide +kernel
theorem dX2_inTank_10 : decode cX2_inTank 10 = .ok (.new 43, 3) := by decide +kernel
theorem dX2_inTank_13 : decode cX2_inTank 13 = .ok (.dup, 1) := by decide +kernel
theorem dX2_inTank_14 : decode cX2_inTank 14 = .ok (.ldc 185, 2) := by decide +kernel
theorem dX2_inTank_16 : decode cX2_inTank 16 = .ok (.invokespecial 47, 3) := by decide +kernel
theorem dX2_inTank_19 : decode cX2_inTank 19 = .ok (.athrow, 1) := by decide +kernel
theorem dX2_inTank_20 : decode cX2_inTank 20 = .ok (.aload_n 0, 1) := by decide +kernel
theorem dX2_inTank_21 : decode cX2_inTank 21 = .ok (.iload_n 1, 1) := by decide +kernel
theorem dX2_inTank_22 : decode cX2_inTank 22 = .ok (.invokevirtual 55, 3) := by decide +kernel
theorem dX2_inTank_25 : decode cX2_inTank 25 = .ok (.ireturn, 1) := by decide +kernel
theorem dX2_paid_0 : decode cX2_paid 0 = .ok (.aload_n 0, 1) := by decide +kernel
theorem dX2_paid_1 : decode cX2_paid 1 = .ok (.getfield 29, 3) := by decide +kernel
theorem dX2_paid_4 : decode cX2_paid 4 = .ok (.ireturn, 1) := by decide +kernel
theorem dX2_owed_0 : decode cX2_owed 0 = .ok (.aload_n 0, 1) := by decide +kernel
theorem dX2_owed_1 : decode cX2_owed 1 = .ok (.getfield 32, 3) := by decide +kernel
theorem dX2_owed_4 : decode cX2_owed 4 = .ok (.ireturn, 1) := by decide +kernel
set_option maxRecDepth 20000 in
theorem ggX2_pay_X2_isWithin : GoodIn wsX2_pay wsX2_isWithin := goodIn_r _ [12] (by decide +kernel) (by decide +kernel)
set_option maxRecDepth 20000 in
theorem gX2_pay_X2_isWithin : GoodIn wsX2_pay (va_wsS RX2 35 yX2_isWithin wsX2_isWithin) := goodIn_app (goodIn_of _ (by decide +kernel)) ggX2_pay_X2_isWithin
theorem dX2_pay_0 : decode cX2_pay 0 = .ok (.iload_n 1, 1) := by decide +kernel
theorem dX2_pay_1 : decode cX2_pay 1 = .ok (.iconst 1, 1) := by decide +kernel
theorem dX2_pay_2 : decode cX2_pay 2 = .ok (.ldc 187, 2) := by decide +kernel
theorem dX2_pay_4 : decode cX2_pay 4 = .ok (.invokestatic 35, 3) := by decide +kernel
theorem dX2_pay_7 : decode cX2_pay 7 = .ok (.ifCond .ne 13, 3) := by decide +kernel
theorem dX2_pay_10 : decode cX2_pay 10 = .ok (.new 50, 3) := by decide +kernel
theorem dX2_pay_13 : decode cX2_pay 13 = .ok (.dup, 1) := by decide +kernel
theorem dX2_pay_14 : decode cX2_pay 14 = .ok (.ldc 188, 2) := by decide +kernel
theorem dX2_pay_16 : decode cX2_pay 16 = .ok (.invokespecial 54, 3) := by decide +kernel
theorem dX2_pay_19 : decode cX2_pay 19 = .ok (.athrow, 1) := by decide +kernel
theorem dX2_pay_20 : decode cX2_pay 20 = .ok (.iload_n 1, 1) := by decide +kernel
theorem dX2_pay_21 : decode cX2_pay 21 = .ok (.aload_n 0, 1) := by decide +kernel
theorem dX2_pay_22 : decode cX2_pay 22 = .ok (.getfield 32, 3) := by decide +kernel
theorem dX2_pay_25 : decode cX2_pay 25 = .ok (.invokestatic 190, 3) := by decide +kernel
theorem dX2_pay_28 : decode cX2_pay 28 = .ok (.istore_n 2, 1) := by decide +kernel
theorem dX2_pay_29 : decode cX2_pay 29 = .ok (.aload_n 0, 1) := by decide +kernel
theorem dX2_pay_30 : decode cX2_pay 30 = .ok (.dup, 1) := by decide +kernel
theorem dX2_pay_31 : decode cX2_pay 31 = .ok (.getfield 32, 3) := by decide +kernel
theorem dX2_pay_34 : decode cX2_pay 34 = .ok (.iload_n 2, 1) := by decide +kernel
theorem dX2_pay_35 : decode cX2_pay 35 = .ok (.isub, 1) := by decide +kernel
theorem dX2_pay_36 : decode cX2_pay 36 = .ok (.putfield 32, 3) := by decide +kernel
theorem dX2_pay_39 : decode cX2_pay 39 = .ok (.iload_n 2, 1) := by decide +kernel
theorem dX2_pay_40 : decode cX2_pay 40 = .ok (.ireturn, 1) := by decide +kernel
theorem dX2_isBegun_0 : decode cX2_isBegun 0 = .ok (.iload_n 1, 1) := by decide +kernel
theorem dX2_isBegun_1 : decode cX2_isBegun 1 = .ok (.ifCond .lt 15, 3) := by decide +kernel
theorem dX2_isBegun_4 : decode cX2_isBegun 4 = .ok (.iload_n 1, 1) := by decide +kernel
theorem dX2_isBegun_5 : decode cX2_isBegun 5 = .ok (.aload_n 0, 1) := by decide +kernel
theorem dX2_isBegun_6 : decode cX2_isBegun 6 = .ok (.getfield 22, 3) := by decide +kernel
theorem dX2_isBegun_9 : decode cX2_isBegun 9 = .ok (.if_icmp .ge 7, 3) := by decide +kernel
theorem dX2_isBegun_12 : decode cX2_isBegun 12 = .ok (.iconst 1, 1) := by decide +kernel
theorem dX2_isBegun_13 : decode cX2_isBegun 13 = .ok (.goto 4, 3) := by decide +kernel
theorem dX2_isBegun_16 : decode cX2_isBegun 16 = .ok (.iconst 0, 1) := by decide +kernel
theorem dX2_isBegun_17 : decode cX2_isBegun 17 = .ok (.ireturn, 1) := by decide +kernel
set_option maxRecDepth 20000 in
theorem ggX2_findBrew_X2_isBegun : GoodIn wsX2_findBrew wsX2_isBegun := goodIn_r _ [8, 9, 10, 11, 12, 13, 14, 15] (by decide +kernel) (by decide +kernel)
set_option maxRecDepth 20000 in
theorem gX2_findBrew_X2_isBegun : GoodIn wsX2_findBrew (wsV RX2 174 RX2 yX2_isBegun wsX2_isBegun) := goodIn_app (goodIn_of _ (by decide +kernel)) ggX2_findBrew_X2_isBegun
theorem dX2_findBrew_0 : decode cX2_findBrew 0 = .ok (.aload_n 0, 1) := by decide +kernel
theorem dX2_findBrew_1 : decode cX2_findBrew 1 = .ok (.iload_n 1, 1) := by decide +kernel
theorem dX2_findBrew_2 : decode cX2_findBrew 2 = .ok (.invokevirtual 174, 3) := by decide +kernel
theorem dX2_findBrew_5 : decode cX2_findBrew 5 = .ok (.ifCond .eq 21, 3) := by decide +kernel
theorem dX2_findBrew_8 : decode cX2_findBrew 8 = .ok (.iload_n 1, 1) := by decide +kernel
theorem dX2_findBrew_9 : decode cX2_findBrew 9 = .ok (.aload_n 0, 1) := by decide +kernel
theorem dX2_findBrew_10 : decode cX2_findBrew 10 = .ok (.getfield 11, 3) := by decide +kernel
theorem dX2_findBrew_13 : decode cX2_findBrew 13 = .ok (.arraylength, 1) := by decide +kernel
theorem dX2_findBrew_14 : decode cX2_findBrew 14 = .ok (.if_icmp .ge 12, 3) := by decide +kernel
theorem dX2_findBrew_17 : decode cX2_findBrew 17 = .ok (.aload_n 0, 1) := by decide +kernel
theorem dX2_findBrew_18 : decode cX2_findBrew 18 = .ok (.getfield 11, 3) := by decide +kernel
theorem dX2_findBrew_21 : decode cX2_findBrew 21 = .ok (.iload_n 1, 1) := by decide +kernel
theorem dX2_findBrew_22 : decode cX2_findBrew 22 = .ok (.aaload, 1) := by decide +kernel
theorem dX2_findBrew_23 : decode cX2_findBrew 23 = .ok (.goto 4, 3) := by decide +kernel
theorem dX2_findBrew_26 : decode cX2_findBrew 26 = .ok (.aconst_null, 1) := by decide +kernel
theorem dX2_findBrew_27 : decode cX2_findBrew 27 = .ok (.astore_n 2, 1) := by decide +kernel
theorem dX2_findBrew_28 : decode cX2_findBrew 28 = .ok (.aload_n 2, 1) := by decide +kernel
theorem dX2_findBrew_29 : decode cX2_findBrew 29 = .ok (.ifnonnull 13, 3) := by decide +kernel
theorem dX2_findBrew_32 : decode cX2_findBrew 32 = .ok (.new 43, 3) := by decide +kernel
theorem dX2_findBrew_35 : decode cX2_findBrew 35 = .ok (.dup, 1) := by decide +kernel
theorem dX2_findBrew_36 : decode cX2_findBrew 36 = .ok (.ldc 177, 2) := by decide +kernel
theorem dX2_findBrew_38 : decode cX2_findBrew 38 = .ok (.invokespecial 47, 3) := by decide +kernel
theorem dX2_findBrew_41 : decode cX2_findBrew 41 = .ok (.athrow, 1) := by decide +kernel
theorem dX2_findBrew_42 : decode cX2_findBrew 42 = .ok (.aload_n 2, 1) := by decide +kernel
theorem dX2_findBrew_43 : decode cX2_findBrew 43 = .ok (.areturn, 1) := by decide +kernel
set_option maxRecDepth 20000 in
theorem ggX2_brewIn_X0_isGone : GoodIn wsX2_brewIn wsX0_isGone := goodIn_r _ [6, 7, 14, 15, 16, 17, 18, 19, 20, 21, 22, 23] (by decide +kernel) (by decide +kernel)
set_option maxRecDepth 20000 in
theorem gX2_brewIn_X0_isGone_n87 : GoodIn wsX2_brewIn (wsX0_isGone) := ggX2_brewIn_X0_isGone
theorem dX2_brewIn_0 : decode cX2_brewIn 0 = .ok (.iconst 0, 1) := by decide +kernel
theorem dX2_brewIn_1 : decode cX2_brewIn 1 = .ok (.istore_n 2, 1) := by decide +kernel
theorem dX2_brewIn_2 : decode cX2_brewIn 2 = .ok (.iload_n 2, 1) := by decide +kernel
theorem dX2_brewIn_3 : decode cX2_brewIn 3 = .ok (.aload_n 0, 1) := by decide +kernel
theorem dX2_brewIn_4 : decode cX2_brewIn 4 = .ok (.getfield 22, 3) := by decide +kernel
theorem dX2_brewIn_7 : decode cX2_brewIn 7 = .ok (.if_icmp .ge 46, 3) := by decide +kernel
theorem dX2_brewIn_10 : decode cX2_brewIn 10 = .ok (.iload_n 2, 1) := by decide +kernel
theorem dX2_brewIn_11 : decode cX2_brewIn 11 = .ok (.aload_n 0, 1) := by decide +kernel
theorem dX2_brewIn_12 : decode cX2_brewIn 12 = .ok (.getfield 11, 3) := by decide +kernel
theorem dX2_brewIn_15 : decode cX2_brewIn 15 = .ok (.arraylength, 1) := by decide +kernel
theorem dX2_brewIn_16 : decode cX2_brewIn 16 = .ok (.if_icmp .ge 37, 3) := by decide +kernel
theorem dX2_brewIn_19 : decode cX2_brewIn 19 = .ok (.aload_n 0, 1) := by decide +kernel
theorem dX2_brewIn_20 : decode cX2_brewIn 20 = .ok (.getfield 11, 3) := by decide +kernel
theorem dX2_brewIn_23 : decode cX2_brewIn 23 = .ok (.iload_n 2, 1) := by decide +kernel
theorem dX2_brewIn_24 : decode cX2_brewIn 24 = .ok (.aaload, 1) := by decide +kernel
theorem dX2_brewIn_25 : decode cX2_brewIn 25 = .ok (.astore_n 3, 1) := by decide +kernel
theorem dX2_brewIn_26 : decode cX2_brewIn 26 = .ok (.aload_n 3, 1) := by decide +kernel
theorem dX2_brewIn_27 : decode cX2_brewIn 27 = .ok (.ifnull 20, 3) := by decide +kernel
theorem dX2_brewIn_30 : decode cX2_brewIn 30 = .ok (.aload_n 3, 1) := by decide +kernel
theorem dX2_brewIn_31 : decode cX2_brewIn 31 = .ok (.getfield 163, 3) := by decide +kernel
theorem dX2_brewIn_34 : decode cX2_brewIn 34 = .ok (.iload_n 1, 1) := by decide +kernel
theorem dX2_brewIn_35 : decode cX2_brewIn 35 = .ok (.if_icmp .ne 12, 3) := by decide +kernel
theorem dX2_brewIn_38 : decode cX2_brewIn 38 = .ok (.aload_n 3, 1) := by decide +kernel
theorem dX2_brewIn_39 : decode cX2_brewIn 39 = .ok (.invokevirtual 87, 3) := by decide +kernel
theorem dX2_brewIn_42 : decode cX2_brewIn 42 = .ok (.ifCond .ne 5, 3) := by decide +kernel
theorem dX2_brewIn_45 : decode cX2_brewIn 45 = .ok (.iload_n 2, 1) := by decide +kernel
theorem dX2_brewIn_46 : decode cX2_brewIn 46 = .ok (.ireturn, 1) := by decide +kernel
theorem dX2_brewIn_47 : decode cX2_brewIn 47 = .ok (.iinc 2 1, 3) := by decide +kernel
theorem dX2_brewIn_50 : decode cX2_brewIn 50 = .ok (.goto (-48), 3) := by decide +kernel
theorem dX2_brewIn_53 : decode cX2_brewIn 53 = .ok (.iconst (-1), 1) := by decide +kernel
theorem dX2_brewIn_54 : decode cX2_brewIn 54 = .ok (.ireturn, 1) := by decide +kernel
theorem dX2_isWithin_0 : decode cX2_isWithin 0 = .ok (.iload_n 0, 1) := by decide +kernel
theorem dX2_isWithin_1 : decode cX2_isWithin 1 = .ok (.iload_n 1, 1) := by decide +kernel
theorem dX2_isWithin_2 : decode cX2_isWithin 2 = .ok (.if_icmp .lt 12, 3) := by decide +kernel
theorem dX2_isWithin_5 : decode cX2_isWithin 5 = .ok (.iload_n 0, 1) := by decide +kernel
theorem dX2_isWithin_6 : decode cX2_isWithin 6 = .ok (.iload_n 2, 1) := by decide +kernel
theorem dX2_isWithin_7 : decode cX2_isWithin 7 = .ok (.if_icmp .gt 7, 3) := by decide +kernel
theorem dX2_isWithin_10 : decode cX2_isWithin 10 = .ok (.iconst 1, 1) := by decide +kernel
theorem dX2_isWithin_11 : decode cX2_isWithin 11 = .ok (.goto 4, 3) := by decide +kernel
theorem dX2_isWithin_14 : decode cX2_isWithin 14 = .ok (.iconst 0, 1) := by decide +kernel
theorem dX2_isWithin_15 : decode cX2_isWithin 15 = .ok (.ireturn, 1) := by decide +kernel
theorem dX2_valueAt_0 : decode cX2_valueAt 0 = .ok (.iload_n 1, 1) := by decide +kernel
theorem dX2_valueAt_1 : decode cX2_valueAt 1 = .ok (.ifCond .lt 15, 3) := by decide +kernel
theorem dX2_valueAt_4 : decode cX2_valueAt 4 = .ok (.iload_n 1, 1) := by decide +kernel
theorem dX2_valueAt_5 : decode cX2_valueAt 5 = .ok (.aload_n 0, 1) := by decide +kernel
theorem dX2_valueAt_6 : decode cX2_valueAt 6 = .ok (.arraylength, 1) := by decide +kernel
theorem dX2_valueAt_7 : decode cX2_valueAt 7 = .ok (.if_icmp .ge 9, 3) := by decide +kernel
theorem dX2_valueAt_10 : decode cX2_valueAt 10 = .ok (.aload_n 0, 1) := by decide +kernel
theorem dX2_valueAt_11 : decode cX2_valueAt 11 = .ok (.iload_n 1, 1) := by decide +kernel
theorem dX2_valueAt_12 : decode cX2_valueAt 12 = .ok (.iaload, 1) := by decide +kernel
theorem dX2_valueAt_13 : decode cX2_valueAt 13 = .ok (.goto 4, 3) := by decide +kernel
theorem dX2_valueAt_16 : decode cX2_valueAt 16 = .ok (.iconst 0, 1) := by decide +kernel
theorem dX2_valueAt_17 : decode cX2_valueAt 17 = .ok (.ireturn, 1) := by decide +kernel
set_option maxRecDepth 20000 in
theorem ggX2_foretoldStrength_X2_valueAt : GoodIn wsX2_foretoldStrength wsX2_valueAt := goodIn_r _ [5] (by decide +kernel) (by decide +kernel)
set_option maxRecDepth 20000 in
theorem gX2_foretoldStrength_X2_valueAt : GoodIn wsX2_foretoldStrength (va_wsS RX2 68 yX2_valueAt wsX2_valueAt) := goodIn_app (goodIn_of _ (by decide +kernel)) ggX2_foretoldStrength_X2_valueAt
theorem dX2_foretoldStrength_0 : decode cX2_foretoldStrength 0 = .ok (.iload_n 0, 1) := by decide +kernel
theorem dX2_foretoldStrength_1 : decode cX2_foretoldStrength 1 = .ok (.getstatic 195, 3) := by decide +kernel
theorem dX2_foretoldStrength_4 : decode cX2_foretoldStrength 4 = .ok (.iload_n 1, 1) := by decide +kernel
theorem dX2_foretoldStrength_5 : decode cX2_foretoldStrength 5 = .ok (.invokestatic 68, 3) := by decide +kernel
theorem dX2_foretoldStrength_8 : decode cX2_foretoldStrength 8 = .ok (.imul, 1) := by decide +kernel
theorem dX2_foretoldStrength_9 : decode cX2_foretoldStrength 9 = .ok (.sipush 200, 3) := by decide +kernel
theorem dX2_foretoldStrength_12 : decode cX2_foretoldStrength 12 = .ok (.idiv, 1) := by decide +kernel
theorem dX2_foretoldStrength_13 : decode cX2_foretoldStrength 13 = .ok (.ireturn, 1) := by decide +kernel
theorem dX2_blendedStrength_0 : decode cX2_blendedStrength 0 = .ok (.iload_n 1, 1) := by decide +kernel
theorem dX2_blendedStrength_1 : decode cX2_blendedStrength 1 = .ok (.iload_n 3, 1) := by decide +kernel
theorem dX2_blendedStrength_2 : decode cX2_blendedStrength 2 = .ok (.iadd, 1) := by decide +kernel
theorem dX2_blendedStrength_3 : decode cX2_blendedStrength 3 = .ok (.istore 4, 2) := by decide +kernel
theorem dX2_blendedStrength_5 : decode cX2_blendedStrength 5 = .ok (.iload 4, 2) := by decide +kernel
theorem dX2_blendedStrength_7 : decode cX2_blendedStrength 7 = .ok (.ifCond .le 16, 3) := by decide +kernel
theorem dX2_blendedStrength_10 : decode cX2_blendedStrength 10 = .ok (.iload_n 0, 1) := by decide +kernel
theorem dX2_blendedStrength_11 : decode cX2_blendedStrength 11 = .ok (.iload_n 1, 1) := by decide +kernel
theorem dX2_blendedStrength_12 : decode cX2_blendedStrength 12 = .ok (.imul, 1) := by decide +kernel
theorem dX2_blendedStrength_13 : decode cX2_blendedStrength 13 = .ok (.iload_n 2, 1) := by decide +kernel
theorem dX2_blendedStrength_14 : decode cX2_blendedStrength 14 = .ok (.iload_n 3, 1) := by decide +kernel
theorem dX2_blendedStrength_15 : decode cX2_blendedStrength 15 = .ok (.imul, 1) := by decide +kernel
theorem dX2_blendedStrength_16 : decode cX2_blendedStrength 16 = .ok (.iadd, 1) := by decide +kernel
theorem dX2_blendedStrength_17 : decode cX2_blendedStrength 17 = .ok (.iload 4, 2) := by decide +kernel
theorem dX2_blendedStrength_19 : decode cX2_blendedStrength 19 = .ok (.idiv, 1) := by decide +kernel
theorem dX2_blendedStrength_20 : decode cX2_blendedStrength 20 = .ok (.goto 4, 3) := by decide +kernel
theorem dX2_blendedStrength_23 : decode cX2_blendedStrength 23 = .ok (.iload_n 0, 1) := by decide +kernel
theorem dX2_blendedStrength_24 : decode cX2_blendedStrength 24 = .ok (.ireturn, 1) := by decide +kernel
theorem dX2_classOf_0 : decode cX2_classOf 0 = .ok (.iload_n 0, 1) := by decide +kernel
theorem dX2_classOf_1 : decode cX2_classOf 1 = .ok (.bipush 28, 2) := by decide +kernel
theorem dX2_classOf_3 : decode cX2_classOf 3 = .ok (.if_icmp .gt 5, 3) := by decide +kernel
theorem dX2_classOf_6 : decode cX2_classOf 6 = .ok (.iconst 0, 1) := by decide +kernel
theorem dX2_classOf_7 : decode cX2_classOf 7 = .ok (.ireturn, 1) := by decide +kernel
theorem dX2_classOf_8 : decode cX2_classOf 8 = .ok (.iload_n 0, 1) := by decide +kernel
theorem dX2_classOf_9 : decode cX2_classOf 9 = .ok (.bipush 50, 2) := by decide +kernel
theorem dX2_classOf_11 : decode cX2_classOf 11 = .ok (.if_icmp .gt 5, 3) := by decide +kernel
theorem dX2_classOf_14 : decode cX2_classOf 14 = .ok (.iconst 1, 1) := by decide +kernel
theorem dX2_classOf_15 : decode cX2_classOf 15 = .ok (.ireturn, 1) := by decide +kernel
theorem dX2_classOf_16 : decode cX2_classOf 16 = .ok (.iload_n 0, 1) := by decide +kernel
theorem dX2_classOf_17 : decode cX2_classOf 17 = .ok (.bipush 75, 2) := by decide +kernel
theorem dX2_classOf_19 : decode cX2_classOf 19 = .ok (.if_icmp .gt 7, 3) := by decide +kernel
theorem dX2_classOf_22 : decode cX2_classOf 22 = .ok (.iconst 2, 1) := by decide +kernel
theorem dX2_classOf_23 : decode cX2_classOf 23 = .ok (.goto 4, 3) := by decide +kernel
theorem dX2_classOf_26 : decode cX2_classOf 26 = .ok (.iconst 3, 1) := by decide +kernel
theorem dX2_classOf_27 : decode cX2_classOf 27 = .ok (.ireturn, 1) := by decide +kernel
set_option maxRecDepth 20000 in
theorem ggX2_stampOf_X2_valueAt : GoodIn wsX2_stampOf wsX2_valueAt := goodIn_r _ [5] (by decide +kernel) (by decide +kernel)
set_option maxRecDepth 20000 in
theorem gX2_stampOf_X2_valueAt : GoodIn wsX2_stampOf (va_wsS RX2 68 yX2_valueAt wsX2_valueAt) := goodIn_app (goodIn_of _ (by decide +kernel)) ggX2_stampOf_X2_valueAt
theorem dX2_stampOf_0 : decode cX2_stampOf 0 = .ok (.getstatic 198, 3) := by decide +kernel
theorem dX2_stampOf_3 : decode cX2_stampOf 3 = .ok (.iload_n 0, 1) := by decide +kernel
theorem dX2_stampOf_4 : decode cX2_stampOf 4 = .ok (.invokestatic 68, 3) := by decide +kernel
theorem dX2_stampOf_7 : decode cX2_stampOf 7 = .ok (.ireturn, 1) := by decide +kernel
set_option maxRecDepth 20000 in
theorem ggX2_textOfLabel_J4_init_da8c8 : GoodIn wsX2_textOfLabel wsJ4_init_da8c8 := goodIn_r _ [6, 7, 8, 9, 10, 11, 12, 13, 14, 15, 16, 17, 18, 19, 20, 21, 22, 23, 24, 25, 263, 264, 265, 266] (by decide +kernel) (by decide +kernel)
set_option maxRecDepth 20000 in
theorem gX2_textOfLabel_J4_init_da8c8 : GoodIn wsX2_textOfLabel (wsJ4_init_da8c8) := ggX2_textOfLabel_J4_init_da8c8
set_option maxRecDepth 20000 in
theorem ggX2_textOfLabel_X2_classOf : GoodIn wsX2_textOfLabel wsX2_classOf := goodIn_r _ [29] (by decide +kernel) (by decide +kernel)
set_option maxRecDepth 20000 in
theorem gX2_textOfLabel_X2_classOf : GoodIn wsX2_textOfLabel (va_wsS RX2 182 yX2_classOf wsX2_classOf) := goodIn_app (goodIn_of _ (by decide +kernel)) ggX2_textOfLabel_X2_classOf
set_option maxRecDepth 20000 in
theorem ggX2_textOfLabel_J4_append_15ec4 : GoodIn wsX2_textOfLabel wsJ4_append_15ec4 := goodIn_r _ [33, 34, 35, 36, 37, 9, 38, 39, 40, 41, 42, 43, 44, 16, 45, 46, 47, 48, 49, 17, 50, 51, 52, 53, 54, 55, 56, 57, 58, 59, 60, 61, 62, 63, 64, 65, 66, 67, 68, 69, 70, 71, 72, 73, 74, 75, 76, 77, 15, 78, 79, 80, 81, 82, 83, 84, 85, 86, 87, 88, 89, 14, 90, 91, 20, 92, 93, 94, 95, 96, 97, 98, 99, 100, 101, 102, 103, 104, 105, 106, 107, 108, 109, 110, 111, 112, 113, 114, 115, 116, 117, 118, 119, 120, 121, 122, 123, 124, 125, 126, 127, 128, 129, 130, 131, 132, 133, 134, 135, 136, 137, 138, 139, 140, 18, 19, 21, 22, 23, 24, 25, 141, 142, 143, 144, 145, 146, 147, 148, 149, 150, 151, 152, 153, 154, 155, 156, 157, 158, 159, 160, 161, 162, 263, 264, 265, 266, 267, 268, 269, 270] (by decide +kernel) (by decide +kernel)
set_option maxRecDepth 20000 in
theorem gX2_textOfLabel_J4_append_15ec4 : GoodIn wsX2_textOfLabel (wsV RX2 208 RJ4 yJ4_append_15ec4 wsJ4_append_15ec4) := goodIn_app (goodIn_of _ (by decide +kernel)) ggX2_textOfLabel_J4_append_15ec4
set_option maxRecDepth 20000 in
theorem ggX2_textOfLabel_J4_append_bf812 : GoodIn wsX2_textOfLabel wsJ4_append_bf812 := goodIn_r _ [166, 167, 168, 36, 169, 9, 170, 39, 16, 171, 172, 173, 174, 45, 46, 47, 48, 49, 17, 50, 51, 52, 53, 54, 55, 56, 57, 58, 59, 60, 61, 62, 63, 64, 65, 66, 67, 68, 69, 70, 71, 72, 73, 74, 75, 76, 77, 15, 78, 79, 80, 81, 82, 83, 84, 85, 86, 87, 88, 89, 14, 175, 176, 177, 178, 179, 180, 181, 20, 182, 93, 94, 95, 96, 97, 98, 99, 100, 101, 102, 103, 104, 105, 106, 107, 108, 183, 184, 185, 186, 187, 109, 110, 111, 112, 113, 263, 264, 265, 266] (by decide +kernel) (by decide +kernel)
set_option maxRecDepth 20000 in
theorem gX2_textOfLabel_J4_append_bf812 : GoodIn wsX2_textOfLabel (wsV RX2 212 RJ4 yJ4_append_bf812 wsJ4_append_bf812) := goodIn_app (goodIn_of _ (by decide +kernel)) ggX2_textOfLabel_J4_append_bf812
set_option maxRecDepth 20000 in
theorem ggX2_textOfLabel_J4_append_cf468 : GoodIn wsX2_textOfLabel wsJ4_append_cf468 := goodIn_r _ [191, 192, 193, 36, 194, 9, 195, 39, 16, 45, 46, 47, 48, 49, 17, 50, 51, 52, 53, 54, 55, 56, 57, 58, 59, 60, 61, 62, 63, 64, 65, 66, 67, 68, 69, 70, 71, 72, 73, 74, 75, 76, 77, 15, 78, 79, 80, 81, 82, 83, 84, 85, 86, 87, 88, 89, 14, 196, 197, 143, 198, 136, 137, 138, 139, 140, 18, 19, 20, 21, 22, 23, 24, 25, 141, 142, 144, 145, 146, 147, 148, 149, 150, 97, 98, 99, 151, 152, 102, 153, 104, 154, 155, 107, 156, 109, 110, 111, 93, 112, 113, 199, 200, 201, 202, 203, 204, 205, 206, 207, 208, 209, 210, 263, 264, 265, 266] (by decide +kernel) (by decide +kernel)
set_option maxRecDepth 20000 in
theorem gX2_textOfLabel_J4_append_cf468 : GoodIn wsX2_textOfLabel (wsV RX2 215 RJ4 yJ4_append_cf468 wsJ4_append_cf468) := goodIn_app (goodIn_of _ (by decide +kernel)) ggX2_textOfLabel_J4_append_cf468
set_option maxRecDepth 20000 in
theorem ggX2_textOfLabel_J4_toString_0e30d : GoodIn wsX2_textOfLabel wsJ4_toString_0e30d := goodIn_r _ [214, 215, 216, 102, 217, 218, 219, 220, 221, 222, 223, 12, 13, 124, 118, 123, 224, 225, 226, 227, 228, 9, 229, 16, 230, 231, 232, 233, 234, 3, 235, 236, 36, 237, 238, 39, 239, 86, 87, 88, 89, 14, 17, 240, 241, 70, 242, 72, 73, 74, 75, 76, 77, 243, 244, 245, 15, 78, 79, 62, 80, 81, 82, 83, 84, 246, 247, 248, 249, 2, 250, 251, 20, 252, 253, 254, 255, 148, 149, 150, 97, 98, 99, 151, 152, 153, 104, 154, 155, 107, 156, 256, 257, 258, 93, 112, 113, 22, 23, 24, 25, 259, 260, 261, 262, 267, 268, 269, 270, 263, 264, 265, 266] (by decide +kernel) (by decide +kernel)
set_option maxRecDepth 20000 in
theorem gX2_textOfLabel_J4_toString_0e30d : GoodIn wsX2_textOfLabel (wsV RX2 220 RJ4 yJ4_toString_0e30d wsJ4_toString_0e30d) := goodIn_app (goodIn_of _ (by decide +kernel)) ggX2_textOfLabel_J4_toString_0e30d
theorem dX2_textOfLabel_0 : decode cX2_textOfLabel 0 = .ok (.new 201, 3) := by decide +kernel
theorem dX2_textOfLabel_3 : decode cX2_textOfLabel 3 = .ok (.dup, 1) := by decide +kernel
theorem dX2_textOfLabel_4 : decode cX2_textOfLabel 4 = .ok (.invokespecial 203, 3) := by decide +kernel
theorem dX2_textOfLabel_7 : decode cX2_textOfLabel 7 = .ok (.astore_n 2, 1) := by decide +kernel
theorem dX2_textOfLabel_8 : decode cX2_textOfLabel 8 = .ok (.aload_n 2, 1) := by decide +kernel
theorem dX2_textOfLabel_9 : decode cX2_textOfLabel 9 = .ok (.iload_n 0, 1) := by decide +kernel
theorem dX2_textOfLabel_10 : decode cX2_textOfLabel 10 = .ok (.invokestatic 182, 3) := by decide +kernel
theorem dX2_textOfLabel_13 : decode cX2_textOfLabel 13 = .ok (.iconst 2, 1) := by decide +kernel
theorem dX2_textOfLabel_14 : decode cX2_textOfLabel 14 = .ok (.if_icmp .lt 8, 3) := by decide +kernel
theorem dX2_textOfLabel_17 : decode cX2_textOfLabel 17 = .ok (.ldc 204, 2) := by decide +kernel
theorem dX2_textOfLabel_19 : decode cX2_textOfLabel 19 = .ok (.goto 5, 3) := by decide +kernel
theorem dX2_textOfLabel_22 : decode cX2_textOfLabel 22 = .ok (.ldc 206, 2) := by decide +kernel
theorem dX2_textOfLabel_24 : decode cX2_textOfLabel 24 = .ok (.invokevirtual 208, 3) := by decide +kernel
theorem dX2_textOfLabel_27 : decode cX2_textOfLabel 27 = .ok (.pop, 1) := by decide +kernel
theorem dX2_textOfLabel_28 : decode cX2_textOfLabel 28 = .ok (.aload_n 2, 1) := by decide +kernel
theorem dX2_textOfLabel_29 : decode cX2_textOfLabel 29 = .ok (.iload_n 0, 1) := by decide +kernel
theorem dX2_textOfLabel_30 : decode cX2_textOfLabel 30 = .ok (.bipush 10, 2) := by decide +kernel
theorem dX2_textOfLabel_32 : decode cX2_textOfLabel 32 = .ok (.idiv, 1) := by decide +kernel
theorem dX2_textOfLabel_33 : decode cX2_textOfLabel 33 = .ok (.invokevirtual 212, 3) := by decide +kernel
theorem dX2_textOfLabel_36 : decode cX2_textOfLabel 36 = .ok (.bipush 46, 2) := by decide +kernel
theorem dX2_textOfLabel_38 : decode cX2_textOfLabel 38 = .ok (.invokevirtual 215, 3) := by decide +kernel
theorem dX2_textOfLabel_41 : decode cX2_textOfLabel 41 = .ok (.iload_n 0, 1) := by decide +kernel
theorem dX2_textOfLabel_42 : decode cX2_textOfLabel 42 = .ok (.bipush 10, 2) := by decide +kernel
theorem dX2_textOfLabel_44 : decode cX2_textOfLabel 44 = .ok (.irem, 1) := by decide +kernel
theorem dX2_textOfLabel_45 : decode cX2_textOfLabel 45 = .ok (.invokevirtual 212, 3) := by decide +kernel
theorem dX2_textOfLabel_48 : decode cX2_textOfLabel 48 = .ok (.pop, 1) := by decide +kernel
theorem dX2_textOfLabel_49 : decode cX2_textOfLabel 49 = .ok (.aload_n 2, 1) := by decide +kernel
theorem dX2_textOfLabel_50 : decode cX2_textOfLabel 50 = .ok (.ldc 218, 2) := by decide +kernel
theorem dX2_textOfLabel_52 : decode cX2_textOfLabel 52 = .ok (.invokevirtual 208, 3) := by decide +kernel
theorem dX2_textOfLabel_55 : decode cX2_textOfLabel 55 = .ok (.iload_n 1, 1) := by decide +kernel
theorem dX2_textOfLabel_56 : decode cX2_textOfLabel 56 = .ok (.invokevirtual 212, 3) := by decide +kernel
theorem dX2_textOfLabel_59 : decode cX2_textOfLabel 59 = .ok (.pop, 1) := by decide +kernel
theorem dX2_textOfLabel_60 : decode cX2_textOfLabel 60 = .ok (.aload_n 2, 1) := by decide +kernel
theorem dX2_textOfLabel_61 : decode cX2_textOfLabel 61 = .ok (.invokevirtual 220, 3) := by decide +kernel
theorem dX2_textOfLabel_64 : decode cX2_textOfLabel 64 = .ok (.areturn, 1) := by decide +kernel

theorem dX0_init_0 : decode cX0_init 0 = .ok (.aload_n 0, 1) := by decide +kernel
theorem dX0_init_1 : decode cX0_init 1 = .ok (.invokespecial 1, 3) := by decide +kernel
theorem dX0_init_4 : decode cX0_init 4 = .ok (.aload_n 0, 1) := by decide +kernel
theorem dX0_init_5 : decode cX0_init 5 = .ok (.iload_n 1, 1) := by decide +kernel
theorem dX0_init_6 : decode cX0_init 6 = .ok (.putfield 7, 3) := by decide +kernel
theorem dX0_init_9 : decode cX0_init 9 = .ok (.aload_n 0, 1) := by decide +kernel
theorem dX0_init_10 : decode cX0_init 10 = .ok (.iload 4, 2) := by decide +kernel
theorem dX0_init_12 : decode cX0_init 12 = .ok (.putfield 13, 3) := by decide +kernel
theorem dX0_init_15 : decode cX0_init 15 = .ok (.aload_n 0, 1) := by decide +kernel
theorem dX0_init_16 : decode cX0_init 16 = .ok (.iload_n 2, 1) := by decide +kernel
theorem dX0_init_17 : decode cX0_init 17 = .ok (.putfield 16, 3) := by decide +kernel
theorem dX0_init_20 : decode cX0_init 20 = .ok (.aload_n 0, 1) := by decide +kernel
theorem dX0_init_21 : decode cX0_init 21 = .ok (.iload_n 3, 1) := by decide +kernel
theorem dX0_init_22 : decode cX0_init 22 = .ok (.putfield 19, 3) := by decide +kernel
theorem dX0_init_25 : decode cX0_init 25 = .ok (.aload_n 0, 1) := by decide +kernel
theorem dX0_init_26 : decode cX0_init 26 = .ok (.iconst 0, 1) := by decide +kernel
theorem dX0_init_27 : decode cX0_init 27 = .ok (.putfield 22, 3) := by decide +kernel
theorem dX0_init_30 : decode cX0_init 30 = .ok (.aload_n 0, 1) := by decide +kernel
theorem dX0_init_31 : decode cX0_init 31 = .ok (.iconst 0, 1) := by decide +kernel
theorem dX0_init_32 : decode cX0_init 32 = .ok (.putfield 26, 3) := by decide +kernel
theorem dX0_init_35 : decode cX0_init 35 = .ok (.aload_n 0, 1) := by decide +kernel
theorem dX0_init_36 : decode cX0_init 36 = .ok (.iconst 0, 1) := by decide +kernel
theorem dX0_init_37 : decode cX0_init 37 = .ok (.putfield 29, 3) := by decide +kernel
theorem dX0_init_40 : decode cX0_init 40 = .ok (.aload_n 0, 1) := by decide +kernel
theorem dX0_init_41 : decode cX0_init 41 = .ok (.iconst 0, 1) := by decide +kernel
theorem dX0_init_42 : decode cX0_init 42 = .ok (.putfield 32, 3) := by decide +kernel
theorem dX0_init_45 : decode cX0_init 45 = .ok (.aload_n 0, 1) := by decide +kernel
theorem dX0_init_46 : decode cX0_init 46 = .ok (.ldc 35, 2) := by decide +kernel
theorem dX0_init_48 : decode cX0_init 48 = .ok (.putfield 37, 3) := by decide +kernel
theorem dX0_init_51 : decode cX0_init 51 = .ok (.aload_n 0, 1) := by decide +kernel
theorem dX0_init_52 : decode cX0_init 52 = .ok (.getstatic 41, 3) := by decide +kernel
theorem dX0_init_55 : decode cX0_init 55 = .ok (.arraylength, 1) := by decide +kernel
theorem dX0_init_56 : decode cX0_init 56 = .ok (.newarray .int, 2) := by decide +kernel
theorem dX0_init_58 : decode cX0_init 58 = .ok (.putfield 47, 3) := by decide +kernel
theorem dX0_init_61 : decode cX0_init 61 = .ok (.return_, 1) := by decide +kernel
theorem dX0_isGone_0 : decode cX0_isGone 0 = .ok (.aload_n 0, 1) := by decide +kernel
theorem dX0_isGone_1 : decode cX0_isGone 1 = .ok (.getfield 16, 3) := by decide +kernel
theorem dX0_isGone_4 : decode cX0_isGone 4 = .ok (.ifCond .gt 7, 3) := by decide +kernel
theorem dX0_isGone_7 : decode cX0_isGone 7 = .ok (.iconst 1, 1) := by decide +kernel
theorem dX0_isGone_8 : decode cX0_isGone 8 = .ok (.goto 4, 3) := by decide +kernel
theorem dX0_isGone_11 : decode cX0_isGone 11 = .ok (.iconst 0, 1) := by decide +kernel
theorem dX0_isGone_12 : decode cX0_isGone 12 = .ok (.ireturn, 1) := by decide +kernel
set_option maxRecDepth 20000 in
theorem ggX0_isReady_X0_isGone : GoodIn wsX0_isReady wsX0_isGone := goodIn_r _ [6, 7, 8, 9, 10, 11, 12, 13, 14, 15, 16, 17] (by decide +kernel) (by decide +kernel)
set_option maxRecDepth 20000 in
theorem gX0_isReady_X0_isGone : GoodIn wsX0_isReady (wsV RX0 50 RX0 yX0_isGone wsX0_isGone) := goodIn_app (goodIn_of _ (by decide +kernel)) ggX0_isReady_X0_isGone
theorem dX0_isReady_0 : decode cX0_isReady 0 = .ok (.aload_n 0, 1) := by decide +kernel
theorem dX0_isReady_1 : decode cX0_isReady 1 = .ok (.invokevirtual 50, 3) := by decide +kernel
theorem dX0_isReady_4 : decode cX0_isReady 4 = .ok (.ifCond .ne 15, 3) := by decide +kernel
theorem dX0_isReady_7 : decode cX0_isReady 7 = .ok (.iload_n 1, 1) := by decide +kernel
theorem dX0_isReady_8 : decode cX0_isReady 8 = .ok (.aload_n 0, 1) := by decide +kernel
theorem dX0_isReady_9 : decode cX0_isReady 9 = .ok (.getfield 13, 3) := by decide +kernel
theorem dX0_isReady_12 : decode cX0_isReady 12 = .ok (.if_icmp .lt 7, 3) := by decide +kernel
theorem dX0_isReady_15 : decode cX0_isReady 15 = .ok (.iconst 1, 1) := by decide +kernel
theorem dX0_isReady_16 : decode cX0_isReady 16 = .ok (.goto 4, 3) := by decide +kernel
theorem dX0_isReady_19 : decode cX0_isReady 19 = .ok (.iconst 0, 1) := by decide +kernel
theorem dX0_isReady_20 : decode cX0_isReady 20 = .ok (.ireturn, 1) := by decide +kernel
set_option maxRecDepth 20000 in
theorem ggX0_strengthClass_X2_classOf : GoodIn wsX0_strengthClass wsX2_classOf := goodIn_r _ [4] (by decide +kernel) (by decide +kernel)
set_option maxRecDepth 20000 in
theorem gX0_strengthClass_X2_classOf_n54 : GoodIn wsX0_strengthClass (wsX2_classOf) := ggX0_strengthClass_X2_classOf
theorem dX0_strengthClass_0 : decode cX0_strengthClass 0 = .ok (.aload_n 0, 1) := by decide +kernel
theorem dX0_strengthClass_1 : decode cX0_strengthClass 1 = .ok (.getfield 19, 3) := by decide +kernel
theorem dX0_strengthClass_4 : decode cX0_strengthClass 4 = .ok (.invokestatic 54, 3) := by decide +kernel
theorem dX0_strengthClass_7 : decode cX0_strengthClass 7 = .ok (.ireturn, 1) := by decide +kernel
set_option maxRecDepth 20000 in
theorem ggX0_labelsOfItsClass_X0_strengthClass : GoodIn wsX0_labelsOfItsClass wsX0_strengthClass := goodIn_r _ [7, 8, 9, 10, 11, 12, 13, 14, 15, 16, 17, 18, 19, 20, 21] (by decide +kernel) (by decide +kernel)
set_option maxRecDepth 20000 in
theorem gX0_labelsOfItsClass_X0_strengthClass : GoodIn wsX0_labelsOfItsClass (wsV RX0 58 RX0 yX0_strengthClass wsX0_strengthClass) := goodIn_app (goodIn_of _ (by decide +kernel)) ggX0_labelsOfItsClass_X0_strengthClass
theorem dX0_labelsOfItsClass_0 : decode cX0_labelsOfItsClass 0 = .ok (.aload_n 0, 1) := by decide +kernel
theorem dX0_labelsOfItsClass_1 : decode cX0_labelsOfItsClass 1 = .ok (.getfield 29, 3) := by decide +kernel
theorem dX0_labelsOfItsClass_4 : decode cX0_labelsOfItsClass 4 = .ok (.aload_n 0, 1) := by decide +kernel
theorem dX0_labelsOfItsClass_5 : decode cX0_labelsOfItsClass 5 = .ok (.invokevirtual 58, 3) := by decide +kernel
theorem dX0_labelsOfItsClass_8 : decode cX0_labelsOfItsClass 8 = .ok (.if_icmp .ne 10, 3) := by decide +kernel
theorem dX0_labelsOfItsClass_11 : decode cX0_labelsOfItsClass 11 = .ok (.aload_n 0, 1) := by decide +kernel
theorem dX0_labelsOfItsClass_12 : decode cX0_labelsOfItsClass 12 = .ok (.getfield 26, 3) := by decide +kernel
theorem dX0_labelsOfItsClass_15 : decode cX0_labelsOfItsClass 15 = .ok (.goto 4, 3) := by decide +kernel
theorem dX0_labelsOfItsClass_18 : decode cX0_labelsOfItsClass 18 = .ok (.iconst 0, 1) := by decide +kernel
theorem dX0_labelsOfItsClass_19 : decode cX0_labelsOfItsClass 19 = .ok (.ireturn, 1) := by decide +kernel
theorem dX0_countBottles_0 : decode cX0_countBottles 0 = .ok (.iconst 0, 1) := by decide +kernel
theorem dX0_countBottles_1 : decode cX0_countBottles 1 = .ok (.istore_n 1, 1) := by decide +kernel
theorem dX0_countBottles_2 : decode cX0_countBottles 2 = .ok (.aload_n 0, 1) := by decide +kernel
theorem dX0_countBottles_3 : decode cX0_countBottles 3 = .ok (.getfield 47, 3) := by decide +kernel
theorem dX0_countBottles_6 : decode cX0_countBottles 6 = .ok (.astore_n 2, 1) := by decide +kernel
theorem dX0_countBottles_7 : decode cX0_countBottles 7 = .ok (.aload_n 2, 1) := by decide +kernel
theorem dX0_countBottles_8 : decode cX0_countBottles 8 = .ok (.arraylength, 1) := by decide +kernel
theorem dX0_countBottles_9 : decode cX0_countBottles 9 = .ok (.istore_n 3, 1) := by decide +kernel
theorem dX0_countBottles_10 : decode cX0_countBottles 10 = .ok (.iconst 0, 1) := by decide +kernel
theorem dX0_countBottles_11 : decode cX0_countBottles 11 = .ok (.istore 4, 2) := by decide +kernel
theorem dX0_countBottles_13 : decode cX0_countBottles 13 = .ok (.iload 4, 2) := by decide +kernel
theorem dX0_countBottles_15 : decode cX0_countBottles 15 = .ok (.iload_n 3, 1) := by decide +kernel
theorem dX0_countBottles_16 : decode cX0_countBottles 16 = .ok (.if_icmp .ge 20, 3) := by decide +kernel
theorem dX0_countBottles_19 : decode cX0_countBottles 19 = .ok (.aload_n 2, 1) := by decide +kernel
theorem dX0_countBottles_20 : decode cX0_countBottles 20 = .ok (.iload 4, 2) := by decide +kernel
theorem dX0_countBottles_22 : decode cX0_countBottles 22 = .ok (.iaload, 1) := by decide +kernel
theorem dX0_countBottles_23 : decode cX0_countBottles 23 = .ok (.istore 5, 2) := by decide +kernel
theorem dX0_countBottles_25 : decode cX0_countBottles 25 = .ok (.iload_n 1, 1) := by decide +kernel
theorem dX0_countBottles_26 : decode cX0_countBottles 26 = .ok (.iload 5, 2) := by decide +kernel
theorem dX0_countBottles_28 : decode cX0_countBottles 28 = .ok (.iadd, 1) := by decide +kernel
theorem dX0_countBottles_29 : decode cX0_countBottles 29 = .ok (.istore_n 1, 1) := by decide +kernel
theorem dX0_countBottles_30 : decode cX0_countBottles 30 = .ok (.iinc 4 1, 3) := by decide +kernel
theorem dX0_countBottles_33 : decode cX0_countBottles 33 = .ok (.goto (-20), 3) := by decide +kernel
theorem dX0_countBottles_36 : decode cX0_countBottles 36 = .ok (.iload_n 1, 1) := by decide +kernel
theorem dX0_countBottles_37 : decode cX0_countBottles 37 = .ok (.ireturn, 1) := by decide +kernel
set_option maxRecDepth 20000 in
theorem ggX0_addLabels_X0_strengthClass : GoodIn wsX0_addLabels wsX0_strengthClass := goodIn_r _ [10, 3, 11, 12, 13, 280, 281, 282, 283, 284, 285, 286, 287, 288, 289] (by decide +kernel) (by decide +kernel)
set_option maxRecDepth 20000 in
theorem gX0_addLabels_X0_strengthClass : GoodIn wsX0_addLabels (wsV RX0 58 RX0 yX0_strengthClass wsX0_strengthClass) := goodIn_app (goodIn_of _ (by decide +kernel)) ggX0_addLabels_X0_strengthClass
set_option maxRecDepth 20000 in
theorem ggX0_addLabels_X0_voidAllLabels : GoodIn wsX0_addLabels wsX0_voidAllLabels := goodIn_r _ [17, 18, 2, 280, 281, 282, 283, 284, 285, 286, 287, 288, 289] (by decide +kernel) (by decide +kernel)
set_option maxRecDepth 20000 in
theorem gX0_addLabels_X0_voidAllLabels : GoodIn wsX0_addLabels (wsV RX0 62 RX0 yX0_voidAllLabels wsX0_voidAllLabels) := goodIn_app (goodIn_of _ (by decide +kernel)) ggX0_addLabels_X0_voidAllLabels
set_option maxRecDepth 20000 in
theorem ggX0_addLabels_X2_textOfLabel : GoodIn wsX0_addLabels wsX2_textOfLabel := goodIn_r _ [20, 21, 22, 23, 24, 25, 26, 27, 28, 29, 30, 31, 32, 33, 34, 35, 36, 37, 38, 39, 40, 41, 42, 43, 44, 45, 46, 11, 12, 13, 47, 48, 49, 50, 51, 52, 53, 54, 55, 56, 57, 58, 59, 60, 61, 62, 63, 64, 65, 66, 67, 68, 69, 70, 71, 72, 73, 74, 75, 76, 77, 78, 79, 80, 81, 82, 83, 84, 85, 86, 87, 88, 89, 90, 91, 92, 93, 94, 95, 96, 97, 98, 99, 100, 101, 102, 103, 104, 105, 106, 107, 108, 109, 110, 111, 112, 113, 114, 115, 116, 117, 118, 119, 120, 121, 122, 123, 124, 125, 126, 127, 128, 129, 130, 131, 132, 133, 134, 135, 136, 137, 138, 139, 140, 141, 142, 143, 144, 145, 146, 147, 148, 149, 150, 151, 152, 153, 154, 155, 156, 157, 158, 159, 160, 161, 162, 163, 164, 165, 166, 167, 168, 169, 170, 171, 172, 173, 174, 175, 176, 177, 178, 179, 180, 181, 182, 183, 184, 185, 186, 187, 188, 189, 190, 191, 192, 193, 194, 195, 196, 197, 198, 199, 200, 201, 202, 203, 204, 205, 206, 207, 208, 209, 210, 211, 212, 213, 214, 215, 216, 217, 218, 219, 220, 221, 222, 223, 224, 225, 226, 227, 228, 229, 230, 231, 232, 233, 234, 235, 236, 237, 238, 239, 240, 241, 242, 243, 244, 245, 246, 247, 248, 249, 250, 251, 252, 253, 254, 255, 256, 257, 258, 259, 260, 261, 262, 263, 264, 265, 266, 267, 268, 269, 270, 271, 272, 273, 274, 275, 276, 277, 278, 279, 290, 291, 292, 293, 294, 295, 296, 297] (by decide +kernel) (by decide +kernel)
set_option maxRecDepth 20000 in
theorem gX0_addLabels_X2_textOfLabel_n65 : GoodIn wsX0_addLabels (wsX2_textOfLabel) := ggX0_addLabels_X2_textOfLabel
theorem dX0_addLabels_0 : decode cX0_addLabels 0 = .ok (.aload_n 0, 1) := by decide +kernel
theorem dX0_addLabels_1 : decode cX0_addLabels 1 = .ok (.getfield 29, 3) := by decide +kernel
theorem dX0_addLabels_4 : decode cX0_addLabels 4 = .ok (.aload_n 0, 1) := by decide +kernel
theorem dX0_addLabels_5 : decode cX0_addLabels 5 = .ok (.invokevirtual 58, 3) := by decide +kernel
theorem dX0_addLabels_8 : decode cX0_addLabels 8 = .ok (.if_icmp .eq 7, 3) := by decide +kernel
theorem dX0_addLabels_11 : decode cX0_addLabels 11 = .ok (.aload_n 0, 1) := by decide +kernel
theorem dX0_addLabels_12 : decode cX0_addLabels 12 = .ok (.invokevirtual 62, 3) := by decide +kernel
theorem dX0_addLabels_15 : decode cX0_addLabels 15 = .ok (.aload_n 0, 1) := by decide +kernel
theorem dX0_addLabels_16 : decode cX0_addLabels 16 = .ok (.dup, 1) := by decide +kernel
theorem dX0_addLabels_17 : decode cX0_addLabels 17 = .ok (.getfield 26, 3) := by decide +kernel
theorem dX0_addLabels_20 : decode cX0_addLabels 20 = .ok (.iload_n 1, 1) := by decide +kernel
theorem dX0_addLabels_21 : decode cX0_addLabels 21 = .ok (.iadd, 1) := by decide +kernel
theorem dX0_addLabels_22 : decode cX0_addLabels 22 = .ok (.putfield 26, 3) := by decide +kernel
theorem dX0_addLabels_25 : decode cX0_addLabels 25 = .ok (.aload_n 0, 1) := by decide +kernel
theorem dX0_addLabels_26 : decode cX0_addLabels 26 = .ok (.aload_n 0, 1) := by decide +kernel
theorem dX0_addLabels_27 : decode cX0_addLabels 27 = .ok (.invokevirtual 58, 3) := by decide +kernel
theorem dX0_addLabels_30 : decode cX0_addLabels 30 = .ok (.putfield 29, 3) := by decide +kernel
theorem dX0_addLabels_33 : decode cX0_addLabels 33 = .ok (.aload_n 0, 1) := by decide +kernel
theorem dX0_addLabels_34 : decode cX0_addLabels 34 = .ok (.aload_n 0, 1) := by decide +kernel
theorem dX0_addLabels_35 : decode cX0_addLabels 35 = .ok (.getfield 19, 3) := by decide +kernel
theorem dX0_addLabels_38 : decode cX0_addLabels 38 = .ok (.aload_n 0, 1) := by decide +kernel
theorem dX0_addLabels_39 : decode cX0_addLabels 39 = .ok (.getfield 7, 3) := by decide +kernel
theorem dX0_addLabels_42 : decode cX0_addLabels 42 = .ok (.invokestatic 65, 3) := by decide +kernel
theorem dX0_addLabels_45 : decode cX0_addLabels 45 = .ok (.putfield 37, 3) := by decide +kernel
theorem dX0_addLabels_48 : decode cX0_addLabels 48 = .ok (.return_, 1) := by decide +kernel
theorem dX0_voidAllLabels_0 : decode cX0_voidAllLabels 0 = .ok (.aload_n 0, 1) := by decide +kernel
theorem dX0_voidAllLabels_1 : decode cX0_voidAllLabels 1 = .ok (.dup, 1) := by decide +kernel
theorem dX0_voidAllLabels_2 : decode cX0_voidAllLabels 2 = .ok (.getfield 32, 3) := by decide +kernel
theorem dX0_voidAllLabels_5 : decode cX0_voidAllLabels 5 = .ok (.aload_n 0, 1) := by decide +kernel
theorem dX0_voidAllLabels_6 : decode cX0_voidAllLabels 6 = .ok (.getfield 26, 3) := by decide +kernel
theorem dX0_voidAllLabels_9 : decode cX0_voidAllLabels 9 = .ok (.iadd, 1) := by decide +kernel
theorem dX0_voidAllLabels_10 : decode cX0_voidAllLabels 10 = .ok (.putfield 32, 3) := by decide +kernel
theorem dX0_voidAllLabels_13 : decode cX0_voidAllLabels 13 = .ok (.aload_n 0, 1) := by decide +kernel
theorem dX0_voidAllLabels_14 : decode cX0_voidAllLabels 14 = .ok (.iconst 0, 1) := by decide +kernel
theorem dX0_voidAllLabels_15 : decode cX0_voidAllLabels 15 = .ok (.putfield 26, 3) := by decide +kernel
theorem dX0_voidAllLabels_18 : decode cX0_voidAllLabels 18 = .ok (.return_, 1) := by decide +kernel
set_option maxRecDepth 20000 in
theorem ggX0_fillBottles_X0_strengthClass : GoodIn wsX0_fillBottles wsX0_strengthClass := goodIn_r _ [7, 8, 9, 10, 11, 17, 18, 19, 20, 21, 22, 23, 24, 25, 26] (by decide +kernel) (by decide +kernel)
set_option maxRecDepth 20000 in
theorem gX0_fillBottles_X0_strengthClass : GoodIn wsX0_fillBottles (wsV RX0 58 RX0 yX0_strengthClass wsX0_strengthClass) := goodIn_app (goodIn_of _ (by decide +kernel)) ggX0_fillBottles_X0_strengthClass
set_option maxRecDepth 20000 in
theorem ggX0_fillBottles_X0_addBottles : GoodIn wsX0_fillBottles wsX0_addBottles := goodIn_r _ [15, 16, 17, 18, 19, 20, 21, 22, 23, 24, 25, 26] (by decide +kernel) (by decide +kernel)
set_option maxRecDepth 20000 in
theorem gX0_fillBottles_X0_addBottles : GoodIn wsX0_fillBottles (wsV RX0 69 RX0 yX0_addBottles wsX0_addBottles) := goodIn_app (goodIn_of _ (by decide +kernel)) ggX0_fillBottles_X0_addBottles
theorem dX0_fillBottles_0 : decode cX0_fillBottles 0 = .ok (.aload_n 0, 1) := by decide +kernel
theorem dX0_fillBottles_1 : decode cX0_fillBottles 1 = .ok (.dup, 1) := by decide +kernel
theorem dX0_fillBottles_2 : decode cX0_fillBottles 2 = .ok (.getfield 16, 3) := by decide +kernel
theorem dX0_fillBottles_5 : decode cX0_fillBottles 5 = .ok (.iload_n 1, 1) := by decide +kernel
theorem dX0_fillBottles_6 : decode cX0_fillBottles 6 = .ok (.isub, 1) := by decide +kernel
theorem dX0_fillBottles_7 : decode cX0_fillBottles 7 = .ok (.putfield 16, 3) := by decide +kernel
theorem dX0_fillBottles_10 : decode cX0_fillBottles 10 = .ok (.aload_n 0, 1) := by decide +kernel
theorem dX0_fillBottles_11 : decode cX0_fillBottles 11 = .ok (.dup, 1) := by decide +kernel
theorem dX0_fillBottles_12 : decode cX0_fillBottles 12 = .ok (.getfield 26, 3) := by decide +kernel
theorem dX0_fillBottles_15 : decode cX0_fillBottles 15 = .ok (.iload_n 1, 1) := by decide +kernel
theorem dX0_fillBottles_16 : decode cX0_fillBottles 16 = .ok (.isub, 1) := by decide +kernel
theorem dX0_fillBottles_17 : decode cX0_fillBottles 17 = .ok (.putfield 26, 3) := by decide +kernel
theorem dX0_fillBottles_20 : decode cX0_fillBottles 20 = .ok (.aload_n 0, 1) := by decide +kernel
theorem dX0_fillBottles_21 : decode cX0_fillBottles 21 = .ok (.aload_n 0, 1) := by decide +kernel
theorem dX0_fillBottles_22 : decode cX0_fillBottles 22 = .ok (.invokevirtual 58, 3) := by decide +kernel
theorem dX0_fillBottles_25 : decode cX0_fillBottles 25 = .ok (.iload_n 1, 1) := by decide +kernel
theorem dX0_fillBottles_26 : decode cX0_fillBottles 26 = .ok (.invokevirtual 69, 3) := by decide +kernel
theorem dX0_fillBottles_29 : decode cX0_fillBottles 29 = .ok (.return_, 1) := by decide +kernel
theorem dX0_addBottles_0 : decode cX0_addBottles 0 = .ok (.iload_n 1, 1) := by decide +kernel
theorem dX0_addBottles_1 : decode cX0_addBottles 1 = .ok (.ifCond .lt 22, 3) := by decide +kernel
theorem dX0_addBottles_4 : decode cX0_addBottles 4 = .ok (.iload_n 1, 1) := by decide +kernel
theorem dX0_addBottles_5 : decode cX0_addBottles 5 = .ok (.aload_n 0, 1) := by decide +kernel
theorem dX0_addBottles_6 : decode cX0_addBottles 6 = .ok (.getfield 47, 3) := by decide +kernel
theorem dX0_addBottles_9 : decode cX0_addBottles 9 = .ok (.arraylength, 1) := by decide +kernel
theorem dX0_addBottles_10 : decode cX0_addBottles 10 = .ok (.if_icmp .ge 13, 3) := by decide +kernel
theorem dX0_addBottles_13 : decode cX0_addBottles 13 = .ok (.aload_n 0, 1) := by decide +kernel
theorem dX0_addBottles_14 : decode cX0_addBottles 14 = .ok (.getfield 47, 3) := by decide +kernel
theorem dX0_addBottles_17 : decode cX0_addBottles 17 = .ok (.iload_n 1, 1) := by decide +kernel
theorem dX0_addBottles_18 : decode cX0_addBottles 18 = .ok (.dup2, 1) := by decide +kernel
theorem dX0_addBottles_19 : decode cX0_addBottles 19 = .ok (.iaload, 1) := by decide +kernel
theorem dX0_addBottles_20 : decode cX0_addBottles 20 = .ok (.iload_n 2, 1) := by decide +kernel
theorem dX0_addBottles_21 : decode cX0_addBottles 21 = .ok (.iadd, 1) := by decide +kernel
theorem dX0_addBottles_22 : decode cX0_addBottles 22 = .ok (.iastore, 1) := by decide +kernel
theorem dX0_addBottles_23 : decode cX0_addBottles 23 = .ok (.return_, 1) := by decide +kernel
theorem dX0_setForetold_0 : decode cX0_setForetold 0 = .ok (.aload_n 0, 1) := by decide +kernel
theorem dX0_setForetold_1 : decode cX0_setForetold 1 = .ok (.iload_n 1, 1) := by decide +kernel
theorem dX0_setForetold_2 : decode cX0_setForetold 2 = .ok (.putfield 19, 3) := by decide +kernel
theorem dX0_setForetold_5 : decode cX0_setForetold 5 = .ok (.aload_n 0, 1) := by decide +kernel
theorem dX0_setForetold_6 : decode cX0_setForetold 6 = .ok (.iconst 0, 1) := by decide +kernel
theorem dX0_setForetold_7 : decode cX0_setForetold 7 = .ok (.putfield 22, 3) := by decide +kernel
theorem dX0_setForetold_10 : decode cX0_setForetold 10 = .ok (.return_, 1) := by decide +kernel
set_option maxRecDepth 20000 in
theorem ggX0_setMeasured_X0_strengthClass : GoodIn wsX0_setMeasured wsX0_strengthClass := goodIn_r _ [8, 1, 9, 10, 11, 33, 34, 35, 36, 37, 38, 39, 40, 41, 42] (by decide +kernel) (by decide +kernel)
set_option maxRecDepth 20000 in
theorem gX0_setMeasured_X0_strengthClass : GoodIn wsX0_setMeasured (wsV RX0 58 RX0 yX0_strengthClass wsX0_strengthClass) := goodIn_app (goodIn_of _ (by decide +kernel)) ggX0_setMeasured_X0_strengthClass
set_option maxRecDepth 20000 in
theorem ggX0_setMeasured_X0_voidAllLabels : GoodIn wsX0_setMeasured wsX0_voidAllLabels := goodIn_r _ [15, 16, 17, 33, 34, 35, 36, 37, 38, 39, 40, 41, 42] (by decide +kernel) (by decide +kernel)
set_option maxRecDepth 20000 in
theorem gX0_setMeasured_X0_voidAllLabels : GoodIn wsX0_setMeasured (wsV RX0 62 RX0 yX0_voidAllLabels wsX0_voidAllLabels) := goodIn_app (goodIn_of _ (by decide +kernel)) ggX0_setMeasured_X0_voidAllLabels
set_option maxRecDepth 20000 in
theorem ggX0_setMeasured_X0_raiseStamps : GoodIn wsX0_setMeasured wsX0_raiseStamps := goodIn_r _ [21, 22, 23, 10, 24, 25, 26, 27, 28, 29, 30, 31, 7, 32, 33, 34, 35, 36, 37, 38, 39, 40, 41, 42] (by decide +kernel) (by decide +kernel)
set_option maxRecDepth 20000 in
theorem gX0_setMeasured_X0_raiseStamps : GoodIn wsX0_setMeasured (wsV RX0 73 RX0 yX0_raiseStamps wsX0_raiseStamps) := goodIn_app (goodIn_of _ (by decide +kernel)) ggX0_setMeasured_X0_raiseStamps
theorem dX0_setMeasured_0 : decode cX0_setMeasured 0 = .ok (.aload_n 0, 1) := by decide +kernel
theorem dX0_setMeasured_1 : decode cX0_setMeasured 1 = .ok (.iload_n 1, 1) := by decide +kernel
theorem dX0_setMeasured_2 : decode cX0_setMeasured 2 = .ok (.putfield 19, 3) := by decide +kernel
theorem dX0_setMeasured_5 : decode cX0_setMeasured 5 = .ok (.aload_n 0, 1) := by decide +kernel
theorem dX0_setMeasured_6 : decode cX0_setMeasured 6 = .ok (.iconst 1, 1) := by decide +kernel
theorem dX0_setMeasured_7 : decode cX0_setMeasured 7 = .ok (.putfield 22, 3) := by decide +kernel
theorem dX0_setMeasured_10 : decode cX0_setMeasured 10 = .ok (.aload_n 0, 1) := by decide +kernel
theorem dX0_setMeasured_11 : decode cX0_setMeasured 11 = .ok (.invokevirtual 58, 3) := by decide +kernel
theorem dX0_setMeasured_14 : decode cX0_setMeasured 14 = .ok (.aload_n 0, 1) := by decide +kernel
theorem dX0_setMeasured_15 : decode cX0_setMeasured 15 = .ok (.getfield 29, 3) := by decide +kernel
theorem dX0_setMeasured_18 : decode cX0_setMeasured 18 = .ok (.if_icmp .le 7, 3) := by decide +kernel
theorem dX0_setMeasured_21 : decode cX0_setMeasured 21 = .ok (.aload_n 0, 1) := by decide +kernel
theorem dX0_setMeasured_22 : decode cX0_setMeasured 22 = .ok (.invokevirtual 62, 3) := by decide +kernel
theorem dX0_setMeasured_25 : decode cX0_setMeasured 25 = .ok (.aload_n 0, 1) := by decide +kernel
theorem dX0_setMeasured_26 : decode cX0_setMeasured 26 = .ok (.aload_n 0, 1) := by decide +kernel
theorem dX0_setMeasured_27 : decode cX0_setMeasured 27 = .ok (.invokevirtual 58, 3) := by decide +kernel
theorem dX0_setMeasured_30 : decode cX0_setMeasured 30 = .ok (.invokevirtual 73, 3) := by decide +kernel
theorem dX0_setMeasured_33 : decode cX0_setMeasured 33 = .ok (.ireturn, 1) := by decide +kernel
set_option maxRecDepth 20000 in
theorem ggX0_raiseStamps_X2_stampOf : GoodIn wsX0_raiseStamps wsX2_stampOf := goodIn_r _ [4, 5, 6, 7, 3, 8] (by decide +kernel) (by decide +kernel)
set_option maxRecDepth 20000 in
theorem gX0_raiseStamps_X2_stampOf_n76 : GoodIn wsX0_raiseStamps (wsX2_stampOf) := ggX0_raiseStamps_X2_stampOf
set_option maxRecDepth 20000 in
theorem ggX0_raiseStamps_X0_addBottles : GoodIn wsX0_raiseStamps wsX0_addBottles := goodIn_r _ [13, 1, 14, 15, 16, 17, 18, 19, 20, 21, 22, 23] (by decide +kernel) (by decide +kernel)
set_option maxRecDepth 20000 in
theorem gX0_raiseStamps_X0_addBottles : GoodIn wsX0_raiseStamps (wsV RX0 69 RX0 yX0_addBottles wsX0_addBottles) := goodIn_app (goodIn_of _ (by decide +kernel)) ggX0_raiseStamps_X0_addBottles
theorem dX0_raiseStamps_0 : decode cX0_raiseStamps 0 = .ok (.iconst 0, 1) := by decide +kernel
theorem dX0_raiseStamps_1 : decode cX0_raiseStamps 1 = .ok (.istore_n 2, 1) := by decide +kernel
theorem dX0_raiseStamps_2 : decode cX0_raiseStamps 2 = .ok (.iconst 0, 1) := by decide +kernel
theorem dX0_raiseStamps_3 : decode cX0_raiseStamps 3 = .ok (.istore_n 3, 1) := by decide +kernel
theorem dX0_raiseStamps_4 : decode cX0_raiseStamps 4 = .ok (.iload_n 3, 1) := by decide +kernel
theorem dX0_raiseStamps_5 : decode cX0_raiseStamps 5 = .ok (.iload_n 1, 1) := by decide +kernel
theorem dX0_raiseStamps_6 : decode cX0_raiseStamps 6 = .ok (.if_icmp .ge 55, 3) := by decide +kernel
theorem dX0_raiseStamps_9 : decode cX0_raiseStamps 9 = .ok (.iload_n 3, 1) := by decide +kernel
theorem dX0_raiseStamps_10 : decode cX0_raiseStamps 10 = .ok (.aload_n 0, 1) := by decide +kernel
theorem dX0_raiseStamps_11 : decode cX0_raiseStamps 11 = .ok (.getfield 47, 3) := by decide +kernel
theorem dX0_raiseStamps_14 : decode cX0_raiseStamps 14 = .ok (.arraylength, 1) := by decide +kernel
theorem dX0_raiseStamps_15 : decode cX0_raiseStamps 15 = .ok (.if_icmp .ge 46, 3) := by decide +kernel
theorem dX0_raiseStamps_18 : decode cX0_raiseStamps 18 = .ok (.aload_n 0, 1) := by decide +kernel
theorem dX0_raiseStamps_19 : decode cX0_raiseStamps 19 = .ok (.getfield 47, 3) := by decide +kernel
theorem dX0_raiseStamps_22 : decode cX0_raiseStamps 22 = .ok (.iload_n 3, 1) := by decide +kernel
theorem dX0_raiseStamps_23 : decode cX0_raiseStamps 23 = .ok (.iaload, 1) := by decide +kernel
theorem dX0_raiseStamps_24 : decode cX0_raiseStamps 24 = .ok (.istore 4, 2) := by decide +kernel
theorem dX0_raiseStamps_26 : decode cX0_raiseStamps 26 = .ok (.iload_n 2, 1) := by decide +kernel
theorem dX0_raiseStamps_27 : decode cX0_raiseStamps 27 = .ok (.iload 4, 2) := by decide +kernel
theorem dX0_raiseStamps_29 : decode cX0_raiseStamps 29 = .ok (.iload_n 1, 1) := by decide +kernel
theorem dX0_raiseStamps_30 : decode cX0_raiseStamps 30 = .ok (.invokestatic 76, 3) := by decide +kernel
theorem dX0_raiseStamps_33 : decode cX0_raiseStamps 33 = .ok (.iload_n 3, 1) := by decide +kernel
theorem dX0_raiseStamps_34 : decode cX0_raiseStamps 34 = .ok (.invokestatic 76, 3) := by decide +kernel
theorem dX0_raiseStamps_37 : decode cX0_raiseStamps 37 = .ok (.isub, 1) := by decide +kernel
theorem dX0_raiseStamps_38 : decode cX0_raiseStamps 38 = .ok (.imul, 1) := by decide +kernel
theorem dX0_raiseStamps_39 : decode cX0_raiseStamps 39 = .ok (.iadd, 1) := by decide +kernel
theorem dX0_raiseStamps_40 : decode cX0_raiseStamps 40 = .ok (.istore_n 2, 1) := by decide +kernel
theorem dX0_raiseStamps_41 : decode cX0_raiseStamps 41 = .ok (.aload_n 0, 1) := by decide +kernel
theorem dX0_raiseStamps_42 : decode cX0_raiseStamps 42 = .ok (.getfield 47, 3) := by decide +kernel
theorem dX0_raiseStamps_45 : decode cX0_raiseStamps 45 = .ok (.iload_n 3, 1) := by decide +kernel
theorem dX0_raiseStamps_46 : decode cX0_raiseStamps 46 = .ok (.iconst 0, 1) := by decide +kernel
theorem dX0_raiseStamps_47 : decode cX0_raiseStamps 47 = .ok (.iastore, 1) := by decide +kernel
theorem dX0_raiseStamps_48 : decode cX0_raiseStamps 48 = .ok (.aload_n 0, 1) := by decide +kernel
theorem dX0_raiseStamps_49 : decode cX0_raiseStamps 49 = .ok (.iload_n 1, 1) := by decide +kernel
theorem dX0_raiseStamps_50 : decode cX0_raiseStamps 50 = .ok (.iload 4, 2) := by decide +kernel
theorem dX0_raiseStamps_52 : decode cX0_raiseStamps 52 = .ok (.invokevirtual 69, 3) := by decide +kernel
theorem dX0_raiseStamps_55 : decode cX0_raiseStamps 55 = .ok (.iinc 3 1, 3) := by decide +kernel
theorem dX0_raiseStamps_58 : decode cX0_raiseStamps 58 = .ok (.goto (-54), 3) := by decide +kernel
theorem dX0_raiseStamps_61 : decode cX0_raiseStamps 61 = .ok (.iload_n 2, 1) := by decide +kernel
theorem dX0_raiseStamps_62 : decode cX0_raiseStamps 62 = .ok (.ireturn, 1) := by decide +kernel
theorem dX1_init_0 : decode cX1_init 0 = .ok (.aload_n 0, 1) := by decide +kernel
theorem dX1_init_1 : decode cX1_init 1 = .ok (.invokespecial 3, 3) := by decide +kernel
theorem dX1_init_4 : decode cX1_init 4 = .ok (.aload_n 0, 1) := by decide +kernel
theorem dX1_init_5 : decode cX1_init 5 = .ok (.sipush 512, 3) := by decide +kernel
theorem dX1_init_8 : decode cX1_init 8 = .ok (.newarray .int, 2) := by decide +kernel
theorem dX1_init_10 : decode cX1_init 10 = .ok (.putfield 9, 3) := by decide +kernel
theorem dX1_init_13 : decode cX1_init 13 = .ok (.aload_n 0, 1) := by decide +kernel
theorem dX1_init_14 : decode cX1_init 14 = .ok (.sipush 512, 3) := by decide +kernel
theorem dX1_init_17 : decode cX1_init 17 = .ok (.newarray .int, 2) := by decide +kernel
theorem dX1_init_19 : decode cX1_init 19 = .ok (.putfield 15, 3) := by decide +kernel
theorem dX1_init_22 : decode cX1_init 22 = .ok (.aload_n 0, 1) := by decide +kernel
theorem dX1_init_23 : decode cX1_init 23 = .ok (.sipush 512, 3) := by decide +kernel
theorem dX1_init_26 : decode cX1_init 26 = .ok (.newarray .int, 2) := by decide +kernel
theorem dX1_init_28 : decode cX1_init 28 = .ok (.putfield 18, 3) := by decide +kernel
theorem dX1_init_31 : decode cX1_init 31 = .ok (.aload_n 0, 1) := by decide +kernel
theorem dX1_init_32 : decode cX1_init 32 = .ok (.sipush 512, 3) := by decide +kernel
theorem dX1_init_35 : decode cX1_init 35 = .ok (.newarray .int, 2) := by decide +kernel
theorem dX1_init_37 : decode cX1_init 37 = .ok (.putfield 21, 3) := by decide +kernel
theorem dX1_init_40 : decode cX1_init 40 = .ok (.aload_n 0, 1) := by decide +kernel
theorem dX1_init_41 : decode cX1_init 41 = .ok (.sipush 512, 3) := by decide +kernel
theorem dX1_init_44 : decode cX1_init 44 = .ok (.newarray .int, 2) := by decide +kernel
theorem dX1_init_46 : decode cX1_init 46 = .ok (.putfield 24, 3) := by decide +kernel
theorem dX1_init_49 : decode cX1_init 49 = .ok (.aload_n 0, 1) := by decide +kernel
theorem dX1_init_50 : decode cX1_init 50 = .ok (.iconst 0, 1) := by decide +kernel
theorem dX1_init_51 : decode cX1_init 51 = .ok (.putfield 27, 3) := by decide +kernel
theorem dX1_init_54 : decode cX1_init 54 = .ok (.aload_n 0, 1) := by decide +kernel
theorem dX1_init_55 : decode cX1_init 55 = .ok (.bipush 20, 2) := by decide +kernel
theorem dX1_init_57 : decode cX1_init 57 = .ok (.newarray .int, 2) := by decide +kernel
theorem dX1_init_59 : decode cX1_init 59 = .ok (.putfield 31, 3) := by decide +kernel
theorem dX1_init_62 : decode cX1_init 62 = .ok (.return_, 1) := by decide +kernel
set_option maxRecDepth 20000 in
theorem ggX1_addStrength_X1_add : GoodIn wsX1_addStrength wsX1_add := goodIn_r _ [5, 6, 7, 8, 9, 10, 11, 12, 13, 14, 15, 16, 17, 18] (by decide +kernel) (by decide +kernel)
set_option maxRecDepth 20000 in
theorem gX1_addStrength_X1_add : GoodIn wsX1_addStrength (wsV RX1 34 RX1 yX1_add wsX1_add) := goodIn_app (goodIn_of _ (by decide +kernel)) ggX1_addStrength_X1_add
theorem dX1_addStrength_0 : decode cX1_addStrength 0 = .ok (.aload_n 0, 1) := by decide +kernel
theorem dX1_addStrength_1 : decode cX1_addStrength 1 = .ok (.iload_n 1, 1) := by decide +kernel
theorem dX1_addStrength_2 : decode cX1_addStrength 2 = .ok (.iload_n 2, 1) := by decide +kernel
theorem dX1_addStrength_3 : decode cX1_addStrength 3 = .ok (.iconst (-1), 1) := by decide +kernel
theorem dX1_addStrength_4 : decode cX1_addStrength 4 = .ok (.iconst 0, 1) := by decide +kernel
theorem dX1_addStrength_5 : decode cX1_addStrength 5 = .ok (.iconst 0, 1) := by decide +kernel
theorem dX1_addStrength_6 : decode cX1_addStrength 6 = .ok (.invokevirtual 34, 3) := by decide +kernel
theorem dX1_addStrength_9 : decode cX1_addStrength 9 = .ok (.return_, 1) := by decide +kernel
set_option maxRecDepth 20000 in
theorem ggX1_addBlend_X1_add : GoodIn wsX1_addBlend wsX1_add := goodIn_r _ [5, 6, 7, 8, 9, 10, 11, 12, 13, 14, 15, 16, 17, 18] (by decide +kernel) (by decide +kernel)
set_option maxRecDepth 20000 in
theorem gX1_addBlend_X1_add : GoodIn wsX1_addBlend (wsV RX1 34 RX1 yX1_add wsX1_add) := goodIn_app (goodIn_of _ (by decide +kernel)) ggX1_addBlend_X1_add
theorem dX1_addBlend_0 : decode cX1_addBlend 0 = .ok (.aload_n 0, 1) := by decide +kernel
theorem dX1_addBlend_1 : decode cX1_addBlend 1 = .ok (.iload_n 1, 1) := by decide +kernel
theorem dX1_addBlend_2 : decode cX1_addBlend 2 = .ok (.iconst 0, 1) := by decide +kernel
theorem dX1_addBlend_3 : decode cX1_addBlend 3 = .ok (.iload_n 2, 1) := by decide +kernel
theorem dX1_addBlend_4 : decode cX1_addBlend 4 = .ok (.iload_n 3, 1) := by decide +kernel
theorem dX1_addBlend_5 : decode cX1_addBlend 5 = .ok (.iload 4, 2) := by decide +kernel
theorem dX1_addBlend_7 : decode cX1_addBlend 7 = .ok (.invokevirtual 34, 3) := by decide +kernel
theorem dX1_addBlend_10 : decode cX1_addBlend 10 = .ok (.return_, 1) := by decide +kernel
theorem dX1_add_0 : decode cX1_add 0 = .ok (.aload_n 0, 1) := by decide +kernel
theorem dX1_add_1 : decode cX1_add 1 = .ok (.getfield 27, 3) := by decide +kernel
theorem dX1_add_4 : decode cX1_add 4 = .ok (.istore 6, 2) := by decide +kernel
theorem dX1_add_6 : decode cX1_add 6 = .ok (.iload 6, 2) := by decide +kernel
theorem dX1_add_8 : decode cX1_add 8 = .ok (.ifCond .lt 11, 3) := by decide +kernel
theorem dX1_add_11 : decode cX1_add 11 = .ok (.iload 6, 2) := by decide +kernel
theorem dX1_add_13 : decode cX1_add 13 = .ok (.sipush 512, 3) := by decide +kernel
theorem dX1_add_16 : decode cX1_add 16 = .ok (.if_icmp .lt 4, 3) := by decide +kernel
theorem dX1_add_19 : decode cX1_add 19 = .ok (.return_, 1) := by decide +kernel
theorem dX1_add_20 : decode cX1_add 20 = .ok (.aload_n 0, 1) := by decide +kernel
theorem dX1_add_21 : decode cX1_add 21 = .ok (.getfield 9, 3) := by decide +kernel
theorem dX1_add_24 : decode cX1_add 24 = .ok (.iload 6, 2) := by decide +kernel
theorem dX1_add_26 : decode cX1_add 26 = .ok (.iload_n 1, 1) := by decide +kernel
theorem dX1_add_27 : decode cX1_add 27 = .ok (.iastore, 1) := by decide +kernel
theorem dX1_add_28 : decode cX1_add 28 = .ok (.aload_n 0, 1) := by decide +kernel
theorem dX1_add_29 : decode cX1_add 29 = .ok (.getfield 15, 3) := by decide +kernel
theorem dX1_add_32 : decode cX1_add 32 = .ok (.iload 6, 2) := by decide +kernel
theorem dX1_add_34 : decode cX1_add 34 = .ok (.iload_n 2, 1) := by decide +kernel
theorem dX1_add_35 : decode cX1_add 35 = .ok (.iastore, 1) := by decide +kernel
theorem dX1_add_36 : decode cX1_add 36 = .ok (.aload_n 0, 1) := by decide +kernel
theorem dX1_add_37 : decode cX1_add 37 = .ok (.getfield 18, 3) := by decide +kernel
theorem dX1_add_40 : decode cX1_add 40 = .ok (.iload 6, 2) := by decide +kernel
theorem dX1_add_42 : decode cX1_add 42 = .ok (.iload_n 3, 1) := by decide +kernel
theorem dX1_add_43 : decode cX1_add 43 = .ok (.iastore, 1) := by decide +kernel
theorem dX1_add_44 : decode cX1_add 44 = .ok (.aload_n 0, 1) := by decide +kernel
theorem dX1_add_45 : decode cX1_add 45 = .ok (.getfield 21, 3) := by decide +kernel
theorem dX1_add_48 : decode cX1_add 48 = .ok (.iload 6, 2) := by decide +kernel
theorem dX1_add_50 : decode cX1_add 50 = .ok (.iload 4, 2) := by decide +kernel
theorem dX1_add_52 : decode cX1_add 52 = .ok (.iastore, 1) := by decide +kernel
theorem dX1_add_53 : decode cX1_add 53 = .ok (.aload_n 0, 1) := by decide +kernel
theorem dX1_add_54 : decode cX1_add 54 = .ok (.getfield 24, 3) := by decide +kernel
theorem dX1_add_57 : decode cX1_add 57 = .ok (.iload 6, 2) := by decide +kernel
theorem dX1_add_59 : decode cX1_add 59 = .ok (.iload 5, 2) := by decide +kernel
theorem dX1_add_61 : decode cX1_add 61 = .ok (.iastore, 1) := by decide +kernel
theorem dX1_add_62 : decode cX1_add 62 = .ok (.aload_n 0, 1) := by decide +kernel
theorem dX1_add_63 : decode cX1_add 63 = .ok (.iload 6, 2) := by decide +kernel
theorem dX1_add_65 : decode cX1_add 65 = .ok (.iconst 1, 1) := by decide +kernel
theorem dX1_add_66 : decode cX1_add 66 = .ok (.iadd, 1) := by decide +kernel
theorem dX1_add_67 : decode cX1_add 67 = .ok (.putfield 27, 3) := by decide +kernel
theorem dX1_add_70 : decode cX1_add 70 = .ok (.return_, 1) := by decide +kernel
set_option maxRecDepth 20000 in
theorem ggX1_strengthAnew_X1_strengthAfter : GoodIn wsX1_strengthAnew wsX1_strengthAfter := goodIn_r _ [8, 9, 10, 3, 2, 11, 12, 13, 14, 15, 16, 17, 18, 19, 20, 21, 22, 23, 24] (by decide +kernel) (by decide +kernel)
set_option maxRecDepth 20000 in
theorem gX1_strengthAnew_X1_strengthAfter : GoodIn wsX1_strengthAnew (wsV RX1 38 RX1 yX1_strengthAfter wsX1_strengthAfter) := goodIn_app (goodIn_of _ (by decide +kernel)) ggX1_strengthAnew_X1_strengthAfter
set_option maxRecDepth 20000 in
theorem ggX1_strengthAnew_X2_valueAt : GoodIn wsX1_strengthAnew wsX2_valueAt := goodIn_r _ [15] (by decide +kernel) (by decide +kernel)
set_option maxRecDepth 20000 in
theorem gX1_strengthAnew_X2_valueAt_n42 : GoodIn wsX1_strengthAnew (wsX2_valueAt) := ggX1_strengthAnew_X2_valueAt
theorem dX1_strengthAnew_0 : decode cX1_strengthAnew 0 = .ok (.iconst 0, 1) := by decide +kernel
theorem dX1_strengthAnew_1 : decode cX1_strengthAnew 1 = .ok (.istore_n 2, 1) := by decide +kernel
theorem dX1_strengthAnew_2 : decode cX1_strengthAnew 2 = .ok (.iload_n 2, 1) := by decide +kernel
theorem dX1_strengthAnew_3 : decode cX1_strengthAnew 3 = .ok (.aload_n 0, 1) := by decide +kernel
theorem dX1_strengthAnew_4 : decode cX1_strengthAnew 4 = .ok (.getfield 27, 3) := by decide +kernel
theorem dX1_strengthAnew_7 : decode cX1_strengthAnew 7 = .ok (.if_icmp .ge 47, 3) := by decide +kernel
theorem dX1_strengthAnew_10 : decode cX1_strengthAnew 10 = .ok (.iload_n 2, 1) := by decide +kernel
theorem dX1_strengthAnew_11 : decode cX1_strengthAnew 11 = .ok (.sipush 512, 3) := by decide +kernel
theorem dX1_strengthAnew_14 : decode cX1_strengthAnew 14 = .ok (.if_icmp .ge 40, 3) := by decide +kernel
theorem dX1_strengthAnew_17 : decode cX1_strengthAnew 17 = .ok (.aload_n 0, 1) := by decide +kernel
theorem dX1_strengthAnew_18 : decode cX1_strengthAnew 18 = .ok (.getfield 9, 3) := by decide +kernel
theorem dX1_strengthAnew_21 : decode cX1_strengthAnew 21 = .ok (.iload_n 2, 1) := by decide +kernel
theorem dX1_strengthAnew_22 : decode cX1_strengthAnew 22 = .ok (.iaload, 1) := by decide +kernel
theorem dX1_strengthAnew_23 : decode cX1_strengthAnew 23 = .ok (.istore_n 3, 1) := by decide +kernel
theorem dX1_strengthAnew_24 : decode cX1_strengthAnew 24 = .ok (.iload_n 3, 1) := by decide +kernel
theorem dX1_strengthAnew_25 : decode cX1_strengthAnew 25 = .ok (.ifCond .lt 23, 3) := by decide +kernel
theorem dX1_strengthAnew_28 : decode cX1_strengthAnew 28 = .ok (.iload_n 3, 1) := by decide +kernel
theorem dX1_strengthAnew_29 : decode cX1_strengthAnew 29 = .ok (.aload_n 0, 1) := by decide +kernel
theorem dX1_strengthAnew_30 : decode cX1_strengthAnew 30 = .ok (.getfield 31, 3) := by decide +kernel
theorem dX1_strengthAnew_33 : decode cX1_strengthAnew 33 = .ok (.arraylength, 1) := by decide +kernel
theorem dX1_strengthAnew_34 : decode cX1_strengthAnew 34 = .ok (.if_icmp .ge 14, 3) := by decide +kernel
theorem dX1_strengthAnew_37 : decode cX1_strengthAnew 37 = .ok (.aload_n 0, 1) := by decide +kernel
theorem dX1_strengthAnew_38 : decode cX1_strengthAnew 38 = .ok (.getfield 31, 3) := by decide +kernel
theorem dX1_strengthAnew_41 : decode cX1_strengthAnew 41 = .ok (.iload_n 3, 1) := by decide +kernel
theorem dX1_strengthAnew_42 : decode cX1_strengthAnew 42 = .ok (.aload_n 0, 1) := by decide +kernel
theorem dX1_strengthAnew_43 : decode cX1_strengthAnew 43 = .ok (.iload_n 2, 1) := by decide +kernel
theorem dX1_strengthAnew_44 : decode cX1_strengthAnew 44 = .ok (.invokevirtual 38, 3) := by decide +kernel
theorem dX1_strengthAnew_47 : decode cX1_strengthAnew 47 = .ok (.iastore, 1) := by decide +kernel
theorem dX1_strengthAnew_48 : decode cX1_strengthAnew 48 = .ok (.iinc 2 1, 3) := by decide +kernel
theorem dX1_strengthAnew_51 : decode cX1_strengthAnew 51 = .ok (.goto (-49), 3) := by decide +kernel
theorem dX1_strengthAnew_54 : decode cX1_strengthAnew 54 = .ok (.aload_n 0, 1) := by decide +kernel
theorem dX1_strengthAnew_55 : decode cX1_strengthAnew 55 = .ok (.getfield 31, 3) := by decide +kernel
theorem dX1_strengthAnew_58 : decode cX1_strengthAnew 58 = .ok (.iload_n 1, 1) := by decide +kernel
theorem dX1_strengthAnew_59 : decode cX1_strengthAnew 59 = .ok (.invokestatic 42, 3) := by decide +kernel
theorem dX1_strengthAnew_62 : decode cX1_strengthAnew 62 = .ok (.ireturn, 1) := by decide +kernel
set_option maxRecDepth 20000 in
theorem ggX1_strengthAfter_X2_valueAt : GoodIn wsX1_strengthAfter wsX2_valueAt := goodIn_r _ [9] (by decide +kernel) (by decide +kernel)
set_option maxRecDepth 20000 in
theorem gX1_strengthAfter_X2_valueAt_n42 : GoodIn wsX1_strengthAfter (wsX2_valueAt) := ggX1_strengthAfter_X2_valueAt
set_option maxRecDepth 20000 in
theorem ggX1_strengthAfter_X2_blendedStrength : GoodIn wsX1_strengthAfter wsX2_blendedStrength := goodIn_r _ [11] (by decide +kernel) (by decide +kernel)
set_option maxRecDepth 20000 in
theorem gX1_strengthAfter_X2_blendedStrength_n46 : GoodIn wsX1_strengthAfter (wsX2_blendedStrength) := ggX1_strengthAfter_X2_blendedStrength
theorem dX1_strengthAfter_0 : decode cX1_strengthAfter 0 = .ok (.iload_n 1, 1) := by decide +kernel
theorem dX1_strengthAfter_1 : decode cX1_strengthAfter 1 = .ok (.ifCond .lt 10, 3) := by decide +kernel
theorem dX1_strengthAfter_4 : decode cX1_strengthAfter 4 = .ok (.iload_n 1, 1) := by decide +kernel
theorem dX1_strengthAfter_5 : decode cX1_strengthAfter 5 = .ok (.sipush 512, 3) := by decide +kernel
theorem dX1_strengthAfter_8 : decode cX1_strengthAfter 8 = .ok (.if_icmp .lt 5, 3) := by decide +kernel
theorem dX1_strengthAfter_11 : decode cX1_strengthAfter 11 = .ok (.iconst 0, 1) := by decide +kernel
theorem dX1_strengthAfter_12 : decode cX1_strengthAfter 12 = .ok (.ireturn, 1) := by decide +kernel
theorem dX1_strengthAfter_13 : decode cX1_strengthAfter 13 = .ok (.aload_n 0, 1) := by decide +kernel
theorem dX1_strengthAfter_14 : decode cX1_strengthAfter 14 = .ok (.getfield 18, 3) := by decide +kernel
theorem dX1_strengthAfter_17 : decode cX1_strengthAfter 17 = .ok (.iload_n 1, 1) := by decide +kernel
theorem dX1_strengthAfter_18 : decode cX1_strengthAfter 18 = .ok (.iaload, 1) := by decide +kernel
theorem dX1_strengthAfter_19 : decode cX1_strengthAfter 19 = .ok (.iconst (-1), 1) := by decide +kernel
theorem dX1_strengthAfter_20 : decode cX1_strengthAfter 20 = .ok (.if_icmp .ne 10, 3) := by decide +kernel
theorem dX1_strengthAfter_23 : decode cX1_strengthAfter 23 = .ok (.aload_n 0, 1) := by decide +kernel
theorem dX1_strengthAfter_24 : decode cX1_strengthAfter 24 = .ok (.getfield 15, 3) := by decide +kernel
theorem dX1_strengthAfter_27 : decode cX1_strengthAfter 27 = .ok (.iload_n 1, 1) := by decide +kernel
theorem dX1_strengthAfter_28 : decode cX1_strengthAfter 28 = .ok (.iaload, 1) := by decide +kernel
theorem dX1_strengthAfter_29 : decode cX1_strengthAfter 29 = .ok (.ireturn, 1) := by decide +kernel
theorem dX1_strengthAfter_30 : decode cX1_strengthAfter 30 = .ok (.aload_n 0, 1) := by decide +kernel
theorem dX1_strengthAfter_31 : decode cX1_strengthAfter 31 = .ok (.getfield 31, 3) := by decide +kernel
theorem dX1_strengthAfter_34 : decode cX1_strengthAfter 34 = .ok (.aload_n 0, 1) := by decide +kernel
theorem dX1_strengthAfter_35 : decode cX1_strengthAfter 35 = .ok (.getfield 9, 3) := by decide +kernel
theorem dX1_strengthAfter_38 : decode cX1_strengthAfter 38 = .ok (.iload_n 1, 1) := by decide +kernel
theorem dX1_strengthAfter_39 : decode cX1_strengthAfter 39 = .ok (.iaload, 1) := by decide +kernel
theorem dX1_strengthAfter_40 : decode cX1_strengthAfter 40 = .ok (.invokestatic 42, 3) := by decide +kernel
theorem dX1_strengthAfter_43 : decode cX1_strengthAfter 43 = .ok (.aload_n 0, 1) := by decide +kernel
theorem dX1_strengthAfter_44 : decode cX1_strengthAfter 44 = .ok (.getfield 21, 3) := by decide +kernel
theorem dX1_strengthAfter_47 : decode cX1_strengthAfter 47 = .ok (.iload_n 1, 1) := by decide +kernel
theorem dX1_strengthAfter_48 : decode cX1_strengthAfter 48 = .ok (.iaload, 1) := by decide +kernel
theorem dX1_strengthAfter_49 : decode cX1_strengthAfter 49 = .ok (.aload_n 0, 1) := by decide +kernel
theorem dX1_strengthAfter_50 : decode cX1_strengthAfter 50 = .ok (.getfield 31, 3) := by decide +kernel
theorem dX1_strengthAfter_53 : decode cX1_strengthAfter 53 = .ok (.aload_n 0, 1) := by decide +kernel
theorem dX1_strengthAfter_54 : decode cX1_strengthAfter 54 = .ok (.getfield 18, 3) := by decide +kernel
theorem dX1_strengthAfter_57 : decode cX1_strengthAfter 57 = .ok (.iload_n 1, 1) := by decide +kernel
theorem dX1_strengthAfter_58 : decode cX1_strengthAfter 58 = .ok (.iaload, 1) := by decide +kernel
theorem dX1_strengthAfter_59 : decode cX1_strengthAfter 59 = .ok (.invokestatic 42, 3) := by decide +kernel
theorem dX1_strengthAfter_62 : decode cX1_strengthAfter 62 = .ok (.aload_n 0, 1) := by decide +kernel
theorem dX1_strengthAfter_63 : decode cX1_strengthAfter 63 = .ok (.getfield 24, 3) := by decide +kernel
theorem dX1_strengthAfter_66 : decode cX1_strengthAfter 66 = .ok (.iload_n 1, 1) := by decide +kernel
theorem dX1_strengthAfter_67 : decode cX1_strengthAfter 67 = .ok (.iaload, 1) := by decide +kernel
theorem dX1_strengthAfter_68 : decode cX1_strengthAfter 68 = .ok (.invokestatic 46, 3) := by decide +kernel

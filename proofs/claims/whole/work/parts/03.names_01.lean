theorem dX1_meantBy_0 : decode cX1_meantBy 0 = .ok (.iload_n 0, 1) := by decide +kernel
theorem dX1_meantBy_1 : decode cX1_meantBy 1 = .ok (.aload_n 1, 1) := by decide +kernel
theorem dX1_meantBy_2 : decode cX1_meantBy 2 = .ok (.invokestatic 63, 3) := by decide +kernel
theorem dX1_meantBy_5 : decode cX1_meantBy 5 = .ok (.istore_n 3, 1) := by decide +kernel
theorem dX1_meantBy_6 : decode cX1_meantBy 6 = .ok (.iload_n 3, 1) := by decide +kernel
theorem dX1_meantBy_7 : decode cX1_meantBy 7 = .ok (.ifCond .ge 7, 3) := by decide +kernel
theorem dX1_meantBy_10 : decode cX1_meantBy 10 = .ok (.iload_n 0, 1) := by decide +kernel
theorem dX1_meantBy_11 : decode cX1_meantBy 11 = .ok (.goto 8, 3) := by decide +kernel
theorem dX1_meantBy_14 : decode cX1_meantBy 14 = .ok (.iload_n 3, 1) := by decide +kernel
theorem dX1_meantBy_15 : decode cX1_meantBy 15 = .ok (.aload_n 2, 1) := by decide +kernel
theorem dX1_meantBy_16 : decode cX1_meantBy 16 = .ok (.invokestatic 67, 3) := by decide +kernel
theorem dX1_meantBy_19 : decode cX1_meantBy 19 = .ok (.ireturn, 1) := by decide +kernel
set_option maxRecDepth 20000 in
theorem ggX1_opInRow_X1_placeOf : GoodIn wsX1_opInRow wsX1_placeOf := goodIn_r _ [4, 5, 6, 7, 8, 9, 10, 11, 12, 13, 14, 15, 16, 17, 18, 19, 20, 21, 22, 23, 24, 25, 26, 27, 28, 29, 30, 31, 32, 33, 34, 35, 36, 37, 38, 39, 40, 41, 42, 43, 44, 45, 46, 47, 48, 49, 50, 51, 52, 53] (by decide +kernel) (by decide +kernel)
set_option maxRecDepth 20000 in
theorem gX1_opInRow_X1_placeOf : GoodIn wsX1_opInRow (va_wsS RX1 63 yX1_placeOf wsX1_placeOf) := goodIn_app (goodIn_of _ (by decide +kernel)) ggX1_opInRow_X1_placeOf
theorem dX1_opInRow_0 : decode cX1_opInRow 0 = .ok (.iload_n 3, 1) := by decide +kernel
theorem dX1_opInRow_1 : decode cX1_opInRow 1 = .ok (.aload_n 0, 1) := by decide +kernel
theorem dX1_opInRow_2 : decode cX1_opInRow 2 = .ok (.invokestatic 63, 3) := by decide +kernel
theorem dX1_opInRow_5 : decode cX1_opInRow 5 = .ok (.istore 4, 2) := by decide +kernel
theorem dX1_opInRow_7 : decode cX1_opInRow 7 = .ok (.iload 4, 2) := by decide +kernel
theorem dX1_opInRow_9 : decode cX1_opInRow 9 = .ok (.ifCond .ge 7, 3) := by decide +kernel
theorem dX1_opInRow_12 : decode cX1_opInRow 12 = .ok (.iconst (-1), 1) := by decide +kernel
theorem dX1_opInRow_13 : decode cX1_opInRow 13 = .ok (.goto 9, 3) := by decide +kernel
theorem dX1_opInRow_16 : decode cX1_opInRow 16 = .ok (.iload_n 1, 1) := by decide +kernel
theorem dX1_opInRow_17 : decode cX1_opInRow 17 = .ok (.iload_n 2, 1) := by decide +kernel
theorem dX1_opInRow_18 : decode cX1_opInRow 18 = .ok (.iload 4, 2) := by decide +kernel
theorem dX1_opInRow_20 : decode cX1_opInRow 20 = .ok (.imul, 1) := by decide +kernel
theorem dX1_opInRow_21 : decode cX1_opInRow 21 = .ok (.iadd, 1) := by decide +kernel
theorem dX1_opInRow_22 : decode cX1_opInRow 22 = .ok (.ireturn, 1) := by decide +kernel
set_option maxRecDepth 20000 in
theorem ggX1_placeOf_J0_length_8abf5 : GoodIn wsX1_placeOf wsJ0_length_8abf5 := goodIn_r _ [5, 6, 7, 8, 9, 4, 10, 11, 12] (by decide +kernel) (by decide +kernel)
set_option maxRecDepth 20000 in
theorem gX1_placeOf_J0_length_8abf5 : GoodIn wsX1_placeOf (wsV RX1 70 RJ0 yJ0_length_8abf5 wsJ0_length_8abf5) := goodIn_app (goodIn_of _ (by decide +kernel)) ggX1_placeOf_J0_length_8abf5
set_option maxRecDepth 20000 in
theorem ggX1_placeOf_J0_charAt_5068e : GoodIn wsX1_placeOf wsJ0_charAt_5068e := goodIn_r _ [16, 6, 17, 18, 19, 4, 20, 11, 12, 21, 22, 23, 24, 25, 26, 27, 28, 29, 30, 31, 32, 33, 34, 35, 36, 37, 38, 39, 40, 41, 42, 43, 44, 45, 46, 47, 48, 49] (by decide +kernel) (by decide +kernel)
set_option maxRecDepth 20000 in
theorem gX1_placeOf_J0_charAt_5068e : GoodIn wsX1_placeOf (wsV RX1 76 RJ0 yJ0_charAt_5068e wsJ0_charAt_5068e) := goodIn_app (goodIn_of _ (by decide +kernel)) ggX1_placeOf_J0_charAt_5068e
theorem dX1_placeOf_0 : decode cX1_placeOf 0 = .ok (.iconst 0, 1) := by decide +kernel
theorem dX1_placeOf_1 : decode cX1_placeOf 1 = .ok (.istore_n 2, 1) := by decide +kernel
theorem dX1_placeOf_2 : decode cX1_placeOf 2 = .ok (.iconst 0, 1) := by decide +kernel
theorem dX1_placeOf_3 : decode cX1_placeOf 3 = .ok (.istore_n 3, 1) := by decide +kernel
theorem dX1_placeOf_4 : decode cX1_placeOf 4 = .ok (.iconst 0, 1) := by decide +kernel
theorem dX1_placeOf_5 : decode cX1_placeOf 5 = .ok (.istore 4, 2) := by decide +kernel
theorem dX1_placeOf_7 : decode cX1_placeOf 7 = .ok (.iload 4, 2) := by decide +kernel
theorem dX1_placeOf_9 : decode cX1_placeOf 9 = .ok (.aload_n 1, 1) := by decide +kernel
theorem dX1_placeOf_10 : decode cX1_placeOf 10 = .ok (.invokevirtual 70, 3) := by decide +kernel
theorem dX1_placeOf_13 : decode cX1_placeOf 13 = .ok (.if_icmp .ge 50, 3) := by decide +kernel
theorem dX1_placeOf_16 : decode cX1_placeOf 16 = .ok (.aload_n 1, 1) := by decide +kernel
theorem dX1_placeOf_17 : decode cX1_placeOf 17 = .ok (.iload 4, 2) := by decide +kernel
theorem dX1_placeOf_19 : decode cX1_placeOf 19 = .ok (.invokevirtual 76, 3) := by decide +kernel
theorem dX1_placeOf_22 : decode cX1_placeOf 22 = .ok (.istore 5, 2) := by decide +kernel
theorem dX1_placeOf_24 : decode cX1_placeOf 24 = .ok (.iload 5, 2) := by decide +kernel
theorem dX1_placeOf_26 : decode cX1_placeOf 26 = .ok (.bipush 32, 2) := by decide +kernel
theorem dX1_placeOf_28 : decode cX1_placeOf 28 = .ok (.if_icmp .eq 17, 3) := by decide +kernel
theorem dX1_placeOf_31 : decode cX1_placeOf 31 = .ok (.bipush 27, 2) := by decide +kernel
theorem dX1_placeOf_33 : decode cX1_placeOf 33 = .ok (.iload_n 3, 1) := by decide +kernel
theorem dX1_placeOf_34 : decode cX1_placeOf 34 = .ok (.imul, 1) := by decide +kernel
theorem dX1_placeOf_35 : decode cX1_placeOf 35 = .ok (.iload 5, 2) := by decide +kernel
theorem dX1_placeOf_37 : decode cX1_placeOf 37 = .ok (.iadd, 1) := by decide +kernel
theorem dX1_placeOf_38 : decode cX1_placeOf 38 = .ok (.bipush 64, 2) := by decide +kernel
theorem dX1_placeOf_40 : decode cX1_placeOf 40 = .ok (.isub, 1) := by decide +kernel
theorem dX1_placeOf_41 : decode cX1_placeOf 41 = .ok (.istore_n 3, 1) := by decide +kernel
theorem dX1_placeOf_42 : decode cX1_placeOf 42 = .ok (.goto 15, 3) := by decide +kernel
theorem dX1_placeOf_45 : decode cX1_placeOf 45 = .ok (.iload_n 3, 1) := by decide +kernel
theorem dX1_placeOf_46 : decode cX1_placeOf 46 = .ok (.iload_n 0, 1) := by decide +kernel
theorem dX1_placeOf_47 : decode cX1_placeOf 47 = .ok (.if_icmp .ne 5, 3) := by decide +kernel
theorem dX1_placeOf_50 : decode cX1_placeOf 50 = .ok (.iload_n 2, 1) := by decide +kernel
theorem dX1_placeOf_51 : decode cX1_placeOf 51 = .ok (.ireturn, 1) := by decide +kernel
theorem dX1_placeOf_52 : decode cX1_placeOf 52 = .ok (.iinc 2 1, 3) := by decide +kernel
theorem dX1_placeOf_55 : decode cX1_placeOf 55 = .ok (.iconst 0, 1) := by decide +kernel
theorem dX1_placeOf_56 : decode cX1_placeOf 56 = .ok (.istore_n 3, 1) := by decide +kernel
theorem dX1_placeOf_57 : decode cX1_placeOf 57 = .ok (.iinc 4 1, 3) := by decide +kernel
theorem dX1_placeOf_60 : decode cX1_placeOf 60 = .ok (.goto (-53), 3) := by decide +kernel
theorem dX1_placeOf_63 : decode cX1_placeOf 63 = .ok (.iload_n 3, 1) := by decide +kernel
theorem dX1_placeOf_64 : decode cX1_placeOf 64 = .ok (.iload_n 0, 1) := by decide +kernel
theorem dX1_placeOf_65 : decode cX1_placeOf 65 = .ok (.if_icmp .ne 7, 3) := by decide +kernel
theorem dX1_placeOf_68 : decode cX1_placeOf 68 = .ok (.iload_n 2, 1) := by decide +kernel
theorem dX1_placeOf_69 : decode cX1_placeOf 69 = .ok (.goto 4, 3) := by decide +kernel
theorem dX1_placeOf_72 : decode cX1_placeOf 72 = .ok (.iconst (-1), 1) := by decide +kernel
theorem dX1_placeOf_73 : decode cX1_placeOf 73 = .ok (.ireturn, 1) := by decide +kernel
set_option maxRecDepth 20000 in
theorem ggX1_nameAt_J0_length_8abf5 : GoodIn wsX1_nameAt wsJ0_length_8abf5 := goodIn_r _ [5, 6, 7, 8, 9, 4, 10, 11, 12] (by decide +kernel) (by decide +kernel)
set_option maxRecDepth 20000 in
theorem gX1_nameAt_J0_length_8abf5 : GoodIn wsX1_nameAt (wsV RX1 70 RJ0 yJ0_length_8abf5 wsJ0_length_8abf5) := goodIn_app (goodIn_of _ (by decide +kernel)) ggX1_nameAt_J0_length_8abf5
set_option maxRecDepth 20000 in
theorem ggX1_nameAt_J0_charAt_5068e : GoodIn wsX1_nameAt wsJ0_charAt_5068e := goodIn_r _ [16, 6, 17, 18, 19, 4, 20, 11, 12, 21, 22, 23, 24, 25, 26, 27, 28, 29, 30, 31, 32, 33, 34, 35, 36, 37, 38, 39, 40, 41, 42, 43, 44, 45, 46, 47, 48, 49] (by decide +kernel) (by decide +kernel)
set_option maxRecDepth 20000 in
theorem gX1_nameAt_J0_charAt_5068e : GoodIn wsX1_nameAt (wsV RX1 76 RJ0 yJ0_charAt_5068e wsJ0_charAt_5068e) := goodIn_app (goodIn_of _ (by decide +kernel)) ggX1_nameAt_J0_charAt_5068e
theorem dX1_nameAt_0 : decode cX1_nameAt 0 = .ok (.iconst 0, 1) := by decide +kernel
theorem dX1_nameAt_1 : decode cX1_nameAt 1 = .ok (.istore_n 2, 1) := by decide +kernel
theorem dX1_nameAt_2 : decode cX1_nameAt 2 = .ok (.iconst 0, 1) := by decide +kernel
theorem dX1_nameAt_3 : decode cX1_nameAt 3 = .ok (.istore_n 3, 1) := by decide +kernel
theorem dX1_nameAt_4 : decode cX1_nameAt 4 = .ok (.iconst 0, 1) := by decide +kernel
theorem dX1_nameAt_5 : decode cX1_nameAt 5 = .ok (.istore 4, 2) := by decide +kernel
theorem dX1_nameAt_7 : decode cX1_nameAt 7 = .ok (.iload 4, 2) := by decide +kernel
theorem dX1_nameAt_9 : decode cX1_nameAt 9 = .ok (.aload_n 1, 1) := by decide +kernel
theorem dX1_nameAt_10 : decode cX1_nameAt 10 = .ok (.invokevirtual 70, 3) := by decide +kernel
theorem dX1_nameAt_13 : decode cX1_nameAt 13 = .ok (.if_icmp .ge 51, 3) := by decide +kernel
theorem dX1_nameAt_16 : decode cX1_nameAt 16 = .ok (.iload_n 2, 1) := by decide +kernel
theorem dX1_nameAt_17 : decode cX1_nameAt 17 = .ok (.iload_n 0, 1) := by decide +kernel
theorem dX1_nameAt_18 : decode cX1_nameAt 18 = .ok (.if_icmp .gt 46, 3) := by decide +kernel
theorem dX1_nameAt_21 : decode cX1_nameAt 21 = .ok (.aload_n 1, 1) := by decide +kernel
theorem dX1_nameAt_22 : decode cX1_nameAt 22 = .ok (.iload 4, 2) := by decide +kernel
theorem dX1_nameAt_24 : decode cX1_nameAt 24 = .ok (.invokevirtual 76, 3) := by decide +kernel
theorem dX1_nameAt_27 : decode cX1_nameAt 27 = .ok (.istore 5, 2) := by decide +kernel
theorem dX1_nameAt_29 : decode cX1_nameAt 29 = .ok (.iload 5, 2) := by decide +kernel
theorem dX1_nameAt_31 : decode cX1_nameAt 31 = .ok (.bipush 32, 2) := by decide +kernel
theorem dX1_nameAt_33 : decode cX1_nameAt 33 = .ok (.if_icmp .ne 9, 3) := by decide +kernel
theorem dX1_nameAt_36 : decode cX1_nameAt 36 = .ok (.iinc 2 1, 3) := by decide +kernel
theorem dX1_nameAt_39 : decode cX1_nameAt 39 = .ok (.goto 19, 3) := by decide +kernel
theorem dX1_nameAt_42 : decode cX1_nameAt 42 = .ok (.iload_n 2, 1) := by decide +kernel
theorem dX1_nameAt_43 : decode cX1_nameAt 43 = .ok (.iload_n 0, 1) := by decide +kernel
theorem dX1_nameAt_44 : decode cX1_nameAt 44 = .ok (.if_icmp .ne 14, 3) := by decide +kernel
theorem dX1_nameAt_47 : decode cX1_nameAt 47 = .ok (.bipush 27, 2) := by decide +kernel
theorem dX1_nameAt_49 : decode cX1_nameAt 49 = .ok (.iload_n 3, 1) := by decide +kernel
theorem dX1_nameAt_50 : decode cX1_nameAt 50 = .ok (.imul, 1) := by decide +kernel
theorem dX1_nameAt_51 : decode cX1_nameAt 51 = .ok (.iload 5, 2) := by decide +kernel
theorem dX1_nameAt_53 : decode cX1_nameAt 53 = .ok (.iadd, 1) := by decide +kernel
theorem dX1_nameAt_54 : decode cX1_nameAt 54 = .ok (.bipush 64, 2) := by decide +kernel
theorem dX1_nameAt_56 : decode cX1_nameAt 56 = .ok (.isub, 1) := by decide +kernel
theorem dX1_nameAt_57 : decode cX1_nameAt 57 = .ok (.istore_n 3, 1) := by decide +kernel
theorem dX1_nameAt_58 : decode cX1_nameAt 58 = .ok (.iinc 4 1, 3) := by decide +kernel
theorem dX1_nameAt_61 : decode cX1_nameAt 61 = .ok (.goto (-54), 3) := by decide +kernel
theorem dX1_nameAt_64 : decode cX1_nameAt 64 = .ok (.iload_n 3, 1) := by decide +kernel
theorem dX1_nameAt_65 : decode cX1_nameAt 65 = .ok (.ireturn, 1) := by decide +kernel
theorem dX2_isAbove_0 : decode cX2_isAbove 0 = .ok (.lload_n 0, 1) := by decide +kernel
theorem dX2_isAbove_1 : decode cX2_isAbove 1 = .ok (.ldc2_w 9, 3) := by decide +kernel
theorem dX2_isAbove_4 : decode cX2_isAbove 4 = .ok (.ladd, 1) := by decide +kernel
theorem dX2_isAbove_5 : decode cX2_isAbove 5 = .ok (.lload_n 2, 1) := by decide +kernel
theorem dX2_isAbove_6 : decode cX2_isAbove 6 = .ok (.ldc2_w 9, 3) := by decide +kernel
theorem dX2_isAbove_9 : decode cX2_isAbove 9 = .ok (.ladd, 1) := by decide +kernel
theorem dX2_isAbove_10 : decode cX2_isAbove 10 = .ok (.lcmp, 1) := by decide +kernel
theorem dX2_isAbove_11 : decode cX2_isAbove 11 = .ok (.ifCond .le 7, 3) := by decide +kernel
theorem dX2_isAbove_14 : decode cX2_isAbove 14 = .ok (.iconst 1, 1) := by decide +kernel
theorem dX2_isAbove_15 : decode cX2_isAbove 15 = .ok (.goto 4, 3) := by decide +kernel
theorem dX2_isAbove_18 : decode cX2_isAbove 18 = .ok (.iconst 0, 1) := by decide +kernel
theorem dX2_isAbove_19 : decode cX2_isAbove 19 = .ok (.ireturn, 1) := by decide +kernel
theorem dX2_highOfProduct_0 : decode cX2_highOfProduct 0 = .ok (.lload_n 0, 1) := by decide +kernel
theorem dX2_highOfProduct_1 : decode cX2_highOfProduct 1 = .ok (.ldc2_w 11, 3) := by decide +kernel
theorem dX2_highOfProduct_4 : decode cX2_highOfProduct 4 = .ok (.land, 1) := by decide +kernel
theorem dX2_highOfProduct_5 : decode cX2_highOfProduct 5 = .ok (.lstore 4, 2) := by decide +kernel
theorem dX2_highOfProduct_7 : decode cX2_highOfProduct 7 = .ok (.lload_n 2, 1) := by decide +kernel
theorem dX2_highOfProduct_8 : decode cX2_highOfProduct 8 = .ok (.ldc2_w 11, 3) := by decide +kernel
theorem dX2_highOfProduct_11 : decode cX2_highOfProduct 11 = .ok (.land, 1) := by decide +kernel
theorem dX2_highOfProduct_12 : decode cX2_highOfProduct 12 = .ok (.lstore 6, 2) := by decide +kernel
theorem dX2_highOfProduct_14 : decode cX2_highOfProduct 14 = .ok (.lload_n 0, 1) := by decide +kernel
theorem dX2_highOfProduct_15 : decode cX2_highOfProduct 15 = .ok (.bipush 32, 2) := by decide +kernel
theorem dX2_highOfProduct_17 : decode cX2_highOfProduct 17 = .ok (.lushr, 1) := by decide +kernel
theorem dX2_highOfProduct_18 : decode cX2_highOfProduct 18 = .ok (.lstore 8, 2) := by decide +kernel
theorem dX2_highOfProduct_20 : decode cX2_highOfProduct 20 = .ok (.lload_n 2, 1) := by decide +kernel
theorem dX2_highOfProduct_21 : decode cX2_highOfProduct 21 = .ok (.bipush 32, 2) := by decide +kernel
theorem dX2_highOfProduct_23 : decode cX2_highOfProduct 23 = .ok (.lushr, 1) := by decide +kernel
theorem dX2_highOfProduct_24 : decode cX2_highOfProduct 24 = .ok (.lstore 10, 2) := by decide +kernel
theorem dX2_highOfProduct_26 : decode cX2_highOfProduct 26 = .ok (.lload 8, 2) := by decide +kernel
theorem dX2_highOfProduct_28 : decode cX2_highOfProduct 28 = .ok (.lload 6, 2) := by decide +kernel
theorem dX2_highOfProduct_30 : decode cX2_highOfProduct 30 = .ok (.lmul, 1) := by decide +kernel
theorem dX2_highOfProduct_31 : decode cX2_highOfProduct 31 = .ok (.lload 4, 2) := by decide +kernel
theorem dX2_highOfProduct_33 : decode cX2_highOfProduct 33 = .ok (.lload 6, 2) := by decide +kernel
theorem dX2_highOfProduct_35 : decode cX2_highOfProduct 35 = .ok (.lmul, 1) := by decide +kernel
theorem dX2_highOfProduct_36 : decode cX2_highOfProduct 36 = .ok (.bipush 32, 2) := by decide +kernel
theorem dX2_highOfProduct_38 : decode cX2_highOfProduct 38 = .ok (.lushr, 1) := by decide +kernel
theorem dX2_highOfProduct_39 : decode cX2_highOfProduct 39 = .ok (.ladd, 1) := by decide +kernel
theorem dX2_highOfProduct_40 : decode cX2_highOfProduct 40 = .ok (.lstore 12, 2) := by decide +kernel
theorem dX2_highOfProduct_42 : decode cX2_highOfProduct 42 = .ok (.lload 4, 2) := by decide +kernel
theorem dX2_highOfProduct_44 : decode cX2_highOfProduct 44 = .ok (.lload 10, 2) := by decide +kernel
theorem dX2_highOfProduct_46 : decode cX2_highOfProduct 46 = .ok (.lmul, 1) := by decide +kernel
theorem dX2_highOfProduct_47 : decode cX2_highOfProduct 47 = .ok (.lload 12, 2) := by decide +kernel
theorem dX2_highOfProduct_49 : decode cX2_highOfProduct 49 = .ok (.ldc2_w 11, 3) := by decide +kernel
theorem dX2_highOfProduct_52 : decode cX2_highOfProduct 52 = .ok (.land, 1) := by decide +kernel
theorem dX2_highOfProduct_53 : decode cX2_highOfProduct 53 = .ok (.ladd, 1) := by decide +kernel
theorem dX2_highOfProduct_54 : decode cX2_highOfProduct 54 = .ok (.lstore 14, 2) := by decide +kernel
theorem dX2_highOfProduct_56 : decode cX2_highOfProduct 56 = .ok (.lload 8, 2) := by decide +kernel
theorem dX2_highOfProduct_58 : decode cX2_highOfProduct 58 = .ok (.lload 10, 2) := by decide +kernel
theorem dX2_highOfProduct_60 : decode cX2_highOfProduct 60 = .ok (.lmul, 1) := by decide +kernel
theorem dX2_highOfProduct_61 : decode cX2_highOfProduct 61 = .ok (.lload 12, 2) := by decide +kernel
theorem dX2_highOfProduct_63 : decode cX2_highOfProduct 63 = .ok (.bipush 32, 2) := by decide +kernel
theorem dX2_highOfProduct_65 : decode cX2_highOfProduct 65 = .ok (.lushr, 1) := by decide +kernel
theorem dX2_highOfProduct_66 : decode cX2_highOfProduct 66 = .ok (.ladd, 1) := by decide +kernel
theorem dX2_highOfProduct_67 : decode cX2_highOfProduct 67 = .ok (.lload 14, 2) := by decide +kernel
theorem dX2_highOfProduct_69 : decode cX2_highOfProduct 69 = .ok (.bipush 32, 2) := by decide +kernel
theorem dX2_highOfProduct_71 : decode cX2_highOfProduct 71 = .ok (.lushr, 1) := by decide +kernel
theorem dX2_highOfProduct_72 : decode cX2_highOfProduct 72 = .ok (.ladd, 1) := by decide +kernel
theorem dX2_highOfProduct_73 : decode cX2_highOfProduct 73 = .ok (.lreturn, 1) := by decide +kernel
set_option maxRecDepth 20000 in
theorem ggX2_highOfSignedProduct_X2_highOfProduct : GoodIn wsX2_highOfSignedProduct wsX2_highOfProduct := goodIn_r _ [4, 5] (by decide +kernel) (by decide +kernel)
set_option maxRecDepth 20000 in
theorem gX2_highOfSignedProduct_X2_highOfProduct : GoodIn wsX2_highOfSignedProduct (va_wsS RX2 13 yX2_highOfProduct wsX2_highOfProduct) := goodIn_app (goodIn_of _ (by decide +kernel)) ggX2_highOfSignedProduct_X2_highOfProduct
theorem dX2_highOfSignedProduct_0 : decode cX2_highOfSignedProduct 0 = .ok (.lload_n 0, 1) := by decide +kernel
theorem dX2_highOfSignedProduct_1 : decode cX2_highOfSignedProduct 1 = .ok (.lload_n 2, 1) := by decide +kernel
theorem dX2_highOfSignedProduct_2 : decode cX2_highOfSignedProduct 2 = .ok (.invokestatic 13, 3) := by decide +kernel
theorem dX2_highOfSignedProduct_5 : decode cX2_highOfSignedProduct 5 = .ok (.lload_n 0, 1) := by decide +kernel
theorem dX2_highOfSignedProduct_6 : decode cX2_highOfSignedProduct 6 = .ok (.lconst 0, 1) := by decide +kernel
theorem dX2_highOfSignedProduct_7 : decode cX2_highOfSignedProduct 7 = .ok (.lcmp, 1) := by decide +kernel
theorem dX2_highOfSignedProduct_8 : decode cX2_highOfSignedProduct 8 = .ok (.ifCond .ge 7, 3) := by decide +kernel
theorem dX2_highOfSignedProduct_11 : decode cX2_highOfSignedProduct 11 = .ok (.lload_n 2, 1) := by decide +kernel
theorem dX2_highOfSignedProduct_12 : decode cX2_highOfSignedProduct 12 = .ok (.goto 4, 3) := by decide +kernel
theorem dX2_highOfSignedProduct_15 : decode cX2_highOfSignedProduct 15 = .ok (.lconst 0, 1) := by decide +kernel
theorem dX2_highOfSignedProduct_16 : decode cX2_highOfSignedProduct 16 = .ok (.lsub, 1) := by decide +kernel
theorem dX2_highOfSignedProduct_17 : decode cX2_highOfSignedProduct 17 = .ok (.lload_n 2, 1) := by decide +kernel
theorem dX2_highOfSignedProduct_18 : decode cX2_highOfSignedProduct 18 = .ok (.lconst 0, 1) := by decide +kernel
theorem dX2_highOfSignedProduct_19 : decode cX2_highOfSignedProduct 19 = .ok (.lcmp, 1) := by decide +kernel
theorem dX2_highOfSignedProduct_20 : decode cX2_highOfSignedProduct 20 = .ok (.ifCond .ge 7, 3) := by decide +kernel
theorem dX2_highOfSignedProduct_23 : decode cX2_highOfSignedProduct 23 = .ok (.lload_n 0, 1) := by decide +kernel
theorem dX2_highOfSignedProduct_24 : decode cX2_highOfSignedProduct 24 = .ok (.goto 4, 3) := by decide +kernel
theorem dX2_highOfSignedProduct_27 : decode cX2_highOfSignedProduct 27 = .ok (.lconst 0, 1) := by decide +kernel
theorem dX2_highOfSignedProduct_28 : decode cX2_highOfSignedProduct 28 = .ok (.lsub, 1) := by decide +kernel
theorem dX2_highOfSignedProduct_29 : decode cX2_highOfSignedProduct 29 = .ok (.lreturn, 1) := by decide +kernel
theorem dX2_isWholeShift_0 : decode cX2_isWholeShift 0 = .ok (.lload_n 0, 1) := by decide +kernel
theorem dX2_isWholeShift_1 : decode cX2_isWholeShift 1 = .ok (.lconst 0, 1) := by decide +kernel
theorem dX2_isWholeShift_2 : decode cX2_isWholeShift 2 = .ok (.lcmp, 1) := by decide +kernel
theorem dX2_isWholeShift_3 : decode cX2_isWholeShift 3 = .ok (.ifCond .lt 11, 3) := by decide +kernel
theorem dX2_isWholeShift_6 : decode cX2_isWholeShift 6 = .ok (.lload_n 0, 1) := by decide +kernel
theorem dX2_isWholeShift_7 : decode cX2_isWholeShift 7 = .ok (.ldc2_w 19, 3) := by decide +kernel
theorem dX2_isWholeShift_10 : decode cX2_isWholeShift 10 = .ok (.lcmp, 1) := by decide +kernel
theorem dX2_isWholeShift_11 : decode cX2_isWholeShift 11 = .ok (.ifCond .lt 7, 3) := by decide +kernel
theorem dX2_isWholeShift_14 : decode cX2_isWholeShift 14 = .ok (.iconst 1, 1) := by decide +kernel
theorem dX2_isWholeShift_15 : decode cX2_isWholeShift 15 = .ok (.goto 4, 3) := by decide +kernel
theorem dX2_isWholeShift_18 : decode cX2_isWholeShift 18 = .ok (.iconst 0, 1) := by decide +kernel
theorem dX2_isWholeShift_19 : decode cX2_isWholeShift 19 = .ok (.ireturn, 1) := by decide +kernel
set_option maxRecDepth 20000 in
theorem ggX2_shiftLeft_X2_isWholeShift : GoodIn wsX2_shiftLeft wsX2_isWholeShift := goodIn_r _ [4, 5] (by decide +kernel) (by decide +kernel)
set_option maxRecDepth 20000 in
theorem gX2_shiftLeft_X2_isWholeShift : GoodIn wsX2_shiftLeft (va_wsS RX2 21 yX2_isWholeShift wsX2_isWholeShift) := goodIn_app (goodIn_of _ (by decide +kernel)) ggX2_shiftLeft_X2_isWholeShift
theorem dX2_shiftLeft_0 : decode cX2_shiftLeft 0 = .ok (.lload_n 2, 1) := by decide +kernel
theorem dX2_shiftLeft_1 : decode cX2_shiftLeft 1 = .ok (.invokestatic 21, 3) := by decide +kernel
theorem dX2_shiftLeft_4 : decode cX2_shiftLeft 4 = .ok (.ifCond .eq 7, 3) := by decide +kernel
theorem dX2_shiftLeft_7 : decode cX2_shiftLeft 7 = .ok (.lconst 0, 1) := by decide +kernel
theorem dX2_shiftLeft_8 : decode cX2_shiftLeft 8 = .ok (.goto 7, 3) := by decide +kernel
theorem dX2_shiftLeft_11 : decode cX2_shiftLeft 11 = .ok (.lload_n 0, 1) := by decide +kernel
theorem dX2_shiftLeft_12 : decode cX2_shiftLeft 12 = .ok (.lload_n 2, 1) := by decide +kernel
theorem dX2_shiftLeft_13 : decode cX2_shiftLeft 13 = .ok (.l2i, 1) := by decide +kernel
theorem dX2_shiftLeft_14 : decode cX2_shiftLeft 14 = .ok (.lshl, 1) := by decide +kernel
theorem dX2_shiftLeft_15 : decode cX2_shiftLeft 15 = .ok (.lreturn, 1) := by decide +kernel
set_option maxRecDepth 20000 in
theorem ggX2_shiftRight_X2_isWholeShift : GoodIn wsX2_shiftRight wsX2_isWholeShift := goodIn_r _ [4, 5] (by decide +kernel) (by decide +kernel)
set_option maxRecDepth 20000 in
theorem gX2_shiftRight_X2_isWholeShift : GoodIn wsX2_shiftRight (va_wsS RX2 21 yX2_isWholeShift wsX2_isWholeShift) := goodIn_app (goodIn_of _ (by decide +kernel)) ggX2_shiftRight_X2_isWholeShift
theorem dX2_shiftRight_0 : decode cX2_shiftRight 0 = .ok (.lload_n 2, 1) := by decide +kernel
theorem dX2_shiftRight_1 : decode cX2_shiftRight 1 = .ok (.invokestatic 21, 3) := by decide +kernel
theorem dX2_shiftRight_4 : decode cX2_shiftRight 4 = .ok (.ifCond .eq 10, 3) := by decide +kernel
theorem dX2_shiftRight_7 : decode cX2_shiftRight 7 = .ok (.lload_n 0, 1) := by decide +kernel
theorem dX2_shiftRight_8 : decode cX2_shiftRight 8 = .ok (.bipush 63, 2) := by decide +kernel
theorem dX2_shiftRight_10 : decode cX2_shiftRight 10 = .ok (.lshr, 1) := by decide +kernel
theorem dX2_shiftRight_11 : decode cX2_shiftRight 11 = .ok (.goto 7, 3) := by decide +kernel
theorem dX2_shiftRight_14 : decode cX2_shiftRight 14 = .ok (.lload_n 0, 1) := by decide +kernel
theorem dX2_shiftRight_15 : decode cX2_shiftRight 15 = .ok (.lload_n 2, 1) := by decide +kernel
theorem dX2_shiftRight_16 : decode cX2_shiftRight 16 = .ok (.l2i, 1) := by decide +kernel
theorem dX2_shiftRight_17 : decode cX2_shiftRight 17 = .ok (.lshr, 1) := by decide +kernel
theorem dX2_shiftRight_18 : decode cX2_shiftRight 18 = .ok (.lreturn, 1) := by decide +kernel
set_option maxRecDepth 20000 in
theorem ggX2_shiftRightUnsigned_X2_isWholeShift : GoodIn wsX2_shiftRightUnsigned wsX2_isWholeShift := goodIn_r _ [4, 5] (by decide +kernel) (by decide +kernel)
set_option maxRecDepth 20000 in
theorem gX2_shiftRightUnsigned_X2_isWholeShift : GoodIn wsX2_shiftRightUnsigned (va_wsS RX2 21 yX2_isWholeShift wsX2_isWholeShift) := goodIn_app (goodIn_of _ (by decide +kernel)) ggX2_shiftRightUnsigned_X2_isWholeShift
theorem dX2_shiftRightUnsigned_0 : decode cX2_shiftRightUnsigned 0 = .ok (.lload_n 2, 1) := by decide +kernel
theorem dX2_shiftRightUnsigned_1 : decode cX2_shiftRightUnsigned 1 = .ok (.invokestatic 21, 3) := by decide +kernel
theorem dX2_shiftRightUnsigned_4 : decode cX2_shiftRightUnsigned 4 = .ok (.ifCond .eq 7, 3) := by decide +kernel
theorem dX2_shiftRightUnsigned_7 : decode cX2_shiftRightUnsigned 7 = .ok (.lconst 0, 1) := by decide +kernel
theorem dX2_shiftRightUnsigned_8 : decode cX2_shiftRightUnsigned 8 = .ok (.goto 7, 3) := by decide +kernel
theorem dX2_shiftRightUnsigned_11 : decode cX2_shiftRightUnsigned 11 = .ok (.lload_n 0, 1) := by decide +kernel
theorem dX2_shiftRightUnsigned_12 : decode cX2_shiftRightUnsigned 12 = .ok (.lload_n 2, 1) := by decide +kernel
theorem dX2_shiftRightUnsigned_13 : decode cX2_shiftRightUnsigned 13 = .ok (.l2i, 1) := by decide +kernel
theorem dX2_shiftRightUnsigned_14 : decode cX2_shiftRightUnsigned 14 = .ok (.lushr, 1) := by decide +kernel
theorem dX2_shiftRightUnsigned_15 : decode cX2_shiftRightUnsigned 15 = .ok (.lreturn, 1) := by decide +kernel
theorem dX2_signed_0 : decode cX2_signed 0 = .ok (.bipush 64, 2) := by decide +kernel
theorem dX2_signed_2 : decode cX2_signed 2 = .ok (.bipush 8, 2) := by decide +kernel
theorem dX2_signed_4 : decode cX2_signed 4 = .ok (.iload_n 2, 1) := by decide +kernel
theorem dX2_signed_5 : decode cX2_signed 5 = .ok (.imul, 1) := by decide +kernel
theorem dX2_signed_6 : decode cX2_signed 6 = .ok (.isub, 1) := by decide +kernel
theorem dX2_signed_7 : decode cX2_signed 7 = .ok (.istore_n 3, 1) := by decide +kernel
theorem dX2_signed_8 : decode cX2_signed 8 = .ok (.lload_n 0, 1) := by decide +kernel
theorem dX2_signed_9 : decode cX2_signed 9 = .ok (.iload_n 3, 1) := by decide +kernel
theorem dX2_signed_10 : decode cX2_signed 10 = .ok (.lshl, 1) := by decide +kernel
theorem dX2_signed_11 : decode cX2_signed 11 = .ok (.iload_n 3, 1) := by decide +kernel
theorem dX2_signed_12 : decode cX2_signed 12 = .ok (.lshr, 1) := by decide +kernel
theorem dX2_signed_13 : decode cX2_signed 13 = .ok (.lreturn, 1) := by decide +kernel
theorem dX2_bitwise_0 : decode cX2_bitwise 0 = .ok (.iload_n 0, 1) := by decide +kernel
theorem dX2_bitwise_1 : decode cX2_bitwise 1 = .ok (.sipush 254, 3) := by decide +kernel
theorem dX2_bitwise_4 : decode cX2_bitwise 4 = .ok (.iand, 1) := by decide +kernel
theorem dX2_bitwise_5 : decode cX2_bitwise 5 = .ok (.tableswitch 111 192 204 #[67, 111, 71, 111, 79, 111, 87, 111, 91, 111, 95, 111, 103], 67) := by decide +kernel
theorem dX2_bitwise_72 : decode cX2_bitwise 72 = .ok (.lload_n 1, 1) := by decide +kernel
theorem dX2_bitwise_73 : decode cX2_bitwise 73 = .ok (.lload_n 3, 1) := by decide +kernel
theorem dX2_bitwise_74 : decode cX2_bitwise 74 = .ok (.lor, 1) := by decide +kernel
theorem dX2_bitwise_75 : decode cX2_bitwise 75 = .ok (.lreturn, 1) := by decide +kernel
theorem dX2_bitwise_76 : decode cX2_bitwise 76 = .ok (.lload_n 1, 1) := by decide +kernel
theorem dX2_bitwise_77 : decode cX2_bitwise 77 = .ok (.lload_n 3, 1) := by decide +kernel
theorem dX2_bitwise_78 : decode cX2_bitwise 78 = .ok (.ldc2_w 25, 3) := by decide +kernel
theorem dX2_bitwise_81 : decode cX2_bitwise 81 = .ok (.lxor, 1) := by decide +kernel
theorem dX2_bitwise_82 : decode cX2_bitwise 82 = .ok (.lor, 1) := by decide +kernel
theorem dX2_bitwise_83 : decode cX2_bitwise 83 = .ok (.lreturn, 1) := by decide +kernel
theorem dX2_bitwise_84 : decode cX2_bitwise 84 = .ok (.lload_n 1, 1) := by decide +kernel
theorem dX2_bitwise_85 : decode cX2_bitwise 85 = .ok (.lload_n 3, 1) := by decide +kernel
theorem dX2_bitwise_86 : decode cX2_bitwise 86 = .ok (.lor, 1) := by decide +kernel
theorem dX2_bitwise_87 : decode cX2_bitwise 87 = .ok (.ldc2_w 25, 3) := by decide +kernel
theorem dX2_bitwise_90 : decode cX2_bitwise 90 = .ok (.lxor, 1) := by decide +kernel
theorem dX2_bitwise_91 : decode cX2_bitwise 91 = .ok (.lreturn, 1) := by decide +kernel
theorem dX2_bitwise_92 : decode cX2_bitwise 92 = .ok (.lload_n 1, 1) := by decide +kernel
theorem dX2_bitwise_93 : decode cX2_bitwise 93 = .ok (.lload_n 3, 1) := by decide +kernel
theorem dX2_bitwise_94 : decode cX2_bitwise 94 = .ok (.lxor, 1) := by decide +kernel
theorem dX2_bitwise_95 : decode cX2_bitwise 95 = .ok (.lreturn, 1) := by decide +kernel
theorem dX2_bitwise_96 : decode cX2_bitwise 96 = .ok (.lload_n 1, 1) := by decide +kernel
theorem dX2_bitwise_97 : decode cX2_bitwise 97 = .ok (.lload_n 3, 1) := by decide +kernel
theorem dX2_bitwise_98 : decode cX2_bitwise 98 = .ok (.land, 1) := by decide +kernel
theorem dX2_bitwise_99 : decode cX2_bitwise 99 = .ok (.lreturn, 1) := by decide +kernel
theorem dX2_bitwise_100 : decode cX2_bitwise 100 = .ok (.lload_n 1, 1) := by decide +kernel
theorem dX2_bitwise_101 : decode cX2_bitwise 101 = .ok (.lload_n 3, 1) := by decide +kernel
theorem dX2_bitwise_102 : decode cX2_bitwise 102 = .ok (.ldc2_w 25, 3) := by decide +kernel
theorem dX2_bitwise_105 : decode cX2_bitwise 105 = .ok (.lxor, 1) := by decide +kernel
theorem dX2_bitwise_106 : decode cX2_bitwise 106 = .ok (.land, 1) := by decide +kernel
theorem dX2_bitwise_107 : decode cX2_bitwise 107 = .ok (.lreturn, 1) := by decide +kernel
theorem dX2_bitwise_108 : decode cX2_bitwise 108 = .ok (.lload_n 1, 1) := by decide +kernel
theorem dX2_bitwise_109 : decode cX2_bitwise 109 = .ok (.lload_n 3, 1) := by decide +kernel
theorem dX2_bitwise_110 : decode cX2_bitwise 110 = .ok (.land, 1) := by decide +kernel
theorem dX2_bitwise_111 : decode cX2_bitwise 111 = .ok (.ldc2_w 25, 3) := by decide +kernel
theorem dX2_bitwise_114 : decode cX2_bitwise 114 = .ok (.lxor, 1) := by decide +kernel
theorem dX2_bitwise_115 : decode cX2_bitwise 115 = .ok (.lreturn, 1) := by decide +kernel
theorem dX2_bitwise_116 : decode cX2_bitwise 116 = .ok (.lload_n 1, 1) := by decide +kernel
theorem dX2_bitwise_117 : decode cX2_bitwise 117 = .ok (.lload_n 3, 1) := by decide +kernel
theorem dX2_bitwise_118 : decode cX2_bitwise 118 = .ok (.lxor, 1) := by decide +kernel
theorem dX2_bitwise_119 : decode cX2_bitwise 119 = .ok (.ldc2_w 25, 3) := by decide +kernel
theorem dX2_bitwise_122 : decode cX2_bitwise 122 = .ok (.lxor, 1) := by decide +kernel
theorem dX2_bitwise_123 : decode cX2_bitwise 123 = .ok (.lreturn, 1) := by decide +kernel
set_option maxRecDepth 20000 in
theorem ggX2_differences_X2_isAbove : GoodIn wsX2_differences wsX2_isAbove := goodIn_r _ [5, 6] (by decide +kernel) (by decide +kernel)
set_option maxRecDepth 20000 in
theorem gX2_differences_X2_isAbove : GoodIn wsX2_differences (va_wsS RX2 27 yX2_isAbove wsX2_isAbove) := goodIn_app (goodIn_of _ (by decide +kernel)) ggX2_differences_X2_isAbove
theorem dX2_differences_0 : decode cX2_differences 0 = .ok (.ldc2_w 25, 3) := by decide +kernel
theorem dX2_differences_3 : decode cX2_differences 3 = .ok (.bipush 64, 2) := by decide +kernel
theorem dX2_differences_5 : decode cX2_differences 5 = .ok (.iload 4, 2) := by decide +kernel
theorem dX2_differences_7 : decode cX2_differences 7 = .ok (.isub, 1) := by decide +kernel
theorem dX2_differences_8 : decode cX2_differences 8 = .ok (.lushr, 1) := by decide +kernel
theorem dX2_differences_9 : decode cX2_differences 9 = .ok (.lstore 5, 2) := by decide +kernel
theorem dX2_differences_11 : decode cX2_differences 11 = .ok (.lconst 0, 1) := by decide +kernel
theorem dX2_differences_12 : decode cX2_differences 12 = .ok (.lstore 7, 2) := by decide +kernel
theorem dX2_differences_14 : decode cX2_differences 14 = .ok (.iconst 0, 1) := by decide +kernel
theorem dX2_differences_15 : decode cX2_differences 15 = .ok (.istore 9, 2) := by decide +kernel
theorem dX2_differences_17 : decode cX2_differences 17 = .ok (.iload 9, 2) := by decide +kernel
theorem dX2_differences_19 : decode cX2_differences 19 = .ok (.bipush 64, 2) := by decide +kernel
theorem dX2_differences_21 : decode cX2_differences 21 = .ok (.if_icmp .ge 54, 3) := by decide +kernel
theorem dX2_differences_24 : decode cX2_differences 24 = .ok (.lload_n 0, 1) := by decide +kernel
theorem dX2_differences_25 : decode cX2_differences 25 = .ok (.iload 9, 2) := by decide +kernel
theorem dX2_differences_27 : decode cX2_differences 27 = .ok (.lushr, 1) := by decide +kernel
theorem dX2_differences_28 : decode cX2_differences 28 = .ok (.lload 5, 2) := by decide +kernel
theorem dX2_differences_30 : decode cX2_differences 30 = .ok (.land, 1) := by decide +kernel
theorem dX2_differences_31 : decode cX2_differences 31 = .ok (.lstore 10, 2) := by decide +kernel
theorem dX2_differences_33 : decode cX2_differences 33 = .ok (.lload_n 2, 1) := by decide +kernel
theorem dX2_differences_34 : decode cX2_differences 34 = .ok (.iload 9, 2) := by decide +kernel
theorem dX2_differences_36 : decode cX2_differences 36 = .ok (.lushr, 1) := by decide +kernel
theorem dX2_differences_37 : decode cX2_differences 37 = .ok (.lload 5, 2) := by decide +kernel
theorem dX2_differences_39 : decode cX2_differences 39 = .ok (.land, 1) := by decide +kernel
theorem dX2_differences_40 : decode cX2_differences 40 = .ok (.lstore 12, 2) := by decide +kernel
theorem dX2_differences_42 : decode cX2_differences 42 = .ok (.lload 10, 2) := by decide +kernel
theorem dX2_differences_44 : decode cX2_differences 44 = .ok (.lload 12, 2) := by decide +kernel
theorem dX2_differences_46 : decode cX2_differences 46 = .ok (.invokestatic 27, 3) := by decide +kernel
theorem dX2_differences_49 : decode cX2_differences 49 = .ok (.ifCond .eq 16, 3) := by decide +kernel
theorem dX2_differences_52 : decode cX2_differences 52 = .ok (.lload 7, 2) := by decide +kernel
theorem dX2_differences_54 : decode cX2_differences 54 = .ok (.lload 10, 2) := by decide +kernel
theorem dX2_differences_56 : decode cX2_differences 56 = .ok (.lload 12, 2) := by decide +kernel
theorem dX2_differences_58 : decode cX2_differences 58 = .ok (.lsub, 1) := by decide +kernel
theorem dX2_differences_59 : decode cX2_differences 59 = .ok (.iload 9, 2) := by decide +kernel
theorem dX2_differences_61 : decode cX2_differences 61 = .ok (.lshl, 1) := by decide +kernel
theorem dX2_differences_62 : decode cX2_differences 62 = .ok (.lor, 1) := by decide +kernel
theorem dX2_differences_63 : decode cX2_differences 63 = .ok (.lstore 7, 2) := by decide +kernel
theorem dX2_differences_65 : decode cX2_differences 65 = .ok (.iload 9, 2) := by decide +kernel
theorem dX2_differences_67 : decode cX2_differences 67 = .ok (.iload 4, 2) := by decide +kernel
theorem dX2_differences_69 : decode cX2_differences 69 = .ok (.iadd, 1) := by decide +kernel
theorem dX2_differences_70 : decode cX2_differences 70 = .ok (.istore 9, 2) := by decide +kernel
theorem dX2_differences_72 : decode cX2_differences 72 = .ok (.goto (-55), 3) := by decide +kernel
theorem dX2_differences_75 : decode cX2_differences 75 = .ok (.lload 7, 2) := by decide +kernel
theorem dX2_differences_77 : decode cX2_differences 77 = .ok (.lreturn, 1) := by decide +kernel
theorem dX2_matrixProduct_0 : decode cX2_matrixProduct 0 = .ok (.lconst 0, 1) := by decide +kernel
theorem dX2_matrixProduct_1 : decode cX2_matrixProduct 1 = .ok (.lstore 5, 2) := by decide +kernel
theorem dX2_matrixProduct_3 : decode cX2_matrixProduct 3 = .ok (.iconst 0, 1) := by decide +kernel
theorem dX2_matrixProduct_4 : decode cX2_matrixProduct 4 = .ok (.istore 7, 2) := by decide +kernel
theorem dX2_matrixProduct_6 : decode cX2_matrixProduct 6 = .ok (.iload 7, 2) := by decide +kernel
theorem dX2_matrixProduct_8 : decode cX2_matrixProduct 8 = .ok (.bipush 8, 2) := by decide +kernel
theorem dX2_matrixProduct_10 : decode cX2_matrixProduct 10 = .ok (.if_icmp .ge 61, 3) := by decide +kernel
theorem dX2_matrixProduct_13 : decode cX2_matrixProduct 13 = .ok (.lload_n 2, 1) := by decide +kernel
theorem dX2_matrixProduct_14 : decode cX2_matrixProduct 14 = .ok (.bipush 7, 2) := by decide +kernel
theorem dX2_matrixProduct_16 : decode cX2_matrixProduct 16 = .ok (.iload 7, 2) := by decide +kernel
theorem dX2_matrixProduct_18 : decode cX2_matrixProduct 18 = .ok (.isub, 1) := by decide +kernel
theorem dX2_matrixProduct_19 : decode cX2_matrixProduct 19 = .ok (.lushr, 1) := by decide +kernel
theorem dX2_matrixProduct_20 : decode cX2_matrixProduct 20 = .ok (.ldc2_w 31, 3) := by decide +kernel
theorem dX2_matrixProduct_23 : decode cX2_matrixProduct 23 = .ok (.land, 1) := by decide +kernel
theorem dX2_matrixProduct_24 : decode cX2_matrixProduct 24 = .ok (.lstore 8, 2) := by decide +kernel
theorem dX2_matrixProduct_26 : decode cX2_matrixProduct 26 = .ok (.lload 8, 2) := by decide +kernel
theorem dX2_matrixProduct_28 : decode cX2_matrixProduct 28 = .ok (.lload_n 0, 1) := by decide +kernel
theorem dX2_matrixProduct_29 : decode cX2_matrixProduct 29 = .ok (.bipush 56, 2) := by decide +kernel
theorem dX2_matrixProduct_31 : decode cX2_matrixProduct 31 = .ok (.bipush 8, 2) := by decide +kernel
theorem dX2_matrixProduct_33 : decode cX2_matrixProduct 33 = .ok (.iload 7, 2) := by decide +kernel
theorem dX2_matrixProduct_35 : decode cX2_matrixProduct 35 = .ok (.imul, 1) := by decide +kernel
theorem dX2_matrixProduct_36 : decode cX2_matrixProduct 36 = .ok (.isub, 1) := by decide +kernel
theorem dX2_matrixProduct_37 : decode cX2_matrixProduct 37 = .ok (.lushr, 1) := by decide +kernel
theorem dX2_matrixProduct_38 : decode cX2_matrixProduct 38 = .ok (.ldc2_w 33, 3) := by decide +kernel
theorem dX2_matrixProduct_41 : decode cX2_matrixProduct 41 = .ok (.land, 1) := by decide +kernel
theorem dX2_matrixProduct_42 : decode cX2_matrixProduct 42 = .ok (.lmul, 1) := by decide +kernel
theorem dX2_matrixProduct_43 : decode cX2_matrixProduct 43 = .ok (.lstore 10, 2) := by decide +kernel
theorem dX2_matrixProduct_45 : decode cX2_matrixProduct 45 = .ok (.iload 4, 2) := by decide +kernel
theorem dX2_matrixProduct_47 : decode cX2_matrixProduct 47 = .ok (.ifCond .eq 11, 3) := by decide +kernel
theorem dX2_matrixProduct_50 : decode cX2_matrixProduct 50 = .ok (.lload 5, 2) := by decide +kernel
theorem dX2_matrixProduct_52 : decode cX2_matrixProduct 52 = .ok (.lload 10, 2) := by decide +kernel
theorem dX2_matrixProduct_54 : decode cX2_matrixProduct 54 = .ok (.lxor, 1) := by decide +kernel
theorem dX2_matrixProduct_55 : decode cX2_matrixProduct 55 = .ok (.goto 8, 3) := by decide +kernel
theorem dX2_matrixProduct_58 : decode cX2_matrixProduct 58 = .ok (.lload 5, 2) := by decide +kernel
theorem dX2_matrixProduct_60 : decode cX2_matrixProduct 60 = .ok (.lload 10, 2) := by decide +kernel
theorem dX2_matrixProduct_62 : decode cX2_matrixProduct 62 = .ok (.lor, 1) := by decide +kernel
theorem dX2_matrixProduct_63 : decode cX2_matrixProduct 63 = .ok (.lstore 5, 2) := by decide +kernel
theorem dX2_matrixProduct_65 : decode cX2_matrixProduct 65 = .ok (.iinc 7 1, 3) := by decide +kernel
theorem dX2_matrixProduct_68 : decode cX2_matrixProduct 68 = .ok (.goto (-62), 3) := by decide +kernel
theorem dX2_matrixProduct_71 : decode cX2_matrixProduct 71 = .ok (.lload 5, 2) := by decide +kernel
theorem dX2_matrixProduct_73 : decode cX2_matrixProduct 73 = .ok (.lreturn, 1) := by decide +kernel
set_option maxRecDepth 20000 in
theorem ggX3_init_X0_init : GoodIn wsX3_init wsX0_init := goodIn_r _ [15, 16, 2, 3, 4, 17, 30] (by decide +kernel) (by decide +kernel)
set_option maxRecDepth 20000 in
theorem gX3_init_X0_init_n25 : GoodIn wsX3_init (wsX0_init) := ggX3_init_X0_init
theorem dX3_init_0 : decode cX3_init 0 = .ok (.aload_n 0, 1) := by decide +kernel
theorem dX3_init_1 : decode cX3_init 1 = .ok (.invokespecial 1, 3) := by decide +kernel
theorem dX3_init_4 : decode cX3_init 4 = .ok (.aload_n 0, 1) := by decide +kernel
theorem dX3_init_5 : decode cX3_init 5 = .ok (.sipush 256, 3) := by decide +kernel
theorem dX3_init_8 : decode cX3_init 8 = .ok (.newarray .long, 2) := by decide +kernel
theorem dX3_init_10 : decode cX3_init 10 = .ok (.putfield 9, 3) := by decide +kernel
theorem dX3_init_13 : decode cX3_init 13 = .ok (.aload_n 0, 1) := by decide +kernel
theorem dX3_init_14 : decode cX3_init 14 = .ok (.bipush 8, 2) := by decide +kernel
theorem dX3_init_16 : decode cX3_init 16 = .ok (.newarray .long, 2) := by decide +kernel
theorem dX3_init_18 : decode cX3_init 18 = .ok (.putfield 13, 3) := by decide +kernel
theorem dX3_init_21 : decode cX3_init 21 = .ok (.aload_n 0, 1) := by decide +kernel
theorem dX3_init_22 : decode cX3_init 22 = .ok (.sipush 256, 3) := by decide +kernel
theorem dX3_init_25 : decode cX3_init 25 = .ok (.newarray .long, 2) := by decide +kernel
theorem dX3_init_27 : decode cX3_init 27 = .ok (.putfield 16, 3) := by decide +kernel
theorem dX3_init_30 : decode cX3_init 30 = .ok (.aload_n 0, 1) := by decide +kernel
theorem dX3_init_31 : decode cX3_init 31 = .ok (.sipush 500, 3) := by decide +kernel
theorem dX3_init_34 : decode cX3_init 34 = .ok (.newarray .byte, 2) := by decide +kernel
theorem dX3_init_36 : decode cX3_init 36 = .ok (.putfield 19, 3) := by decide +kernel
theorem dX3_init_39 : decode cX3_init 39 = .ok (.aload_n 0, 1) := by decide +kernel
theorem dX3_init_40 : decode cX3_init 40 = .ok (.new 23, 3) := by decide +kernel
theorem dX3_init_43 : decode cX3_init 43 = .ok (.dup, 1) := by decide +kernel
theorem dX3_init_44 : decode cX3_init 44 = .ok (.invokespecial 25, 3) := by decide +kernel
theorem dX3_init_47 : decode cX3_init 47 = .ok (.putfield 26, 3) := by decide +kernel
theorem dX3_init_50 : decode cX3_init 50 = .ok (.return_, 1) := by decide +kernel
theorem dX3_set_0 : decode cX3_set 0 = .ok (.iload_n 1, 1) := by decide +kernel
theorem dX3_set_1 : decode cX3_set 1 = .ok (.ifCond .lt 10, 3) := by decide +kernel
theorem dX3_set_4 : decode cX3_set 4 = .ok (.iload_n 1, 1) := by decide +kernel
theorem dX3_set_5 : decode cX3_set 5 = .ok (.sipush 256, 3) := by decide +kernel
theorem dX3_set_8 : decode cX3_set 8 = .ok (.if_icmp .lt 13, 3) := by decide +kernel
theorem dX3_set_11 : decode cX3_set 11 = .ok (.new 30, 3) := by decide +kernel
theorem dX3_set_14 : decode cX3_set 14 = .ok (.dup, 1) := by decide +kernel
theorem dX3_set_15 : decode cX3_set 15 = .ok (.ldc 32, 2) := by decide +kernel
theorem dX3_set_17 : decode cX3_set 17 = .ok (.invokespecial 34, 3) := by decide +kernel
theorem dX3_set_20 : decode cX3_set 20 = .ok (.athrow, 1) := by decide +kernel
theorem dX3_set_21 : decode cX3_set 21 = .ok (.aload_n 0, 1) := by decide +kernel
theorem dX3_set_22 : decode cX3_set 22 = .ok (.getfield 9, 3) := by decide +kernel
theorem dX3_set_25 : decode cX3_set 25 = .ok (.iload_n 1, 1) := by decide +kernel
theorem dX3_set_26 : decode cX3_set 26 = .ok (.laload, 1) := by decide +kernel
theorem dX3_set_27 : decode cX3_set 27 = .ok (.lstore 4, 2) := by decide +kernel
theorem dX3_set_29 : decode cX3_set 29 = .ok (.aload_n 0, 1) := by decide +kernel
theorem dX3_set_30 : decode cX3_set 30 = .ok (.getfield 9, 3) := by decide +kernel
theorem dX3_set_33 : decode cX3_set 33 = .ok (.iload_n 1, 1) := by decide +kernel
theorem dX3_set_34 : decode cX3_set 34 = .ok (.lload_n 2, 1) := by decide +kernel
theorem dX3_set_35 : decode cX3_set 35 = .ok (.lastore, 1) := by decide +kernel
theorem dX3_set_36 : decode cX3_set 36 = .ok (.lload 4, 2) := by decide +kernel
theorem dX3_set_38 : decode cX3_set 38 = .ok (.lreturn, 1) := by decide +kernel
theorem dX3_get_0 : decode cX3_get 0 = .ok (.iload_n 1, 1) := by decide +kernel
theorem dX3_get_1 : decode cX3_get 1 = .ok (.ifCond .lt 10, 3) := by decide +kernel
theorem dX3_get_4 : decode cX3_get 4 = .ok (.iload_n 1, 1) := by decide +kernel
theorem dX3_get_5 : decode cX3_get 5 = .ok (.sipush 264, 3) := by decide +kernel
theorem dX3_get_8 : decode cX3_get 8 = .ok (.if_icmp .lt 13, 3) := by decide +kernel
theorem dX3_get_11 : decode cX3_get 11 = .ok (.new 30, 3) := by decide +kernel
theorem dX3_get_14 : decode cX3_get 14 = .ok (.dup, 1) := by decide +kernel
theorem dX3_get_15 : decode cX3_get 15 = .ok (.ldc 32, 2) := by decide +kernel
theorem dX3_get_17 : decode cX3_get 17 = .ok (.invokespecial 34, 3) := by decide +kernel
theorem dX3_get_20 : decode cX3_get 20 = .ok (.athrow, 1) := by decide +kernel
theorem dX3_get_21 : decode cX3_get 21 = .ok (.iload_n 1, 1) := by decide +kernel
theorem dX3_get_22 : decode cX3_get 22 = .ok (.sipush 256, 3) := by decide +kernel
theorem dX3_get_25 : decode cX3_get 25 = .ok (.if_icmp .ge 12, 3) := by decide +kernel
theorem dX3_get_28 : decode cX3_get 28 = .ok (.aload_n 0, 1) := by decide +kernel
theorem dX3_get_29 : decode cX3_get 29 = .ok (.getfield 9, 3) := by decide +kernel
theorem dX3_get_32 : decode cX3_get 32 = .ok (.iload_n 1, 1) := by decide +kernel
theorem dX3_get_33 : decode cX3_get 33 = .ok (.laload, 1) := by decide +kernel
theorem dX3_get_34 : decode cX3_get 34 = .ok (.goto 13, 3) := by decide +kernel
theorem dX3_get_37 : decode cX3_get 37 = .ok (.aload_n 0, 1) := by decide +kernel
theorem dX3_get_38 : decode cX3_get 38 = .ok (.getfield 13, 3) := by decide +kernel
theorem dX3_get_41 : decode cX3_get 41 = .ok (.iload_n 1, 1) := by decide +kernel
theorem dX3_get_42 : decode cX3_get 42 = .ok (.sipush 256, 3) := by decide +kernel
theorem dX3_get_45 : decode cX3_get 45 = .ok (.isub, 1) := by decide +kernel
theorem dX3_get_46 : decode cX3_get 46 = .ok (.laload, 1) := by decide +kernel
theorem dX3_get_47 : decode cX3_get 47 = .ok (.lreturn, 1) := by decide +kernel
set_option maxRecDepth 20000 in
theorem ggX3_poke_X3_isBeyond : GoodIn wsX3_poke wsX3_isBeyond := goodIn_r _ [7, 8] (by decide +kernel) (by decide +kernel)
set_option maxRecDepth 20000 in
theorem gX3_poke_X3_isBeyond : GoodIn wsX3_poke (va_wsS RX3 37 yX3_isBeyond wsX3_isBeyond) := goodIn_app (goodIn_of _ (by decide +kernel)) ggX3_poke_X3_isBeyond
set_option maxRecDepth 20000 in
theorem ggX3_poke_X0_load : GoodIn wsX3_poke wsX0_load := goodIn_r _ [12, 13, 14, 15, 10, 16, 17, 18, 19, 20, 21, 22, 23, 39] (by decide +kernel) (by decide +kernel)
set_option maxRecDepth 20000 in
theorem gX3_poke_X0_load_n46 : GoodIn wsX3_poke (wsX0_load) := ggX3_poke_X0_load
set_option maxRecDepth 20000 in
theorem ggX3_poke_X0_store : GoodIn wsX3_poke wsX0_store := goodIn_r _ [26, 13, 23, 17, 18, 10, 19, 14, 15, 16, 20, 21, 22, 39] (by decide +kernel) (by decide +kernel)
set_option maxRecDepth 20000 in
theorem gX3_poke_X0_store_n50 : GoodIn wsX3_poke (wsX0_store) := ggX3_poke_X0_store
theorem dX3_poke_0 : decode cX3_poke 0 = .ok (.iload_n 1, 1) := by decide +kernel
theorem dX3_poke_1 : decode cX3_poke 1 = .ok (.i2l, 1) := by decide +kernel
theorem dX3_poke_2 : decode cX3_poke 2 = .ok (.invokestatic 37, 3) := by decide +kernel
theorem dX3_poke_5 : decode cX3_poke 5 = .ok (.ifCond .eq 13, 3) := by decide +kernel
theorem dX3_poke_8 : decode cX3_poke 8 = .ok (.new 41, 3) := by decide +kernel
theorem dX3_poke_11 : decode cX3_poke 11 = .ok (.dup, 1) := by decide +kernel
theorem dX3_poke_12 : decode cX3_poke 12 = .ok (.ldc 43, 2) := by decide +kernel
theorem dX3_poke_14 : decode cX3_poke 14 = .ok (.invokespecial 45, 3) := by decide +kernel
theorem dX3_poke_17 : decode cX3_poke 17 = .ok (.athrow, 1) := by decide +kernel
theorem dX3_poke_18 : decode cX3_poke 18 = .ok (.aload_n 0, 1) := by decide +kernel
theorem dX3_poke_19 : decode cX3_poke 19 = .ok (.getfield 26, 3) := by decide +kernel
theorem dX3_poke_22 : decode cX3_poke 22 = .ok (.iload_n 1, 1) := by decide +kernel
theorem dX3_poke_23 : decode cX3_poke 23 = .ok (.i2l, 1) := by decide +kernel
theorem dX3_poke_24 : decode cX3_poke 24 = .ok (.bipush 8, 2) := by decide +kernel
theorem dX3_poke_26 : decode cX3_poke 26 = .ok (.invokevirtual 46, 3) := by decide +kernel
theorem dX3_poke_29 : decode cX3_poke 29 = .ok (.lstore 4, 2) := by decide +kernel
theorem dX3_poke_31 : decode cX3_poke 31 = .ok (.aload_n 0, 1) := by decide +kernel
theorem dX3_poke_32 : decode cX3_poke 32 = .ok (.getfield 26, 3) := by decide +kernel
theorem dX3_poke_35 : decode cX3_poke 35 = .ok (.iload_n 1, 1) := by decide +kernel
theorem dX3_poke_36 : decode cX3_poke 36 = .ok (.i2l, 1) := by decide +kernel
theorem dX3_poke_37 : decode cX3_poke 37 = .ok (.bipush 8, 2) := by decide +kernel
theorem dX3_poke_39 : decode cX3_poke 39 = .ok (.lload_n 2, 1) := by decide +kernel
theorem dX3_poke_40 : decode cX3_poke 40 = .ok (.invokevirtual 50, 3) := by decide +kernel
theorem dX3_poke_43 : decode cX3_poke 43 = .ok (.lload 4, 2) := by decide +kernel
theorem dX3_poke_45 : decode cX3_poke 45 = .ok (.lreturn, 1) := by decide +kernel
set_option maxRecDepth 20000 in
theorem ggX3_peek_X3_isBeyond : GoodIn wsX3_peek wsX3_isBeyond := goodIn_r _ [7, 8] (by decide +kernel) (by decide +kernel)
set_option maxRecDepth 20000 in
theorem gX3_peek_X3_isBeyond : GoodIn wsX3_peek (va_wsS RX3 37 yX3_isBeyond wsX3_isBeyond) := goodIn_app (goodIn_of _ (by decide +kernel)) ggX3_peek_X3_isBeyond
set_option maxRecDepth 20000 in
theorem ggX3_peek_X0_load : GoodIn wsX3_peek wsX0_load := goodIn_r _ [12, 13, 14, 15, 10, 16, 17, 18, 19, 20, 21, 22, 23, 36] (by decide +kernel) (by decide +kernel)
set_option maxRecDepth 20000 in
theorem gX3_peek_X0_load_n46 : GoodIn wsX3_peek (wsX0_load) := ggX3_peek_X0_load
theorem dX3_peek_0 : decode cX3_peek 0 = .ok (.iload_n 1, 1) := by decide +kernel
theorem dX3_peek_1 : decode cX3_peek 1 = .ok (.i2l, 1) := by decide +kernel
theorem dX3_peek_2 : decode cX3_peek 2 = .ok (.invokestatic 37, 3) := by decide +kernel
theorem dX3_peek_5 : decode cX3_peek 5 = .ok (.ifCond .eq 13, 3) := by decide +kernel
theorem dX3_peek_8 : decode cX3_peek 8 = .ok (.new 41, 3) := by decide +kernel
theorem dX3_peek_11 : decode cX3_peek 11 = .ok (.dup, 1) := by decide +kernel
theorem dX3_peek_12 : decode cX3_peek 12 = .ok (.ldc 43, 2) := by decide +kernel
theorem dX3_peek_14 : decode cX3_peek 14 = .ok (.invokespecial 45, 3) := by decide +kernel
theorem dX3_peek_17 : decode cX3_peek 17 = .ok (.athrow, 1) := by decide +kernel
theorem dX3_peek_18 : decode cX3_peek 18 = .ok (.aload_n 0, 1) := by decide +kernel
theorem dX3_peek_19 : decode cX3_peek 19 = .ok (.getfield 26, 3) := by decide +kernel
theorem dX3_peek_22 : decode cX3_peek 22 = .ok (.iload_n 1, 1) := by decide +kernel
theorem dX3_peek_23 : decode cX3_peek 23 = .ok (.i2l, 1) := by decide +kernel
theorem dX3_peek_24 : decode cX3_peek 24 = .ok (.bipush 8, 2) := by decide +kernel
theorem dX3_peek_26 : decode cX3_peek 26 = .ok (.invokevirtual 46, 3) := by decide +kernel
theorem dX3_peek_29 : decode cX3_peek 29 = .ok (.lreturn, 1) := by decide +kernel
set_option maxRecDepth 20000 in
theorem ggX3_at_X3_isBeyond : GoodIn wsX3_at wsX3_isBeyond := goodIn_r _ [7, 8] (by decide +kernel) (by decide +kernel)
set_option maxRecDepth 20000 in
theorem gX3_at_X3_isBeyond : GoodIn wsX3_at (va_wsS RX3 37 yX3_isBeyond wsX3_isBeyond) := goodIn_app (goodIn_of _ (by decide +kernel)) ggX3_at_X3_isBeyond
theorem dX3_at_0 : decode cX3_at 0 = .ok (.iload_n 1, 1) := by decide +kernel
theorem dX3_at_1 : decode cX3_at 1 = .ok (.i2l, 1) := by decide +kernel
theorem dX3_at_2 : decode cX3_at 2 = .ok (.invokestatic 37, 3) := by decide +kernel
theorem dX3_at_5 : decode cX3_at 5 = .ok (.ifCond .eq 13, 3) := by decide +kernel
theorem dX3_at_8 : decode cX3_at 8 = .ok (.new 41, 3) := by decide +kernel
theorem dX3_at_11 : decode cX3_at 11 = .ok (.dup, 1) := by decide +kernel
theorem dX3_at_12 : decode cX3_at 12 = .ok (.ldc 43, 2) := by decide +kernel
theorem dX3_at_14 : decode cX3_at 14 = .ok (.invokespecial 45, 3) := by decide +kernel
theorem dX3_at_17 : decode cX3_at 17 = .ok (.athrow, 1) := by decide +kernel
theorem dX3_at_18 : decode cX3_at 18 = .ok (.aload_n 0, 1) := by decide +kernel
theorem dX3_at_19 : decode cX3_at 19 = .ok (.iload_n 1, 1) := by decide +kernel
theorem dX3_at_20 : decode cX3_at 20 = .ok (.bipush (-4), 2) := by decide +kernel
theorem dX3_at_22 : decode cX3_at 22 = .ok (.iand, 1) := by decide +kernel
theorem dX3_at_23 : decode cX3_at 23 = .ok (.putfield 54, 3) := by decide +kernel
theorem dX3_at_26 : decode cX3_at 26 = .ok (.aload_n 0, 1) := by decide +kernel
theorem dX3_at_27 : decode cX3_at 27 = .ok (.getfield 54, 3) := by decide +kernel
theorem dX3_at_30 : decode cX3_at 30 = .ok (.ireturn, 1) := by decide +kernel
set_option maxRecDepth 20000 in
theorem ggX3_put_X1_opNamed : GoodIn wsX3_put wsX1_opNamed := goodIn_r _ [9, 10, 11, 8, 12, 13, 14, 15, 16, 17, 18, 19, 20, 21, 22, 23, 24, 25, 26, 27, 28, 29, 30, 31, 32, 33, 34, 35, 36, 37, 38, 39, 40, 41, 42, 43, 44, 45, 46, 47, 48, 49, 50, 51, 52, 53, 54, 55, 56, 57, 58, 59, 60, 61, 62, 63, 64, 65, 66, 67, 68, 69, 70, 71, 72, 73, 74, 75, 76, 77, 78, 79] (by decide +kernel) (by decide +kernel)
set_option maxRecDepth 20000 in
theorem gX3_put_X1_opNamed_n58 : GoodIn wsX3_put (wsX1_opNamed) := ggX3_put_X1_opNamed
set_option maxRecDepth 20000 in
theorem ggX3_put_X3_isBeyond : GoodIn wsX3_put wsX3_isBeyond := goodIn_r _ [83, 84] (by decide +kernel) (by decide +kernel)
set_option maxRecDepth 20000 in
theorem gX3_put_X3_isBeyond : GoodIn wsX3_put (va_wsS RX3 37 yX3_isBeyond wsX3_isBeyond) := goodIn_app (goodIn_of _ (by decide +kernel)) ggX3_put_X3_isBeyond
set_option maxRecDepth 20000 in
theorem ggX3_put_X0_store : GoodIn wsX3_put wsX0_store := goodIn_r _ [88, 89, 90, 91, 92, 86, 93, 94, 95, 96, 97, 98, 99, 112] (by decide +kernel) (by decide +kernel)
set_option maxRecDepth 20000 in
theorem gX3_put_X0_store_n50 : GoodIn wsX3_put (wsX0_store) := ggX3_put_X0_store
theorem dX3_put_0 : decode cX3_put 0 = .ok (.iload_n 1, 1) := by decide +kernel
theorem dX3_put_1 : decode cX3_put 1 = .ok (.invokestatic 58, 3) := by decide +kernel
theorem dX3_put_4 : decode cX3_put 4 = .ok (.istore 5, 2) := by decide +kernel
theorem dX3_put_6 : decode cX3_put 6 = .ok (.iload 5, 2) := by decide +kernel
theorem dX3_put_8 : decode cX3_put 8 = .ok (.ifCond .ge 13, 3) := by decide +kernel
theorem dX3_put_11 : decode cX3_put 11 = .ok (.new 30, 3) := by decide +kernel
theorem dX3_put_14 : decode cX3_put 14 = .ok (.dup, 1) := by decide +kernel
theorem dX3_put_15 : decode cX3_put 15 = .ok (.ldc 64, 2) := by decide +kernel
theorem dX3_put_17 : decode cX3_put 17 = .ok (.invokespecial 34, 3) := by decide +kernel
theorem dX3_put_20 : decode cX3_put 20 = .ok (.athrow, 1) := by decide +kernel
theorem dX3_put_21 : decode cX3_put 21 = .ok (.aload_n 0, 1) := by decide +kernel
theorem dX3_put_22 : decode cX3_put 22 = .ok (.getfield 54, 3) := by decide +kernel
theorem dX3_put_25 : decode cX3_put 25 = .ok (.i2l, 1) := by decide +kernel
theorem dX3_put_26 : decode cX3_put 26 = .ok (.invokestatic 37, 3) := by decide +kernel
theorem dX3_put_29 : decode cX3_put 29 = .ok (.ifCond .eq 13, 3) := by decide +kernel
theorem dX3_put_32 : decode cX3_put 32 = .ok (.new 41, 3) := by decide +kernel
theorem dX3_put_35 : decode cX3_put 35 = .ok (.dup, 1) := by decide +kernel
theorem dX3_put_36 : decode cX3_put 36 = .ok (.ldc 66, 2) := by decide +kernel
theorem dX3_put_38 : decode cX3_put 38 = .ok (.invokespecial 45, 3) := by decide +kernel
theorem dX3_put_41 : decode cX3_put 41 = .ok (.athrow, 1) := by decide +kernel
theorem dX3_put_42 : decode cX3_put 42 = .ok (.iload 5, 2) := by decide +kernel
theorem dX3_put_44 : decode cX3_put 44 = .ok (.bipush 24, 2) := by decide +kernel
theorem dX3_put_46 : decode cX3_put 46 = .ok (.ishl, 1) := by decide +kernel
theorem dX3_put_47 : decode cX3_put 47 = .ok (.iload_n 2, 1) := by decide +kernel
theorem dX3_put_48 : decode cX3_put 48 = .ok (.sipush 255, 3) := by decide +kernel
theorem dX3_put_51 : decode cX3_put 51 = .ok (.iand, 1) := by decide +kernel
theorem dX3_put_52 : decode cX3_put 52 = .ok (.bipush 16, 2) := by decide +kernel
theorem dX3_put_54 : decode cX3_put 54 = .ok (.ishl, 1) := by decide +kernel
theorem dX3_put_55 : decode cX3_put 55 = .ok (.ior, 1) := by decide +kernel
theorem dX3_put_56 : decode cX3_put 56 = .ok (.iload_n 3, 1) := by decide +kernel
theorem dX3_put_57 : decode cX3_put 57 = .ok (.sipush 255, 3) := by decide +kernel
theorem dX3_put_60 : decode cX3_put 60 = .ok (.iand, 1) := by decide +kernel
theorem dX3_put_61 : decode cX3_put 61 = .ok (.bipush 8, 2) := by decide +kernel
theorem dX3_put_63 : decode cX3_put 63 = .ok (.ishl, 1) := by decide +kernel
theorem dX3_put_64 : decode cX3_put 64 = .ok (.ior, 1) := by decide +kernel
theorem dX3_put_65 : decode cX3_put 65 = .ok (.iload 4, 2) := by decide +kernel
theorem dX3_put_67 : decode cX3_put 67 = .ok (.sipush 255, 3) := by decide +kernel
theorem dX3_put_70 : decode cX3_put 70 = .ok (.iand, 1) := by decide +kernel
theorem dX3_put_71 : decode cX3_put 71 = .ok (.ior, 1) := by decide +kernel
theorem dX3_put_72 : decode cX3_put 72 = .ok (.istore 6, 2) := by decide +kernel
theorem dX3_put_74 : decode cX3_put 74 = .ok (.aload_n 0, 1) := by decide +kernel
theorem dX3_put_75 : decode cX3_put 75 = .ok (.getfield 26, 3) := by decide +kernel
theorem dX3_put_78 : decode cX3_put 78 = .ok (.aload_n 0, 1) := by decide +kernel
theorem dX3_put_79 : decode cX3_put 79 = .ok (.getfield 54, 3) := by decide +kernel
theorem dX3_put_82 : decode cX3_put 82 = .ok (.i2l, 1) := by decide +kernel
theorem dX3_put_83 : decode cX3_put 83 = .ok (.iconst 4, 1) := by decide +kernel
theorem dX3_put_84 : decode cX3_put 84 = .ok (.iload 6, 2) := by decide +kernel
theorem dX3_put_86 : decode cX3_put 86 = .ok (.i2l, 1) := by decide +kernel
theorem dX3_put_87 : decode cX3_put 87 = .ok (.invokevirtual 50, 3) := by decide +kernel
theorem dX3_put_90 : decode cX3_put 90 = .ok (.aload_n 0, 1) := by decide +kernel
theorem dX3_put_91 : decode cX3_put 91 = .ok (.dup, 1) := by decide +kernel
theorem dX3_put_92 : decode cX3_put 92 = .ok (.getfield 54, 3) := by decide +kernel
theorem dX3_put_95 : decode cX3_put 95 = .ok (.iconst 4, 1) := by decide +kernel
theorem dX3_put_96 : decode cX3_put 96 = .ok (.iadd, 1) := by decide +kernel
theorem dX3_put_97 : decode cX3_put 97 = .ok (.putfield 54, 3) := by decide +kernel
theorem dX3_put_100 : decode cX3_put 100 = .ok (.iload 5, 2) := by decide +kernel
theorem dX3_put_102 : decode cX3_put 102 = .ok (.ireturn, 1) := by decide +kernel
set_option maxRecDepth 20000 in
theorem ghX3_go_X3_doNext_h : GoodIn wsX3_go ([.code yX3_doNext cX3_doNext 7 (some .int)] : List Cond) := goodIn_r _ [8] (by decide +kernel) (by decide +kernel)
set_option maxRecDepth 20000 in
theorem ghX3_go_X3_doNext_wsX3_doNext_r1 : GoodIn wsX3_go wsX3_doNext_r1 := goodIn_r _ [3, 9, 10, 11, 12, 7, 13, 14, 15, 16, 17, 18, 19, 20, 21, 22, 23, 24, 25, 26, 27, 28, 29, 30] (by decide +kernel) (by decide +kernel)
set_option maxRecDepth 20000 in
theorem ghX3_go_X3_doNext_wsX3_doNext_r2 : GoodIn wsX3_go wsX3_doNext_r2 := goodIn_r _ [31, 32, 33, 34, 35, 36, 37, 38, 39, 40, 41, 42, 43, 44, 45, 46, 47, 48, 49, 50, 51, 52, 53, 54] (by decide +kernel) (by decide +kernel)
set_option maxRecDepth 20000 in
theorem ghX3_go_X3_doNext_wsX3_doNext_r3 : GoodIn wsX3_go wsX3_doNext_r3 := goodIn_r _ [55, 56, 57, 58, 59, 60, 61, 62, 63, 64, 65, 66, 67, 68, 69, 70, 71, 72, 73, 74, 75, 76, 77, 78] (by decide +kernel) (by decide +kernel)
set_option maxRecDepth 20000 in
theorem ghX3_go_X3_doNext_wsX3_doNext_r4 : GoodIn wsX3_go wsX3_doNext_r4 := goodIn_r _ [79, 80, 81, 82, 83, 84, 85, 86, 87, 88, 89, 90, 91, 92, 93, 94, 95, 96, 97, 98, 99, 100, 101, 102] (by decide +kernel) (by decide +kernel)
set_option maxRecDepth 20000 in
theorem ghX3_go_X3_doNext_wsX3_doNext_r5 : GoodIn wsX3_go wsX3_doNext_r5 := goodIn_r _ [103, 104, 105, 106, 107, 108, 109, 110, 111, 112, 113, 114, 115, 116, 117, 118, 119, 120, 121, 122, 123, 124, 125, 126] (by decide +kernel) (by decide +kernel)
set_option maxRecDepth 20000 in
theorem ghX3_go_X3_doNext_wsX3_doNext_r6 : GoodIn wsX3_go wsX3_doNext_r6 := goodIn_r _ [127, 128, 129, 130, 131, 132, 133, 134, 135, 136, 137, 138, 139, 140, 141, 142, 143, 144, 145, 146, 147, 148, 149, 150] (by decide +kernel) (by decide +kernel)
set_option maxRecDepth 20000 in
theorem ghX3_go_X3_doNext_wsX3_doNext_r7 : GoodIn wsX3_go wsX3_doNext_r7 := goodIn_r _ [151, 152, 153, 154, 155, 156, 157, 158, 159, 160, 161, 162, 163, 164, 165, 166, 167, 168, 169, 170, 171, 172, 173, 174] (by decide +kernel) (by decide +kernel)
set_option maxRecDepth 20000 in
theorem ghX3_go_X3_doNext_wsX3_doNext_r8 : GoodIn wsX3_go wsX3_doNext_r8 := goodIn_r _ [175, 176, 177, 178, 179, 180, 181, 182, 183, 184, 185, 186, 187, 188, 189, 190, 191, 192, 193, 194, 195, 196, 197, 198] (by decide +kernel) (by decide +kernel)
set_option maxRecDepth 20000 in
theorem ghX3_go_X3_doNext_wsX3_doNext_r9 : GoodIn wsX3_go wsX3_doNext_r9 := goodIn_r _ [199, 200, 201, 202, 203, 204, 205, 206, 207, 208, 209, 210, 211, 212, 213, 214, 215, 216, 217, 218, 219, 220, 221, 222] (by decide +kernel) (by decide +kernel)
set_option maxRecDepth 20000 in
theorem ghX3_go_X3_doNext_wsX3_doNext_r10 : GoodIn wsX3_go wsX3_doNext_r10 := goodIn_r _ [223] (by decide +kernel) (by decide +kernel)
set_option maxRecDepth 20000 in
theorem ghX3_go_X3_doNext_wsX30 : GoodIn wsX3_go wsX30 := goodIn_r _ [224, 225, 226, 227, 228, 229, 230, 231, 232, 233, 234, 235] (by decide +kernel) (by decide +kernel)
set_option maxRecDepth 20000 in
theorem ghX3_go_X3_doNext_wsX00 : GoodIn wsX3_go wsX00 := goodIn_r _ [236] (by decide +kernel) (by decide +kernel)
theorem ggX3_go_X3_doNext : GoodIn wsX3_go wsX3_doNext := (goodIn_app (a := [.code yX3_doNext cX3_doNext 7 (some .int)]) ghX3_go_X3_doNext_h (goodIn_app (goodIn_app (goodIn_app ghX3_go_X3_doNext_wsX3_doNext_r1 (goodIn_app ghX3_go_X3_doNext_wsX3_doNext_r2 (goodIn_app ghX3_go_X3_doNext_wsX3_doNext_r3 (goodIn_app ghX3_go_X3_doNext_wsX3_doNext_r4 (goodIn_app ghX3_go_X3_doNext_wsX3_doNext_r5 (goodIn_app ghX3_go_X3_doNext_wsX3_doNext_r6 (goodIn_app ghX3_go_X3_doNext_wsX3_doNext_r7 (goodIn_app ghX3_go_X3_doNext_wsX3_doNext_r8 (goodIn_app ghX3_go_X3_doNext_wsX3_doNext_r9 ghX3_go_X3_doNext_wsX3_doNext_r10))))))))) ghX3_go_X3_doNext_wsX30) ghX3_go_X3_doNext_wsX00))
set_option maxRecDepth 20000 in
theorem gX3_go_X3_doNext : GoodIn wsX3_go (wsV RX3 77 RX3 yX3_doNext wsX3_doNext) := goodIn_app (goodIn_of _ (by decide +kernel)) ggX3_go_X3_doNext
theorem dX3_go_0 : decode cX3_go 0 = .ok (.iload_n 2, 1) := by decide +kernel
theorem dX3_go_1 : decode cX3_go 1 = .ok (.iconst 1, 1) := by decide +kernel
theorem dX3_go_2 : decode cX3_go 2 = .ok (.if_icmp .lt 10, 3) := by decide +kernel
theorem dX3_go_5 : decode cX3_go 5 = .ok (.iload_n 2, 1) := by decide +kernel
theorem dX3_go_6 : decode cX3_go 6 = .ok (.sipush 1000, 3) := by decide +kernel
theorem dX3_go_9 : decode cX3_go 9 = .ok (.if_icmp .le 13, 3) := by decide +kernel
theorem dX3_go_12 : decode cX3_go 12 = .ok (.new 68, 3) := by decide +kernel
theorem dX3_go_15 : decode cX3_go 15 = .ok (.dup, 1) := by decide +kernel
theorem dX3_go_16 : decode cX3_go 16 = .ok (.ldc 70, 2) := by decide +kernel
theorem dX3_go_18 : decode cX3_go 18 = .ok (.invokespecial 72, 3) := by decide +kernel
theorem dX3_go_21 : decode cX3_go 21 = .ok (.athrow, 1) := by decide +kernel
theorem dX3_go_22 : decode cX3_go 22 = .ok (.iload_n 1, 1) := by decide +kernel
theorem dX3_go_23 : decode cX3_go 23 = .ok (.ifCond .lt 12, 3) := by decide +kernel
theorem dX3_go_26 : decode cX3_go 26 = .ok (.aload_n 0, 1) := by decide +kernel
theorem dX3_go_27 : decode cX3_go 27 = .ok (.iload_n 1, 1) := by decide +kernel
theorem dX3_go_28 : decode cX3_go 28 = .ok (.bipush (-4), 2) := by decide +kernel
theorem dX3_go_30 : decode cX3_go 30 = .ok (.iand, 1) := by decide +kernel
theorem dX3_go_31 : decode cX3_go 31 = .ok (.i2l, 1) := by decide +kernel
theorem dX3_go_32 : decode cX3_go 32 = .ok (.putfield 73, 3) := by decide +kernel
theorem dX3_go_35 : decode cX3_go 35 = .ok (.iconst 0, 1) := by decide +kernel
theorem dX3_go_36 : decode cX3_go 36 = .ok (.istore_n 3, 1) := by decide +kernel
theorem dX3_go_37 : decode cX3_go 37 = .ok (.iload_n 3, 1) := by decide +kernel
theorem dX3_go_38 : decode cX3_go 38 = .ok (.iload_n 2, 1) := by decide +kernel
theorem dX3_go_39 : decode cX3_go 39 = .ok (.if_icmp .ge 23, 3) := by decide +kernel
theorem dX3_go_42 : decode cX3_go 42 = .ok (.aload_n 0, 1) := by decide +kernel
theorem dX3_go_43 : decode cX3_go 43 = .ok (.invokevirtual 77, 3) := by decide +kernel
theorem dX3_go_46 : decode cX3_go 46 = .ok (.istore 4, 2) := by decide +kernel
theorem dX3_go_48 : decode cX3_go 48 = .ok (.iload 4, 2) := by decide +kernel
theorem dX3_go_50 : decode cX3_go 50 = .ok (.ifCond .eq 6, 3) := by decide +kernel
theorem dX3_go_53 : decode cX3_go 53 = .ok (.iload 4, 2) := by decide +kernel
theorem dX3_go_55 : decode cX3_go 55 = .ok (.ireturn, 1) := by decide +kernel
theorem dX3_go_56 : decode cX3_go 56 = .ok (.iinc 3 1, 3) := by decide +kernel
theorem dX3_go_59 : decode cX3_go 59 = .ok (.goto (-22), 3) := by decide +kernel
theorem dX3_go_62 : decode cX3_go 62 = .ok (.iconst 0, 1) := by decide +kernel
theorem dX3_go_63 : decode cX3_go 63 = .ok (.ireturn, 1) := by decide +kernel
theorem dX3_mark_0 : decode cX3_mark 0 = .ok (.lconst 0, 1) := by decide +kernel
theorem dX3_mark_1 : decode cX3_mark 1 = .ok (.lstore_n 1, 1) := by decide +kernel
theorem dX3_mark_2 : decode cX3_mark 2 = .ok (.iconst 0, 1) := by decide +kernel
theorem dX3_mark_3 : decode cX3_mark 3 = .ok (.istore_n 3, 1) := by decide +kernel
theorem dX3_mark_4 : decode cX3_mark 4 = .ok (.iload_n 3, 1) := by decide +kernel
theorem dX3_mark_5 : decode cX3_mark 5 = .ok (.sipush 256, 3) := by decide +kernel
theorem dX3_mark_8 : decode cX3_mark 8 = .ok (.if_icmp .ge 29, 3) := by decide +kernel
theorem dX3_mark_11 : decode cX3_mark 11 = .ok (.lload_n 1, 1) := by decide +kernel
theorem dX3_mark_12 : decode cX3_mark 12 = .ok (.aload_n 0, 1) := by decide +kernel
theorem dX3_mark_13 : decode cX3_mark 13 = .ok (.getfield 9, 3) := by decide +kernel
theorem dX3_mark_16 : decode cX3_mark 16 = .ok (.iload_n 3, 1) := by decide +kernel
theorem dX3_mark_17 : decode cX3_mark 17 = .ok (.laload, 1) := by decide +kernel
theorem dX3_mark_18 : decode cX3_mark 18 = .ok (.iconst 2, 1) := by decide +kernel
theorem dX3_mark_19 : decode cX3_mark 19 = .ok (.iload_n 3, 1) := by decide +kernel
theorem dX3_mark_20 : decode cX3_mark 20 = .ok (.imul, 1) := by decide +kernel
theorem dX3_mark_21 : decode cX3_mark 21 = .ok (.iconst 1, 1) := by decide +kernel
theorem dX3_mark_22 : decode cX3_mark 22 = .ok (.iadd, 1) := by decide +kernel
theorem dX3_mark_23 : decode cX3_mark 23 = .ok (.i2l, 1) := by decide +kernel
theorem dX3_mark_24 : decode cX3_mark 24 = .ok (.lmul, 1) := by decide +kernel
theorem dX3_mark_25 : decode cX3_mark 25 = .ok (.ldc2_w 81, 3) := by decide +kernel
theorem dX3_mark_28 : decode cX3_mark 28 = .ok (.lmul, 1) := by decide +kernel
theorem dX3_mark_29 : decode cX3_mark 29 = .ok (.ladd, 1) := by decide +kernel
theorem dX3_mark_30 : decode cX3_mark 30 = .ok (.lstore_n 1, 1) := by decide +kernel
theorem dX3_mark_31 : decode cX3_mark 31 = .ok (.iinc 3 1, 3) := by decide +kernel
theorem dX3_mark_34 : decode cX3_mark 34 = .ok (.goto (-30), 3) := by decide +kernel
theorem dX3_mark_37 : decode cX3_mark 37 = .ok (.lload_n 1, 1) := by decide +kernel
theorem dX3_mark_38 : decode cX3_mark 38 = .ok (.lreturn, 1) := by decide +kernel
theorem dX3_tally_0 : decode cX3_tally 0 = .ok (.iload_n 1, 1) := by decide +kernel
theorem dX3_tally_1 : decode cX3_tally 1 = .ok (.ifCond .lt 10, 3) := by decide +kernel
theorem dX3_tally_4 : decode cX3_tally 4 = .ok (.iload_n 1, 1) := by decide +kernel
theorem dX3_tally_5 : decode cX3_tally 5 = .ok (.sipush 256, 3) := by decide +kernel
theorem dX3_tally_8 : decode cX3_tally 8 = .ok (.if_icmp .lt 13, 3) := by decide +kernel
theorem dX3_tally_11 : decode cX3_tally 11 = .ok (.new 30, 3) := by decide +kernel
theorem dX3_tally_14 : decode cX3_tally 14 = .ok (.dup, 1) := by decide +kernel
theorem dX3_tally_15 : decode cX3_tally 15 = .ok (.ldc 83, 2) := by decide +kernel
theorem dX3_tally_17 : decode cX3_tally 17 = .ok (.invokespecial 34, 3) := by decide +kernel
theorem dX3_tally_20 : decode cX3_tally 20 = .ok (.athrow, 1) := by decide +kernel
theorem dX3_tally_21 : decode cX3_tally 21 = .ok (.aload_n 0, 1) := by decide +kernel
theorem dX3_tally_22 : decode cX3_tally 22 = .ok (.getfield 16, 3) := by decide +kernel
theorem dX3_tally_25 : decode cX3_tally 25 = .ok (.iload_n 1, 1) := by decide +kernel
theorem dX3_tally_26 : decode cX3_tally 26 = .ok (.laload, 1) := by decide +kernel
theorem dX3_tally_27 : decode cX3_tally 27 = .ok (.lreturn, 1) := by decide +kernel
theorem dX3_spend_0 : decode cX3_spend 0 = .ok (.iload_n 1, 1) := by decide +kernel
theorem dX3_spend_1 : decode cX3_spend 1 = .ok (.sipush (-1000), 3) := by decide +kernel
theorem dX3_spend_4 : decode cX3_spend 4 = .ok (.if_icmp .lt 10, 3) := by decide +kernel
theorem dX3_spend_7 : decode cX3_spend 7 = .ok (.iload_n 1, 1) := by decide +kernel
theorem dX3_spend_8 : decode cX3_spend 8 = .ok (.sipush 1000, 3) := by decide +kernel
theorem dX3_spend_11 : decode cX3_spend 11 = .ok (.if_icmp .le 13, 3) := by decide +kernel
theorem dX3_spend_14 : decode cX3_spend 14 = .ok (.new 68, 3) := by decide +kernel
theorem dX3_spend_17 : decode cX3_spend 17 = .ok (.dup, 1) := by decide +kernel
theorem dX3_spend_18 : decode cX3_spend 18 = .ok (.ldc 85, 2) := by decide +kernel
theorem dX3_spend_20 : decode cX3_spend 20 = .ok (.invokespecial 72, 3) := by decide +kernel
theorem dX3_spend_23 : decode cX3_spend 23 = .ok (.athrow, 1) := by decide +kernel
theorem dX3_spend_24 : decode cX3_spend 24 = .ok (.aload_n 0, 1) := by decide +kernel
theorem dX3_spend_25 : decode cX3_spend 25 = .ok (.dup, 1) := by decide +kernel
theorem dX3_spend_26 : decode cX3_spend 26 = .ok (.getfield 87, 3) := by decide +kernel
theorem dX3_spend_29 : decode cX3_spend 29 = .ok (.iload_n 1, 1) := by decide +kernel
theorem dX3_spend_30 : decode cX3_spend 30 = .ok (.i2l, 1) := by decide +kernel
theorem dX3_spend_31 : decode cX3_spend 31 = .ok (.ladd, 1) := by decide +kernel
theorem dX3_spend_32 : decode cX3_spend 32 = .ok (.putfield 87, 3) := by decide +kernel
theorem dX3_spend_35 : decode cX3_spend 35 = .ok (.aload_n 0, 1) := by decide +kernel
theorem dX3_spend_36 : decode cX3_spend 36 = .ok (.getfield 87, 3) := by decide +kernel
theorem dX3_spend_39 : decode cX3_spend 39 = .ok (.lreturn, 1) := by decide +kernel
theorem dX3_output_0 : decode cX3_output 0 = .ok (.iload_n 1, 1) := by decide +kernel
theorem dX3_output_1 : decode cX3_output 1 = .ok (.ifCond .lt 11, 3) := by decide +kernel
theorem dX3_output_4 : decode cX3_output 4 = .ok (.iload_n 1, 1) := by decide +kernel
theorem dX3_output_5 : decode cX3_output 5 = .ok (.aload_n 0, 1) := by decide +kernel
theorem dX3_output_6 : decode cX3_output 6 = .ok (.getfield 90, 3) := by decide +kernel
theorem dX3_output_9 : decode cX3_output 9 = .ok (.if_icmp .lt 13, 3) := by decide +kernel
theorem dX3_output_12 : decode cX3_output 12 = .ok (.new 41, 3) := by decide +kernel
theorem dX3_output_15 : decode cX3_output 15 = .ok (.dup, 1) := by decide +kernel
theorem dX3_output_16 : decode cX3_output 16 = .ok (.ldc 93, 2) := by decide +kernel
theorem dX3_output_18 : decode cX3_output 18 = .ok (.invokespecial 45, 3) := by decide +kernel
theorem dX3_output_21 : decode cX3_output 21 = .ok (.athrow, 1) := by decide +kernel
theorem dX3_output_22 : decode cX3_output 22 = .ok (.aload_n 0, 1) := by decide +kernel
theorem dX3_output_23 : decode cX3_output 23 = .ok (.getfield 19, 3) := by decide +kernel
theorem dX3_output_26 : decode cX3_output 26 = .ok (.iload_n 1, 1) := by decide +kernel
theorem dX3_output_27 : decode cX3_output 27 = .ok (.baload, 1) := by decide +kernel
theorem dX3_output_28 : decode cX3_output 28 = .ok (.sipush 255, 3) := by decide +kernel
theorem dX3_output_31 : decode cX3_output 31 = .ok (.iand, 1) := by decide +kernel
theorem dX3_output_32 : decode cX3_output 32 = .ok (.ireturn, 1) := by decide +kernel
theorem dX3_count_0 : decode cX3_count 0 = .ok (.iload_n 1, 1) := by decide +kernel
theorem dX3_count_1 : decode cX3_count 1 = .ok (.tableswitch 80 0 6 #[43, 48, 53, 58, 64, 70, 75], 43) := by decide +kernel
theorem dX3_count_44 : decode cX3_count 44 = .ok (.aload_n 0, 1) := by decide +kernel
theorem dX3_count_45 : decode cX3_count 45 = .ok (.getfield 73, 3) := by decide +kernel
theorem dX3_count_48 : decode cX3_count 48 = .ok (.lreturn, 1) := by decide +kernel
theorem dX3_count_49 : decode cX3_count 49 = .ok (.aload_n 0, 1) := by decide +kernel
theorem dX3_count_50 : decode cX3_count 50 = .ok (.getfield 87, 3) := by decide +kernel
theorem dX3_count_53 : decode cX3_count 53 = .ok (.lreturn, 1) := by decide +kernel
theorem dX3_count_54 : decode cX3_count 54 = .ok (.aload_n 0, 1) := by decide +kernel
theorem dX3_count_55 : decode cX3_count 55 = .ok (.getfield 95, 3) := by decide +kernel
theorem dX3_count_58 : decode cX3_count 58 = .ok (.lreturn, 1) := by decide +kernel
theorem dX3_count_59 : decode cX3_count 59 = .ok (.aload_n 0, 1) := by decide +kernel
theorem dX3_count_60 : decode cX3_count 60 = .ok (.getfield 90, 3) := by decide +kernel
theorem dX3_count_63 : decode cX3_count 63 = .ok (.i2l, 1) := by decide +kernel
theorem dX3_count_64 : decode cX3_count 64 = .ok (.lreturn, 1) := by decide +kernel
theorem dX3_count_65 : decode cX3_count 65 = .ok (.aload_n 0, 1) := by decide +kernel
theorem dX3_count_66 : decode cX3_count 66 = .ok (.getfield 54, 3) := by decide +kernel
theorem dX3_count_69 : decode cX3_count 69 = .ok (.i2l, 1) := by decide +kernel
theorem dX3_count_70 : decode cX3_count 70 = .ok (.lreturn, 1) := by decide +kernel
theorem dX3_count_71 : decode cX3_count 71 = .ok (.aload_n 0, 1) := by decide +kernel
theorem dX3_count_72 : decode cX3_count 72 = .ok (.getfield 98, 3) := by decide +kernel
theorem dX3_count_75 : decode cX3_count 75 = .ok (.lreturn, 1) := by decide +kernel
theorem dX3_count_76 : decode cX3_count 76 = .ok (.aload_n 0, 1) := by decide +kernel
theorem dX3_count_77 : decode cX3_count 77 = .ok (.getfield 101, 3) := by decide +kernel
theorem dX3_count_80 : decode cX3_count 80 = .ok (.lreturn, 1) := by decide +kernel
theorem dX3_count_81 : decode cX3_count 81 = .ok (.ldc2_w 104, 3) := by decide +kernel
theorem dX3_count_84 : decode cX3_count 84 = .ok (.lreturn, 1) := by decide +kernel
theorem dX3_isBeyond_0 : decode cX3_isBeyond 0 = .ok (.lload_n 0, 1) := by decide +kernel
theorem dX3_isBeyond_1 : decode cX3_isBeyond 1 = .ok (.lconst 0, 1) := by decide +kernel
theorem dX3_isBeyond_2 : decode cX3_isBeyond 2 = .ok (.lcmp, 1) := by decide +kernel
theorem dX3_isBeyond_3 : decode cX3_isBeyond 3 = .ok (.ifCond .lt 11, 3) := by decide +kernel
theorem dX3_isBeyond_6 : decode cX3_isBeyond 6 = .ok (.lload_n 0, 1) := by decide +kernel
theorem dX3_isBeyond_7 : decode cX3_isBeyond 7 = .ok (.ldc2_w 106, 3) := by decide +kernel
theorem dX3_isBeyond_10 : decode cX3_isBeyond 10 = .ok (.lcmp, 1) := by decide +kernel
theorem dX3_isBeyond_11 : decode cX3_isBeyond 11 = .ok (.ifCond .lt 7, 3) := by decide +kernel
theorem dX3_isBeyond_14 : decode cX3_isBeyond 14 = .ok (.iconst 1, 1) := by decide +kernel
theorem dX3_isBeyond_15 : decode cX3_isBeyond 15 = .ok (.goto 4, 3) := by decide +kernel
theorem dX3_isBeyond_18 : decode cX3_isBeyond 18 = .ok (.iconst 0, 1) := by decide +kernel
theorem dX3_isBeyond_19 : decode cX3_isBeyond 19 = .ok (.ireturn, 1) := by decide +kernel
theorem dX3_opOf_0 : decode cX3_opOf 0 = .ok (.iload_n 0, 1) := by decide +kernel
theorem dX3_opOf_1 : decode cX3_opOf 1 = .ok (.bipush 24, 2) := by decide +kernel
theorem dX3_opOf_3 : decode cX3_opOf 3 = .ok (.iushr, 1) := by decide +kernel
theorem dX3_opOf_4 : decode cX3_opOf 4 = .ok (.ireturn, 1) := by decide +kernel
theorem dX3_byteX_0 : decode cX3_byteX 0 = .ok (.iload_n 0, 1) := by decide +kernel
theorem dX3_byteX_1 : decode cX3_byteX 1 = .ok (.bipush 16, 2) := by decide +kernel
theorem dX3_byteX_3 : decode cX3_byteX 3 = .ok (.ishr, 1) := by decide +kernel
theorem dX3_byteX_4 : decode cX3_byteX 4 = .ok (.sipush 255, 3) := by decide +kernel
theorem dX3_byteX_7 : decode cX3_byteX 7 = .ok (.iand, 1) := by decide +kernel
theorem dX3_byteX_8 : decode cX3_byteX 8 = .ok (.ireturn, 1) := by decide +kernel
theorem dX3_byteY_0 : decode cX3_byteY 0 = .ok (.iload_n 0, 1) := by decide +kernel
theorem dX3_byteY_1 : decode cX3_byteY 1 = .ok (.bipush 8, 2) := by decide +kernel
theorem dX3_byteY_3 : decode cX3_byteY 3 = .ok (.ishr, 1) := by decide +kernel
theorem dX3_byteY_4 : decode cX3_byteY 4 = .ok (.sipush 255, 3) := by decide +kernel
theorem dX3_byteY_7 : decode cX3_byteY 7 = .ok (.iand, 1) := by decide +kernel
theorem dX3_byteY_8 : decode cX3_byteY 8 = .ok (.ireturn, 1) := by decide +kernel
theorem dX3_byteZ_0 : decode cX3_byteZ 0 = .ok (.iload_n 0, 1) := by decide +kernel
theorem dX3_byteZ_1 : decode cX3_byteZ 1 = .ok (.sipush 255, 3) := by decide +kernel
theorem dX3_byteZ_4 : decode cX3_byteZ 4 = .ok (.iand, 1) := by decide +kernel
theorem dX3_byteZ_5 : decode cX3_byteZ 5 = .ok (.ireturn, 1) := by decide +kernel
theorem dX3_wydeYZ_0 : decode cX3_wydeYZ 0 = .ok (.iload_n 0, 1) := by decide +kernel
theorem dX3_wydeYZ_1 : decode cX3_wydeYZ 1 = .ok (.ldc 108, 2) := by decide +kernel
theorem dX3_wydeYZ_3 : decode cX3_wydeYZ 3 = .ok (.iand, 1) := by decide +kernel
theorem dX3_wydeYZ_4 : decode cX3_wydeYZ 4 = .ok (.ireturn, 1) := by decide +kernel
set_option maxRecDepth 20000 in
theorem ggX3_doNext_X3_isBeyond : GoodIn wsX3_doNext wsX3_isBeyond := goodIn_r _ [7, 8] (by decide +kernel) (by decide +kernel)
set_option maxRecDepth 20000 in
theorem gX3_doNext_X3_isBeyond : GoodIn wsX3_doNext (va_wsS RX3 37 yX3_isBeyond wsX3_isBeyond) := goodIn_app (goodIn_of _ (by decide +kernel)) ggX3_doNext_X3_isBeyond
set_option maxRecDepth 20000 in
theorem ggX3_doNext_X0_load : GoodIn wsX3_doNext wsX0_load := goodIn_r _ [12, 13, 14, 15, 10, 16, 17, 18, 19, 20, 21, 22, 23, 230] (by decide +kernel) (by decide +kernel)
set_option maxRecDepth 20000 in
theorem gX3_doNext_X0_load_n46 : GoodIn wsX3_doNext (wsX0_load) := ggX3_doNext_X0_load
set_option maxRecDepth 20000 in
theorem ggX3_doNext_X3_followFetch : GoodIn wsX3_doNext wsX3_followFetch := goodIn_r _ [27, 28, 29, 3, 30, 31, 6, 32, 33, 34, 35, 36, 37, 38, 218, 219, 220, 221, 222, 223, 224, 225, 226, 227, 228, 229] (by decide +kernel) (by decide +kernel)
set_option maxRecDepth 20000 in
theorem gX3_doNext_X3_followFetch : GoodIn wsX3_doNext (wsV RX3 109 RX3 yX3_followFetch wsX3_followFetch) := goodIn_app (goodIn_of _ (by decide +kernel)) ggX3_doNext_X3_followFetch
set_option maxRecDepth 20000 in
theorem ggX3_doNext_X3_isLegal : GoodIn wsX3_doNext wsX3_isLegal := goodIn_r _ [41, 42, 43, 6, 44, 36, 37, 38, 33, 34, 35] (by decide +kernel) (by decide +kernel)
set_option maxRecDepth 20000 in
theorem gX3_doNext_X3_isLegal : GoodIn wsX3_doNext (va_wsS RX3 113 yX3_isLegal wsX3_isLegal) := goodIn_app (goodIn_of _ (by decide +kernel)) ggX3_doNext_X3_isLegal
set_option maxRecDepth 20000 in
theorem ggX3_doNext_X3_byteY : GoodIn wsX3_doNext wsX3_byteY := goodIn_r _ [32] (by decide +kernel) (by decide +kernel)
set_option maxRecDepth 20000 in
theorem gX3_doNext_X3_byteY : GoodIn wsX3_doNext (va_wsS RX3 117 yX3_byteY wsX3_byteY) := goodIn_app (goodIn_of _ (by decide +kernel)) ggX3_doNext_X3_byteY
set_option maxRecDepth 20000 in
theorem ggX3_doNext_X3_operandZ : GoodIn wsX3_doNext wsX3_operandZ := goodIn_r _ [48, 3, 42, 43, 6, 44, 33, 34, 35, 218, 219, 220, 221, 222, 223, 224, 225, 226, 227, 228, 229] (by decide +kernel) (by decide +kernel)
set_option maxRecDepth 20000 in
theorem gX3_doNext_X3_operandZ : GoodIn wsX3_doNext (wsV RX3 120 RX3 yX3_operandZ wsX3_operandZ) := goodIn_app (goodIn_of _ (by decide +kernel)) ggX3_doNext_X3_operandZ
set_option maxRecDepth 20000 in
theorem ggX3_doNext_X3_opOf : GoodIn wsX3_doNext wsX3_opOf := goodIn_r _ [44] (by decide +kernel) (by decide +kernel)
set_option maxRecDepth 20000 in
theorem gX3_doNext_X3_opOf : GoodIn wsX3_doNext (va_wsS RX3 124 yX3_opOf wsX3_opOf) := goodIn_app (goodIn_of _ (by decide +kernel)) ggX3_doNext_X3_opOf
set_option maxRecDepth 20000 in
theorem ggX3_doNext_X3_isLoadOrStore : GoodIn wsX3_doNext wsX3_isLoadOrStore := goodIn_r _ [51, 52, 53, 6, 54] (by decide +kernel) (by decide +kernel)
set_option maxRecDepth 20000 in
theorem gX3_doNext_X3_isLoadOrStore : GoodIn wsX3_doNext (va_wsS RX3 127 yX3_isLoadOrStore wsX3_isLoadOrStore) := goodIn_app (goodIn_of _ (by decide +kernel)) ggX3_doNext_X3_isLoadOrStore
set_option maxRecDepth 20000 in
theorem ggX3_doNext_X3_bill : GoodIn wsX3_doNext wsX3_bill := goodIn_r _ [58, 59, 60, 61, 62, 63, 64, 6, 65, 218, 219, 220, 221, 222, 223, 224, 225, 226, 227, 228, 229] (by decide +kernel) (by decide +kernel)
set_option maxRecDepth 20000 in
theorem gX3_doNext_X3_bill : GoodIn wsX3_doNext (wsV RX3 130 RX3 yX3_bill wsX3_bill) := goodIn_app (goodIn_of _ (by decide +kernel)) ggX3_doNext_X3_bill
set_option maxRecDepth 20000 in
theorem ghX3_doNext_X3_perform_h : GoodIn wsX3_doNext ([.code yX3_perform cX3_perform 9 none] : List Cond) := goodIn_r _ [69] (by decide +kernel) (by decide +kernel)
set_option maxRecDepth 20000 in
theorem ghX3_doNext_X3_perform_wsX3_perform_r1 : GoodIn wsX3_doNext wsX3_perform_r1 := goodIn_r _ [1, 70, 42, 43, 6, 44, 71, 72, 73, 74, 75, 76, 3, 33, 34, 35, 77, 78, 79, 80, 81, 82, 83, 84] (by decide +kernel) (by decide +kernel)
set_option maxRecDepth 20000 in
theorem ghX3_doNext_X3_perform_wsX3_perform_r2 : GoodIn wsX3_doNext wsX3_perform_r2 := goodIn_r _ [85, 86, 87, 88, 89, 90, 91, 92, 93, 94, 95, 96, 97, 98, 99, 100, 101, 102, 103, 104, 105, 106, 107, 108] (by decide +kernel) (by decide +kernel)
set_option maxRecDepth 20000 in
theorem ghX3_doNext_X3_perform_wsX3_perform_r3 : GoodIn wsX3_doNext wsX3_perform_r3 := goodIn_r _ [109, 110, 111, 112, 113, 114, 115, 116, 29, 36, 37, 38, 117, 118, 119, 120, 121, 122, 123, 124, 125, 126, 127, 128] (by decide +kernel) (by decide +kernel)
set_option maxRecDepth 20000 in
theorem ghX3_doNext_X3_perform_wsX3_perform_r4 : GoodIn wsX3_doNext wsX3_perform_r4 := goodIn_r _ [129, 130, 131, 132, 30, 31, 32, 133, 134, 135, 136, 137, 138, 139, 140, 141, 142, 143, 144, 145, 146, 147, 148, 149] (by decide +kernel) (by decide +kernel)
set_option maxRecDepth 20000 in
theorem ghX3_doNext_X3_perform_wsX3_perform_r5 : GoodIn wsX3_doNext wsX3_perform_r5 := goodIn_r _ [150, 61, 151, 152, 153, 154, 155, 156, 157, 158, 159, 160, 161, 162, 163, 164, 165, 166, 167, 168, 169, 170, 171, 2] (by decide +kernel) (by decide +kernel)
set_option maxRecDepth 20000 in
theorem ghX3_doNext_X3_perform_wsX3_perform_r6 : GoodIn wsX3_doNext wsX3_perform_r6 := goodIn_r _ [52, 53, 54, 9, 10, 11, 12, 13, 14, 15, 16, 17, 18, 19, 20, 21, 22, 23, 172, 173, 174, 175, 176, 177] (by decide +kernel) (by decide +kernel)
set_option maxRecDepth 20000 in
theorem ghX3_doNext_X3_perform_wsX3_perform_r7 : GoodIn wsX3_doNext wsX3_perform_r7 := goodIn_r _ [178, 179, 180, 181, 182, 183, 184, 185, 186, 187, 188, 189, 190, 191, 192, 193, 194, 195, 196, 197, 198, 199, 200, 201] (by decide +kernel) (by decide +kernel)
set_option maxRecDepth 20000 in
theorem ghX3_doNext_X3_perform_wsX3_perform_r8 : GoodIn wsX3_doNext wsX3_perform_r8 := goodIn_r _ [202, 203, 204, 205, 206, 207, 208, 209, 210, 211, 212, 213, 214, 215, 216, 217] (by decide +kernel) (by decide +kernel)
set_option maxRecDepth 20000 in
theorem ghX3_doNext_X3_perform_wsX30 : GoodIn wsX3_doNext wsX30 := goodIn_r _ [218, 219, 220, 221, 222, 223, 224, 225, 226, 227, 228, 229] (by decide +kernel) (by decide +kernel)
set_option maxRecDepth 20000 in
theorem ghX3_doNext_X3_perform_wsX00 : GoodIn wsX3_doNext wsX00 := goodIn_r _ [230] (by decide +kernel) (by decide +kernel)
theorem ggX3_doNext_X3_perform : GoodIn wsX3_doNext wsX3_perform := (goodIn_app (a := [.code yX3_perform cX3_perform 9 none]) ghX3_doNext_X3_perform_h (goodIn_app (goodIn_app (goodIn_app ghX3_doNext_X3_perform_wsX3_perform_r1 (goodIn_app ghX3_doNext_X3_perform_wsX3_perform_r2 (goodIn_app ghX3_doNext_X3_perform_wsX3_perform_r3 (goodIn_app ghX3_doNext_X3_perform_wsX3_perform_r4 (goodIn_app ghX3_doNext_X3_perform_wsX3_perform_r5 (goodIn_app ghX3_doNext_X3_perform_wsX3_perform_r6 (goodIn_app ghX3_doNext_X3_perform_wsX3_perform_r7 ghX3_doNext_X3_perform_wsX3_perform_r8))))))) ghX3_doNext_X3_perform_wsX30) ghX3_doNext_X3_perform_wsX00))
set_option maxRecDepth 20000 in
theorem gX3_doNext_X3_perform : GoodIn wsX3_doNext (wsV RX3 134 RX3 yX3_perform wsX3_perform) := goodIn_app (goodIn_of _ (by decide +kernel)) ggX3_doNext_X3_perform
theorem dX3_doNext_0 : decode cX3_doNext 0 = .ok (.aload_n 0, 1) := by decide +kernel
theorem dX3_doNext_1 : decode cX3_doNext 1 = .ok (.getfield 73, 3) := by decide +kernel
theorem dX3_doNext_4 : decode cX3_doNext 4 = .ok (.invokestatic 37, 3) := by decide +kernel
theorem dX3_doNext_7 : decode cX3_doNext 7 = .ok (.ifCond .eq 5, 3) := by decide +kernel
theorem dX3_doNext_10 : decode cX3_doNext 10 = .ok (.iconst 3, 1) := by decide +kernel
theorem dX3_doNext_11 : decode cX3_doNext 11 = .ok (.ireturn, 1) := by decide +kernel
theorem dX3_doNext_12 : decode cX3_doNext 12 = .ok (.aload_n 0, 1) := by decide +kernel
theorem dX3_doNext_13 : decode cX3_doNext 13 = .ok (.getfield 26, 3) := by decide +kernel
theorem dX3_doNext_16 : decode cX3_doNext 16 = .ok (.aload_n 0, 1) := by decide +kernel
theorem dX3_doNext_17 : decode cX3_doNext 17 = .ok (.getfield 73, 3) := by decide +kernel
theorem dX3_doNext_20 : decode cX3_doNext 20 = .ok (.iconst 4, 1) := by decide +kernel
theorem dX3_doNext_21 : decode cX3_doNext 21 = .ok (.invokevirtual 46, 3) := by decide +kernel
theorem dX3_doNext_24 : decode cX3_doNext 24 = .ok (.l2i, 1) := by decide +kernel
theorem dX3_doNext_25 : decode cX3_doNext 25 = .ok (.istore_n 1, 1) := by decide +kernel
theorem dX3_doNext_26 : decode cX3_doNext 26 = .ok (.aload_n 0, 1) := by decide +kernel
theorem dX3_doNext_27 : decode cX3_doNext 27 = .ok (.iload_n 1, 1) := by decide +kernel
theorem dX3_doNext_28 : decode cX3_doNext 28 = .ok (.invokevirtual 109, 3) := by decide +kernel
theorem dX3_doNext_31 : decode cX3_doNext 31 = .ok (.iload_n 1, 1) := by decide +kernel
theorem dX3_doNext_32 : decode cX3_doNext 32 = .ok (.invokestatic 113, 3) := by decide +kernel
theorem dX3_doNext_35 : decode cX3_doNext 35 = .ok (.ifCond .ne 5, 3) := by decide +kernel
theorem dX3_doNext_38 : decode cX3_doNext 38 = .ok (.iconst 2, 1) := by decide +kernel
theorem dX3_doNext_39 : decode cX3_doNext 39 = .ok (.ireturn, 1) := by decide +kernel
theorem dX3_doNext_40 : decode cX3_doNext 40 = .ok (.aload_n 0, 1) := by decide +kernel
theorem dX3_doNext_41 : decode cX3_doNext 41 = .ok (.getfield 9, 3) := by decide +kernel
theorem dX3_doNext_44 : decode cX3_doNext 44 = .ok (.iload_n 1, 1) := by decide +kernel
theorem dX3_doNext_45 : decode cX3_doNext 45 = .ok (.invokestatic 117, 3) := by decide +kernel
theorem dX3_doNext_48 : decode cX3_doNext 48 = .ok (.laload, 1) := by decide +kernel
theorem dX3_doNext_49 : decode cX3_doNext 49 = .ok (.lstore_n 2, 1) := by decide +kernel
theorem dX3_doNext_50 : decode cX3_doNext 50 = .ok (.aload_n 0, 1) := by decide +kernel
theorem dX3_doNext_51 : decode cX3_doNext 51 = .ok (.iload_n 1, 1) := by decide +kernel
theorem dX3_doNext_52 : decode cX3_doNext 52 = .ok (.invokevirtual 120, 3) := by decide +kernel
theorem dX3_doNext_55 : decode cX3_doNext 55 = .ok (.lstore 4, 2) := by decide +kernel
theorem dX3_doNext_57 : decode cX3_doNext 57 = .ok (.iload_n 1, 1) := by decide +kernel
theorem dX3_doNext_58 : decode cX3_doNext 58 = .ok (.invokestatic 124, 3) := by decide +kernel
theorem dX3_doNext_61 : decode cX3_doNext 61 = .ok (.invokestatic 127, 3) := by decide +kernel
theorem dX3_doNext_64 : decode cX3_doNext 64 = .ok (.istore 6, 2) := by decide +kernel
theorem dX3_doNext_66 : decode cX3_doNext 66 = .ok (.iload 6, 2) := by decide +kernel
theorem dX3_doNext_68 : decode cX3_doNext 68 = .ok (.ifCond .eq 15, 3) := by decide +kernel
theorem dX3_doNext_71 : decode cX3_doNext 71 = .ok (.lload_n 2, 1) := by decide +kernel
theorem dX3_doNext_72 : decode cX3_doNext 72 = .ok (.lload 4, 2) := by decide +kernel
theorem dX3_doNext_74 : decode cX3_doNext 74 = .ok (.ladd, 1) := by decide +kernel
theorem dX3_doNext_75 : decode cX3_doNext 75 = .ok (.invokestatic 37, 3) := by decide +kernel
theorem dX3_doNext_78 : decode cX3_doNext 78 = .ok (.ifCond .eq 5, 3) := by decide +kernel
theorem dX3_doNext_81 : decode cX3_doNext 81 = .ok (.iconst 3, 1) := by decide +kernel
theorem dX3_doNext_82 : decode cX3_doNext 82 = .ok (.ireturn, 1) := by decide +kernel
theorem dX3_doNext_83 : decode cX3_doNext 83 = .ok (.aload_n 0, 1) := by decide +kernel
theorem dX3_doNext_84 : decode cX3_doNext 84 = .ok (.iload_n 1, 1) := by decide +kernel
theorem dX3_doNext_85 : decode cX3_doNext 85 = .ok (.invokestatic 124, 3) := by decide +kernel
theorem dX3_doNext_88 : decode cX3_doNext 88 = .ok (.iload 6, 2) := by decide +kernel
theorem dX3_doNext_90 : decode cX3_doNext 90 = .ok (.invokevirtual 130, 3) := by decide +kernel
theorem dX3_doNext_93 : decode cX3_doNext 93 = .ok (.aload_n 0, 1) := by decide +kernel
theorem dX3_doNext_94 : decode cX3_doNext 94 = .ok (.iload_n 1, 1) := by decide +kernel
theorem dX3_doNext_95 : decode cX3_doNext 95 = .ok (.lload_n 2, 1) := by decide +kernel
theorem dX3_doNext_96 : decode cX3_doNext 96 = .ok (.lload 4, 2) := by decide +kernel
theorem dX3_doNext_98 : decode cX3_doNext 98 = .ok (.invokevirtual 134, 3) := by decide +kernel
theorem dX3_doNext_101 : decode cX3_doNext 101 = .ok (.iload_n 1, 1) := by decide +kernel
theorem dX3_doNext_102 : decode cX3_doNext 102 = .ok (.ifCond .ne 7, 3) := by decide +kernel
theorem dX3_doNext_105 : decode cX3_doNext 105 = .ok (.iconst 1, 1) := by decide +kernel
theorem dX3_doNext_106 : decode cX3_doNext 106 = .ok (.goto 4, 3) := by decide +kernel
theorem dX3_doNext_109 : decode cX3_doNext 109 = .ok (.iconst 0, 1) := by decide +kernel
theorem dX3_doNext_110 : decode cX3_doNext 110 = .ok (.ireturn, 1) := by decide +kernel
set_option maxRecDepth 20000 in
theorem ggX3_followFetch_X3_byteY : GoodIn wsX3_followFetch wsX3_byteY := goodIn_r _ [7] (by decide +kernel) (by decide +kernel)
set_option maxRecDepth 20000 in
theorem gX3_followFetch_X3_byteY : GoodIn wsX3_followFetch (va_wsS RX3 117 yX3_byteY wsX3_byteY) := goodIn_app (goodIn_of _ (by decide +kernel)) ggX3_followFetch_X3_byteY
set_option maxRecDepth 20000 in
theorem ggX3_followFetch_X3_byteZ : GoodIn wsX3_followFetch wsX3_byteZ := goodIn_r _ [10] (by decide +kernel) (by decide +kernel)
set_option maxRecDepth 20000 in
theorem gX3_followFetch_X3_byteZ : GoodIn wsX3_followFetch (va_wsS RX3 140 yX3_byteZ wsX3_byteZ) := goodIn_app (goodIn_of _ (by decide +kernel)) ggX3_followFetch_X3_byteZ
set_option maxRecDepth 20000 in
theorem ggX3_followFetch_X3_byteX : GoodIn wsX3_followFetch wsX3_byteX := goodIn_r _ [13] (by decide +kernel) (by decide +kernel)
set_option maxRecDepth 20000 in
theorem gX3_followFetch_X3_byteX : GoodIn wsX3_followFetch (va_wsS RX3 143 yX3_byteX wsX3_byteX) := goodIn_app (goodIn_of _ (by decide +kernel)) ggX3_followFetch_X3_byteX
theorem dX3_followFetch_0 : decode cX3_followFetch 0 = .ok (.aload_n 0, 1) := by decide +kernel
theorem dX3_followFetch_1 : decode cX3_followFetch 1 = .ok (.ldc2_w 138, 3) := by decide +kernel
theorem dX3_followFetch_4 : decode cX3_followFetch 4 = .ok (.aload_n 0, 1) := by decide +kernel
theorem dX3_followFetch_5 : decode cX3_followFetch 5 = .ok (.getfield 98, 3) := by decide +kernel
theorem dX3_followFetch_8 : decode cX3_followFetch 8 = .ok (.lmul, 1) := by decide +kernel
theorem dX3_followFetch_9 : decode cX3_followFetch 9 = .ok (.aload_n 0, 1) := by decide +kernel
theorem dX3_followFetch_10 : decode cX3_followFetch 10 = .ok (.getfield 9, 3) := by decide +kernel
theorem dX3_followFetch_13 : decode cX3_followFetch 13 = .ok (.iload_n 1, 1) := by decide +kernel
theorem dX3_followFetch_14 : decode cX3_followFetch 14 = .ok (.invokestatic 117, 3) := by decide +kernel
theorem dX3_followFetch_17 : decode cX3_followFetch 17 = .ok (.laload, 1) := by decide +kernel
theorem dX3_followFetch_18 : decode cX3_followFetch 18 = .ok (.ladd, 1) := by decide +kernel
theorem dX3_followFetch_19 : decode cX3_followFetch 19 = .ok (.putfield 98, 3) := by decide +kernel
theorem dX3_followFetch_22 : decode cX3_followFetch 22 = .ok (.aload_n 0, 1) := by decide +kernel
theorem dX3_followFetch_23 : decode cX3_followFetch 23 = .ok (.ldc2_w 138, 3) := by decide +kernel
theorem dX3_followFetch_26 : decode cX3_followFetch 26 = .ok (.aload_n 0, 1) := by decide +kernel
theorem dX3_followFetch_27 : decode cX3_followFetch 27 = .ok (.getfield 98, 3) := by decide +kernel
theorem dX3_followFetch_30 : decode cX3_followFetch 30 = .ok (.lmul, 1) := by decide +kernel
theorem dX3_followFetch_31 : decode cX3_followFetch 31 = .ok (.aload_n 0, 1) := by decide +kernel
theorem dX3_followFetch_32 : decode cX3_followFetch 32 = .ok (.getfield 9, 3) := by decide +kernel
theorem dX3_followFetch_35 : decode cX3_followFetch 35 = .ok (.iload_n 1, 1) := by decide +kernel
theorem dX3_followFetch_36 : decode cX3_followFetch 36 = .ok (.invokestatic 140, 3) := by decide +kernel
theorem dX3_followFetch_39 : decode cX3_followFetch 39 = .ok (.laload, 1) := by decide +kernel
theorem dX3_followFetch_40 : decode cX3_followFetch 40 = .ok (.ladd, 1) := by decide +kernel
theorem dX3_followFetch_41 : decode cX3_followFetch 41 = .ok (.putfield 98, 3) := by decide +kernel
theorem dX3_followFetch_44 : decode cX3_followFetch 44 = .ok (.aload_n 0, 1) := by decide +kernel
theorem dX3_followFetch_45 : decode cX3_followFetch 45 = .ok (.ldc2_w 138, 3) := by decide +kernel
theorem dX3_followFetch_48 : decode cX3_followFetch 48 = .ok (.aload_n 0, 1) := by decide +kernel
theorem dX3_followFetch_49 : decode cX3_followFetch 49 = .ok (.getfield 98, 3) := by decide +kernel
theorem dX3_followFetch_52 : decode cX3_followFetch 52 = .ok (.lmul, 1) := by decide +kernel
theorem dX3_followFetch_53 : decode cX3_followFetch 53 = .ok (.aload_n 0, 1) := by decide +kernel
theorem dX3_followFetch_54 : decode cX3_followFetch 54 = .ok (.getfield 9, 3) := by decide +kernel
theorem dX3_followFetch_57 : decode cX3_followFetch 57 = .ok (.iload_n 1, 1) := by decide +kernel
theorem dX3_followFetch_58 : decode cX3_followFetch 58 = .ok (.invokestatic 143, 3) := by decide +kernel
theorem dX3_followFetch_61 : decode cX3_followFetch 61 = .ok (.laload, 1) := by decide +kernel
theorem dX3_followFetch_62 : decode cX3_followFetch 62 = .ok (.ladd, 1) := by decide +kernel
theorem dX3_followFetch_63 : decode cX3_followFetch 63 = .ok (.putfield 98, 3) := by decide +kernel
theorem dX3_followFetch_66 : decode cX3_followFetch 66 = .ok (.return_, 1) := by decide +kernel
set_option maxRecDepth 20000 in
theorem ggX3_isLegal_X3_opOf : GoodIn wsX3_isLegal wsX3_opOf := goodIn_r _ [4] (by decide +kernel) (by decide +kernel)
set_option maxRecDepth 20000 in
theorem gX3_isLegal_X3_opOf : GoodIn wsX3_isLegal (va_wsS RX3 124 yX3_opOf wsX3_opOf) := goodIn_app (goodIn_of _ (by decide +kernel)) ggX3_isLegal_X3_opOf
set_option maxRecDepth 20000 in
theorem ggX3_isLegal_X3_byteX : GoodIn wsX3_isLegal wsX3_byteX := goodIn_r _ [7] (by decide +kernel) (by decide +kernel)
set_option maxRecDepth 20000 in
theorem gX3_isLegal_X3_byteX : GoodIn wsX3_isLegal (va_wsS RX3 143 yX3_byteX wsX3_byteX) := goodIn_app (goodIn_of _ (by decide +kernel)) ggX3_isLegal_X3_byteX
set_option maxRecDepth 20000 in
theorem ggX3_isLegal_X3_byteZ : GoodIn wsX3_isLegal wsX3_byteZ := goodIn_r _ [10] (by decide +kernel) (by decide +kernel)
set_option maxRecDepth 20000 in
theorem gX3_isLegal_X3_byteZ : GoodIn wsX3_isLegal (va_wsS RX3 140 yX3_byteZ wsX3_byteZ) := goodIn_app (goodIn_of _ (by decide +kernel)) ggX3_isLegal_X3_byteZ
theorem dX3_isLegal_0 : decode cX3_isLegal 0 = .ok (.iload_n 0, 1) := by decide +kernel
theorem dX3_isLegal_1 : decode cX3_isLegal 1 = .ok (.invokestatic 124, 3) := by decide +kernel
theorem dX3_isLegal_4 : decode cX3_isLegal 4 = .ok (.istore_n 1, 1) := by decide +kernel
theorem dX3_isLegal_5 : decode cX3_isLegal 5 = .ok (.iload_n 1, 1) := by decide +kernel
theorem dX3_isLegal_6 : decode cX3_isLegal 6 = .ok (.lookupswitch 200 #[(0, 146), (146, 164), (147, 164), (158, 164), (159, 164), (178, 166), (179, 166), (180, 166), (181, 166), (240, 168), (241, 168), (244, 168), (245, 168), (246, 170), (247, 170), (253, 168), (254, 185)], 146) := by decide +kernel
theorem dX3_isLegal_152 : decode cX3_isLegal 152 = .ok (.iload_n 0, 1) := by decide +kernel
theorem dX3_isLegal_153 : decode cX3_isLegal 153 = .ok (.ifCond .eq 11, 3) := by decide +kernel
theorem dX3_isLegal_156 : decode cX3_isLegal 156 = .ok (.iload_n 0, 1) := by decide +kernel
theorem dX3_isLegal_157 : decode cX3_isLegal 157 = .ok (.bipush 8, 2) := by decide +kernel
theorem dX3_isLegal_159 : decode cX3_isLegal 159 = .ok (.ishr, 1) := by decide +kernel
theorem dX3_isLegal_160 : decode cX3_isLegal 160 = .ok (.iconst 1, 1) := by decide +kernel
theorem dX3_isLegal_161 : decode cX3_isLegal 161 = .ok (.if_icmp .ne 7, 3) := by decide +kernel
theorem dX3_isLegal_164 : decode cX3_isLegal 164 = .ok (.iconst 1, 1) := by decide +kernel
theorem dX3_isLegal_165 : decode cX3_isLegal 165 = .ok (.goto 4, 3) := by decide +kernel
theorem dX3_isLegal_168 : decode cX3_isLegal 168 = .ok (.iconst 0, 1) := by decide +kernel
theorem dX3_isLegal_169 : decode cX3_isLegal 169 = .ok (.ireturn, 1) := by decide +kernel
theorem dX3_isLegal_170 : decode cX3_isLegal 170 = .ok (.iconst 1, 1) := by decide +kernel
theorem dX3_isLegal_171 : decode cX3_isLegal 171 = .ok (.ireturn, 1) := by decide +kernel
theorem dX3_isLegal_172 : decode cX3_isLegal 172 = .ok (.iconst 1, 1) := by decide +kernel
theorem dX3_isLegal_173 : decode cX3_isLegal 173 = .ok (.ireturn, 1) := by decide +kernel
theorem dX3_isLegal_174 : decode cX3_isLegal 174 = .ok (.iconst 1, 1) := by decide +kernel
theorem dX3_isLegal_175 : decode cX3_isLegal 175 = .ok (.ireturn, 1) := by decide +kernel
theorem dX3_isLegal_176 : decode cX3_isLegal 176 = .ok (.iload_n 0, 1) := by decide +kernel
theorem dX3_isLegal_177 : decode cX3_isLegal 177 = .ok (.invokestatic 143, 3) := by decide +kernel
theorem dX3_isLegal_180 : decode cX3_isLegal 180 = .ok (.bipush 8, 2) := by decide +kernel
theorem dX3_isLegal_182 : decode cX3_isLegal 182 = .ok (.if_icmp .ge 7, 3) := by decide +kernel
theorem dX3_isLegal_185 : decode cX3_isLegal 185 = .ok (.iconst 1, 1) := by decide +kernel
theorem dX3_isLegal_186 : decode cX3_isLegal 186 = .ok (.goto 4, 3) := by decide +kernel
theorem dX3_isLegal_189 : decode cX3_isLegal 189 = .ok (.iconst 0, 1) := by decide +kernel
theorem dX3_isLegal_190 : decode cX3_isLegal 190 = .ok (.ireturn, 1) := by decide +kernel
theorem dX3_isLegal_191 : decode cX3_isLegal 191 = .ok (.iload_n 0, 1) := by decide +kernel
theorem dX3_isLegal_192 : decode cX3_isLegal 192 = .ok (.invokestatic 140, 3) := by decide +kernel
theorem dX3_isLegal_195 : decode cX3_isLegal 195 = .ok (.bipush 8, 2) := by decide +kernel
theorem dX3_isLegal_197 : decode cX3_isLegal 197 = .ok (.if_icmp .ge 7, 3) := by decide +kernel
theorem dX3_isLegal_200 : decode cX3_isLegal 200 = .ok (.iconst 1, 1) := by decide +kernel
theorem dX3_isLegal_201 : decode cX3_isLegal 201 = .ok (.goto 4, 3) := by decide +kernel
theorem dX3_isLegal_204 : decode cX3_isLegal 204 = .ok (.iconst 0, 1) := by decide +kernel
theorem dX3_isLegal_205 : decode cX3_isLegal 205 = .ok (.ireturn, 1) := by decide +kernel
theorem dX3_isLegal_206 : decode cX3_isLegal 206 = .ok (.iload_n 1, 1) := by decide +kernel
theorem dX3_isLegal_207 : decode cX3_isLegal 207 = .ok (.bipush 24, 2) := by decide +kernel
theorem dX3_isLegal_209 : decode cX3_isLegal 209 = .ok (.if_icmp .lt 10, 3) := by decide +kernel
theorem dX3_isLegal_212 : decode cX3_isLegal 212 = .ok (.iload_n 1, 1) := by decide +kernel
theorem dX3_isLegal_213 : decode cX3_isLegal 213 = .ok (.sipush 144, 3) := by decide +kernel
theorem dX3_isLegal_216 : decode cX3_isLegal 216 = .ok (.if_icmp .lt 31, 3) := by decide +kernel
theorem dX3_isLegal_219 : decode cX3_isLegal 219 = .ok (.iload_n 1, 1) := by decide +kernel
theorem dX3_isLegal_220 : decode cX3_isLegal 220 = .ok (.sipush 160, 3) := by decide +kernel
theorem dX3_isLegal_223 : decode cX3_isLegal 223 = .ok (.if_icmp .lt 10, 3) := by decide +kernel
theorem dX3_isLegal_226 : decode cX3_isLegal 226 = .ok (.iload_n 1, 1) := by decide +kernel
theorem dX3_isLegal_227 : decode cX3_isLegal 227 = .ok (.sipush 176, 3) := by decide +kernel
theorem dX3_isLegal_230 : decode cX3_isLegal 230 = .ok (.if_icmp .lt 17, 3) := by decide +kernel
theorem dX3_isLegal_233 : decode cX3_isLegal 233 = .ok (.iload_n 1, 1) := by decide +kernel
theorem dX3_isLegal_234 : decode cX3_isLegal 234 = .ok (.sipush 192, 3) := by decide +kernel
theorem dX3_isLegal_237 : decode cX3_isLegal 237 = .ok (.if_icmp .lt 14, 3) := by decide +kernel
theorem dX3_isLegal_240 : decode cX3_isLegal 240 = .ok (.iload_n 1, 1) := by decide +kernel
theorem dX3_isLegal_241 : decode cX3_isLegal 241 = .ok (.sipush 240, 3) := by decide +kernel
theorem dX3_isLegal_244 : decode cX3_isLegal 244 = .ok (.if_icmp .ge 7, 3) := by decide +kernel
theorem dX3_isLegal_247 : decode cX3_isLegal 247 = .ok (.iconst 1, 1) := by decide +kernel
theorem dX3_isLegal_248 : decode cX3_isLegal 248 = .ok (.goto 4, 3) := by decide +kernel
theorem dX3_isLegal_251 : decode cX3_isLegal 251 = .ok (.iconst 0, 1) := by decide +kernel
theorem dX3_isLegal_252 : decode cX3_isLegal 252 = .ok (.ireturn, 1) := by decide +kernel
set_option maxRecDepth 20000 in
theorem ggX3_isLoadOrStore_X3_isGo : GoodIn wsX3_isLoadOrStore wsX3_isGo := goodIn_r _ [4] (by decide +kernel) (by decide +kernel)
set_option maxRecDepth 20000 in
theorem gX3_isLoadOrStore_X3_isGo : GoodIn wsX3_isLoadOrStore (va_wsS RX3 146 yX3_isGo wsX3_isGo) := goodIn_app (goodIn_of _ (by decide +kernel)) ggX3_isLoadOrStore_X3_isGo
theorem dX3_isLoadOrStore_0 : decode cX3_isLoadOrStore 0 = .ok (.iload_n 0, 1) := by decide +kernel
theorem dX3_isLoadOrStore_1 : decode cX3_isLoadOrStore 1 = .ok (.sipush 128, 3) := by decide +kernel
theorem dX3_isLoadOrStore_4 : decode cX3_isLoadOrStore 4 = .ok (.if_icmp .lt 21, 3) := by decide +kernel
theorem dX3_isLoadOrStore_7 : decode cX3_isLoadOrStore 7 = .ok (.iload_n 0, 1) := by decide +kernel
theorem dX3_isLoadOrStore_8 : decode cX3_isLoadOrStore 8 = .ok (.sipush 192, 3) := by decide +kernel
theorem dX3_isLoadOrStore_11 : decode cX3_isLoadOrStore 11 = .ok (.if_icmp .ge 14, 3) := by decide +kernel
theorem dX3_isLoadOrStore_14 : decode cX3_isLoadOrStore 14 = .ok (.iload_n 0, 1) := by decide +kernel
theorem dX3_isLoadOrStore_15 : decode cX3_isLoadOrStore 15 = .ok (.invokestatic 146, 3) := by decide +kernel

theorem dX3_storeX_72 : decode cX3_storeX 72 = .ok (.iload 4, 2) := by decide +kernel
theorem dX3_storeX_74 : decode cX3_storeX 74 = .ok (.invokestatic 269, 3) := by decide +kernel
theorem dX3_storeX_77 : decode cX3_storeX 77 = .ok (.ifCond .ne 23, 3) := by decide +kernel
theorem dX3_storeX_80 : decode cX3_storeX 80 = .ok (.lload 5, 2) := by decide +kernel
theorem dX3_storeX_82 : decode cX3_storeX 82 = .ok (.iload 4, 2) := by decide +kernel
theorem dX3_storeX_84 : decode cX3_storeX 84 = .ok (.invokestatic 266, 3) := by decide +kernel
theorem dX3_storeX_87 : decode cX3_storeX 87 = .ok (.invokestatic 272, 3) := by decide +kernel
theorem dX3_storeX_90 : decode cX3_storeX 90 = .ok (.lload 5, 2) := by decide +kernel
theorem dX3_storeX_92 : decode cX3_storeX 92 = .ok (.lcmp, 1) := by decide +kernel
theorem dX3_storeX_93 : decode cX3_storeX 93 = .ok (.ifCond .eq 7, 3) := by decide +kernel
theorem dX3_storeX_96 : decode cX3_storeX 96 = .ok (.iconst 1, 1) := by decide +kernel
theorem dX3_storeX_97 : decode cX3_storeX 97 = .ok (.goto 4, 3) := by decide +kernel
theorem dX3_storeX_100 : decode cX3_storeX 100 = .ok (.iconst 0, 1) := by decide +kernel
theorem dX3_storeX_101 : decode cX3_storeX 101 = .ok (.invokevirtual 205, 3) := by decide +kernel
theorem dX3_storeX_104 : decode cX3_storeX 104 = .ok (.aload_n 0, 1) := by decide +kernel
theorem dX3_storeX_105 : decode cX3_storeX 105 = .ok (.getfield 26, 3) := by decide +kernel
theorem dX3_storeX_108 : decode cX3_storeX 108 = .ok (.lload_n 2, 1) := by decide +kernel
theorem dX3_storeX_109 : decode cX3_storeX 109 = .ok (.iload 4, 2) := by decide +kernel
theorem dX3_storeX_111 : decode cX3_storeX 111 = .ok (.invokestatic 266, 3) := by decide +kernel
theorem dX3_storeX_114 : decode cX3_storeX 114 = .ok (.lload 5, 2) := by decide +kernel
theorem dX3_storeX_116 : decode cX3_storeX 116 = .ok (.invokevirtual 50, 3) := by decide +kernel
theorem dX3_storeX_119 : decode cX3_storeX 119 = .ok (.return_, 1) := by decide +kernel
set_option maxRecDepth 20000 in
theorem ggX3_bytewise_X2_differences : GoodIn wsX3_bytewise wsX2_differences := goodIn_r _ [5, 6, 7, 8, 4, 9, 10] (by decide +kernel) (by decide +kernel)
set_option maxRecDepth 20000 in
theorem gX3_bytewise_X2_differences_n275 : GoodIn wsX3_bytewise (wsX2_differences) := ggX3_bytewise_X2_differences
set_option maxRecDepth 20000 in
theorem ggX3_bytewise_J13_bitCount_95d88 : GoodIn wsX3_bytewise wsJ13_bitCount_95d88 := goodIn_r _ [14, 15, 16, 17] (by decide +kernel) (by decide +kernel)
set_option maxRecDepth 20000 in
theorem gX3_bytewise_J13_bitCount_95d88 : GoodIn wsX3_bytewise (va_wsS RX3 279 yJ13_bitCount_95d88 wsJ13_bitCount_95d88) := goodIn_app (goodIn_of _ (by decide +kernel)) ggX3_bytewise_J13_bitCount_95d88
set_option maxRecDepth 20000 in
theorem ggX3_bytewise_X2_matrixProduct : GoodIn wsX3_bytewise wsX2_matrixProduct := goodIn_r _ [19, 20, 21] (by decide +kernel) (by decide +kernel)
set_option maxRecDepth 20000 in
theorem gX3_bytewise_X2_matrixProduct_n285 : GoodIn wsX3_bytewise (wsX2_matrixProduct) := ggX3_bytewise_X2_matrixProduct
theorem dX3_bytewise_0 : decode cX3_bytewise 0 = .ok (.iload_n 1, 1) := by decide +kernel
theorem dX3_bytewise_1 : decode cX3_bytewise 1 = .ok (.sipush 254, 3) := by decide +kernel
theorem dX3_bytewise_4 : decode cX3_bytewise 4 = .ok (.iand, 1) := by decide +kernel
theorem dX3_bytewise_5 : decode cX3_bytewise 5 = .ok (.tableswitch 147 208 220 #[67, 147, 76, 147, 85, 147, 94, 147, 103, 147, 126, 147, 139], 67) := by decide +kernel
theorem dX3_bytewise_72 : decode cX3_bytewise 72 = .ok (.lload_n 2, 1) := by decide +kernel
theorem dX3_bytewise_73 : decode cX3_bytewise 73 = .ok (.lload 4, 2) := by decide +kernel
theorem dX3_bytewise_75 : decode cX3_bytewise 75 = .ok (.bipush 8, 2) := by decide +kernel
theorem dX3_bytewise_77 : decode cX3_bytewise 77 = .ok (.invokestatic 275, 3) := by decide +kernel
theorem dX3_bytewise_80 : decode cX3_bytewise 80 = .ok (.lreturn, 1) := by decide +kernel
theorem dX3_bytewise_81 : decode cX3_bytewise 81 = .ok (.lload_n 2, 1) := by decide +kernel
theorem dX3_bytewise_82 : decode cX3_bytewise 82 = .ok (.lload 4, 2) := by decide +kernel
theorem dX3_bytewise_84 : decode cX3_bytewise 84 = .ok (.bipush 16, 2) := by decide +kernel
theorem dX3_bytewise_86 : decode cX3_bytewise 86 = .ok (.invokestatic 275, 3) := by decide +kernel
theorem dX3_bytewise_89 : decode cX3_bytewise 89 = .ok (.lreturn, 1) := by decide +kernel
theorem dX3_bytewise_90 : decode cX3_bytewise 90 = .ok (.lload_n 2, 1) := by decide +kernel
theorem dX3_bytewise_91 : decode cX3_bytewise 91 = .ok (.lload 4, 2) := by decide +kernel
theorem dX3_bytewise_93 : decode cX3_bytewise 93 = .ok (.bipush 32, 2) := by decide +kernel
theorem dX3_bytewise_95 : decode cX3_bytewise 95 = .ok (.invokestatic 275, 3) := by decide +kernel
theorem dX3_bytewise_98 : decode cX3_bytewise 98 = .ok (.lreturn, 1) := by decide +kernel
theorem dX3_bytewise_99 : decode cX3_bytewise 99 = .ok (.lload_n 2, 1) := by decide +kernel
theorem dX3_bytewise_100 : decode cX3_bytewise 100 = .ok (.lload 4, 2) := by decide +kernel
theorem dX3_bytewise_102 : decode cX3_bytewise 102 = .ok (.bipush 64, 2) := by decide +kernel
theorem dX3_bytewise_104 : decode cX3_bytewise 104 = .ok (.invokestatic 275, 3) := by decide +kernel
theorem dX3_bytewise_107 : decode cX3_bytewise 107 = .ok (.lreturn, 1) := by decide +kernel
theorem dX3_bytewise_108 : decode cX3_bytewise 108 = .ok (.lload_n 2, 1) := by decide +kernel
theorem dX3_bytewise_109 : decode cX3_bytewise 109 = .ok (.aload_n 0, 1) := by decide +kernel
theorem dX3_bytewise_110 : decode cX3_bytewise 110 = .ok (.getfield 13, 3) := by decide +kernel
theorem dX3_bytewise_113 : decode cX3_bytewise 113 = .ok (.iconst 5, 1) := by decide +kernel
theorem dX3_bytewise_114 : decode cX3_bytewise 114 = .ok (.laload, 1) := by decide +kernel
theorem dX3_bytewise_115 : decode cX3_bytewise 115 = .ok (.land, 1) := by decide +kernel
theorem dX3_bytewise_116 : decode cX3_bytewise 116 = .ok (.lload 4, 2) := by decide +kernel
theorem dX3_bytewise_118 : decode cX3_bytewise 118 = .ok (.aload_n 0, 1) := by decide +kernel
theorem dX3_bytewise_119 : decode cX3_bytewise 119 = .ok (.getfield 13, 3) := by decide +kernel
theorem dX3_bytewise_122 : decode cX3_bytewise 122 = .ok (.iconst 5, 1) := by decide +kernel
theorem dX3_bytewise_123 : decode cX3_bytewise 123 = .ok (.laload, 1) := by decide +kernel
theorem dX3_bytewise_124 : decode cX3_bytewise 124 = .ok (.ldc2_w 104, 3) := by decide +kernel
theorem dX3_bytewise_127 : decode cX3_bytewise 127 = .ok (.lxor, 1) := by decide +kernel
theorem dX3_bytewise_128 : decode cX3_bytewise 128 = .ok (.land, 1) := by decide +kernel
theorem dX3_bytewise_129 : decode cX3_bytewise 129 = .ok (.lor, 1) := by decide +kernel
theorem dX3_bytewise_130 : decode cX3_bytewise 130 = .ok (.lreturn, 1) := by decide +kernel
theorem dX3_bytewise_131 : decode cX3_bytewise 131 = .ok (.lload_n 2, 1) := by decide +kernel
theorem dX3_bytewise_132 : decode cX3_bytewise 132 = .ok (.lload 4, 2) := by decide +kernel
theorem dX3_bytewise_134 : decode cX3_bytewise 134 = .ok (.ldc2_w 104, 3) := by decide +kernel
theorem dX3_bytewise_137 : decode cX3_bytewise 137 = .ok (.lxor, 1) := by decide +kernel
theorem dX3_bytewise_138 : decode cX3_bytewise 138 = .ok (.land, 1) := by decide +kernel
theorem dX3_bytewise_139 : decode cX3_bytewise 139 = .ok (.invokestatic 279, 3) := by decide +kernel
theorem dX3_bytewise_142 : decode cX3_bytewise 142 = .ok (.i2l, 1) := by decide +kernel
theorem dX3_bytewise_143 : decode cX3_bytewise 143 = .ok (.lreturn, 1) := by decide +kernel
theorem dX3_bytewise_144 : decode cX3_bytewise 144 = .ok (.lload_n 2, 1) := by decide +kernel
theorem dX3_bytewise_145 : decode cX3_bytewise 145 = .ok (.lload 4, 2) := by decide +kernel
theorem dX3_bytewise_147 : decode cX3_bytewise 147 = .ok (.iconst 0, 1) := by decide +kernel
theorem dX3_bytewise_148 : decode cX3_bytewise 148 = .ok (.invokestatic 285, 3) := by decide +kernel
theorem dX3_bytewise_151 : decode cX3_bytewise 151 = .ok (.lreturn, 1) := by decide +kernel
theorem dX3_bytewise_152 : decode cX3_bytewise 152 = .ok (.lload_n 2, 1) := by decide +kernel
theorem dX3_bytewise_153 : decode cX3_bytewise 153 = .ok (.lload 4, 2) := by decide +kernel
theorem dX3_bytewise_155 : decode cX3_bytewise 155 = .ok (.iconst 1, 1) := by decide +kernel
theorem dX3_bytewise_156 : decode cX3_bytewise 156 = .ok (.invokestatic 285, 3) := by decide +kernel
theorem dX3_bytewise_159 : decode cX3_bytewise 159 = .ok (.lreturn, 1) := by decide +kernel
set_option maxRecDepth 20000 in
theorem ggX3_withWyde_X3_opOf : GoodIn wsX3_withWyde wsX3_opOf := goodIn_r _ [6] (by decide +kernel) (by decide +kernel)
set_option maxRecDepth 20000 in
theorem gX3_withWyde_X3_opOf : GoodIn wsX3_withWyde (va_wsS RX3 124 yX3_opOf wsX3_opOf) := goodIn_app (goodIn_of _ (by decide +kernel)) ggX3_withWyde_X3_opOf
set_option maxRecDepth 20000 in
theorem ggX3_withWyde_X3_byteX : GoodIn wsX3_withWyde wsX3_byteX := goodIn_r _ [9] (by decide +kernel) (by decide +kernel)
set_option maxRecDepth 20000 in
theorem gX3_withWyde_X3_byteX : GoodIn wsX3_withWyde (va_wsS RX3 143 yX3_byteX wsX3_byteX) := goodIn_app (goodIn_of _ (by decide +kernel)) ggX3_withWyde_X3_byteX
set_option maxRecDepth 20000 in
theorem ggX3_withWyde_X3_wydeYZ : GoodIn wsX3_withWyde wsX3_wydeYZ := goodIn_r _ [12, 13] (by decide +kernel) (by decide +kernel)
set_option maxRecDepth 20000 in
theorem gX3_withWyde_X3_wydeYZ : GoodIn wsX3_withWyde (va_wsS RX3 260 yX3_wydeYZ wsX3_wydeYZ) := goodIn_app (goodIn_of _ (by decide +kernel)) ggX3_withWyde_X3_wydeYZ
theorem dX3_withWyde_0 : decode cX3_withWyde 0 = .ok (.iload_n 1, 1) := by decide +kernel
theorem dX3_withWyde_1 : decode cX3_withWyde 1 = .ok (.invokestatic 124, 3) := by decide +kernel
theorem dX3_withWyde_4 : decode cX3_withWyde 4 = .ok (.istore_n 2, 1) := by decide +kernel
theorem dX3_withWyde_5 : decode cX3_withWyde 5 = .ok (.aload_n 0, 1) := by decide +kernel
theorem dX3_withWyde_6 : decode cX3_withWyde 6 = .ok (.getfield 9, 3) := by decide +kernel
theorem dX3_withWyde_9 : decode cX3_withWyde 9 = .ok (.iload_n 1, 1) := by decide +kernel
theorem dX3_withWyde_10 : decode cX3_withWyde 10 = .ok (.invokestatic 143, 3) := by decide +kernel
theorem dX3_withWyde_13 : decode cX3_withWyde 13 = .ok (.laload, 1) := by decide +kernel
theorem dX3_withWyde_14 : decode cX3_withWyde 14 = .ok (.lstore_n 3, 1) := by decide +kernel
theorem dX3_withWyde_15 : decode cX3_withWyde 15 = .ok (.iload_n 1, 1) := by decide +kernel
theorem dX3_withWyde_16 : decode cX3_withWyde 16 = .ok (.invokestatic 260, 3) := by decide +kernel
theorem dX3_withWyde_19 : decode cX3_withWyde 19 = .ok (.i2l, 1) := by decide +kernel
theorem dX3_withWyde_20 : decode cX3_withWyde 20 = .ok (.bipush 48, 2) := by decide +kernel
theorem dX3_withWyde_22 : decode cX3_withWyde 22 = .ok (.bipush 16, 2) := by decide +kernel
theorem dX3_withWyde_24 : decode cX3_withWyde 24 = .ok (.iload_n 2, 1) := by decide +kernel
theorem dX3_withWyde_25 : decode cX3_withWyde 25 = .ok (.iconst 3, 1) := by decide +kernel
theorem dX3_withWyde_26 : decode cX3_withWyde 26 = .ok (.iand, 1) := by decide +kernel
theorem dX3_withWyde_27 : decode cX3_withWyde 27 = .ok (.imul, 1) := by decide +kernel
theorem dX3_withWyde_28 : decode cX3_withWyde 28 = .ok (.isub, 1) := by decide +kernel
theorem dX3_withWyde_29 : decode cX3_withWyde 29 = .ok (.lshl, 1) := by decide +kernel
theorem dX3_withWyde_30 : decode cX3_withWyde 30 = .ok (.lstore 5, 2) := by decide +kernel
theorem dX3_withWyde_32 : decode cX3_withWyde 32 = .ok (.iload_n 2, 1) := by decide +kernel
theorem dX3_withWyde_33 : decode cX3_withWyde 33 = .ok (.iconst 2, 1) := by decide +kernel
theorem dX3_withWyde_34 : decode cX3_withWyde 34 = .ok (.ishr, 1) := by decide +kernel
theorem dX3_withWyde_35 : decode cX3_withWyde 35 = .ok (.iconst 3, 1) := by decide +kernel
theorem dX3_withWyde_36 : decode cX3_withWyde 36 = .ok (.iand, 1) := by decide +kernel
theorem dX3_withWyde_37 : decode cX3_withWyde 37 = .ok (.tableswitch 40 0 2 #[27, 30, 35], 27) := by decide +kernel
theorem dX3_withWyde_64 : decode cX3_withWyde 64 = .ok (.lload 5, 2) := by decide +kernel
theorem dX3_withWyde_66 : decode cX3_withWyde 66 = .ok (.lreturn, 1) := by decide +kernel
theorem dX3_withWyde_67 : decode cX3_withWyde 67 = .ok (.lload_n 3, 1) := by decide +kernel
theorem dX3_withWyde_68 : decode cX3_withWyde 68 = .ok (.lload 5, 2) := by decide +kernel
theorem dX3_withWyde_70 : decode cX3_withWyde 70 = .ok (.ladd, 1) := by decide +kernel
theorem dX3_withWyde_71 : decode cX3_withWyde 71 = .ok (.lreturn, 1) := by decide +kernel
theorem dX3_withWyde_72 : decode cX3_withWyde 72 = .ok (.lload_n 3, 1) := by decide +kernel
theorem dX3_withWyde_73 : decode cX3_withWyde 73 = .ok (.lload 5, 2) := by decide +kernel
theorem dX3_withWyde_75 : decode cX3_withWyde 75 = .ok (.lor, 1) := by decide +kernel
theorem dX3_withWyde_76 : decode cX3_withWyde 76 = .ok (.lreturn, 1) := by decide +kernel
theorem dX3_withWyde_77 : decode cX3_withWyde 77 = .ok (.lload_n 3, 1) := by decide +kernel
theorem dX3_withWyde_78 : decode cX3_withWyde 78 = .ok (.lload 5, 2) := by decide +kernel
theorem dX3_withWyde_80 : decode cX3_withWyde 80 = .ok (.ldc2_w 104, 3) := by decide +kernel
theorem dX3_withWyde_83 : decode cX3_withWyde 83 = .ok (.lxor, 1) := by decide +kernel
theorem dX3_withWyde_84 : decode cX3_withWyde 84 = .ok (.land, 1) := by decide +kernel
theorem dX3_withWyde_85 : decode cX3_withWyde 85 = .ok (.lreturn, 1) := by decide +kernel
set_option maxRecDepth 20000 in
theorem ggX3_performRest_X3_opOf : GoodIn wsX3_performRest wsX3_opOf := goodIn_r _ [9] (by decide +kernel) (by decide +kernel)
set_option maxRecDepth 20000 in
theorem gX3_performRest_X3_opOf : GoodIn wsX3_performRest (va_wsS RX3 124 yX3_opOf wsX3_opOf) := goodIn_app (goodIn_of _ (by decide +kernel)) ggX3_performRest_X3_opOf
set_option maxRecDepth 20000 in
theorem ggX3_performRest_X3_relative : GoodIn wsX3_performRest wsX3_relative := goodIn_r _ [12, 2, 13, 6, 7, 8, 9, 14, 15, 16, 17] (by decide +kernel) (by decide +kernel)
set_option maxRecDepth 20000 in
theorem gX3_performRest_X3_relative : GoodIn wsX3_performRest (va_wsS RX3 256 yX3_relative wsX3_relative) := goodIn_app (goodIn_of _ (by decide +kernel)) ggX3_performRest_X3_relative
set_option maxRecDepth 20000 in
theorem ggX3_performRest_X3_writeX : GoodIn wsX3_performRest wsX3_writeX := goodIn_r _ [21, 22, 23, 24, 25, 26, 8, 27, 31, 32, 33, 34, 35, 36, 37, 38, 39, 40, 41, 42] (by decide +kernel) (by decide +kernel)
set_option maxRecDepth 20000 in
theorem gX3_performRest_X3_writeX : GoodIn wsX3_performRest (wsV RX3 162 RX3 yX3_writeX wsX3_writeX) := goodIn_app (goodIn_of _ (by decide +kernel)) ggX3_performRest_X3_writeX
set_option maxRecDepth 20000 in
theorem ggX3_performRest_X3_byteX : GoodIn wsX3_performRest wsX3_byteX := goodIn_r _ [27] (by decide +kernel) (by decide +kernel)
set_option maxRecDepth 20000 in
theorem gX3_performRest_X3_byteX : GoodIn wsX3_performRest (va_wsS RX3 143 yX3_byteX wsX3_byteX) := goodIn_app (goodIn_of _ (by decide +kernel)) ggX3_performRest_X3_byteX
set_option maxRecDepth 20000 in
theorem ggX3_performRest_X3_byteZ : GoodIn wsX3_performRest wsX3_byteZ := goodIn_r _ [30] (by decide +kernel) (by decide +kernel)
set_option maxRecDepth 20000 in
theorem gX3_performRest_X3_byteZ : GoodIn wsX3_performRest (va_wsS RX3 140 yX3_byteZ wsX3_byteZ) := goodIn_app (goodIn_of _ (by decide +kernel)) ggX3_performRest_X3_byteZ
theorem dX3_performRest_0 : decode cX3_performRest 0 = .ok (.iload_n 1, 1) := by decide +kernel
theorem dX3_performRest_1 : decode cX3_performRest 1 = .ok (.ldc_w 289, 3) := by decide +kernel
theorem dX3_performRest_4 : decode cX3_performRest 4 = .ok (.iand, 1) := by decide +kernel
theorem dX3_performRest_5 : decode cX3_performRest 5 = .ok (.istore 6, 2) := by decide +kernel
theorem dX3_performRest_7 : decode cX3_performRest 7 = .ok (.iload_n 1, 1) := by decide +kernel
theorem dX3_performRest_8 : decode cX3_performRest 8 = .ok (.invokestatic 124, 3) := by decide +kernel
theorem dX3_performRest_11 : decode cX3_performRest 11 = .ok (.tableswitch 161 240 254 #[73, 90, 161, 161, 111, 111, 125, 125, 161, 161, 161, 161, 161, 161, 141], 73) := by decide +kernel
theorem dX3_performRest_84 : decode cX3_performRest 84 = .ok (.aload_n 0, 1) := by decide +kernel
theorem dX3_performRest_85 : decode cX3_performRest 85 = .ok (.lload 4, 2) := by decide +kernel
theorem dX3_performRest_87 : decode cX3_performRest 87 = .ok (.ldc2_w 152, 3) := by decide +kernel
theorem dX3_performRest_90 : decode cX3_performRest 90 = .ok (.iload 6, 2) := by decide +kernel
theorem dX3_performRest_92 : decode cX3_performRest 92 = .ok (.i2l, 1) := by decide +kernel
theorem dX3_performRest_93 : decode cX3_performRest 93 = .ok (.lmul, 1) := by decide +kernel
theorem dX3_performRest_94 : decode cX3_performRest 94 = .ok (.ladd, 1) := by decide +kernel
theorem dX3_performRest_95 : decode cX3_performRest 95 = .ok (.putfield 73, 3) := by decide +kernel
theorem dX3_performRest_98 : decode cX3_performRest 98 = .ok (.goto 74, 3) := by decide +kernel
theorem dX3_performRest_101 : decode cX3_performRest 101 = .ok (.aload_n 0, 1) := by decide +kernel
theorem dX3_performRest_102 : decode cX3_performRest 102 = .ok (.lload 4, 2) := by decide +kernel
theorem dX3_performRest_104 : decode cX3_performRest 104 = .ok (.ldc2_w 152, 3) := by decide +kernel
theorem dX3_performRest_107 : decode cX3_performRest 107 = .ok (.iload 6, 2) := by decide +kernel
theorem dX3_performRest_109 : decode cX3_performRest 109 = .ok (.ldc_w 290, 3) := by decide +kernel
theorem dX3_performRest_112 : decode cX3_performRest 112 = .ok (.isub, 1) := by decide +kernel
theorem dX3_performRest_113 : decode cX3_performRest 113 = .ok (.i2l, 1) := by decide +kernel
theorem dX3_performRest_114 : decode cX3_performRest 114 = .ok (.lmul, 1) := by decide +kernel
theorem dX3_performRest_115 : decode cX3_performRest 115 = .ok (.ladd, 1) := by decide +kernel
theorem dX3_performRest_116 : decode cX3_performRest 116 = .ok (.putfield 73, 3) := by decide +kernel
theorem dX3_performRest_119 : decode cX3_performRest 119 = .ok (.goto 53, 3) := by decide +kernel
theorem dX3_performRest_122 : decode cX3_performRest 122 = .ok (.aload_n 0, 1) := by decide +kernel
theorem dX3_performRest_123 : decode cX3_performRest 123 = .ok (.iload_n 1, 1) := by decide +kernel
theorem dX3_performRest_124 : decode cX3_performRest 124 = .ok (.iload_n 1, 1) := by decide +kernel
theorem dX3_performRest_125 : decode cX3_performRest 125 = .ok (.lload 4, 2) := by decide +kernel
theorem dX3_performRest_127 : decode cX3_performRest 127 = .ok (.invokestatic 256, 3) := by decide +kernel
theorem dX3_performRest_130 : decode cX3_performRest 130 = .ok (.invokevirtual 162, 3) := by decide +kernel
theorem dX3_performRest_133 : decode cX3_performRest 133 = .ok (.goto 39, 3) := by decide +kernel
theorem dX3_performRest_136 : decode cX3_performRest 136 = .ok (.aload_n 0, 1) := by decide +kernel
theorem dX3_performRest_137 : decode cX3_performRest 137 = .ok (.getfield 13, 3) := by decide +kernel
theorem dX3_performRest_140 : decode cX3_performRest 140 = .ok (.iload_n 1, 1) := by decide +kernel
theorem dX3_performRest_141 : decode cX3_performRest 141 = .ok (.invokestatic 143, 3) := by decide +kernel
theorem dX3_performRest_144 : decode cX3_performRest 144 = .ok (.bipush 7, 2) := by decide +kernel
theorem dX3_performRest_146 : decode cX3_performRest 146 = .ok (.iand, 1) := by decide +kernel
theorem dX3_performRest_147 : decode cX3_performRest 147 = .ok (.lload_n 2, 1) := by decide +kernel
theorem dX3_performRest_148 : decode cX3_performRest 148 = .ok (.lastore, 1) := by decide +kernel
theorem dX3_performRest_149 : decode cX3_performRest 149 = .ok (.goto 23, 3) := by decide +kernel
theorem dX3_performRest_152 : decode cX3_performRest 152 = .ok (.aload_n 0, 1) := by decide +kernel
theorem dX3_performRest_153 : decode cX3_performRest 153 = .ok (.iload_n 1, 1) := by decide +kernel
theorem dX3_performRest_154 : decode cX3_performRest 154 = .ok (.aload_n 0, 1) := by decide +kernel
theorem dX3_performRest_155 : decode cX3_performRest 155 = .ok (.getfield 13, 3) := by decide +kernel
theorem dX3_performRest_158 : decode cX3_performRest 158 = .ok (.iload_n 1, 1) := by decide +kernel
theorem dX3_performRest_159 : decode cX3_performRest 159 = .ok (.invokestatic 140, 3) := by decide +kernel
theorem dX3_performRest_162 : decode cX3_performRest 162 = .ok (.bipush 7, 2) := by decide +kernel
theorem dX3_performRest_164 : decode cX3_performRest 164 = .ok (.iand, 1) := by decide +kernel
theorem dX3_performRest_165 : decode cX3_performRest 165 = .ok (.laload, 1) := by decide +kernel
theorem dX3_performRest_166 : decode cX3_performRest 166 = .ok (.invokevirtual 162, 3) := by decide +kernel
theorem dX3_performRest_169 : decode cX3_performRest 169 = .ok (.goto 3, 3) := by decide +kernel
theorem dX3_performRest_172 : decode cX3_performRest 172 = .ok (.return_, 1) := by decide +kernel
set_option maxRecDepth 20000 in
theorem ggX4_init_X4_numbers : GoodIn wsX4_init wsX4_numbers := goodIn_r _ [18, 19, 20, 21, 22, 23, 24, 25, 26, 27, 28, 29, 30, 17, 31, 32, 33, 34, 35, 12, 36, 13, 137, 138, 139, 140, 141, 142, 143, 144, 145, 146, 147, 148, 149, 150, 151, 152, 153] (by decide +kernel) (by decide +kernel)
set_option maxRecDepth 20000 in
theorem gX4_init_X4_numbers : GoodIn wsX4_init (wsV RX4 33 RX4 yX4_numbers wsX4_numbers) := goodIn_app (goodIn_of _ (by decide +kernel)) ggX4_init_X4_numbers
set_option maxRecDepth 20000 in
theorem ggX4_init_X4_conditions : GoodIn wsX4_init wsX4_conditions := goodIn_r _ [40, 41, 42, 43, 44, 45, 46, 47, 48, 49, 50, 51, 52, 53, 54, 55, 56, 57, 58, 59, 60, 61, 62, 63, 64, 65, 66, 67, 68, 69, 70, 71, 72, 73, 28, 29, 30, 17, 31, 32, 33, 34, 35, 12, 36, 13, 137, 138, 139, 140, 141, 142, 143, 144, 145, 146, 147, 148, 149, 150, 151, 152, 153] (by decide +kernel) (by decide +kernel)
set_option maxRecDepth 20000 in
theorem gX4_init_X4_conditions : GoodIn wsX4_init (wsV RX4 36 RX4 yX4_conditions wsX4_conditions) := goodIn_app (goodIn_of _ (by decide +kernel)) ggX4_init_X4_conditions
set_option maxRecDepth 20000 in
theorem ggX4_init_X4_accesses : GoodIn wsX4_init wsX4_accesses := goodIn_r _ [77, 78, 79, 80, 81, 82, 83, 84, 85, 86, 87, 88, 89, 28, 29, 30, 17, 31, 32, 33, 34, 35, 12, 36, 13, 137, 138, 139, 140, 141, 142, 143, 144, 145, 146, 147, 148, 149, 150, 151, 152, 153] (by decide +kernel) (by decide +kernel)
set_option maxRecDepth 20000 in
theorem gX4_init_X4_accesses : GoodIn wsX4_init (wsV RX4 39 RX4 yX4_accesses wsX4_accesses) := goodIn_app (goodIn_of _ (by decide +kernel)) ggX4_init_X4_accesses
set_option maxRecDepth 20000 in
theorem ggX4_init_X4_bitNames : GoodIn wsX4_init wsX4_bitNames := goodIn_r _ [93, 94, 95, 96, 97, 98, 99, 100, 101, 28, 29, 30, 17, 31, 32, 33, 34, 35, 12, 36, 13, 137, 138, 139, 140, 141, 142, 143, 144, 145, 146, 147, 148, 149, 150, 151, 152, 153] (by decide +kernel) (by decide +kernel)
set_option maxRecDepth 20000 in
theorem gX4_init_X4_bitNames : GoodIn wsX4_init (wsV RX4 42 RX4 yX4_bitNames wsX4_bitNames) := goodIn_app (goodIn_of _ (by decide +kernel)) ggX4_init_X4_bitNames
set_option maxRecDepth 20000 in
theorem ggX4_init_X4_others : GoodIn wsX4_init wsX4_others := goodIn_r _ [105, 106, 107, 108, 109, 110, 111, 112, 113, 114, 115, 116, 117, 118, 119, 120, 121, 122, 123, 124, 125, 126, 127, 128, 129, 130, 131, 132, 133, 134, 135, 136, 32, 33, 34, 17, 35, 12, 36, 13, 28, 29, 30, 31, 137, 138, 139, 140, 141, 142, 143, 144, 145, 146, 147, 148, 149, 150, 151, 152, 153] (by decide +kernel) (by decide +kernel)
set_option maxRecDepth 20000 in
theorem gX4_init_X4_others : GoodIn wsX4_init (wsV RX4 45 RX4 yX4_others wsX4_others) := goodIn_app (goodIn_of _ (by decide +kernel)) ggX4_init_X4_others
theorem dX4_init_0 : decode cX4_init 0 = .ok (.aload_n 0, 1) := by decide +kernel
theorem dX4_init_1 : decode cX4_init 1 = .ok (.invokespecial 1, 3) := by decide +kernel
theorem dX4_init_4 : decode cX4_init 4 = .ok (.aload_n 0, 1) := by decide +kernel
theorem dX4_init_5 : decode cX4_init 5 = .ok (.sipush 256, 3) := by decide +kernel
theorem dX4_init_8 : decode cX4_init 8 = .ok (.newarray .long, 2) := by decide +kernel
theorem dX4_init_10 : decode cX4_init 10 = .ok (.putfield 7, 3) := by decide +kernel
theorem dX4_init_13 : decode cX4_init 13 = .ok (.aload_n 0, 1) := by decide +kernel
theorem dX4_init_14 : decode cX4_init 14 = .ok (.bipush 8, 2) := by decide +kernel
theorem dX4_init_16 : decode cX4_init 16 = .ok (.newarray .long, 2) := by decide +kernel
theorem dX4_init_18 : decode cX4_init 18 = .ok (.putfield 13, 3) := by decide +kernel
theorem dX4_init_21 : decode cX4_init 21 = .ok (.aload_n 0, 1) := by decide +kernel
theorem dX4_init_22 : decode cX4_init 22 = .ok (.sipush 256, 3) := by decide +kernel
theorem dX4_init_25 : decode cX4_init 25 = .ok (.newarray .long, 2) := by decide +kernel
theorem dX4_init_27 : decode cX4_init 27 = .ok (.putfield 16, 3) := by decide +kernel
theorem dX4_init_30 : decode cX4_init 30 = .ok (.aload_n 0, 1) := by decide +kernel
theorem dX4_init_31 : decode cX4_init 31 = .ok (.sipush 16384, 3) := by decide +kernel
theorem dX4_init_34 : decode cX4_init 34 = .ok (.newarray .byte, 2) := by decide +kernel
theorem dX4_init_36 : decode cX4_init 36 = .ok (.putfield 19, 3) := by decide +kernel
theorem dX4_init_39 : decode cX4_init 39 = .ok (.aload_n 0, 1) := by decide +kernel
theorem dX4_init_40 : decode cX4_init 40 = .ok (.sipush 500, 3) := by decide +kernel
theorem dX4_init_43 : decode cX4_init 43 = .ok (.newarray .byte, 2) := by decide +kernel
theorem dX4_init_45 : decode cX4_init 45 = .ok (.putfield 23, 3) := by decide +kernel
theorem dX4_init_48 : decode cX4_init 48 = .ok (.aload_n 0, 1) := by decide +kernel
theorem dX4_init_49 : decode cX4_init 49 = .ok (.sipush 400, 3) := by decide +kernel
theorem dX4_init_52 : decode cX4_init 52 = .ok (.newarray .int, 2) := by decide +kernel
theorem dX4_init_54 : decode cX4_init 54 = .ok (.putfield 26, 3) := by decide +kernel
theorem dX4_init_57 : decode cX4_init 57 = .ok (.aload_n 0, 1) := by decide +kernel
theorem dX4_init_58 : decode cX4_init 58 = .ok (.sipush 400, 3) := by decide +kernel
theorem dX4_init_61 : decode cX4_init 61 = .ok (.newarray .int, 2) := by decide +kernel
theorem dX4_init_63 : decode cX4_init 63 = .ok (.putfield 30, 3) := by decide +kernel
theorem dX4_init_66 : decode cX4_init 66 = .ok (.aload_n 0, 1) := by decide +kernel
theorem dX4_init_67 : decode cX4_init 67 = .ok (.invokevirtual 33, 3) := by decide +kernel
theorem dX4_init_70 : decode cX4_init 70 = .ok (.aload_n 0, 1) := by decide +kernel
theorem dX4_init_71 : decode cX4_init 71 = .ok (.invokevirtual 36, 3) := by decide +kernel
theorem dX4_init_74 : decode cX4_init 74 = .ok (.aload_n 0, 1) := by decide +kernel
theorem dX4_init_75 : decode cX4_init 75 = .ok (.invokevirtual 39, 3) := by decide +kernel
theorem dX4_init_78 : decode cX4_init 78 = .ok (.aload_n 0, 1) := by decide +kernel
theorem dX4_init_79 : decode cX4_init 79 = .ok (.invokevirtual 42, 3) := by decide +kernel
theorem dX4_init_82 : decode cX4_init 82 = .ok (.aload_n 0, 1) := by decide +kernel
theorem dX4_init_83 : decode cX4_init 83 = .ok (.invokevirtual 45, 3) := by decide +kernel
theorem dX4_init_86 : decode cX4_init 86 = .ok (.return_, 1) := by decide +kernel
set_option maxRecDepth 20000 in
theorem ggX4_numbers_X4_pair : GoodIn wsX4_numbers wsX4_pair := goodIn_r _ [14, 15, 16, 17, 13, 18, 19, 20, 21, 22, 23, 24, 25, 26, 27, 28, 29, 30, 31, 32, 33, 34, 35, 36, 37, 38] (by decide +kernel) (by decide +kernel)
set_option maxRecDepth 20000 in
theorem gX4_numbers_X4_pair : GoodIn wsX4_numbers (wsV RX4 48 RX4 yX4_pair wsX4_pair) := goodIn_app (goodIn_of _ (by decide +kernel)) ggX4_numbers_X4_pair
theorem dX4_numbers_0 : decode cX4_numbers 0 = .ok (.aload_n 0, 1) := by decide +kernel
theorem dX4_numbers_1 : decode cX4_numbers 1 = .ok (.sipush 10056, 3) := by decide +kernel
theorem dX4_numbers_4 : decode cX4_numbers 4 = .ok (.bipush 24, 2) := by decide +kernel
theorem dX4_numbers_6 : decode cX4_numbers 6 = .ok (.bipush 9, 2) := by decide +kernel
theorem dX4_numbers_8 : decode cX4_numbers 8 = .ok (.invokevirtual 48, 3) := by decide +kernel
theorem dX4_numbers_11 : decode cX4_numbers 11 = .ok (.aload_n 0, 1) := by decide +kernel
theorem dX4_numbers_12 : decode cX4_numbers 12 = .ok (.ldc 52, 2) := by decide +kernel
theorem dX4_numbers_14 : decode cX4_numbers 14 = .ok (.bipush 26, 2) := by decide +kernel
theorem dX4_numbers_16 : decode cX4_numbers 16 = .ok (.bipush 9, 2) := by decide +kernel
theorem dX4_numbers_18 : decode cX4_numbers 18 = .ok (.invokevirtual 48, 3) := by decide +kernel
theorem dX4_numbers_21 : decode cX4_numbers 21 = .ok (.aload_n 0, 1) := by decide +kernel
theorem dX4_numbers_22 : decode cX4_numbers 22 = .ok (.sipush 3181, 3) := by decide +kernel
theorem dX4_numbers_25 : decode cX4_numbers 25 = .ok (.bipush 28, 2) := by decide +kernel
theorem dX4_numbers_27 : decode cX4_numbers 27 = .ok (.bipush 9, 2) := by decide +kernel
theorem dX4_numbers_29 : decode cX4_numbers 29 = .ok (.invokevirtual 48, 3) := by decide +kernel
theorem dX4_numbers_32 : decode cX4_numbers 32 = .ok (.aload_n 0, 1) := by decide +kernel
theorem dX4_numbers_33 : decode cX4_numbers 33 = .ok (.ldc 53, 2) := by decide +kernel
theorem dX4_numbers_35 : decode cX4_numbers 35 = .ok (.bipush 30, 2) := by decide +kernel
theorem dX4_numbers_37 : decode cX4_numbers 37 = .ok (.bipush 9, 2) := by decide +kernel
theorem dX4_numbers_39 : decode cX4_numbers 39 = .ok (.invokevirtual 48, 3) := by decide +kernel
theorem dX4_numbers_42 : decode cX4_numbers 42 = .ok (.aload_n 0, 1) := by decide +kernel
theorem dX4_numbers_43 : decode cX4_numbers 43 = .ok (.sipush 841, 3) := by decide +kernel
theorem dX4_numbers_46 : decode cX4_numbers 46 = .ok (.bipush 32, 2) := by decide +kernel
theorem dX4_numbers_48 : decode cX4_numbers 48 = .ok (.bipush 9, 2) := by decide +kernel
theorem dX4_numbers_50 : decode cX4_numbers 50 = .ok (.invokevirtual 48, 3) := by decide +kernel
theorem dX4_numbers_53 : decode cX4_numbers 53 = .ok (.aload_n 0, 1) := by decide +kernel
theorem dX4_numbers_54 : decode cX4_numbers 54 = .ok (.sipush 22728, 3) := by decide +kernel
theorem dX4_numbers_57 : decode cX4_numbers 57 = .ok (.bipush 34, 2) := by decide +kernel
theorem dX4_numbers_59 : decode cX4_numbers 59 = .ok (.bipush 9, 2) := by decide +kernel
theorem dX4_numbers_61 : decode cX4_numbers 61 = .ok (.invokevirtual 48, 3) := by decide +kernel
theorem dX4_numbers_64 : decode cX4_numbers 64 = .ok (.aload_n 0, 1) := by decide +kernel
theorem dX4_numbers_65 : decode cX4_numbers 65 = .ok (.sipush 14420, 3) := by decide +kernel
theorem dX4_numbers_68 : decode cX4_numbers 68 = .ok (.bipush 36, 2) := by decide +kernel
theorem dX4_numbers_70 : decode cX4_numbers 70 = .ok (.bipush 9, 2) := by decide +kernel
theorem dX4_numbers_72 : decode cX4_numbers 72 = .ok (.invokevirtual 48, 3) := by decide +kernel
theorem dX4_numbers_75 : decode cX4_numbers 75 = .ok (.aload_n 0, 1) := by decide +kernel
theorem dX4_numbers_76 : decode cX4_numbers 76 = .ok (.ldc 54, 2) := by decide +kernel
theorem dX4_numbers_78 : decode cX4_numbers 78 = .ok (.bipush 38, 2) := by decide +kernel
theorem dX4_numbers_80 : decode cX4_numbers 80 = .ok (.bipush 9, 2) := by decide +kernel
theorem dX4_numbers_82 : decode cX4_numbers 82 = .ok (.invokevirtual 48, 3) := by decide +kernel
theorem dX4_numbers_85 : decode cX4_numbers 85 = .ok (.aload_n 0, 1) := by decide +kernel
theorem dX4_numbers_86 : decode cX4_numbers 86 = .ok (.ldc 55, 2) := by decide +kernel
theorem dX4_numbers_88 : decode cX4_numbers 88 = .ok (.bipush 40, 2) := by decide +kernel
theorem dX4_numbers_90 : decode cX4_numbers 90 = .ok (.bipush 9, 2) := by decide +kernel
theorem dX4_numbers_92 : decode cX4_numbers 92 = .ok (.invokevirtual 48, 3) := by decide +kernel
theorem dX4_numbers_95 : decode cX4_numbers 95 = .ok (.aload_n 0, 1) := by decide +kernel
theorem dX4_numbers_96 : decode cX4_numbers 96 = .ok (.ldc 56, 2) := by decide +kernel
theorem dX4_numbers_98 : decode cX4_numbers 98 = .ok (.bipush 42, 2) := by decide +kernel
theorem dX4_numbers_100 : decode cX4_numbers 100 = .ok (.bipush 9, 2) := by decide +kernel
theorem dX4_numbers_102 : decode cX4_numbers 102 = .ok (.invokevirtual 48, 3) := by decide +kernel
theorem dX4_numbers_105 : decode cX4_numbers 105 = .ok (.aload_n 0, 1) := by decide +kernel
theorem dX4_numbers_106 : decode cX4_numbers 106 = .ok (.ldc 57, 2) := by decide +kernel
theorem dX4_numbers_108 : decode cX4_numbers 108 = .ok (.bipush 44, 2) := by decide +kernel
theorem dX4_numbers_110 : decode cX4_numbers 110 = .ok (.bipush 9, 2) := by decide +kernel
theorem dX4_numbers_112 : decode cX4_numbers 112 = .ok (.invokevirtual 48, 3) := by decide +kernel
theorem dX4_numbers_115 : decode cX4_numbers 115 = .ok (.aload_n 0, 1) := by decide +kernel
theorem dX4_numbers_116 : decode cX4_numbers 116 = .ok (.ldc 58, 2) := by decide +kernel
theorem dX4_numbers_118 : decode cX4_numbers 118 = .ok (.bipush 46, 2) := by decide +kernel
theorem dX4_numbers_120 : decode cX4_numbers 120 = .ok (.bipush 9, 2) := by decide +kernel
theorem dX4_numbers_122 : decode cX4_numbers 122 = .ok (.invokevirtual 48, 3) := by decide +kernel
theorem dX4_numbers_125 : decode cX4_numbers 125 = .ok (.aload_n 0, 1) := by decide +kernel
theorem dX4_numbers_126 : decode cX4_numbers 126 = .ok (.sipush 2554, 3) := by decide +kernel
theorem dX4_numbers_129 : decode cX4_numbers 129 = .ok (.bipush 48, 2) := by decide +kernel
theorem dX4_numbers_131 : decode cX4_numbers 131 = .ok (.bipush 9, 2) := by decide +kernel
theorem dX4_numbers_133 : decode cX4_numbers 133 = .ok (.invokevirtual 48, 3) := by decide +kernel
theorem dX4_numbers_136 : decode cX4_numbers 136 = .ok (.aload_n 0, 1) := by decide +kernel
theorem dX4_numbers_137 : decode cX4_numbers 137 = .ok (.ldc 59, 2) := by decide +kernel
theorem dX4_numbers_139 : decode cX4_numbers 139 = .ok (.bipush 50, 2) := by decide +kernel
theorem dX4_numbers_141 : decode cX4_numbers 141 = .ok (.bipush 9, 2) := by decide +kernel
theorem dX4_numbers_143 : decode cX4_numbers 143 = .ok (.invokevirtual 48, 3) := by decide +kernel
theorem dX4_numbers_146 : decode cX4_numbers 146 = .ok (.aload_n 0, 1) := by decide +kernel
theorem dX4_numbers_147 : decode cX4_numbers 147 = .ok (.sipush 10348, 3) := by decide +kernel
theorem dX4_numbers_150 : decode cX4_numbers 150 = .ok (.bipush 52, 2) := by decide +kernel
theorem dX4_numbers_152 : decode cX4_numbers 152 = .ok (.bipush 9, 2) := by decide +kernel
theorem dX4_numbers_154 : decode cX4_numbers 154 = .ok (.invokevirtual 48, 3) := by decide +kernel
theorem dX4_numbers_157 : decode cX4_numbers 157 = .ok (.aload_n 0, 1) := by decide +kernel
theorem dX4_numbers_158 : decode cX4_numbers 158 = .ok (.ldc 60, 2) := by decide +kernel
theorem dX4_numbers_160 : decode cX4_numbers 160 = .ok (.bipush 54, 2) := by decide +kernel
theorem dX4_numbers_162 : decode cX4_numbers 162 = .ok (.bipush 9, 2) := by decide +kernel
theorem dX4_numbers_164 : decode cX4_numbers 164 = .ok (.invokevirtual 48, 3) := by decide +kernel
theorem dX4_numbers_167 : decode cX4_numbers 167 = .ok (.aload_n 0, 1) := by decide +kernel
theorem dX4_numbers_168 : decode cX4_numbers 168 = .ok (.sipush 525, 3) := by decide +kernel
theorem dX4_numbers_171 : decode cX4_numbers 171 = .ok (.bipush 56, 2) := by decide +kernel
theorem dX4_numbers_173 : decode cX4_numbers 173 = .ok (.bipush 9, 2) := by decide +kernel
theorem dX4_numbers_175 : decode cX4_numbers 175 = .ok (.invokevirtual 48, 3) := by decide +kernel
theorem dX4_numbers_178 : decode cX4_numbers 178 = .ok (.aload_n 0, 1) := by decide +kernel
theorem dX4_numbers_179 : decode cX4_numbers 179 = .ok (.sipush 14196, 3) := by decide +kernel
theorem dX4_numbers_182 : decode cX4_numbers 182 = .ok (.bipush 58, 2) := by decide +kernel
theorem dX4_numbers_184 : decode cX4_numbers 184 = .ok (.bipush 9, 2) := by decide +kernel
theorem dX4_numbers_186 : decode cX4_numbers 186 = .ok (.invokevirtual 48, 3) := by decide +kernel
theorem dX4_numbers_189 : decode cX4_numbers 189 = .ok (.aload_n 0, 1) := by decide +kernel
theorem dX4_numbers_190 : decode cX4_numbers 190 = .ok (.sipush 531, 3) := by decide +kernel
theorem dX4_numbers_193 : decode cX4_numbers 193 = .ok (.bipush 60, 2) := by decide +kernel
theorem dX4_numbers_195 : decode cX4_numbers 195 = .ok (.bipush 9, 2) := by decide +kernel
theorem dX4_numbers_197 : decode cX4_numbers 197 = .ok (.invokevirtual 48, 3) := by decide +kernel
theorem dX4_numbers_200 : decode cX4_numbers 200 = .ok (.aload_n 0, 1) := by decide +kernel
theorem dX4_numbers_201 : decode cX4_numbers 201 = .ok (.sipush 14358, 3) := by decide +kernel
theorem dX4_numbers_204 : decode cX4_numbers 204 = .ok (.bipush 62, 2) := by decide +kernel
theorem dX4_numbers_206 : decode cX4_numbers 206 = .ok (.bipush 9, 2) := by decide +kernel
theorem dX4_numbers_208 : decode cX4_numbers 208 = .ok (.invokevirtual 48, 3) := by decide +kernel
theorem dX4_numbers_211 : decode cX4_numbers 211 = .ok (.return_, 1) := by decide +kernel
set_option maxRecDepth 20000 in
theorem ggX4_conditions_X4_pair : GoodIn wsX4_conditions wsX4_pair := goodIn_r _ [38, 39, 40, 41, 37, 42, 43, 44, 45, 46, 47, 48, 49, 50, 51, 52, 53, 54, 55, 56, 57, 58, 59, 60, 61, 62] (by decide +kernel) (by decide +kernel)
set_option maxRecDepth 20000 in
theorem gX4_conditions_X4_pair : GoodIn wsX4_conditions (wsV RX4 48 RX4 yX4_pair wsX4_pair) := goodIn_app (goodIn_of _ (by decide +kernel)) ggX4_conditions_X4_pair
theorem dX4_conditions_0 : decode cX4_conditions 0 = .ok (.aload_n 0, 1) := by decide +kernel
theorem dX4_conditions_1 : decode cX4_conditions 1 = .ok (.bipush 68, 2) := by decide +kernel
theorem dX4_conditions_3 : decode cX4_conditions 3 = .ok (.bipush 64, 2) := by decide +kernel
theorem dX4_conditions_5 : decode cX4_conditions 5 = .ok (.iconst 2, 1) := by decide +kernel
theorem dX4_conditions_6 : decode cX4_conditions 6 = .ok (.invokevirtual 48, 3) := by decide +kernel
theorem dX4_conditions_9 : decode cX4_conditions 9 = .ok (.aload_n 0, 1) := by decide +kernel
theorem dX4_conditions_10 : decode cX4_conditions 10 = .ok (.bipush 80, 2) := by decide +kernel
theorem dX4_conditions_12 : decode cX4_conditions 12 = .ok (.bipush 66, 2) := by decide +kernel
theorem dX4_conditions_14 : decode cX4_conditions 14 = .ok (.iconst 2, 1) := by decide +kernel
theorem dX4_conditions_15 : decode cX4_conditions 15 = .ok (.invokevirtual 48, 3) := by decide +kernel
theorem dX4_conditions_18 : decode cX4_conditions 18 = .ok (.aload_n 0, 1) := by decide +kernel
theorem dX4_conditions_19 : decode cX4_conditions 19 = .ok (.bipush 70, 2) := by decide +kernel
theorem dX4_conditions_21 : decode cX4_conditions 21 = .ok (.bipush 68, 2) := by decide +kernel
theorem dX4_conditions_23 : decode cX4_conditions 23 = .ok (.iconst 2, 1) := by decide +kernel
theorem dX4_conditions_24 : decode cX4_conditions 24 = .ok (.invokevirtual 48, 3) := by decide +kernel
theorem dX4_conditions_27 : decode cX4_conditions 27 = .ok (.aload_n 0, 1) := by decide +kernel
theorem dX4_conditions_28 : decode cX4_conditions 28 = .ok (.sipush 1867, 3) := by decide +kernel
theorem dX4_conditions_31 : decode cX4_conditions 31 = .ok (.bipush 70, 2) := by decide +kernel
theorem dX4_conditions_33 : decode cX4_conditions 33 = .ok (.iconst 2, 1) := by decide +kernel
theorem dX4_conditions_34 : decode cX4_conditions 34 = .ok (.invokevirtual 48, 3) := by decide +kernel
theorem dX4_conditions_37 : decode cX4_conditions 37 = .ok (.aload_n 0, 1) := by decide +kernel
theorem dX4_conditions_38 : decode cX4_conditions 38 = .ok (.sipush 1850, 3) := by decide +kernel
theorem dX4_conditions_41 : decode cX4_conditions 41 = .ok (.bipush 72, 2) := by decide +kernel
theorem dX4_conditions_43 : decode cX4_conditions 43 = .ok (.iconst 2, 1) := by decide +kernel
theorem dX4_conditions_44 : decode cX4_conditions 44 = .ok (.invokevirtual 48, 3) := by decide +kernel
theorem dX4_conditions_47 : decode cX4_conditions 47 = .ok (.aload_n 0, 1) := by decide +kernel
theorem dX4_conditions_48 : decode cX4_conditions 48 = .ok (.sipush 1862, 3) := by decide +kernel
theorem dX4_conditions_51 : decode cX4_conditions 51 = .ok (.bipush 74, 2) := by decide +kernel
theorem dX4_conditions_53 : decode cX4_conditions 53 = .ok (.iconst 2, 1) := by decide +kernel
theorem dX4_conditions_54 : decode cX4_conditions 54 = .ok (.invokevirtual 48, 3) := by decide +kernel
theorem dX4_conditions_57 : decode cX4_conditions 57 = .ok (.aload_n 0, 1) := by decide +kernel
theorem dX4_conditions_58 : decode cX4_conditions 58 = .ok (.sipush 1852, 3) := by decide +kernel
theorem dX4_conditions_61 : decode cX4_conditions 61 = .ok (.bipush 76, 2) := by decide +kernel
theorem dX4_conditions_63 : decode cX4_conditions 63 = .ok (.iconst 2, 1) := by decide +kernel
theorem dX4_conditions_64 : decode cX4_conditions 64 = .ok (.invokevirtual 48, 3) := by decide +kernel
theorem dX4_conditions_67 : decode cX4_conditions 67 = .ok (.aload_n 0, 1) := by decide +kernel
theorem dX4_conditions_68 : decode cX4_conditions 68 = .ok (.sipush 1615, 3) := by decide +kernel
theorem dX4_conditions_71 : decode cX4_conditions 71 = .ok (.bipush 78, 2) := by decide +kernel
theorem dX4_conditions_73 : decode cX4_conditions 73 = .ok (.iconst 2, 1) := by decide +kernel
theorem dX4_conditions_74 : decode cX4_conditions 74 = .ok (.invokevirtual 48, 3) := by decide +kernel
theorem dX4_conditions_77 : decode cX4_conditions 77 = .ok (.aload_n 0, 1) := by decide +kernel
theorem dX4_conditions_78 : decode cX4_conditions 78 = .ok (.sipush 1802, 3) := by decide +kernel
theorem dX4_conditions_81 : decode cX4_conditions 81 = .ok (.bipush 64, 2) := by decide +kernel
theorem dX4_conditions_83 : decode cX4_conditions 83 = .ok (.iconst 2, 1) := by decide +kernel
theorem dX4_conditions_84 : decode cX4_conditions 84 = .ok (.invokevirtual 48, 3) := by decide +kernel
theorem dX4_conditions_87 : decode cX4_conditions 87 = .ok (.aload_n 0, 1) := by decide +kernel
theorem dX4_conditions_88 : decode cX4_conditions 88 = .ok (.sipush 1610, 3) := by decide +kernel
theorem dX4_conditions_91 : decode cX4_conditions 91 = .ok (.bipush 66, 2) := by decide +kernel
theorem dX4_conditions_93 : decode cX4_conditions 93 = .ok (.iconst 2, 1) := by decide +kernel
theorem dX4_conditions_94 : decode cX4_conditions 94 = .ok (.invokevirtual 48, 3) := by decide +kernel
theorem dX4_conditions_97 : decode cX4_conditions 97 = .ok (.aload_n 0, 1) := by decide +kernel
theorem dX4_conditions_98 : decode cX4_conditions 98 = .ok (.sipush 1667, 3) := by decide +kernel
theorem dX4_conditions_101 : decode cX4_conditions 101 = .ok (.bipush 68, 2) := by decide +kernel
theorem dX4_conditions_103 : decode cX4_conditions 103 = .ok (.iconst 2, 1) := by decide +kernel
theorem dX4_conditions_104 : decode cX4_conditions 104 = .ok (.invokevirtual 48, 3) := by decide +kernel
theorem dX4_conditions_107 : decode cX4_conditions 107 = .ok (.aload_n 0, 1) := by decide +kernel
theorem dX4_conditions_108 : decode cX4_conditions 108 = .ok (.sipush 1652, 3) := by decide +kernel
theorem dX4_conditions_111 : decode cX4_conditions 111 = .ok (.bipush 72, 2) := by decide +kernel
theorem dX4_conditions_113 : decode cX4_conditions 113 = .ok (.iconst 2, 1) := by decide +kernel
theorem dX4_conditions_114 : decode cX4_conditions 114 = .ok (.invokevirtual 48, 3) := by decide +kernel
theorem dX4_conditions_117 : decode cX4_conditions 117 = .ok (.aload_n 0, 1) := by decide +kernel
theorem dX4_conditions_118 : decode cX4_conditions 118 = .ok (.sipush 1841, 3) := by decide +kernel
theorem dX4_conditions_121 : decode cX4_conditions 121 = .ok (.bipush 74, 2) := by decide +kernel
theorem dX4_conditions_123 : decode cX4_conditions 123 = .ok (.iconst 2, 1) := by decide +kernel
theorem dX4_conditions_124 : decode cX4_conditions 124 = .ok (.invokevirtual 48, 3) := by decide +kernel
theorem dX4_conditions_127 : decode cX4_conditions 127 = .ok (.aload_n 0, 1) := by decide +kernel
theorem dX4_conditions_128 : decode cX4_conditions 128 = .ok (.sipush 1787, 3) := by decide +kernel
theorem dX4_conditions_131 : decode cX4_conditions 131 = .ok (.bipush 76, 2) := by decide +kernel
theorem dX4_conditions_133 : decode cX4_conditions 133 = .ok (.iconst 2, 1) := by decide +kernel
theorem dX4_conditions_134 : decode cX4_conditions 134 = .ok (.invokevirtual 48, 3) := by decide +kernel
theorem dX4_conditions_137 : decode cX4_conditions 137 = .ok (.aload_n 0, 1) := by decide +kernel
theorem dX4_conditions_138 : decode cX4_conditions 138 = .ok (.sipush 11732, 3) := by decide +kernel
theorem dX4_conditions_141 : decode cX4_conditions 141 = .ok (.bipush 80, 2) := by decide +kernel
theorem dX4_conditions_143 : decode cX4_conditions 143 = .ok (.iconst 2, 1) := by decide +kernel
theorem dX4_conditions_144 : decode cX4_conditions 144 = .ok (.invokevirtual 48, 3) := by decide +kernel
theorem dX4_conditions_147 : decode cX4_conditions 147 = .ok (.aload_n 0, 1) := by decide +kernel
theorem dX4_conditions_148 : decode cX4_conditions 148 = .ok (.sipush 11744, 3) := by decide +kernel
theorem dX4_conditions_151 : decode cX4_conditions 151 = .ok (.bipush 82, 2) := by decide +kernel
theorem dX4_conditions_153 : decode cX4_conditions 153 = .ok (.iconst 2, 1) := by decide +kernel
theorem dX4_conditions_154 : decode cX4_conditions 154 = .ok (.invokevirtual 48, 3) := by decide +kernel
theorem dX4_conditions_157 : decode cX4_conditions 157 = .ok (.aload_n 0, 1) := by decide +kernel
theorem dX4_conditions_158 : decode cX4_conditions 158 = .ok (.sipush 11734, 3) := by decide +kernel
theorem dX4_conditions_161 : decode cX4_conditions 161 = .ok (.bipush 84, 2) := by decide +kernel
theorem dX4_conditions_163 : decode cX4_conditions 163 = .ok (.iconst 2, 1) := by decide +kernel
theorem dX4_conditions_164 : decode cX4_conditions 164 = .ok (.invokevirtual 48, 3) := by decide +kernel
theorem dX4_conditions_167 : decode cX4_conditions 167 = .ok (.aload_n 0, 1) := by decide +kernel
theorem dX4_conditions_168 : decode cX4_conditions 168 = .ok (.ldc 61, 2) := by decide +kernel
theorem dX4_conditions_170 : decode cX4_conditions 170 = .ok (.bipush 86, 2) := by decide +kernel
theorem dX4_conditions_172 : decode cX4_conditions 172 = .ok (.iconst 2, 1) := by decide +kernel
theorem dX4_conditions_173 : decode cX4_conditions 173 = .ok (.invokevirtual 48, 3) := by decide +kernel
theorem dX4_conditions_176 : decode cX4_conditions 176 = .ok (.aload_n 0, 1) := by decide +kernel
theorem dX4_conditions_177 : decode cX4_conditions 177 = .ok (.ldc 62, 2) := by decide +kernel
theorem dX4_conditions_179 : decode cX4_conditions 179 = .ok (.bipush 88, 2) := by decide +kernel
theorem dX4_conditions_181 : decode cX4_conditions 181 = .ok (.iconst 2, 1) := by decide +kernel
theorem dX4_conditions_182 : decode cX4_conditions 182 = .ok (.invokevirtual 48, 3) := by decide +kernel
theorem dX4_conditions_185 : decode cX4_conditions 185 = .ok (.aload_n 0, 1) := by decide +kernel
theorem dX4_conditions_186 : decode cX4_conditions 186 = .ok (.ldc 63, 2) := by decide +kernel
theorem dX4_conditions_188 : decode cX4_conditions 188 = .ok (.bipush 90, 2) := by decide +kernel
theorem dX4_conditions_190 : decode cX4_conditions 190 = .ok (.iconst 2, 1) := by decide +kernel
theorem dX4_conditions_191 : decode cX4_conditions 191 = .ok (.invokevirtual 48, 3) := by decide +kernel
theorem dX4_conditions_194 : decode cX4_conditions 194 = .ok (.aload_n 0, 1) := by decide +kernel
theorem dX4_conditions_195 : decode cX4_conditions 195 = .ok (.ldc 64, 2) := by decide +kernel
theorem dX4_conditions_197 : decode cX4_conditions 197 = .ok (.bipush 92, 2) := by decide +kernel
theorem dX4_conditions_199 : decode cX4_conditions 199 = .ok (.iconst 2, 1) := by decide +kernel
theorem dX4_conditions_200 : decode cX4_conditions 200 = .ok (.invokevirtual 48, 3) := by decide +kernel
theorem dX4_conditions_203 : decode cX4_conditions 203 = .ok (.aload_n 0, 1) := by decide +kernel
theorem dX4_conditions_204 : decode cX4_conditions 204 = .ok (.ldc 65, 2) := by decide +kernel
theorem dX4_conditions_206 : decode cX4_conditions 206 = .ok (.bipush 94, 2) := by decide +kernel
theorem dX4_conditions_208 : decode cX4_conditions 208 = .ok (.iconst 2, 1) := by decide +kernel
theorem dX4_conditions_209 : decode cX4_conditions 209 = .ok (.invokevirtual 48, 3) := by decide +kernel
theorem dX4_conditions_212 : decode cX4_conditions 212 = .ok (.aload_n 0, 1) := by decide +kernel
theorem dX4_conditions_213 : decode cX4_conditions 213 = .ok (.ldc 66, 2) := by decide +kernel
theorem dX4_conditions_215 : decode cX4_conditions 215 = .ok (.bipush 80, 2) := by decide +kernel
theorem dX4_conditions_217 : decode cX4_conditions 217 = .ok (.iconst 2, 1) := by decide +kernel
theorem dX4_conditions_218 : decode cX4_conditions 218 = .ok (.invokevirtual 48, 3) := by decide +kernel
theorem dX4_conditions_221 : decode cX4_conditions 221 = .ok (.aload_n 0, 1) := by decide +kernel
theorem dX4_conditions_222 : decode cX4_conditions 222 = .ok (.ldc 67, 2) := by decide +kernel
theorem dX4_conditions_224 : decode cX4_conditions 224 = .ok (.bipush 82, 2) := by decide +kernel
theorem dX4_conditions_226 : decode cX4_conditions 226 = .ok (.iconst 2, 1) := by decide +kernel
theorem dX4_conditions_227 : decode cX4_conditions 227 = .ok (.invokevirtual 48, 3) := by decide +kernel
theorem dX4_conditions_230 : decode cX4_conditions 230 = .ok (.aload_n 0, 1) := by decide +kernel
theorem dX4_conditions_231 : decode cX4_conditions 231 = .ok (.ldc 68, 2) := by decide +kernel
theorem dX4_conditions_233 : decode cX4_conditions 233 = .ok (.bipush 84, 2) := by decide +kernel
theorem dX4_conditions_235 : decode cX4_conditions 235 = .ok (.iconst 2, 1) := by decide +kernel
theorem dX4_conditions_236 : decode cX4_conditions 236 = .ok (.invokevirtual 48, 3) := by decide +kernel
theorem dX4_conditions_239 : decode cX4_conditions 239 = .ok (.aload_n 0, 1) := by decide +kernel
theorem dX4_conditions_240 : decode cX4_conditions 240 = .ok (.ldc 69, 2) := by decide +kernel
theorem dX4_conditions_242 : decode cX4_conditions 242 = .ok (.bipush 88, 2) := by decide +kernel
theorem dX4_conditions_244 : decode cX4_conditions 244 = .ok (.iconst 2, 1) := by decide +kernel
theorem dX4_conditions_245 : decode cX4_conditions 245 = .ok (.invokevirtual 48, 3) := by decide +kernel
theorem dX4_conditions_248 : decode cX4_conditions 248 = .ok (.aload_n 0, 1) := by decide +kernel
theorem dX4_conditions_249 : decode cX4_conditions 249 = .ok (.ldc 70, 2) := by decide +kernel
theorem dX4_conditions_251 : decode cX4_conditions 251 = .ok (.bipush 90, 2) := by decide +kernel
theorem dX4_conditions_253 : decode cX4_conditions 253 = .ok (.iconst 2, 1) := by decide +kernel
theorem dX4_conditions_254 : decode cX4_conditions 254 = .ok (.invokevirtual 48, 3) := by decide +kernel
theorem dX4_conditions_257 : decode cX4_conditions 257 = .ok (.aload_n 0, 1) := by decide +kernel
theorem dX4_conditions_258 : decode cX4_conditions 258 = .ok (.ldc 71, 2) := by decide +kernel
theorem dX4_conditions_260 : decode cX4_conditions 260 = .ok (.bipush 92, 2) := by decide +kernel
theorem dX4_conditions_262 : decode cX4_conditions 262 = .ok (.iconst 2, 1) := by decide +kernel
theorem dX4_conditions_263 : decode cX4_conditions 263 = .ok (.invokevirtual 48, 3) := by decide +kernel
theorem dX4_conditions_266 : decode cX4_conditions 266 = .ok (.aload_n 0, 1) := by decide +kernel
theorem dX4_conditions_267 : decode cX4_conditions 267 = .ok (.sipush 2714, 3) := by decide +kernel
theorem dX4_conditions_270 : decode cX4_conditions 270 = .ok (.bipush 96, 2) := by decide +kernel
theorem dX4_conditions_272 : decode cX4_conditions 272 = .ok (.bipush 9, 2) := by decide +kernel
theorem dX4_conditions_274 : decode cX4_conditions 274 = .ok (.invokevirtual 48, 3) := by decide +kernel
theorem dX4_conditions_277 : decode cX4_conditions 277 = .ok (.aload_n 0, 1) := by decide +kernel
theorem dX4_conditions_278 : decode cX4_conditions 278 = .ok (.sipush 2726, 3) := by decide +kernel
theorem dX4_conditions_281 : decode cX4_conditions 281 = .ok (.bipush 98, 2) := by decide +kernel
theorem dX4_conditions_283 : decode cX4_conditions 283 = .ok (.bipush 9, 2) := by decide +kernel
theorem dX4_conditions_285 : decode cX4_conditions 285 = .ok (.invokevirtual 48, 3) := by decide +kernel
theorem dX4_conditions_288 : decode cX4_conditions 288 = .ok (.aload_n 0, 1) := by decide +kernel
theorem dX4_conditions_289 : decode cX4_conditions 289 = .ok (.sipush 2716, 3) := by decide +kernel
theorem dX4_conditions_292 : decode cX4_conditions 292 = .ok (.bipush 100, 2) := by decide +kernel
theorem dX4_conditions_294 : decode cX4_conditions 294 = .ok (.bipush 9, 2) := by decide +kernel
theorem dX4_conditions_296 : decode cX4_conditions 296 = .ok (.invokevirtual 48, 3) := by decide +kernel
theorem dX4_conditions_299 : decode cX4_conditions 299 = .ok (.aload_n 0, 1) := by decide +kernel
theorem dX4_conditions_300 : decode cX4_conditions 300 = .ok (.ldc 72, 2) := by decide +kernel
theorem dX4_conditions_302 : decode cX4_conditions 302 = .ok (.bipush 102, 2) := by decide +kernel
theorem dX4_conditions_304 : decode cX4_conditions 304 = .ok (.bipush 9, 2) := by decide +kernel
theorem dX4_conditions_306 : decode cX4_conditions 306 = .ok (.invokevirtual 48, 3) := by decide +kernel
theorem dX4_conditions_309 : decode cX4_conditions 309 = .ok (.aload_n 0, 1) := by decide +kernel
theorem dX4_conditions_310 : decode cX4_conditions 310 = .ok (.ldc 73, 2) := by decide +kernel
theorem dX4_conditions_312 : decode cX4_conditions 312 = .ok (.bipush 104, 2) := by decide +kernel
theorem dX4_conditions_314 : decode cX4_conditions 314 = .ok (.bipush 9, 2) := by decide +kernel
theorem dX4_conditions_316 : decode cX4_conditions 316 = .ok (.invokevirtual 48, 3) := by decide +kernel
theorem dX4_conditions_319 : decode cX4_conditions 319 = .ok (.aload_n 0, 1) := by decide +kernel
theorem dX4_conditions_320 : decode cX4_conditions 320 = .ok (.ldc 74, 2) := by decide +kernel
theorem dX4_conditions_322 : decode cX4_conditions 322 = .ok (.bipush 106, 2) := by decide +kernel
theorem dX4_conditions_324 : decode cX4_conditions 324 = .ok (.bipush 9, 2) := by decide +kernel
theorem dX4_conditions_326 : decode cX4_conditions 326 = .ok (.invokevirtual 48, 3) := by decide +kernel
theorem dX4_conditions_329 : decode cX4_conditions 329 = .ok (.aload_n 0, 1) := by decide +kernel
theorem dX4_conditions_330 : decode cX4_conditions 330 = .ok (.ldc 75, 2) := by decide +kernel
theorem dX4_conditions_332 : decode cX4_conditions 332 = .ok (.bipush 108, 2) := by decide +kernel
theorem dX4_conditions_334 : decode cX4_conditions 334 = .ok (.bipush 9, 2) := by decide +kernel
theorem dX4_conditions_336 : decode cX4_conditions 336 = .ok (.invokevirtual 48, 3) := by decide +kernel
theorem dX4_conditions_339 : decode cX4_conditions 339 = .ok (.aload_n 0, 1) := by decide +kernel
theorem dX4_conditions_340 : decode cX4_conditions 340 = .ok (.ldc 76, 2) := by decide +kernel
theorem dX4_conditions_342 : decode cX4_conditions 342 = .ok (.bipush 110, 2) := by decide +kernel
theorem dX4_conditions_344 : decode cX4_conditions 344 = .ok (.bipush 9, 2) := by decide +kernel
theorem dX4_conditions_346 : decode cX4_conditions 346 = .ok (.invokevirtual 48, 3) := by decide +kernel
theorem dX4_conditions_349 : decode cX4_conditions 349 = .ok (.aload_n 0, 1) := by decide +kernel
theorem dX4_conditions_350 : decode cX4_conditions 350 = .ok (.ldc 77, 2) := by decide +kernel
theorem dX4_conditions_352 : decode cX4_conditions 352 = .ok (.bipush 96, 2) := by decide +kernel
theorem dX4_conditions_354 : decode cX4_conditions 354 = .ok (.bipush 9, 2) := by decide +kernel
theorem dX4_conditions_356 : decode cX4_conditions 356 = .ok (.invokevirtual 48, 3) := by decide +kernel
theorem dX4_conditions_359 : decode cX4_conditions 359 = .ok (.aload_n 0, 1) := by decide +kernel
theorem dX4_conditions_360 : decode cX4_conditions 360 = .ok (.ldc 78, 2) := by decide +kernel
theorem dX4_conditions_362 : decode cX4_conditions 362 = .ok (.bipush 98, 2) := by decide +kernel
theorem dX4_conditions_364 : decode cX4_conditions 364 = .ok (.bipush 9, 2) := by decide +kernel
theorem dX4_conditions_366 : decode cX4_conditions 366 = .ok (.invokevirtual 48, 3) := by decide +kernel
theorem dX4_conditions_369 : decode cX4_conditions 369 = .ok (.aload_n 0, 1) := by decide +kernel
theorem dX4_conditions_370 : decode cX4_conditions 370 = .ok (.ldc 79, 2) := by decide +kernel
theorem dX4_conditions_372 : decode cX4_conditions 372 = .ok (.bipush 100, 2) := by decide +kernel
theorem dX4_conditions_374 : decode cX4_conditions 374 = .ok (.bipush 9, 2) := by decide +kernel
theorem dX4_conditions_376 : decode cX4_conditions 376 = .ok (.invokevirtual 48, 3) := by decide +kernel
theorem dX4_conditions_379 : decode cX4_conditions 379 = .ok (.aload_n 0, 1) := by decide +kernel
theorem dX4_conditions_380 : decode cX4_conditions 380 = .ok (.ldc 80, 2) := by decide +kernel
theorem dX4_conditions_382 : decode cX4_conditions 382 = .ok (.bipush 104, 2) := by decide +kernel
theorem dX4_conditions_384 : decode cX4_conditions 384 = .ok (.bipush 9, 2) := by decide +kernel
theorem dX4_conditions_386 : decode cX4_conditions 386 = .ok (.invokevirtual 48, 3) := by decide +kernel
theorem dX4_conditions_389 : decode cX4_conditions 389 = .ok (.aload_n 0, 1) := by decide +kernel
theorem dX4_conditions_390 : decode cX4_conditions 390 = .ok (.ldc 81, 2) := by decide +kernel
theorem dX4_conditions_392 : decode cX4_conditions 392 = .ok (.bipush 106, 2) := by decide +kernel
theorem dX4_conditions_394 : decode cX4_conditions 394 = .ok (.bipush 9, 2) := by decide +kernel
theorem dX4_conditions_396 : decode cX4_conditions 396 = .ok (.invokevirtual 48, 3) := by decide +kernel
theorem dX4_conditions_399 : decode cX4_conditions 399 = .ok (.aload_n 0, 1) := by decide +kernel
theorem dX4_conditions_400 : decode cX4_conditions 400 = .ok (.ldc 82, 2) := by decide +kernel
theorem dX4_conditions_402 : decode cX4_conditions 402 = .ok (.bipush 108, 2) := by decide +kernel
theorem dX4_conditions_404 : decode cX4_conditions 404 = .ok (.bipush 9, 2) := by decide +kernel
theorem dX4_conditions_406 : decode cX4_conditions 406 = .ok (.invokevirtual 48, 3) := by decide +kernel
theorem dX4_conditions_409 : decode cX4_conditions 409 = .ok (.aload_n 0, 1) := by decide +kernel
theorem dX4_conditions_410 : decode cX4_conditions 410 = .ok (.sipush 19481, 3) := by decide +kernel
theorem dX4_conditions_413 : decode cX4_conditions 413 = .ok (.bipush 112, 2) := by decide +kernel
theorem dX4_conditions_415 : decode cX4_conditions 415 = .ok (.bipush 9, 2) := by decide +kernel
theorem dX4_conditions_417 : decode cX4_conditions 417 = .ok (.invokevirtual 48, 3) := by decide +kernel
theorem dX4_conditions_420 : decode cX4_conditions 420 = .ok (.aload_n 0, 1) := by decide +kernel
theorem dX4_conditions_421 : decode cX4_conditions 421 = .ok (.sipush 19493, 3) := by decide +kernel
theorem dX4_conditions_424 : decode cX4_conditions 424 = .ok (.bipush 114, 2) := by decide +kernel
theorem dX4_conditions_426 : decode cX4_conditions 426 = .ok (.bipush 9, 2) := by decide +kernel
theorem dX4_conditions_428 : decode cX4_conditions 428 = .ok (.invokevirtual 48, 3) := by decide +kernel
theorem dX4_conditions_431 : decode cX4_conditions 431 = .ok (.aload_n 0, 1) := by decide +kernel
theorem dX4_conditions_432 : decode cX4_conditions 432 = .ok (.sipush 19483, 3) := by decide +kernel
theorem dX4_conditions_435 : decode cX4_conditions 435 = .ok (.bipush 116, 2) := by decide +kernel
theorem dX4_conditions_437 : decode cX4_conditions 437 = .ok (.bipush 9, 2) := by decide +kernel
theorem dX4_conditions_439 : decode cX4_conditions 439 = .ok (.invokevirtual 48, 3) := by decide +kernel
theorem dX4_conditions_442 : decode cX4_conditions 442 = .ok (.aload_n 0, 1) := by decide +kernel
theorem dX4_conditions_443 : decode cX4_conditions 443 = .ok (.ldc 83, 2) := by decide +kernel
theorem dX4_conditions_445 : decode cX4_conditions 445 = .ok (.bipush 118, 2) := by decide +kernel
theorem dX4_conditions_447 : decode cX4_conditions 447 = .ok (.bipush 9, 2) := by decide +kernel
theorem dX4_conditions_449 : decode cX4_conditions 449 = .ok (.invokevirtual 48, 3) := by decide +kernel
theorem dX4_conditions_452 : decode cX4_conditions 452 = .ok (.aload_n 0, 1) := by decide +kernel
theorem dX4_conditions_453 : decode cX4_conditions 453 = .ok (.ldc 84, 2) := by decide +kernel
theorem dX4_conditions_455 : decode cX4_conditions 455 = .ok (.bipush 120, 2) := by decide +kernel
theorem dX4_conditions_457 : decode cX4_conditions 457 = .ok (.bipush 9, 2) := by decide +kernel
theorem dX4_conditions_459 : decode cX4_conditions 459 = .ok (.invokevirtual 48, 3) := by decide +kernel
theorem dX4_conditions_462 : decode cX4_conditions 462 = .ok (.aload_n 0, 1) := by decide +kernel
theorem dX4_conditions_463 : decode cX4_conditions 463 = .ok (.ldc 85, 2) := by decide +kernel
theorem dX4_conditions_465 : decode cX4_conditions 465 = .ok (.bipush 122, 2) := by decide +kernel
theorem dX4_conditions_467 : decode cX4_conditions 467 = .ok (.bipush 9, 2) := by decide +kernel
theorem dX4_conditions_469 : decode cX4_conditions 469 = .ok (.invokevirtual 48, 3) := by decide +kernel
theorem dX4_conditions_472 : decode cX4_conditions 472 = .ok (.aload_n 0, 1) := by decide +kernel
theorem dX4_conditions_473 : decode cX4_conditions 473 = .ok (.ldc 86, 2) := by decide +kernel
theorem dX4_conditions_475 : decode cX4_conditions 475 = .ok (.bipush 124, 2) := by decide +kernel
theorem dX4_conditions_477 : decode cX4_conditions 477 = .ok (.bipush 9, 2) := by decide +kernel
theorem dX4_conditions_479 : decode cX4_conditions 479 = .ok (.invokevirtual 48, 3) := by decide +kernel
theorem dX4_conditions_482 : decode cX4_conditions 482 = .ok (.aload_n 0, 1) := by decide +kernel
theorem dX4_conditions_483 : decode cX4_conditions 483 = .ok (.ldc 87, 2) := by decide +kernel
theorem dX4_conditions_485 : decode cX4_conditions 485 = .ok (.bipush 126, 2) := by decide +kernel
theorem dX4_conditions_487 : decode cX4_conditions 487 = .ok (.bipush 9, 2) := by decide +kernel
theorem dX4_conditions_489 : decode cX4_conditions 489 = .ok (.invokevirtual 48, 3) := by decide +kernel
theorem dX4_conditions_492 : decode cX4_conditions 492 = .ok (.aload_n 0, 1) := by decide +kernel
theorem dX4_conditions_493 : decode cX4_conditions 493 = .ok (.ldc 88, 2) := by decide +kernel
theorem dX4_conditions_495 : decode cX4_conditions 495 = .ok (.bipush 112, 2) := by decide +kernel
theorem dX4_conditions_497 : decode cX4_conditions 497 = .ok (.bipush 9, 2) := by decide +kernel
theorem dX4_conditions_499 : decode cX4_conditions 499 = .ok (.invokevirtual 48, 3) := by decide +kernel
theorem dX4_conditions_502 : decode cX4_conditions 502 = .ok (.aload_n 0, 1) := by decide +kernel
theorem dX4_conditions_503 : decode cX4_conditions 503 = .ok (.ldc 89, 2) := by decide +kernel
theorem dX4_conditions_505 : decode cX4_conditions 505 = .ok (.bipush 114, 2) := by decide +kernel
theorem dX4_conditions_507 : decode cX4_conditions 507 = .ok (.bipush 9, 2) := by decide +kernel
theorem dX4_conditions_509 : decode cX4_conditions 509 = .ok (.invokevirtual 48, 3) := by decide +kernel
theorem dX4_conditions_512 : decode cX4_conditions 512 = .ok (.aload_n 0, 1) := by decide +kernel
theorem dX4_conditions_513 : decode cX4_conditions 513 = .ok (.ldc 90, 2) := by decide +kernel
theorem dX4_conditions_515 : decode cX4_conditions 515 = .ok (.bipush 116, 2) := by decide +kernel
theorem dX4_conditions_517 : decode cX4_conditions 517 = .ok (.bipush 9, 2) := by decide +kernel
theorem dX4_conditions_519 : decode cX4_conditions 519 = .ok (.invokevirtual 48, 3) := by decide +kernel
theorem dX4_conditions_522 : decode cX4_conditions 522 = .ok (.aload_n 0, 1) := by decide +kernel
theorem dX4_conditions_523 : decode cX4_conditions 523 = .ok (.ldc 91, 2) := by decide +kernel
theorem dX4_conditions_525 : decode cX4_conditions 525 = .ok (.bipush 120, 2) := by decide +kernel
theorem dX4_conditions_527 : decode cX4_conditions 527 = .ok (.bipush 9, 2) := by decide +kernel
theorem dX4_conditions_529 : decode cX4_conditions 529 = .ok (.invokevirtual 48, 3) := by decide +kernel
theorem dX4_conditions_532 : decode cX4_conditions 532 = .ok (.aload_n 0, 1) := by decide +kernel
theorem dX4_conditions_533 : decode cX4_conditions 533 = .ok (.ldc 92, 2) := by decide +kernel
theorem dX4_conditions_535 : decode cX4_conditions 535 = .ok (.bipush 122, 2) := by decide +kernel
theorem dX4_conditions_537 : decode cX4_conditions 537 = .ok (.bipush 9, 2) := by decide +kernel
theorem dX4_conditions_539 : decode cX4_conditions 539 = .ok (.invokevirtual 48, 3) := by decide +kernel
theorem dX4_conditions_542 : decode cX4_conditions 542 = .ok (.aload_n 0, 1) := by decide +kernel
theorem dX4_conditions_543 : decode cX4_conditions 543 = .ok (.ldc 93, 2) := by decide +kernel
theorem dX4_conditions_545 : decode cX4_conditions 545 = .ok (.bipush 124, 2) := by decide +kernel
theorem dX4_conditions_547 : decode cX4_conditions 547 = .ok (.bipush 9, 2) := by decide +kernel
theorem dX4_conditions_549 : decode cX4_conditions 549 = .ok (.invokevirtual 48, 3) := by decide +kernel
theorem dX4_conditions_552 : decode cX4_conditions 552 = .ok (.return_, 1) := by decide +kernel
set_option maxRecDepth 20000 in
theorem ggX4_accesses_X4_pair : GoodIn wsX4_accesses wsX4_pair := goodIn_r _ [17, 18, 19, 20, 16, 21, 22, 23, 24, 25, 26, 27, 28, 29, 30, 31, 32, 33, 34, 35, 36, 37, 38, 39, 40, 41] (by decide +kernel) (by decide +kernel)
set_option maxRecDepth 20000 in
theorem gX4_accesses_X4_pair : GoodIn wsX4_accesses (wsV RX4 48 RX4 yX4_pair wsX4_pair) := goodIn_app (goodIn_of _ (by decide +kernel)) ggX4_accesses_X4_pair
theorem dX4_accesses_0 : decode cX4_accesses 0 = .ok (.aload_n 0, 1) := by decide +kernel
theorem dX4_accesses_1 : decode cX4_accesses 1 = .ok (.sipush 8858, 3) := by decide +kernel
theorem dX4_accesses_4 : decode cX4_accesses 4 = .ok (.sipush 128, 3) := by decide +kernel
theorem dX4_accesses_7 : decode cX4_accesses 7 = .ok (.bipush 9, 2) := by decide +kernel
theorem dX4_accesses_9 : decode cX4_accesses 9 = .ok (.invokevirtual 48, 3) := by decide +kernel
theorem dX4_accesses_12 : decode cX4_accesses 12 = .ok (.aload_n 0, 1) := by decide +kernel
theorem dX4_accesses_13 : decode cX4_accesses 13 = .ok (.ldc 94, 2) := by decide +kernel
theorem dX4_accesses_15 : decode cX4_accesses 15 = .ok (.sipush 130, 3) := by decide +kernel
theorem dX4_accesses_18 : decode cX4_accesses 18 = .ok (.bipush 9, 2) := by decide +kernel
theorem dX4_accesses_20 : decode cX4_accesses 20 = .ok (.invokevirtual 48, 3) := by decide +kernel
theorem dX4_accesses_23 : decode cX4_accesses 23 = .ok (.aload_n 0, 1) := by decide +kernel
theorem dX4_accesses_24 : decode cX4_accesses 24 = .ok (.sipush 8879, 3) := by decide +kernel
theorem dX4_accesses_27 : decode cX4_accesses 27 = .ok (.sipush 132, 3) := by decide +kernel
theorem dX4_accesses_30 : decode cX4_accesses 30 = .ok (.bipush 9, 2) := by decide +kernel
theorem dX4_accesses_32 : decode cX4_accesses 32 = .ok (.invokevirtual 48, 3) := by decide +kernel
theorem dX4_accesses_35 : decode cX4_accesses 35 = .ok (.aload_n 0, 1) := by decide +kernel
theorem dX4_accesses_36 : decode cX4_accesses 36 = .ok (.ldc 95, 2) := by decide +kernel
theorem dX4_accesses_38 : decode cX4_accesses 38 = .ok (.sipush 134, 3) := by decide +kernel
theorem dX4_accesses_41 : decode cX4_accesses 41 = .ok (.bipush 9, 2) := by decide +kernel
theorem dX4_accesses_43 : decode cX4_accesses 43 = .ok (.invokevirtual 48, 3) := by decide +kernel
theorem dX4_accesses_46 : decode cX4_accesses 46 = .ok (.aload_n 0, 1) := by decide +kernel
theorem dX4_accesses_47 : decode cX4_accesses 47 = .ok (.sipush 8876, 3) := by decide +kernel
theorem dX4_accesses_50 : decode cX4_accesses 50 = .ok (.sipush 136, 3) := by decide +kernel
theorem dX4_accesses_53 : decode cX4_accesses 53 = .ok (.bipush 9, 2) := by decide +kernel
theorem dX4_accesses_55 : decode cX4_accesses 55 = .ok (.invokevirtual 48, 3) := by decide +kernel
theorem dX4_accesses_58 : decode cX4_accesses 58 = .ok (.aload_n 0, 1) := by decide +kernel
theorem dX4_accesses_59 : decode cX4_accesses 59 = .ok (.ldc 96, 2) := by decide +kernel
theorem dX4_accesses_61 : decode cX4_accesses 61 = .ok (.sipush 138, 3) := by decide +kernel
theorem dX4_accesses_64 : decode cX4_accesses 64 = .ok (.bipush 9, 2) := by decide +kernel
theorem dX4_accesses_66 : decode cX4_accesses 66 = .ok (.invokevirtual 48, 3) := by decide +kernel
theorem dX4_accesses_69 : decode cX4_accesses 69 = .ok (.aload_n 0, 1) := by decide +kernel
theorem dX4_accesses_70 : decode cX4_accesses 70 = .ok (.sipush 8871, 3) := by decide +kernel
theorem dX4_accesses_73 : decode cX4_accesses 73 = .ok (.sipush 140, 3) := by decide +kernel
theorem dX4_accesses_76 : decode cX4_accesses 76 = .ok (.bipush 9, 2) := by decide +kernel
theorem dX4_accesses_78 : decode cX4_accesses 78 = .ok (.invokevirtual 48, 3) := by decide +kernel
theorem dX4_accesses_81 : decode cX4_accesses 81 = .ok (.aload_n 0, 1) := by decide +kernel
theorem dX4_accesses_82 : decode cX4_accesses 82 = .ok (.ldc 97, 2) := by decide +kernel
theorem dX4_accesses_84 : decode cX4_accesses 84 = .ok (.sipush 142, 3) := by decide +kernel
theorem dX4_accesses_87 : decode cX4_accesses 87 = .ok (.bipush 9, 2) := by decide +kernel
theorem dX4_accesses_89 : decode cX4_accesses 89 = .ok (.invokevirtual 48, 3) := by decide +kernel
theorem dX4_accesses_92 : decode cX4_accesses 92 = .ok (.aload_n 0, 1) := by decide +kernel
theorem dX4_accesses_93 : decode cX4_accesses 93 = .ok (.sipush 326, 3) := by decide +kernel
theorem dX4_accesses_96 : decode cX4_accesses 96 = .ok (.sipush 128, 3) := by decide +kernel
theorem dX4_accesses_99 : decode cX4_accesses 99 = .ok (.bipush 9, 2) := by decide +kernel
theorem dX4_accesses_101 : decode cX4_accesses 101 = .ok (.invokevirtual 48, 3) := by decide +kernel
theorem dX4_accesses_104 : decode cX4_accesses 104 = .ok (.aload_n 0, 1) := by decide +kernel
theorem dX4_accesses_105 : decode cX4_accesses 105 = .ok (.sipush 8823, 3) := by decide +kernel
theorem dX4_accesses_108 : decode cX4_accesses 108 = .ok (.sipush 130, 3) := by decide +kernel
theorem dX4_accesses_111 : decode cX4_accesses 111 = .ok (.bipush 9, 2) := by decide +kernel
theorem dX4_accesses_113 : decode cX4_accesses 113 = .ok (.invokevirtual 48, 3) := by decide +kernel
theorem dX4_accesses_116 : decode cX4_accesses 116 = .ok (.aload_n 0, 1) := by decide +kernel
theorem dX4_accesses_117 : decode cX4_accesses 117 = .ok (.sipush 347, 3) := by decide +kernel
theorem dX4_accesses_120 : decode cX4_accesses 120 = .ok (.sipush 132, 3) := by decide +kernel
theorem dX4_accesses_123 : decode cX4_accesses 123 = .ok (.bipush 9, 2) := by decide +kernel
theorem dX4_accesses_125 : decode cX4_accesses 125 = .ok (.invokevirtual 48, 3) := by decide +kernel
theorem dX4_accesses_128 : decode cX4_accesses 128 = .ok (.aload_n 0, 1) := by decide +kernel
theorem dX4_accesses_129 : decode cX4_accesses 129 = .ok (.sipush 9390, 3) := by decide +kernel
theorem dX4_accesses_132 : decode cX4_accesses 132 = .ok (.sipush 134, 3) := by decide +kernel
theorem dX4_accesses_135 : decode cX4_accesses 135 = .ok (.bipush 9, 2) := by decide +kernel
theorem dX4_accesses_137 : decode cX4_accesses 137 = .ok (.invokevirtual 48, 3) := by decide +kernel
theorem dX4_accesses_140 : decode cX4_accesses 140 = .ok (.aload_n 0, 1) := by decide +kernel
theorem dX4_accesses_141 : decode cX4_accesses 141 = .ok (.sipush 344, 3) := by decide +kernel
theorem dX4_accesses_144 : decode cX4_accesses 144 = .ok (.sipush 136, 3) := by decide +kernel
theorem dX4_accesses_147 : decode cX4_accesses 147 = .ok (.bipush 9, 2) := by decide +kernel
theorem dX4_accesses_149 : decode cX4_accesses 149 = .ok (.invokevirtual 48, 3) := by decide +kernel
theorem dX4_accesses_152 : decode cX4_accesses 152 = .ok (.aload_n 0, 1) := by decide +kernel
theorem dX4_accesses_153 : decode cX4_accesses 153 = .ok (.sipush 9309, 3) := by decide +kernel
theorem dX4_accesses_156 : decode cX4_accesses 156 = .ok (.sipush 138, 3) := by decide +kernel
theorem dX4_accesses_159 : decode cX4_accesses 159 = .ok (.bipush 9, 2) := by decide +kernel
theorem dX4_accesses_161 : decode cX4_accesses 161 = .ok (.invokevirtual 48, 3) := by decide +kernel
theorem dX4_accesses_164 : decode cX4_accesses 164 = .ok (.aload_n 0, 1) := by decide +kernel
theorem dX4_accesses_165 : decode cX4_accesses 165 = .ok (.sipush 339, 3) := by decide +kernel
theorem dX4_accesses_168 : decode cX4_accesses 168 = .ok (.sipush 140, 3) := by decide +kernel
theorem dX4_accesses_171 : decode cX4_accesses 171 = .ok (.bipush 9, 2) := by decide +kernel
theorem dX4_accesses_173 : decode cX4_accesses 173 = .ok (.invokevirtual 48, 3) := by decide +kernel
theorem dX4_accesses_176 : decode cX4_accesses 176 = .ok (.aload_n 0, 1) := by decide +kernel
theorem dX4_accesses_177 : decode cX4_accesses 177 = .ok (.sipush 9174, 3) := by decide +kernel
theorem dX4_accesses_180 : decode cX4_accesses 180 = .ok (.sipush 142, 3) := by decide +kernel
theorem dX4_accesses_183 : decode cX4_accesses 183 = .ok (.bipush 9, 2) := by decide +kernel
theorem dX4_accesses_185 : decode cX4_accesses 185 = .ok (.invokevirtual 48, 3) := by decide +kernel
theorem dX4_accesses_188 : decode cX4_accesses 188 = .ok (.aload_n 0, 1) := by decide +kernel
theorem dX4_accesses_189 : decode cX4_accesses 189 = .ok (.ldc 98, 2) := by decide +kernel
theorem dX4_accesses_191 : decode cX4_accesses 191 = .ok (.sipush 146, 3) := by decide +kernel
theorem dX4_accesses_194 : decode cX4_accesses 194 = .ok (.bipush 9, 2) := by decide +kernel
theorem dX4_accesses_196 : decode cX4_accesses 196 = .ok (.invokevirtual 48, 3) := by decide +kernel
theorem dX4_accesses_199 : decode cX4_accesses 199 = .ok (.aload_n 0, 1) := by decide +kernel
theorem dX4_accesses_200 : decode cX4_accesses 200 = .ok (.sipush 204, 3) := by decide +kernel
theorem dX4_accesses_203 : decode cX4_accesses 203 = .ok (.sipush 158, 3) := by decide +kernel
theorem dX4_accesses_206 : decode cX4_accesses 206 = .ok (.bipush 9, 2) := by decide +kernel
theorem dX4_accesses_208 : decode cX4_accesses 208 = .ok (.invokevirtual 48, 3) := by decide +kernel
theorem dX4_accesses_211 : decode cX4_accesses 211 = .ok (.aload_n 0, 1) := by decide +kernel
theorem dX4_accesses_212 : decode cX4_accesses 212 = .ok (.ldc 99, 2) := by decide +kernel
theorem dX4_accesses_214 : decode cX4_accesses 214 = .ok (.sipush 158, 3) := by decide +kernel
theorem dX4_accesses_217 : decode cX4_accesses 217 = .ok (.bipush 9, 2) := by decide +kernel
theorem dX4_accesses_219 : decode cX4_accesses 219 = .ok (.invokevirtual 48, 3) := by decide +kernel
theorem dX4_accesses_222 : decode cX4_accesses 222 = .ok (.aload_n 0, 1) := by decide +kernel
theorem dX4_accesses_223 : decode cX4_accesses 223 = .ok (.sipush 14393, 3) := by decide +kernel
theorem dX4_accesses_226 : decode cX4_accesses 226 = .ok (.sipush 160, 3) := by decide +kernel
theorem dX4_accesses_229 : decode cX4_accesses 229 = .ok (.bipush 9, 2) := by decide +kernel
theorem dX4_accesses_231 : decode cX4_accesses 231 = .ok (.invokevirtual 48, 3) := by decide +kernel
theorem dX4_accesses_234 : decode cX4_accesses 234 = .ok (.aload_n 0, 1) := by decide +kernel
theorem dX4_accesses_235 : decode cX4_accesses 235 = .ok (.ldc 100, 2) := by decide +kernel
theorem dX4_accesses_237 : decode cX4_accesses 237 = .ok (.sipush 162, 3) := by decide +kernel
theorem dX4_accesses_240 : decode cX4_accesses 240 = .ok (.bipush 9, 2) := by decide +kernel
theorem dX4_accesses_242 : decode cX4_accesses 242 = .ok (.invokevirtual 48, 3) := by decide +kernel
theorem dX4_accesses_245 : decode cX4_accesses 245 = .ok (.aload_n 0, 1) := by decide +kernel
theorem dX4_accesses_246 : decode cX4_accesses 246 = .ok (.sipush 14414, 3) := by decide +kernel
theorem dX4_accesses_249 : decode cX4_accesses 249 = .ok (.sipush 164, 3) := by decide +kernel
theorem dX4_accesses_252 : decode cX4_accesses 252 = .ok (.bipush 9, 2) := by decide +kernel
theorem dX4_accesses_254 : decode cX4_accesses 254 = .ok (.invokevirtual 48, 3) := by decide +kernel
theorem dX4_accesses_257 : decode cX4_accesses 257 = .ok (.aload_n 0, 1) := by decide +kernel
theorem dX4_accesses_258 : decode cX4_accesses 258 = .ok (.ldc 101, 2) := by decide +kernel
theorem dX4_accesses_260 : decode cX4_accesses 260 = .ok (.sipush 166, 3) := by decide +kernel
theorem dX4_accesses_263 : decode cX4_accesses 263 = .ok (.bipush 9, 2) := by decide +kernel
theorem dX4_accesses_265 : decode cX4_accesses 265 = .ok (.invokevirtual 48, 3) := by decide +kernel
theorem dX4_accesses_268 : decode cX4_accesses 268 = .ok (.aload_n 0, 1) := by decide +kernel
theorem dX4_accesses_269 : decode cX4_accesses 269 = .ok (.sipush 14411, 3) := by decide +kernel
theorem dX4_accesses_272 : decode cX4_accesses 272 = .ok (.sipush 168, 3) := by decide +kernel
theorem dX4_accesses_275 : decode cX4_accesses 275 = .ok (.bipush 9, 2) := by decide +kernel
theorem dX4_accesses_277 : decode cX4_accesses 277 = .ok (.invokevirtual 48, 3) := by decide +kernel
theorem dX4_accesses_280 : decode cX4_accesses 280 = .ok (.aload_n 0, 1) := by decide +kernel
theorem dX4_accesses_281 : decode cX4_accesses 281 = .ok (.ldc 102, 2) := by decide +kernel
theorem dX4_accesses_283 : decode cX4_accesses 283 = .ok (.sipush 170, 3) := by decide +kernel
theorem dX4_accesses_286 : decode cX4_accesses 286 = .ok (.bipush 9, 2) := by decide +kernel
theorem dX4_accesses_288 : decode cX4_accesses 288 = .ok (.invokevirtual 48, 3) := by decide +kernel
theorem dX4_accesses_291 : decode cX4_accesses 291 = .ok (.aload_n 0, 1) := by decide +kernel
theorem dX4_accesses_292 : decode cX4_accesses 292 = .ok (.sipush 14406, 3) := by decide +kernel
theorem dX4_accesses_295 : decode cX4_accesses 295 = .ok (.sipush 172, 3) := by decide +kernel
theorem dX4_accesses_298 : decode cX4_accesses 298 = .ok (.bipush 9, 2) := by decide +kernel
theorem dX4_accesses_300 : decode cX4_accesses 300 = .ok (.invokevirtual 48, 3) := by decide +kernel
theorem dX4_accesses_303 : decode cX4_accesses 303 = .ok (.aload_n 0, 1) := by decide +kernel
theorem dX4_accesses_304 : decode cX4_accesses 304 = .ok (.ldc 103, 2) := by decide +kernel
theorem dX4_accesses_306 : decode cX4_accesses 306 = .ok (.sipush 174, 3) := by decide +kernel
theorem dX4_accesses_309 : decode cX4_accesses 309 = .ok (.bipush 9, 2) := by decide +kernel
theorem dX4_accesses_311 : decode cX4_accesses 311 = .ok (.invokevirtual 48, 3) := by decide +kernel
theorem dX4_accesses_314 : decode cX4_accesses 314 = .ok (.aload_n 0, 1) := by decide +kernel
theorem dX4_accesses_315 : decode cX4_accesses 315 = .ok (.sipush 515, 3) := by decide +kernel
theorem dX4_accesses_318 : decode cX4_accesses 318 = .ok (.sipush 160, 3) := by decide +kernel
theorem dX4_accesses_321 : decode cX4_accesses 321 = .ok (.bipush 9, 2) := by decide +kernel
theorem dX4_accesses_323 : decode cX4_accesses 323 = .ok (.invokevirtual 48, 3) := by decide +kernel
theorem dX4_accesses_326 : decode cX4_accesses 326 = .ok (.aload_n 0, 1) := by decide +kernel
theorem dX4_accesses_327 : decode cX4_accesses 327 = .ok (.sipush 536, 3) := by decide +kernel
theorem dX4_accesses_330 : decode cX4_accesses 330 = .ok (.sipush 164, 3) := by decide +kernel
theorem dX4_accesses_333 : decode cX4_accesses 333 = .ok (.bipush 9, 2) := by decide +kernel
theorem dX4_accesses_335 : decode cX4_accesses 335 = .ok (.invokevirtual 48, 3) := by decide +kernel
theorem dX4_accesses_338 : decode cX4_accesses 338 = .ok (.aload_n 0, 1) := by decide +kernel
theorem dX4_accesses_339 : decode cX4_accesses 339 = .ok (.sipush 533, 3) := by decide +kernel
theorem dX4_accesses_342 : decode cX4_accesses 342 = .ok (.sipush 168, 3) := by decide +kernel
theorem dX4_accesses_345 : decode cX4_accesses 345 = .ok (.bipush 9, 2) := by decide +kernel
theorem dX4_accesses_347 : decode cX4_accesses 347 = .ok (.invokevirtual 48, 3) := by decide +kernel
theorem dX4_accesses_350 : decode cX4_accesses 350 = .ok (.aload_n 0, 1) := by decide +kernel
theorem dX4_accesses_351 : decode cX4_accesses 351 = .ok (.sipush 528, 3) := by decide +kernel
theorem dX4_accesses_354 : decode cX4_accesses 354 = .ok (.sipush 172, 3) := by decide +kernel
theorem dX4_accesses_357 : decode cX4_accesses 357 = .ok (.bipush 9, 2) := by decide +kernel
theorem dX4_accesses_359 : decode cX4_accesses 359 = .ok (.invokevirtual 48, 3) := by decide +kernel
theorem dX4_accesses_362 : decode cX4_accesses 362 = .ok (.aload_n 0, 1) := by decide +kernel
theorem dX4_accesses_363 : decode cX4_accesses 363 = .ok (.ldc 104, 2) := by decide +kernel
theorem dX4_accesses_365 : decode cX4_accesses 365 = .ok (.sipush 178, 3) := by decide +kernel
theorem dX4_accesses_368 : decode cX4_accesses 368 = .ok (.bipush 9, 2) := by decide +kernel
theorem dX4_accesses_370 : decode cX4_accesses 370 = .ok (.invokevirtual 48, 3) := by decide +kernel
theorem dX4_accesses_373 : decode cX4_accesses 373 = .ok (.aload_n 0, 1) := by decide +kernel
theorem dX4_accesses_374 : decode cX4_accesses 374 = .ok (.ldc 105, 2) := by decide +kernel
theorem dX4_accesses_376 : decode cX4_accesses 376 = .ok (.sipush 180, 3) := by decide +kernel
theorem dX4_accesses_379 : decode cX4_accesses 379 = .ok (.bipush 9, 2) := by decide +kernel
theorem dX4_accesses_381 : decode cX4_accesses 381 = .ok (.invokevirtual 48, 3) := by decide +kernel
theorem dX4_accesses_384 : decode cX4_accesses 384 = .ok (.return_, 1) := by decide +kernel
set_option maxRecDepth 20000 in
theorem ggX4_bitNames_X4_pair : GoodIn wsX4_bitNames wsX4_pair := goodIn_r _ [13, 14, 15, 16, 12, 17, 18, 19, 20, 21, 22, 23, 24, 25, 26, 27, 28, 29, 30, 31, 32, 33, 34, 35, 36, 37] (by decide +kernel) (by decide +kernel)
set_option maxRecDepth 20000 in
theorem gX4_bitNames_X4_pair : GoodIn wsX4_bitNames (wsV RX4 48 RX4 yX4_pair wsX4_pair) := goodIn_app (goodIn_of _ (by decide +kernel)) ggX4_bitNames_X4_pair
theorem dX4_bitNames_0 : decode cX4_bitNames 0 = .ok (.aload_n 0, 1) := by decide +kernel
theorem dX4_bitNames_1 : decode cX4_bitNames 1 = .ok (.sipush 423, 3) := by decide +kernel
theorem dX4_bitNames_4 : decode cX4_bitNames 4 = .ok (.sipush 192, 3) := by decide +kernel
theorem dX4_bitNames_7 : decode cX4_bitNames 7 = .ok (.bipush 9, 2) := by decide +kernel
theorem dX4_bitNames_9 : decode cX4_bitNames 9 = .ok (.invokevirtual 48, 3) := by decide +kernel
theorem dX4_bitNames_12 : decode cX4_bitNames 12 = .ok (.aload_n 0, 1) := by decide +kernel
theorem dX4_bitNames_13 : decode cX4_bitNames 13 = .ok (.sipush 11435, 3) := by decide +kernel
theorem dX4_bitNames_16 : decode cX4_bitNames 16 = .ok (.sipush 194, 3) := by decide +kernel
theorem dX4_bitNames_19 : decode cX4_bitNames 19 = .ok (.bipush 9, 2) := by decide +kernel
theorem dX4_bitNames_21 : decode cX4_bitNames 21 = .ok (.invokevirtual 48, 3) := by decide +kernel
theorem dX4_bitNames_24 : decode cX4_bitNames 24 = .ok (.aload_n 0, 1) := by decide +kernel
theorem dX4_bitNames_25 : decode cX4_bitNames 25 = .ok (.sipush 10629, 3) := by decide +kernel
theorem dX4_bitNames_28 : decode cX4_bitNames 28 = .ok (.sipush 196, 3) := by decide +kernel
theorem dX4_bitNames_31 : decode cX4_bitNames 31 = .ok (.bipush 9, 2) := by decide +kernel
theorem dX4_bitNames_33 : decode cX4_bitNames 33 = .ok (.invokevirtual 48, 3) := by decide +kernel
theorem dX4_bitNames_36 : decode cX4_bitNames 36 = .ok (.aload_n 0, 1) := by decide +kernel
theorem dX4_bitNames_37 : decode cX4_bitNames 37 = .ok (.sipush 17919, 3) := by decide +kernel
theorem dX4_bitNames_40 : decode cX4_bitNames 40 = .ok (.sipush 198, 3) := by decide +kernel
theorem dX4_bitNames_43 : decode cX4_bitNames 43 = .ok (.bipush 9, 2) := by decide +kernel
theorem dX4_bitNames_45 : decode cX4_bitNames 45 = .ok (.invokevirtual 48, 3) := by decide +kernel
theorem dX4_bitNames_48 : decode cX4_bitNames 48 = .ok (.aload_n 0, 1) := by decide +kernel
theorem dX4_bitNames_49 : decode cX4_bitNames 49 = .ok (.sipush 1111, 3) := by decide +kernel
theorem dX4_bitNames_52 : decode cX4_bitNames 52 = .ok (.sipush 200, 3) := by decide +kernel
theorem dX4_bitNames_55 : decode cX4_bitNames 55 = .ok (.bipush 9, 2) := by decide +kernel
theorem dX4_bitNames_57 : decode cX4_bitNames 57 = .ok (.invokevirtual 48, 3) := by decide +kernel
theorem dX4_bitNames_60 : decode cX4_bitNames 60 = .ok (.aload_n 0, 1) := by decide +kernel
theorem dX4_bitNames_61 : decode cX4_bitNames 61 = .ok (.sipush 30011, 3) := by decide +kernel
theorem dX4_bitNames_64 : decode cX4_bitNames 64 = .ok (.sipush 202, 3) := by decide +kernel
theorem dX4_bitNames_67 : decode cX4_bitNames 67 = .ok (.bipush 9, 2) := by decide +kernel
theorem dX4_bitNames_69 : decode cX4_bitNames 69 = .ok (.invokevirtual 48, 3) := by decide +kernel
theorem dX4_bitNames_72 : decode cX4_bitNames 72 = .ok (.aload_n 0, 1) := by decide +kernel
theorem dX4_bitNames_73 : decode cX4_bitNames 73 = .ok (.ldc 106, 2) := by decide +kernel
theorem dX4_bitNames_75 : decode cX4_bitNames 75 = .ok (.sipush 204, 3) := by decide +kernel
theorem dX4_bitNames_78 : decode cX4_bitNames 78 = .ok (.bipush 9, 2) := by decide +kernel
theorem dX4_bitNames_80 : decode cX4_bitNames 80 = .ok (.invokevirtual 48, 3) := by decide +kernel
theorem dX4_bitNames_83 : decode cX4_bitNames 83 = .ok (.aload_n 0, 1) := by decide +kernel
theorem dX4_bitNames_84 : decode cX4_bitNames 84 = .ok (.ldc 107, 2) := by decide +kernel
theorem dX4_bitNames_86 : decode cX4_bitNames 86 = .ok (.sipush 206, 3) := by decide +kernel
theorem dX4_bitNames_89 : decode cX4_bitNames 89 = .ok (.bipush 9, 2) := by decide +kernel
theorem dX4_bitNames_91 : decode cX4_bitNames 91 = .ok (.invokevirtual 48, 3) := by decide +kernel
theorem dX4_bitNames_94 : decode cX4_bitNames 94 = .ok (.aload_n 0, 1) := by decide +kernel
theorem dX4_bitNames_95 : decode cX4_bitNames 95 = .ok (.ldc 108, 2) := by decide +kernel
theorem dX4_bitNames_97 : decode cX4_bitNames 97 = .ok (.sipush 208, 3) := by decide +kernel
theorem dX4_bitNames_100 : decode cX4_bitNames 100 = .ok (.bipush 9, 2) := by decide +kernel
theorem dX4_bitNames_102 : decode cX4_bitNames 102 = .ok (.invokevirtual 48, 3) := by decide +kernel
theorem dX4_bitNames_105 : decode cX4_bitNames 105 = .ok (.aload_n 0, 1) := by decide +kernel
theorem dX4_bitNames_106 : decode cX4_bitNames 106 = .ok (.ldc 109, 2) := by decide +kernel
theorem dX4_bitNames_108 : decode cX4_bitNames 108 = .ok (.sipush 210, 3) := by decide +kernel
theorem dX4_bitNames_111 : decode cX4_bitNames 111 = .ok (.bipush 9, 2) := by decide +kernel
theorem dX4_bitNames_113 : decode cX4_bitNames 113 = .ok (.invokevirtual 48, 3) := by decide +kernel
theorem dX4_bitNames_116 : decode cX4_bitNames 116 = .ok (.aload_n 0, 1) := by decide +kernel
theorem dX4_bitNames_117 : decode cX4_bitNames 117 = .ok (.ldc 110, 2) := by decide +kernel
theorem dX4_bitNames_119 : decode cX4_bitNames 119 = .ok (.sipush 212, 3) := by decide +kernel
theorem dX4_bitNames_122 : decode cX4_bitNames 122 = .ok (.bipush 9, 2) := by decide +kernel
theorem dX4_bitNames_124 : decode cX4_bitNames 124 = .ok (.invokevirtual 48, 3) := by decide +kernel
theorem dX4_bitNames_127 : decode cX4_bitNames 127 = .ok (.aload_n 0, 1) := by decide +kernel
theorem dX4_bitNames_128 : decode cX4_bitNames 128 = .ok (.ldc 111, 2) := by decide +kernel
theorem dX4_bitNames_130 : decode cX4_bitNames 130 = .ok (.sipush 214, 3) := by decide +kernel
theorem dX4_bitNames_133 : decode cX4_bitNames 133 = .ok (.bipush 9, 2) := by decide +kernel
theorem dX4_bitNames_135 : decode cX4_bitNames 135 = .ok (.invokevirtual 48, 3) := by decide +kernel
theorem dX4_bitNames_138 : decode cX4_bitNames 138 = .ok (.aload_n 0, 1) := by decide +kernel
theorem dX4_bitNames_139 : decode cX4_bitNames 139 = .ok (.sipush 10068, 3) := by decide +kernel
theorem dX4_bitNames_142 : decode cX4_bitNames 142 = .ok (.sipush 216, 3) := by decide +kernel
theorem dX4_bitNames_145 : decode cX4_bitNames 145 = .ok (.bipush 9, 2) := by decide +kernel
theorem dX4_bitNames_147 : decode cX4_bitNames 147 = .ok (.invokevirtual 48, 3) := by decide +kernel
theorem dX4_bitNames_150 : decode cX4_bitNames 150 = .ok (.aload_n 0, 1) := by decide +kernel
theorem dX4_bitNames_151 : decode cX4_bitNames 151 = .ok (.ldc 112, 2) := by decide +kernel
theorem dX4_bitNames_153 : decode cX4_bitNames 153 = .ok (.sipush 218, 3) := by decide +kernel
theorem dX4_bitNames_156 : decode cX4_bitNames 156 = .ok (.bipush 9, 2) := by decide +kernel
theorem dX4_bitNames_158 : decode cX4_bitNames 158 = .ok (.invokevirtual 48, 3) := by decide +kernel
theorem dX4_bitNames_161 : decode cX4_bitNames 161 = .ok (.aload_n 0, 1) := by decide +kernel
theorem dX4_bitNames_162 : decode cX4_bitNames 162 = .ok (.sipush 9900, 3) := by decide +kernel
theorem dX4_bitNames_165 : decode cX4_bitNames 165 = .ok (.sipush 220, 3) := by decide +kernel
theorem dX4_bitNames_168 : decode cX4_bitNames 168 = .ok (.bipush 9, 2) := by decide +kernel
theorem dX4_bitNames_170 : decode cX4_bitNames 170 = .ok (.invokevirtual 48, 3) := by decide +kernel
theorem dX4_bitNames_173 : decode cX4_bitNames 173 = .ok (.aload_n 0, 1) := by decide +kernel
theorem dX4_bitNames_174 : decode cX4_bitNames 174 = .ok (.ldc 113, 2) := by decide +kernel
theorem dX4_bitNames_176 : decode cX4_bitNames 176 = .ok (.sipush 222, 3) := by decide +kernel
theorem dX4_bitNames_179 : decode cX4_bitNames 179 = .ok (.bipush 9, 2) := by decide +kernel
theorem dX4_bitNames_181 : decode cX4_bitNames 181 = .ok (.invokevirtual 48, 3) := by decide +kernel
theorem dX4_bitNames_184 : decode cX4_bitNames 184 = .ok (.return_, 1) := by decide +kernel
set_option maxRecDepth 20000 in
theorem ggX4_others_X4_add : GoodIn wsX4_others wsX4_add := goodIn_r _ [36, 37, 38, 39, 44, 45, 46, 47, 48, 49, 50, 51, 52, 53, 54, 55, 56, 57, 58, 59, 60] (by decide +kernel) (by decide +kernel)
set_option maxRecDepth 20000 in
theorem gX4_others_X4_add : GoodIn wsX4_others (wsV RX4 115 RX4 yX4_add wsX4_add) := goodIn_app (goodIn_of _ (by decide +kernel)) ggX4_others_X4_add
set_option maxRecDepth 20000 in
theorem ggX4_others_X4_pair : GoodIn wsX4_others wsX4_pair := goodIn_r _ [43, 32, 33, 34, 35, 36, 37, 38, 39, 44, 45, 46, 47, 48, 49, 50, 51, 52, 53, 54, 55, 56, 57, 58, 59, 60] (by decide +kernel) (by decide +kernel)
set_option maxRecDepth 20000 in
theorem gX4_others_X4_pair : GoodIn wsX4_others (wsV RX4 48 RX4 yX4_pair wsX4_pair) := goodIn_app (goodIn_of _ (by decide +kernel)) ggX4_others_X4_pair
theorem dX4_others_0 : decode cX4_others 0 = .ok (.aload_n 0, 1) := by decide +kernel
theorem dX4_others_1 : decode cX4_others 1 = .ok (.ldc 114, 2) := by decide +kernel
theorem dX4_others_3 : decode cX4_others 3 = .ok (.sipush 224, 3) := by decide +kernel
theorem dX4_others_6 : decode cX4_others 6 = .ok (.invokevirtual 115, 3) := by decide +kernel
theorem dX4_others_9 : decode cX4_others 9 = .ok (.aload_n 0, 1) := by decide +kernel
theorem dX4_others_10 : decode cX4_others 10 = .ok (.ldc 119, 2) := by decide +kernel
theorem dX4_others_12 : decode cX4_others 12 = .ok (.sipush 225, 3) := by decide +kernel
theorem dX4_others_15 : decode cX4_others 15 = .ok (.invokevirtual 115, 3) := by decide +kernel
theorem dX4_others_18 : decode cX4_others 18 = .ok (.aload_n 0, 1) := by decide +kernel
theorem dX4_others_19 : decode cX4_others 19 = .ok (.ldc 120, 2) := by decide +kernel
theorem dX4_others_21 : decode cX4_others 21 = .ok (.sipush 226, 3) := by decide +kernel
theorem dX4_others_24 : decode cX4_others 24 = .ok (.invokevirtual 115, 3) := by decide +kernel
theorem dX4_others_27 : decode cX4_others 27 = .ok (.aload_n 0, 1) := by decide +kernel
theorem dX4_others_28 : decode cX4_others 28 = .ok (.ldc 121, 2) := by decide +kernel
theorem dX4_others_30 : decode cX4_others 30 = .ok (.sipush 227, 3) := by decide +kernel
theorem dX4_others_33 : decode cX4_others 33 = .ok (.invokevirtual 115, 3) := by decide +kernel
theorem dX4_others_36 : decode cX4_others 36 = .ok (.aload_n 0, 1) := by decide +kernel
theorem dX4_others_37 : decode cX4_others 37 = .ok (.ldc 122, 2) := by decide +kernel
theorem dX4_others_39 : decode cX4_others 39 = .ok (.sipush 228, 3) := by decide +kernel
theorem dX4_others_42 : decode cX4_others 42 = .ok (.invokevirtual 115, 3) := by decide +kernel
theorem dX4_others_45 : decode cX4_others 45 = .ok (.aload_n 0, 1) := by decide +kernel
theorem dX4_others_46 : decode cX4_others 46 = .ok (.ldc 123, 2) := by decide +kernel
theorem dX4_others_48 : decode cX4_others 48 = .ok (.sipush 229, 3) := by decide +kernel
theorem dX4_others_51 : decode cX4_others 51 = .ok (.invokevirtual 115, 3) := by decide +kernel
theorem dX4_others_54 : decode cX4_others 54 = .ok (.aload_n 0, 1) := by decide +kernel
theorem dX4_others_55 : decode cX4_others 55 = .ok (.ldc 124, 2) := by decide +kernel
theorem dX4_others_57 : decode cX4_others 57 = .ok (.sipush 230, 3) := by decide +kernel
theorem dX4_others_60 : decode cX4_others 60 = .ok (.invokevirtual 115, 3) := by decide +kernel
theorem dX4_others_63 : decode cX4_others 63 = .ok (.aload_n 0, 1) := by decide +kernel
theorem dX4_others_64 : decode cX4_others 64 = .ok (.ldc 125, 2) := by decide +kernel
theorem dX4_others_66 : decode cX4_others 66 = .ok (.sipush 231, 3) := by decide +kernel
theorem dX4_others_69 : decode cX4_others 69 = .ok (.invokevirtual 115, 3) := by decide +kernel
theorem dX4_others_72 : decode cX4_others 72 = .ok (.aload_n 0, 1) := by decide +kernel
theorem dX4_others_73 : decode cX4_others 73 = .ok (.sipush 11429, 3) := by decide +kernel
theorem dX4_others_76 : decode cX4_others 76 = .ok (.sipush 232, 3) := by decide +kernel
theorem dX4_others_79 : decode cX4_others 79 = .ok (.invokevirtual 115, 3) := by decide +kernel
theorem dX4_others_82 : decode cX4_others 82 = .ok (.aload_n 0, 1) := by decide +kernel
theorem dX4_others_83 : decode cX4_others 83 = .ok (.ldc 126, 2) := by decide +kernel
theorem dX4_others_85 : decode cX4_others 85 = .ok (.sipush 233, 3) := by decide +kernel
theorem dX4_others_88 : decode cX4_others 88 = .ok (.invokevirtual 115, 3) := by decide +kernel
theorem dX4_others_91 : decode cX4_others 91 = .ok (.aload_n 0, 1) := by decide +kernel
theorem dX4_others_92 : decode cX4_others 92 = .ok (.ldc 127, 2) := by decide +kernel
theorem dX4_others_94 : decode cX4_others 94 = .ok (.sipush 234, 3) := by decide +kernel
theorem dX4_others_97 : decode cX4_others 97 = .ok (.invokevirtual 115, 3) := by decide +kernel
theorem dX4_others_100 : decode cX4_others 100 = .ok (.aload_n 0, 1) := by decide +kernel
theorem dX4_others_101 : decode cX4_others 101 = .ok (.sipush 11433, 3) := by decide +kernel
theorem dX4_others_104 : decode cX4_others 104 = .ok (.sipush 235, 3) := by decide +kernel
theorem dX4_others_107 : decode cX4_others 107 = .ok (.invokevirtual 115, 3) := by decide +kernel
theorem dX4_others_110 : decode cX4_others 110 = .ok (.aload_n 0, 1) := by decide +kernel
theorem dX4_others_111 : decode cX4_others 111 = .ok (.ldc 128, 2) := by decide +kernel
theorem dX4_others_113 : decode cX4_others 113 = .ok (.sipush 236, 3) := by decide +kernel
theorem dX4_others_116 : decode cX4_others 116 = .ok (.invokevirtual 115, 3) := by decide +kernel
theorem dX4_others_119 : decode cX4_others 119 = .ok (.aload_n 0, 1) := by decide +kernel
theorem dX4_others_120 : decode cX4_others 120 = .ok (.ldc 129, 2) := by decide +kernel
theorem dX4_others_122 : decode cX4_others 122 = .ok (.sipush 237, 3) := by decide +kernel
theorem dX4_others_125 : decode cX4_others 125 = .ok (.invokevirtual 115, 3) := by decide +kernel
theorem dX4_others_128 : decode cX4_others 128 = .ok (.aload_n 0, 1) := by decide +kernel
theorem dX4_others_129 : decode cX4_others 129 = .ok (.ldc 130, 2) := by decide +kernel
theorem dX4_others_131 : decode cX4_others 131 = .ok (.sipush 238, 3) := by decide +kernel
theorem dX4_others_134 : decode cX4_others 134 = .ok (.invokevirtual 115, 3) := by decide +kernel
theorem dX4_others_137 : decode cX4_others 137 = .ok (.aload_n 0, 1) := by decide +kernel
theorem dX4_others_138 : decode cX4_others 138 = .ok (.ldc 131, 2) := by decide +kernel
theorem dX4_others_140 : decode cX4_others 140 = .ok (.sipush 239, 3) := by decide +kernel
theorem dX4_others_143 : decode cX4_others 143 = .ok (.invokevirtual 115, 3) := by decide +kernel
theorem dX4_others_146 : decode cX4_others 146 = .ok (.aload_n 0, 1) := by decide +kernel
theorem dX4_others_147 : decode cX4_others 147 = .ok (.sipush 7657, 3) := by decide +kernel
theorem dX4_others_150 : decode cX4_others 150 = .ok (.sipush 240, 3) := by decide +kernel
theorem dX4_others_153 : decode cX4_others 153 = .ok (.iconst 2, 1) := by decide +kernel
theorem dX4_others_154 : decode cX4_others 154 = .ok (.invokevirtual 48, 3) := by decide +kernel
theorem dX4_others_157 : decode cX4_others 157 = .ok (.aload_n 0, 1) := by decide +kernel
theorem dX4_others_158 : decode cX4_others 158 = .ok (.ldc 132, 2) := by decide +kernel
theorem dX4_others_160 : decode cX4_others 160 = .ok (.sipush 241, 3) := by decide +kernel
theorem dX4_others_163 : decode cX4_others 163 = .ok (.invokevirtual 115, 3) := by decide +kernel
theorem dX4_others_166 : decode cX4_others 166 = .ok (.aload_n 0, 1) := by decide +kernel
theorem dX4_others_167 : decode cX4_others 167 = .ok (.ldc 133, 2) := by decide +kernel
theorem dX4_others_169 : decode cX4_others 169 = .ok (.sipush 244, 3) := by decide +kernel
theorem dX4_others_172 : decode cX4_others 172 = .ok (.iconst 2, 1) := by decide +kernel
theorem dX4_others_173 : decode cX4_others 173 = .ok (.invokevirtual 48, 3) := by decide +kernel
theorem dX4_others_176 : decode cX4_others 176 = .ok (.aload_n 0, 1) := by decide +kernel
theorem dX4_others_177 : decode cX4_others 177 = .ok (.sipush 12251, 3) := by decide +kernel
theorem dX4_others_180 : decode cX4_others 180 = .ok (.sipush 246, 3) := by decide +kernel
theorem dX4_others_183 : decode cX4_others 183 = .ok (.bipush 9, 2) := by decide +kernel
theorem dX4_others_185 : decode cX4_others 185 = .ok (.invokevirtual 48, 3) := by decide +kernel
theorem dX4_others_188 : decode cX4_others 188 = .ok (.aload_n 0, 1) := by decide +kernel
theorem dX4_others_189 : decode cX4_others 189 = .ok (.sipush 5258, 3) := by decide +kernel
theorem dX4_others_192 : decode cX4_others 192 = .ok (.sipush 254, 3) := by decide +kernel
theorem dX4_others_195 : decode cX4_others 195 = .ok (.invokevirtual 115, 3) := by decide +kernel
theorem dX4_others_198 : decode cX4_others 198 = .ok (.aload_n 0, 1) := by decide +kernel
theorem dX4_others_199 : decode cX4_others 199 = .ok (.ldc 134, 2) := by decide +kernel
theorem dX4_others_201 : decode cX4_others 201 = .ok (.sipush 253, 3) := by decide +kernel
theorem dX4_others_204 : decode cX4_others 204 = .ok (.invokevirtual 115, 3) := by decide +kernel
theorem dX4_others_207 : decode cX4_others 207 = .ok (.aload_n 0, 1) := by decide +kernel
theorem dX4_others_208 : decode cX4_others 208 = .ok (.sipush 10627, 3) := by decide +kernel
theorem dX4_others_211 : decode cX4_others 211 = .ok (.sipush 253, 3) := by decide +kernel
theorem dX4_others_214 : decode cX4_others 214 = .ok (.invokevirtual 115, 3) := by decide +kernel
theorem dX4_others_217 : decode cX4_others 217 = .ok (.aload_n 0, 1) := by decide +kernel
theorem dX4_others_218 : decode cX4_others 218 = .ok (.ldc 135, 2) := by decide +kernel
theorem dX4_others_220 : decode cX4_others 220 = .ok (.iconst 0, 1) := by decide +kernel
theorem dX4_others_221 : decode cX4_others 221 = .ok (.invokevirtual 115, 3) := by decide +kernel
theorem dX4_others_224 : decode cX4_others 224 = .ok (.aload_n 0, 1) := by decide +kernel
theorem dX4_others_225 : decode cX4_others 225 = .ok (.ldc 136, 2) := by decide +kernel
theorem dX4_others_227 : decode cX4_others 227 = .ok (.iconst 0, 1) := by decide +kernel
theorem dX4_others_228 : decode cX4_others 228 = .ok (.invokevirtual 115, 3) := by decide +kernel
theorem dX4_others_231 : decode cX4_others 231 = .ok (.aload_n 0, 1) := by decide +kernel
theorem dX4_others_232 : decode cX4_others 232 = .ok (.sipush 333, 3) := by decide +kernel
theorem dX4_others_235 : decode cX4_others 235 = .ok (.sipush 227, 3) := by decide +kernel
theorem dX4_others_238 : decode cX4_others 238 = .ok (.invokevirtual 115, 3) := by decide +kernel
theorem dX4_others_241 : decode cX4_others 241 = .ok (.aload_n 0, 1) := by decide +kernel
theorem dX4_others_242 : decode cX4_others 242 = .ok (.sipush 8999, 3) := by decide +kernel
theorem dX4_others_245 : decode cX4_others 245 = .ok (.sipush 224, 3) := by decide +kernel
theorem dX4_others_248 : decode cX4_others 248 = .ok (.invokevirtual 115, 3) := by decide +kernel
theorem dX4_others_251 : decode cX4_others 251 = .ok (.aload_n 0, 1) := by decide +kernel
theorem dX4_others_252 : decode cX4_others 252 = .ok (.ldc 137, 2) := by decide +kernel
theorem dX4_others_254 : decode cX4_others 254 = .ok (.sipush 225, 3) := by decide +kernel
theorem dX4_others_257 : decode cX4_others 257 = .ok (.invokevirtual 115, 3) := by decide +kernel
theorem dX4_others_260 : decode cX4_others 260 = .ok (.aload_n 0, 1) := by decide +kernel
theorem dX4_others_261 : decode cX4_others 261 = .ok (.ldc 138, 2) := by decide +kernel
theorem dX4_others_263 : decode cX4_others 263 = .ok (.sipush 226, 3) := by decide +kernel
theorem dX4_others_266 : decode cX4_others 266 = .ok (.invokevirtual 115, 3) := by decide +kernel
theorem dX4_others_269 : decode cX4_others 269 = .ok (.aload_n 0, 1) := by decide +kernel
theorem dX4_others_270 : decode cX4_others 270 = .ok (.sipush 8857, 3) := by decide +kernel
theorem dX4_others_273 : decode cX4_others 273 = .ok (.bipush 34, 2) := by decide +kernel
theorem dX4_others_275 : decode cX4_others 275 = .ok (.bipush 9, 2) := by decide +kernel
theorem dX4_others_277 : decode cX4_others 277 = .ok (.invokevirtual 48, 3) := by decide +kernel
theorem dX4_others_280 : decode cX4_others 280 = .ok (.aload_n 0, 1) := by decide +kernel
theorem dX4_others_281 : decode cX4_others 281 = .ok (.sipush 6942, 3) := by decide +kernel
theorem dX4_others_284 : decode cX4_others 284 = .ok (.bipush 34, 2) := by decide +kernel
theorem dX4_others_286 : decode cX4_others 286 = .ok (.bipush 9, 2) := by decide +kernel
theorem dX4_others_288 : decode cX4_others 288 = .ok (.invokevirtual 48, 3) := by decide +kernel
theorem dX4_others_291 : decode cX4_others 291 = .ok (.aload_n 0, 1) := by decide +kernel
theorem dX4_others_292 : decode cX4_others 292 = .ok (.ldc 139, 2) := by decide +kernel
theorem dX4_others_294 : decode cX4_others 294 = .ok (.bipush 32, 2) := by decide +kernel
theorem dX4_others_296 : decode cX4_others 296 = .ok (.bipush 9, 2) := by decide +kernel
theorem dX4_others_298 : decode cX4_others 298 = .ok (.invokevirtual 48, 3) := by decide +kernel
theorem dX4_others_301 : decode cX4_others 301 = .ok (.aload_n 0, 1) := by decide +kernel
theorem dX4_others_302 : decode cX4_others 302 = .ok (.ldc 140, 2) := by decide +kernel
theorem dX4_others_304 : decode cX4_others 304 = .ok (.bipush 36, 2) := by decide +kernel
theorem dX4_others_306 : decode cX4_others 306 = .ok (.bipush 9, 2) := by decide +kernel
theorem dX4_others_308 : decode cX4_others 308 = .ok (.invokevirtual 48, 3) := by decide +kernel
theorem dX4_others_311 : decode cX4_others 311 = .ok (.aload_n 0, 1) := by decide +kernel
theorem dX4_others_312 : decode cX4_others 312 = .ok (.sipush 3054, 3) := by decide +kernel
theorem dX4_others_315 : decode cX4_others 315 = .ok (.bipush 38, 2) := by decide +kernel
theorem dX4_others_317 : decode cX4_others 317 = .ok (.bipush 9, 2) := by decide +kernel
theorem dX4_others_319 : decode cX4_others 319 = .ok (.invokevirtual 48, 3) := by decide +kernel
theorem dX4_others_322 : decode cX4_others 322 = .ok (.aload_n 0, 1) := by decide +kernel
theorem dX4_others_323 : decode cX4_others 323 = .ok (.ldc 141, 2) := by decide +kernel
theorem dX4_others_325 : decode cX4_others 325 = .ok (.bipush 24, 2) := by decide +kernel
theorem dX4_others_327 : decode cX4_others 327 = .ok (.bipush 9, 2) := by decide +kernel
theorem dX4_others_329 : decode cX4_others 329 = .ok (.invokevirtual 48, 3) := by decide +kernel
theorem dX4_others_332 : decode cX4_others 332 = .ok (.aload_n 0, 1) := by decide +kernel
theorem dX4_others_333 : decode cX4_others 333 = .ok (.ldc 142, 2) := by decide +kernel
theorem dX4_others_335 : decode cX4_others 335 = .ok (.bipush 28, 2) := by decide +kernel
theorem dX4_others_337 : decode cX4_others 337 = .ok (.bipush 9, 2) := by decide +kernel
theorem dX4_others_339 : decode cX4_others 339 = .ok (.invokevirtual 48, 3) := by decide +kernel
theorem dX4_others_342 : decode cX4_others 342 = .ok (.aload_n 0, 1) := by decide +kernel
theorem dX4_others_343 : decode cX4_others 343 = .ok (.ldc 143, 2) := by decide +kernel
theorem dX4_others_345 : decode cX4_others 345 = .ok (.bipush 48, 2) := by decide +kernel
theorem dX4_others_347 : decode cX4_others 347 = .ok (.bipush 9, 2) := by decide +kernel
theorem dX4_others_349 : decode cX4_others 349 = .ok (.invokevirtual 48, 3) := by decide +kernel
theorem dX4_others_352 : decode cX4_others 352 = .ok (.aload_n 0, 1) := by decide +kernel
theorem dX4_others_353 : decode cX4_others 353 = .ok (.sipush 14079, 3) := by decide +kernel
theorem dX4_others_356 : decode cX4_others 356 = .ok (.bipush 56, 2) := by decide +kernel
theorem dX4_others_358 : decode cX4_others 358 = .ok (.bipush 9, 2) := by decide +kernel
theorem dX4_others_360 : decode cX4_others 360 = .ok (.invokevirtual 48, 3) := by decide +kernel

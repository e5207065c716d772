theorem dX3_isLoadOrStore_18 : decode cX3_isLoadOrStore 18 = .ok (.ifCond .ne 7, 3) := by decide +kernel
theorem dX3_isLoadOrStore_21 : decode cX3_isLoadOrStore 21 = .ok (.iconst 1, 1) := by decide +kernel
theorem dX3_isLoadOrStore_22 : decode cX3_isLoadOrStore 22 = .ok (.goto 4, 3) := by decide +kernel
theorem dX3_isLoadOrStore_25 : decode cX3_isLoadOrStore 25 = .ok (.iconst 0, 1) := by decide +kernel
theorem dX3_isLoadOrStore_26 : decode cX3_isLoadOrStore 26 = .ok (.ireturn, 1) := by decide +kernel
theorem dX3_isGo_0 : decode cX3_isGo 0 = .ok (.iload_n 0, 1) := by decide +kernel
theorem dX3_isGo_1 : decode cX3_isGo 1 = .ok (.sipush 254, 3) := by decide +kernel
theorem dX3_isGo_4 : decode cX3_isGo 4 = .ok (.iand, 1) := by decide +kernel
theorem dX3_isGo_5 : decode cX3_isGo 5 = .ok (.sipush 158, 3) := by decide +kernel
theorem dX3_isGo_8 : decode cX3_isGo 8 = .ok (.if_icmp .ne 7, 3) := by decide +kernel
theorem dX3_isGo_11 : decode cX3_isGo 11 = .ok (.iconst 1, 1) := by decide +kernel
theorem dX3_isGo_12 : decode cX3_isGo 12 = .ok (.goto 4, 3) := by decide +kernel
theorem dX3_isGo_15 : decode cX3_isGo 15 = .ok (.iconst 0, 1) := by decide +kernel
theorem dX3_isGo_16 : decode cX3_isGo 16 = .ok (.ireturn, 1) := by decide +kernel
set_option maxRecDepth 20000 in
theorem ggX3_operandZ_X3_opOf : GoodIn wsX3_operandZ wsX3_opOf := goodIn_r _ [5] (by decide +kernel) (by decide +kernel)
set_option maxRecDepth 20000 in
theorem gX3_operandZ_X3_opOf : GoodIn wsX3_operandZ (va_wsS RX3 124 yX3_opOf wsX3_opOf) := goodIn_app (goodIn_of _ (by decide +kernel)) ggX3_operandZ_X3_opOf
set_option maxRecDepth 20000 in
theorem ggX3_operandZ_X3_byteZ : GoodIn wsX3_operandZ wsX3_byteZ := goodIn_r _ [8] (by decide +kernel) (by decide +kernel)
set_option maxRecDepth 20000 in
theorem gX3_operandZ_X3_byteZ : GoodIn wsX3_operandZ (va_wsS RX3 140 yX3_byteZ wsX3_byteZ) := goodIn_app (goodIn_of _ (by decide +kernel)) ggX3_operandZ_X3_byteZ
theorem dX3_operandZ_0 : decode cX3_operandZ 0 = .ok (.iload_n 1, 1) := by decide +kernel
theorem dX3_operandZ_1 : decode cX3_operandZ 1 = .ok (.invokestatic 124, 3) := by decide +kernel
theorem dX3_operandZ_4 : decode cX3_operandZ 4 = .ok (.istore_n 2, 1) := by decide +kernel
theorem dX3_operandZ_5 : decode cX3_operandZ 5 = .ok (.iload_n 2, 1) := by decide +kernel
theorem dX3_operandZ_6 : decode cX3_operandZ 6 = .ok (.iconst 1, 1) := by decide +kernel
theorem dX3_operandZ_7 : decode cX3_operandZ 7 = .ok (.iand, 1) := by decide +kernel
theorem dX3_operandZ_8 : decode cX3_operandZ 8 = .ok (.iconst 1, 1) := by decide +kernel
theorem dX3_operandZ_9 : decode cX3_operandZ 9 = .ok (.if_icmp .ne 10, 3) := by decide +kernel
theorem dX3_operandZ_12 : decode cX3_operandZ 12 = .ok (.iload_n 2, 1) := by decide +kernel
theorem dX3_operandZ_13 : decode cX3_operandZ 13 = .ok (.sipush 224, 3) := by decide +kernel
theorem dX3_operandZ_16 : decode cX3_operandZ 16 = .ok (.if_icmp .lt 10, 3) := by decide +kernel
theorem dX3_operandZ_19 : decode cX3_operandZ 19 = .ok (.iload_n 2, 1) := by decide +kernel
theorem dX3_operandZ_20 : decode cX3_operandZ 20 = .ok (.sipush 247, 3) := by decide +kernel
theorem dX3_operandZ_23 : decode cX3_operandZ 23 = .ok (.if_icmp .ne 7, 3) := by decide +kernel
theorem dX3_operandZ_26 : decode cX3_operandZ 26 = .ok (.iconst 1, 1) := by decide +kernel
theorem dX3_operandZ_27 : decode cX3_operandZ 27 = .ok (.goto 4, 3) := by decide +kernel
theorem dX3_operandZ_30 : decode cX3_operandZ 30 = .ok (.iconst 0, 1) := by decide +kernel
theorem dX3_operandZ_31 : decode cX3_operandZ 31 = .ok (.istore_n 3, 1) := by decide +kernel
theorem dX3_operandZ_32 : decode cX3_operandZ 32 = .ok (.iload_n 3, 1) := by decide +kernel
theorem dX3_operandZ_33 : decode cX3_operandZ 33 = .ok (.ifCond .eq 11, 3) := by decide +kernel
theorem dX3_operandZ_36 : decode cX3_operandZ 36 = .ok (.iload_n 1, 1) := by decide +kernel
theorem dX3_operandZ_37 : decode cX3_operandZ 37 = .ok (.invokestatic 140, 3) := by decide +kernel
theorem dX3_operandZ_40 : decode cX3_operandZ 40 = .ok (.i2l, 1) := by decide +kernel
theorem dX3_operandZ_41 : decode cX3_operandZ 41 = .ok (.goto 12, 3) := by decide +kernel
theorem dX3_operandZ_44 : decode cX3_operandZ 44 = .ok (.aload_n 0, 1) := by decide +kernel
theorem dX3_operandZ_45 : decode cX3_operandZ 45 = .ok (.getfield 9, 3) := by decide +kernel
theorem dX3_operandZ_48 : decode cX3_operandZ 48 = .ok (.iload_n 1, 1) := by decide +kernel
theorem dX3_operandZ_49 : decode cX3_operandZ 49 = .ok (.invokestatic 140, 3) := by decide +kernel
theorem dX3_operandZ_52 : decode cX3_operandZ 52 = .ok (.laload, 1) := by decide +kernel
theorem dX3_operandZ_53 : decode cX3_operandZ 53 = .ok (.lreturn, 1) := by decide +kernel
set_option maxRecDepth 20000 in
theorem ggX3_bill_X3_leastOops : GoodIn wsX3_bill wsX3_leastOops := goodIn_r _ [8] (by decide +kernel) (by decide +kernel)
set_option maxRecDepth 20000 in
theorem gX3_bill_X3_leastOops : GoodIn wsX3_bill (va_wsS RX3 149 yX3_leastOops wsX3_leastOops) := goodIn_app (goodIn_of _ (by decide +kernel)) ggX3_bill_X3_leastOops
theorem dX3_bill_0 : decode cX3_bill 0 = .ok (.aload_n 0, 1) := by decide +kernel
theorem dX3_bill_1 : decode cX3_bill 1 = .ok (.getfield 16, 3) := by decide +kernel
theorem dX3_bill_4 : decode cX3_bill 4 = .ok (.iload_n 1, 1) := by decide +kernel
theorem dX3_bill_5 : decode cX3_bill 5 = .ok (.dup2, 1) := by decide +kernel
theorem dX3_bill_6 : decode cX3_bill 6 = .ok (.laload, 1) := by decide +kernel
theorem dX3_bill_7 : decode cX3_bill 7 = .ok (.lconst 1, 1) := by decide +kernel
theorem dX3_bill_8 : decode cX3_bill 8 = .ok (.ladd, 1) := by decide +kernel
theorem dX3_bill_9 : decode cX3_bill 9 = .ok (.lastore, 1) := by decide +kernel
theorem dX3_bill_10 : decode cX3_bill 10 = .ok (.aload_n 0, 1) := by decide +kernel
theorem dX3_bill_11 : decode cX3_bill 11 = .ok (.aload_n 0, 1) := by decide +kernel
theorem dX3_bill_12 : decode cX3_bill 12 = .ok (.getfield 16, 3) := by decide +kernel
theorem dX3_bill_15 : decode cX3_bill 15 = .ok (.iload_n 1, 1) := by decide +kernel
theorem dX3_bill_16 : decode cX3_bill 16 = .ok (.laload, 1) := by decide +kernel
theorem dX3_bill_17 : decode cX3_bill 17 = .ok (.putfield 101, 3) := by decide +kernel
theorem dX3_bill_20 : decode cX3_bill 20 = .ok (.aload_n 0, 1) := by decide +kernel
theorem dX3_bill_21 : decode cX3_bill 21 = .ok (.dup, 1) := by decide +kernel
theorem dX3_bill_22 : decode cX3_bill 22 = .ok (.getfield 87, 3) := by decide +kernel
theorem dX3_bill_25 : decode cX3_bill 25 = .ok (.iload_n 1, 1) := by decide +kernel
theorem dX3_bill_26 : decode cX3_bill 26 = .ok (.invokestatic 149, 3) := by decide +kernel
theorem dX3_bill_29 : decode cX3_bill 29 = .ok (.i2l, 1) := by decide +kernel
theorem dX3_bill_30 : decode cX3_bill 30 = .ok (.ladd, 1) := by decide +kernel
theorem dX3_bill_31 : decode cX3_bill 31 = .ok (.putfield 87, 3) := by decide +kernel
theorem dX3_bill_34 : decode cX3_bill 34 = .ok (.iload_n 2, 1) := by decide +kernel
theorem dX3_bill_35 : decode cX3_bill 35 = .ok (.ifCond .eq 13, 3) := by decide +kernel
theorem dX3_bill_38 : decode cX3_bill 38 = .ok (.aload_n 0, 1) := by decide +kernel
theorem dX3_bill_39 : decode cX3_bill 39 = .ok (.dup, 1) := by decide +kernel
theorem dX3_bill_40 : decode cX3_bill 40 = .ok (.getfield 95, 3) := by decide +kernel
theorem dX3_bill_43 : decode cX3_bill 43 = .ok (.lconst 1, 1) := by decide +kernel
theorem dX3_bill_44 : decode cX3_bill 44 = .ok (.ladd, 1) := by decide +kernel
theorem dX3_bill_45 : decode cX3_bill 45 = .ok (.putfield 95, 3) := by decide +kernel
theorem dX3_bill_48 : decode cX3_bill 48 = .ok (.return_, 1) := by decide +kernel
theorem dX3_leastOops_0 : decode cX3_leastOops 0 = .ok (.iload_n 0, 1) := by decide +kernel
theorem dX3_leastOops_1 : decode cX3_leastOops 1 = .ok (.lookupswitch 109 #[(0, 99), (24, 101), (25, 101), (26, 101), (27, 101), (28, 104), (29, 104), (30, 104), (31, 104), (158, 107), (159, 107)], 99) := by decide +kernel
theorem dX3_leastOops_100 : decode cX3_leastOops 100 = .ok (.iconst 5, 1) := by decide +kernel
theorem dX3_leastOops_101 : decode cX3_leastOops 101 = .ok (.ireturn, 1) := by decide +kernel
theorem dX3_leastOops_102 : decode cX3_leastOops 102 = .ok (.bipush 10, 2) := by decide +kernel
theorem dX3_leastOops_104 : decode cX3_leastOops 104 = .ok (.ireturn, 1) := by decide +kernel
theorem dX3_leastOops_105 : decode cX3_leastOops 105 = .ok (.bipush 60, 2) := by decide +kernel
theorem dX3_leastOops_107 : decode cX3_leastOops 107 = .ok (.ireturn, 1) := by decide +kernel
theorem dX3_leastOops_108 : decode cX3_leastOops 108 = .ok (.iconst 3, 1) := by decide +kernel
theorem dX3_leastOops_109 : decode cX3_leastOops 109 = .ok (.ireturn, 1) := by decide +kernel
theorem dX3_leastOops_110 : decode cX3_leastOops 110 = .ok (.iconst 1, 1) := by decide +kernel
theorem dX3_leastOops_111 : decode cX3_leastOops 111 = .ok (.ireturn, 1) := by decide +kernel
set_option maxRecDepth 20000 in
theorem ggX3_perform_X3_opOf : GoodIn wsX3_perform wsX3_opOf := goodIn_r _ [6] (by decide +kernel) (by decide +kernel)
set_option maxRecDepth 20000 in
theorem gX3_perform_X3_opOf : GoodIn wsX3_perform (va_wsS RX3 124 yX3_opOf wsX3_opOf) := goodIn_app (goodIn_of _ (by decide +kernel)) ggX3_perform_X3_opOf
set_option maxRecDepth 20000 in
theorem ggX3_perform_X3_trap : GoodIn wsX3_perform wsX3_trap := goodIn_r _ [10, 1, 11, 12, 13, 14, 15, 5, 16, 185, 186, 187, 188, 189, 190, 191, 192, 193, 194, 195, 196] (by decide +kernel) (by decide +kernel)
set_option maxRecDepth 20000 in
theorem gX3_perform_X3_trap : GoodIn wsX3_perform (wsV RX3 154 RX3 yX3_trap wsX3_trap) := goodIn_app (goodIn_of _ (by decide +kernel)) ggX3_perform_X3_trap
set_option maxRecDepth 20000 in
theorem ggX3_perform_X3_productOrQuotient : GoodIn wsX3_perform wsX3_productOrQuotient := goodIn_r _ [20, 21, 22, 23, 24, 25, 26, 27, 28, 29, 30, 31, 32, 5, 33, 34, 35, 36, 37, 38, 39, 40, 41, 42, 43, 44, 45, 46, 47, 48, 49, 50, 51, 185, 186, 187, 188, 189, 190, 191, 192, 193, 194, 195, 196] (by decide +kernel) (by decide +kernel)
set_option maxRecDepth 20000 in
theorem gX3_perform_X3_productOrQuotient : GoodIn wsX3_perform (wsV RX3 158 RX3 yX3_productOrQuotient wsX3_productOrQuotient) := goodIn_app (goodIn_of _ (by decide +kernel)) ggX3_perform_X3_productOrQuotient
set_option maxRecDepth 20000 in
theorem ggX3_perform_X3_writeX : GoodIn wsX3_perform wsX3_writeX := goodIn_r _ [55, 56, 57, 13, 58, 59, 5, 60, 185, 186, 187, 188, 189, 190, 191, 192, 193, 194, 195, 196] (by decide +kernel) (by decide +kernel)
set_option maxRecDepth 20000 in
theorem gX3_perform_X3_writeX : GoodIn wsX3_perform (wsV RX3 162 RX3 yX3_writeX wsX3_writeX) := goodIn_app (goodIn_of _ (by decide +kernel)) ggX3_perform_X3_writeX
set_option maxRecDepth 20000 in
theorem ggX3_perform_X3_sumOrDifference : GoodIn wsX3_perform wsX3_sumOrDifference := goodIn_r _ [64, 65, 66, 67, 5, 68, 21, 30, 31, 32, 33, 22, 69, 70, 71, 72, 185, 186, 187, 188, 189, 190, 191, 192, 193, 194, 195, 196] (by decide +kernel) (by decide +kernel)
set_option maxRecDepth 20000 in
theorem gX3_perform_X3_sumOrDifference : GoodIn wsX3_perform (wsV RX3 165 RX3 yX3_sumOrDifference wsX3_sumOrDifference) := goodIn_app (goodIn_of _ (by decide +kernel)) ggX3_perform_X3_sumOrDifference
set_option maxRecDepth 20000 in
theorem ggX3_perform_X3_comparedOrShifted : GoodIn wsX3_perform wsX3_comparedOrShifted := goodIn_r _ [76, 40, 3, 4, 5, 6, 49, 24, 50, 51, 77, 78, 79, 69, 70, 71, 72, 21, 30, 31, 32, 33, 22, 80, 81, 82, 83, 84, 85, 86, 87, 88, 89, 90, 91, 92, 93, 185, 186, 187, 188, 189, 190, 191, 192, 193, 194, 195, 196] (by decide +kernel) (by decide +kernel)
set_option maxRecDepth 20000 in
theorem gX3_perform_X3_comparedOrShifted : GoodIn wsX3_perform (wsV RX3 168 RX3 yX3_comparedOrShifted wsX3_comparedOrShifted) := goodIn_app (goodIn_of _ (by decide +kernel)) ggX3_perform_X3_comparedOrShifted
set_option maxRecDepth 20000 in
theorem ggX3_perform_X3_branch : GoodIn wsX3_perform wsX3_branch := goodIn_r _ [97, 13, 98, 99, 1, 3, 4, 5, 6, 58, 59, 60, 100, 101, 102, 103, 104, 105, 2, 106, 107, 108, 109, 110, 185, 186, 187, 188, 189, 190, 191, 192, 193, 194, 195, 196] (by decide +kernel) (by decide +kernel)
set_option maxRecDepth 20000 in
theorem gX3_perform_X3_branch : GoodIn wsX3_perform (wsV RX3 171 RX3 yX3_branch wsX3_branch) := goodIn_app (goodIn_of _ (by decide +kernel)) ggX3_perform_X3_branch
set_option maxRecDepth 20000 in
theorem ggX3_perform_X3_choose : GoodIn wsX3_perform wsX3_choose := goodIn_r _ [114, 3, 4, 5, 6, 100, 101, 102, 52, 53, 54, 55, 56, 57, 13, 58, 59, 60, 185, 186, 187, 188, 189, 190, 191, 192, 193, 194, 195, 196] (by decide +kernel) (by decide +kernel)
set_option maxRecDepth 20000 in
theorem gX3_perform_X3_choose : GoodIn wsX3_perform (wsV RX3 174 RX3 yX3_choose wsX3_choose) := goodIn_app (goodIn_of _ (by decide +kernel)) ggX3_perform_X3_choose
set_option maxRecDepth 20000 in
theorem ggX3_perform_X3_loadOrGo : GoodIn wsX3_perform wsX3_loadOrGo := goodIn_r _ [118, 2, 119, 1, 120, 3, 4, 5, 6, 121, 122, 123, 52, 53, 54, 55, 56, 57, 13, 58, 59, 60, 124, 125, 126, 127, 128, 129, 130, 131, 132, 133, 134, 135, 136, 137, 138, 139, 140, 141, 142, 143, 144, 145, 24, 146, 185, 186, 187, 188, 189, 190, 191, 192, 193, 194, 195, 196, 197] (by decide +kernel) (by decide +kernel)
set_option maxRecDepth 20000 in
theorem gX3_perform_X3_loadOrGo : GoodIn wsX3_perform (wsV RX3 177 RX3 yX3_loadOrGo wsX3_loadOrGo) := goodIn_app (goodIn_of _ (by decide +kernel)) ggX3_perform_X3_loadOrGo
set_option maxRecDepth 20000 in
theorem ggX3_perform_X3_storeX : GoodIn wsX3_perform wsX3_storeX := goodIn_r _ [150, 13, 120, 21, 3, 4, 5, 6, 58, 59, 60, 151, 125, 152, 153, 128, 138, 132, 133, 134, 129, 130, 131, 135, 136, 137, 142, 143, 144, 139, 140, 141, 145, 24, 146, 30, 31, 32, 33, 22, 185, 186, 187, 188, 189, 190, 191, 192, 193, 194, 195, 196, 197] (by decide +kernel) (by decide +kernel)
set_option maxRecDepth 20000 in
theorem gX3_perform_X3_storeX : GoodIn wsX3_perform (wsV RX3 180 RX3 yX3_storeX wsX3_storeX) := goodIn_app (goodIn_of _ (by decide +kernel)) ggX3_perform_X3_storeX
set_option maxRecDepth 20000 in
theorem ggX3_perform_X2_bitwise : GoodIn wsX3_perform wsX2_bitwise := goodIn_r _ [155, 156] (by decide +kernel) (by decide +kernel)
set_option maxRecDepth 20000 in
theorem gX3_perform_X2_bitwise_n183 : GoodIn wsX3_perform (wsX2_bitwise) := ggX3_perform_X2_bitwise
set_option maxRecDepth 20000 in
theorem ggX3_perform_X3_bytewise : GoodIn wsX3_perform wsX3_bytewise := goodIn_r _ [160, 22, 40, 161, 24, 162, 156, 163, 49, 50, 51, 164, 165, 166, 167, 168, 169, 170, 171, 172, 173, 174, 185, 186, 187, 188, 189, 190, 191, 192, 193, 194, 195, 196] (by decide +kernel) (by decide +kernel)
set_option maxRecDepth 20000 in
theorem gX3_perform_X3_bytewise : GoodIn wsX3_perform (wsV RX3 188 RX3 yX3_bytewise wsX3_bytewise) := goodIn_app (goodIn_of _ (by decide +kernel)) ggX3_perform_X3_bytewise
set_option maxRecDepth 20000 in
theorem ggX3_perform_X3_withWyde : GoodIn wsX3_perform wsX3_withWyde := goodIn_r _ [178, 13, 40, 3, 4, 5, 6, 58, 59, 60, 107, 108, 109, 110, 185, 186, 187, 188, 189, 190, 191, 192, 193, 194, 195, 196] (by decide +kernel) (by decide +kernel)
set_option maxRecDepth 20000 in
theorem gX3_perform_X3_withWyde : GoodIn wsX3_perform (wsV RX3 191 RX3 yX3_withWyde wsX3_withWyde) := goodIn_app (goodIn_of _ (by decide +kernel)) ggX3_perform_X3_withWyde
set_option maxRecDepth 20000 in
theorem ggX3_perform_X3_performRest : GoodIn wsX3_perform wsX3_performRest := goodIn_r _ [182, 183, 2, 1, 184, 22, 3, 4, 5, 6, 103, 104, 105, 106, 107, 108, 109, 110, 52, 53, 54, 55, 56, 57, 13, 58, 59, 60, 14, 15, 16, 185, 186, 187, 188, 189, 190, 191, 192, 193, 194, 195, 196] (by decide +kernel) (by decide +kernel)
set_option maxRecDepth 20000 in
theorem gX3_perform_X3_performRest : GoodIn wsX3_perform (wsV RX3 194 RX3 yX3_performRest wsX3_performRest) := goodIn_app (goodIn_of _ (by decide +kernel)) ggX3_perform_X3_performRest
theorem dX3_perform_0 : decode cX3_perform 0 = .ok (.iload_n 1, 1) := by decide +kernel
theorem dX3_perform_1 : decode cX3_perform 1 = .ok (.invokestatic 124, 3) := by decide +kernel
theorem dX3_perform_4 : decode cX3_perform 4 = .ok (.istore 6, 2) := by decide +kernel
theorem dX3_perform_6 : decode cX3_perform 6 = .ok (.aload_n 0, 1) := by decide +kernel
theorem dX3_perform_7 : decode cX3_perform 7 = .ok (.getfield 73, 3) := by decide +kernel
theorem dX3_perform_10 : decode cX3_perform 10 = .ok (.lstore 7, 2) := by decide +kernel
theorem dX3_perform_12 : decode cX3_perform 12 = .ok (.aload_n 0, 1) := by decide +kernel
theorem dX3_perform_13 : decode cX3_perform 13 = .ok (.lload 7, 2) := by decide +kernel
theorem dX3_perform_15 : decode cX3_perform 15 = .ok (.ldc2_w 152, 3) := by decide +kernel
theorem dX3_perform_18 : decode cX3_perform 18 = .ok (.ladd, 1) := by decide +kernel
theorem dX3_perform_19 : decode cX3_perform 19 = .ok (.putfield 73, 3) := by decide +kernel
theorem dX3_perform_22 : decode cX3_perform 22 = .ok (.iload 6, 2) := by decide +kernel
theorem dX3_perform_24 : decode cX3_perform 24 = .ok (.iconst 4, 1) := by decide +kernel
theorem dX3_perform_25 : decode cX3_perform 25 = .ok (.ishr, 1) := by decide +kernel
theorem dX3_perform_26 : decode cX3_perform 26 = .ok (.tableswitch 227 0 14 #[74, 84, 101, 118, 134, 134, 144, 144, 155, 155, 169, 169, 181, 197, 214], 74) := by decide +kernel
theorem dX3_perform_100 : decode cX3_perform 100 = .ok (.aload_n 0, 1) := by decide +kernel
theorem dX3_perform_101 : decode cX3_perform 101 = .ok (.iload_n 1, 1) := by decide +kernel
theorem dX3_perform_102 : decode cX3_perform 102 = .ok (.lload 7, 2) := by decide +kernel
theorem dX3_perform_104 : decode cX3_perform 104 = .ok (.invokevirtual 154, 3) := by decide +kernel
theorem dX3_perform_107 : decode cX3_perform 107 = .ok (.goto 155, 3) := by decide +kernel
theorem dX3_perform_110 : decode cX3_perform 110 = .ok (.aload_n 0, 1) := by decide +kernel
theorem dX3_perform_111 : decode cX3_perform 111 = .ok (.iload_n 1, 1) := by decide +kernel
theorem dX3_perform_112 : decode cX3_perform 112 = .ok (.aload_n 0, 1) := by decide +kernel
theorem dX3_perform_113 : decode cX3_perform 113 = .ok (.iload 6, 2) := by decide +kernel
theorem dX3_perform_115 : decode cX3_perform 115 = .ok (.lload_n 2, 1) := by decide +kernel
theorem dX3_perform_116 : decode cX3_perform 116 = .ok (.lload 4, 2) := by decide +kernel
theorem dX3_perform_118 : decode cX3_perform 118 = .ok (.invokevirtual 158, 3) := by decide +kernel
theorem dX3_perform_121 : decode cX3_perform 121 = .ok (.invokevirtual 162, 3) := by decide +kernel
theorem dX3_perform_124 : decode cX3_perform 124 = .ok (.goto 138, 3) := by decide +kernel
theorem dX3_perform_127 : decode cX3_perform 127 = .ok (.aload_n 0, 1) := by decide +kernel
theorem dX3_perform_128 : decode cX3_perform 128 = .ok (.iload_n 1, 1) := by decide +kernel
theorem dX3_perform_129 : decode cX3_perform 129 = .ok (.aload_n 0, 1) := by decide +kernel
theorem dX3_perform_130 : decode cX3_perform 130 = .ok (.iload 6, 2) := by decide +kernel
theorem dX3_perform_132 : decode cX3_perform 132 = .ok (.lload_n 2, 1) := by decide +kernel
theorem dX3_perform_133 : decode cX3_perform 133 = .ok (.lload 4, 2) := by decide +kernel
theorem dX3_perform_135 : decode cX3_perform 135 = .ok (.invokevirtual 165, 3) := by decide +kernel
theorem dX3_perform_138 : decode cX3_perform 138 = .ok (.invokevirtual 162, 3) := by decide +kernel
theorem dX3_perform_141 : decode cX3_perform 141 = .ok (.goto 121, 3) := by decide +kernel
theorem dX3_perform_144 : decode cX3_perform 144 = .ok (.aload_n 0, 1) := by decide +kernel
theorem dX3_perform_145 : decode cX3_perform 145 = .ok (.iload_n 1, 1) := by decide +kernel
theorem dX3_perform_146 : decode cX3_perform 146 = .ok (.aload_n 0, 1) := by decide +kernel
theorem dX3_perform_147 : decode cX3_perform 147 = .ok (.iload_n 1, 1) := by decide +kernel
theorem dX3_perform_148 : decode cX3_perform 148 = .ok (.lload_n 2, 1) := by decide +kernel
theorem dX3_perform_149 : decode cX3_perform 149 = .ok (.lload 4, 2) := by decide +kernel
theorem dX3_perform_151 : decode cX3_perform 151 = .ok (.invokevirtual 168, 3) := by decide +kernel
theorem dX3_perform_154 : decode cX3_perform 154 = .ok (.invokevirtual 162, 3) := by decide +kernel
theorem dX3_perform_157 : decode cX3_perform 157 = .ok (.goto 105, 3) := by decide +kernel
theorem dX3_perform_160 : decode cX3_perform 160 = .ok (.aload_n 0, 1) := by decide +kernel
theorem dX3_perform_161 : decode cX3_perform 161 = .ok (.iload_n 1, 1) := by decide +kernel
theorem dX3_perform_162 : decode cX3_perform 162 = .ok (.lload 7, 2) := by decide +kernel
theorem dX3_perform_164 : decode cX3_perform 164 = .ok (.invokevirtual 171, 3) := by decide +kernel
theorem dX3_perform_167 : decode cX3_perform 167 = .ok (.goto 95, 3) := by decide +kernel
theorem dX3_perform_170 : decode cX3_perform 170 = .ok (.aload_n 0, 1) := by decide +kernel
theorem dX3_perform_171 : decode cX3_perform 171 = .ok (.iload_n 1, 1) := by decide +kernel
theorem dX3_perform_172 : decode cX3_perform 172 = .ok (.lload_n 2, 1) := by decide +kernel
theorem dX3_perform_173 : decode cX3_perform 173 = .ok (.lload 4, 2) := by decide +kernel
theorem dX3_perform_175 : decode cX3_perform 175 = .ok (.invokevirtual 174, 3) := by decide +kernel
theorem dX3_perform_178 : decode cX3_perform 178 = .ok (.goto 84, 3) := by decide +kernel
theorem dX3_perform_181 : decode cX3_perform 181 = .ok (.aload_n 0, 1) := by decide +kernel
theorem dX3_perform_182 : decode cX3_perform 182 = .ok (.iload_n 1, 1) := by decide +kernel
theorem dX3_perform_183 : decode cX3_perform 183 = .ok (.lload_n 2, 1) := by decide +kernel
theorem dX3_perform_184 : decode cX3_perform 184 = .ok (.lload 4, 2) := by decide +kernel
theorem dX3_perform_186 : decode cX3_perform 186 = .ok (.ladd, 1) := by decide +kernel
theorem dX3_perform_187 : decode cX3_perform 187 = .ok (.lload 7, 2) := by decide +kernel
theorem dX3_perform_189 : decode cX3_perform 189 = .ok (.invokevirtual 177, 3) := by decide +kernel
theorem dX3_perform_192 : decode cX3_perform 192 = .ok (.goto 70, 3) := by decide +kernel
theorem dX3_perform_195 : decode cX3_perform 195 = .ok (.aload_n 0, 1) := by decide +kernel
theorem dX3_perform_196 : decode cX3_perform 196 = .ok (.iload_n 1, 1) := by decide +kernel
theorem dX3_perform_197 : decode cX3_perform 197 = .ok (.lload_n 2, 1) := by decide +kernel
theorem dX3_perform_198 : decode cX3_perform 198 = .ok (.lload 4, 2) := by decide +kernel
theorem dX3_perform_200 : decode cX3_perform 200 = .ok (.ladd, 1) := by decide +kernel
theorem dX3_perform_201 : decode cX3_perform 201 = .ok (.invokevirtual 180, 3) := by decide +kernel
theorem dX3_perform_204 : decode cX3_perform 204 = .ok (.goto 58, 3) := by decide +kernel
theorem dX3_perform_207 : decode cX3_perform 207 = .ok (.aload_n 0, 1) := by decide +kernel
theorem dX3_perform_208 : decode cX3_perform 208 = .ok (.iload_n 1, 1) := by decide +kernel
theorem dX3_perform_209 : decode cX3_perform 209 = .ok (.iload 6, 2) := by decide +kernel
theorem dX3_perform_211 : decode cX3_perform 211 = .ok (.lload_n 2, 1) := by decide +kernel
theorem dX3_perform_212 : decode cX3_perform 212 = .ok (.lload 4, 2) := by decide +kernel
theorem dX3_perform_214 : decode cX3_perform 214 = .ok (.invokestatic 183, 3) := by decide +kernel
theorem dX3_perform_217 : decode cX3_perform 217 = .ok (.invokevirtual 162, 3) := by decide +kernel
theorem dX3_perform_220 : decode cX3_perform 220 = .ok (.goto 42, 3) := by decide +kernel
theorem dX3_perform_223 : decode cX3_perform 223 = .ok (.aload_n 0, 1) := by decide +kernel
theorem dX3_perform_224 : decode cX3_perform 224 = .ok (.iload_n 1, 1) := by decide +kernel
theorem dX3_perform_225 : decode cX3_perform 225 = .ok (.aload_n 0, 1) := by decide +kernel
theorem dX3_perform_226 : decode cX3_perform 226 = .ok (.iload 6, 2) := by decide +kernel
theorem dX3_perform_228 : decode cX3_perform 228 = .ok (.lload_n 2, 1) := by decide +kernel
theorem dX3_perform_229 : decode cX3_perform 229 = .ok (.lload 4, 2) := by decide +kernel
theorem dX3_perform_231 : decode cX3_perform 231 = .ok (.invokevirtual 188, 3) := by decide +kernel
theorem dX3_perform_234 : decode cX3_perform 234 = .ok (.invokevirtual 162, 3) := by decide +kernel
theorem dX3_perform_237 : decode cX3_perform 237 = .ok (.goto 25, 3) := by decide +kernel
theorem dX3_perform_240 : decode cX3_perform 240 = .ok (.aload_n 0, 1) := by decide +kernel
theorem dX3_perform_241 : decode cX3_perform 241 = .ok (.iload_n 1, 1) := by decide +kernel
theorem dX3_perform_242 : decode cX3_perform 242 = .ok (.aload_n 0, 1) := by decide +kernel
theorem dX3_perform_243 : decode cX3_perform 243 = .ok (.iload_n 1, 1) := by decide +kernel
theorem dX3_perform_244 : decode cX3_perform 244 = .ok (.invokevirtual 191, 3) := by decide +kernel
theorem dX3_perform_247 : decode cX3_perform 247 = .ok (.invokevirtual 162, 3) := by decide +kernel
theorem dX3_perform_250 : decode cX3_perform 250 = .ok (.goto 12, 3) := by decide +kernel
theorem dX3_perform_253 : decode cX3_perform 253 = .ok (.aload_n 0, 1) := by decide +kernel
theorem dX3_perform_254 : decode cX3_perform 254 = .ok (.iload_n 1, 1) := by decide +kernel
theorem dX3_perform_255 : decode cX3_perform 255 = .ok (.lload 4, 2) := by decide +kernel
theorem dX3_perform_257 : decode cX3_perform 257 = .ok (.lload 7, 2) := by decide +kernel
theorem dX3_perform_259 : decode cX3_perform 259 = .ok (.invokevirtual 194, 3) := by decide +kernel
theorem dX3_perform_262 : decode cX3_perform 262 = .ok (.return_, 1) := by decide +kernel
set_option maxRecDepth 20000 in
theorem ggX3_writeX_X3_byteX : GoodIn wsX3_writeX wsX3_byteX := goodIn_r _ [7] (by decide +kernel) (by decide +kernel)
set_option maxRecDepth 20000 in
theorem gX3_writeX_X3_byteX : GoodIn wsX3_writeX (va_wsS RX3 143 yX3_byteX wsX3_byteX) := goodIn_app (goodIn_of _ (by decide +kernel)) ggX3_writeX_X3_byteX
theorem dX3_writeX_0 : decode cX3_writeX 0 = .ok (.iload_n 1, 1) := by decide +kernel
theorem dX3_writeX_1 : decode cX3_writeX 1 = .ok (.invokestatic 143, 3) := by decide +kernel
theorem dX3_writeX_4 : decode cX3_writeX 4 = .ok (.istore 4, 2) := by decide +kernel
theorem dX3_writeX_6 : decode cX3_writeX 6 = .ok (.aload_n 0, 1) := by decide +kernel
theorem dX3_writeX_7 : decode cX3_writeX 7 = .ok (.ldc2_w 197, 3) := by decide +kernel
theorem dX3_writeX_10 : decode cX3_writeX 10 = .ok (.aload_n 0, 1) := by decide +kernel
theorem dX3_writeX_11 : decode cX3_writeX 11 = .ok (.getfield 98, 3) := by decide +kernel
theorem dX3_writeX_14 : decode cX3_writeX 14 = .ok (.lmul, 1) := by decide +kernel
theorem dX3_writeX_15 : decode cX3_writeX 15 = .ok (.aload_n 0, 1) := by decide +kernel
theorem dX3_writeX_16 : decode cX3_writeX 16 = .ok (.getfield 9, 3) := by decide +kernel
theorem dX3_writeX_19 : decode cX3_writeX 19 = .ok (.iload 4, 2) := by decide +kernel
theorem dX3_writeX_21 : decode cX3_writeX 21 = .ok (.laload, 1) := by decide +kernel
theorem dX3_writeX_22 : decode cX3_writeX 22 = .ok (.ladd, 1) := by decide +kernel
theorem dX3_writeX_23 : decode cX3_writeX 23 = .ok (.putfield 98, 3) := by decide +kernel
theorem dX3_writeX_26 : decode cX3_writeX 26 = .ok (.aload_n 0, 1) := by decide +kernel
theorem dX3_writeX_27 : decode cX3_writeX 27 = .ok (.getfield 9, 3) := by decide +kernel
theorem dX3_writeX_30 : decode cX3_writeX 30 = .ok (.iload 4, 2) := by decide +kernel
theorem dX3_writeX_32 : decode cX3_writeX 32 = .ok (.lload_n 2, 1) := by decide +kernel
theorem dX3_writeX_33 : decode cX3_writeX 33 = .ok (.lastore, 1) := by decide +kernel
theorem dX3_writeX_34 : decode cX3_writeX 34 = .ok (.return_, 1) := by decide +kernel
set_option maxRecDepth 20000 in
theorem ggX3_trap_X3_byteZ : GoodIn wsX3_trap wsX3_byteZ := goodIn_r _ [8] (by decide +kernel) (by decide +kernel)
set_option maxRecDepth 20000 in
theorem gX3_trap_X3_byteZ : GoodIn wsX3_trap (va_wsS RX3 140 yX3_byteZ wsX3_byteZ) := goodIn_app (goodIn_of _ (by decide +kernel)) ggX3_trap_X3_byteZ
theorem dX3_trap_0 : decode cX3_trap 0 = .ok (.iload_n 1, 1) := by decide +kernel
theorem dX3_trap_1 : decode cX3_trap 1 = .ok (.ifCond .ne 11, 3) := by decide +kernel
theorem dX3_trap_4 : decode cX3_trap 4 = .ok (.aload_n 0, 1) := by decide +kernel
theorem dX3_trap_5 : decode cX3_trap 5 = .ok (.lload_n 2, 1) := by decide +kernel
theorem dX3_trap_6 : decode cX3_trap 6 = .ok (.putfield 73, 3) := by decide +kernel
theorem dX3_trap_9 : decode cX3_trap 9 = .ok (.goto 43, 3) := by decide +kernel
theorem dX3_trap_12 : decode cX3_trap 12 = .ok (.aload_n 0, 1) := by decide +kernel
theorem dX3_trap_13 : decode cX3_trap 13 = .ok (.getfield 90, 3) := by decide +kernel
theorem dX3_trap_16 : decode cX3_trap 16 = .ok (.sipush 500, 3) := by decide +kernel
theorem dX3_trap_19 : decode cX3_trap 19 = .ok (.if_icmp .ge 33, 3) := by decide +kernel
theorem dX3_trap_22 : decode cX3_trap 22 = .ok (.aload_n 0, 1) := by decide +kernel
theorem dX3_trap_23 : decode cX3_trap 23 = .ok (.getfield 19, 3) := by decide +kernel
theorem dX3_trap_26 : decode cX3_trap 26 = .ok (.aload_n 0, 1) := by decide +kernel
theorem dX3_trap_27 : decode cX3_trap 27 = .ok (.getfield 90, 3) := by decide +kernel
theorem dX3_trap_30 : decode cX3_trap 30 = .ok (.aload_n 0, 1) := by decide +kernel
theorem dX3_trap_31 : decode cX3_trap 31 = .ok (.getfield 9, 3) := by decide +kernel
theorem dX3_trap_34 : decode cX3_trap 34 = .ok (.iload_n 1, 1) := by decide +kernel
theorem dX3_trap_35 : decode cX3_trap 35 = .ok (.invokestatic 140, 3) := by decide +kernel
theorem dX3_trap_38 : decode cX3_trap 38 = .ok (.laload, 1) := by decide +kernel
theorem dX3_trap_39 : decode cX3_trap 39 = .ok (.l2i, 1) := by decide +kernel
theorem dX3_trap_40 : decode cX3_trap 40 = .ok (.i2b, 1) := by decide +kernel
theorem dX3_trap_41 : decode cX3_trap 41 = .ok (.bastore, 1) := by decide +kernel
theorem dX3_trap_42 : decode cX3_trap 42 = .ok (.aload_n 0, 1) := by decide +kernel
theorem dX3_trap_43 : decode cX3_trap 43 = .ok (.dup, 1) := by decide +kernel
theorem dX3_trap_44 : decode cX3_trap 44 = .ok (.getfield 90, 3) := by decide +kernel
theorem dX3_trap_47 : decode cX3_trap 47 = .ok (.iconst 1, 1) := by decide +kernel
theorem dX3_trap_48 : decode cX3_trap 48 = .ok (.iadd, 1) := by decide +kernel
theorem dX3_trap_49 : decode cX3_trap 49 = .ok (.putfield 90, 3) := by decide +kernel
theorem dX3_trap_52 : decode cX3_trap 52 = .ok (.return_, 1) := by decide +kernel
theorem dX3_raise_0 : decode cX3_raise 0 = .ok (.iload_n 3, 1) := by decide +kernel
theorem dX3_raise_1 : decode cX3_raise 1 = .ok (.ifCond .eq 14, 3) := by decide +kernel
theorem dX3_raise_4 : decode cX3_raise 4 = .ok (.aload_n 0, 1) := by decide +kernel
theorem dX3_raise_5 : decode cX3_raise 5 = .ok (.getfield 13, 3) := by decide +kernel
theorem dX3_raise_8 : decode cX3_raise 8 = .ok (.bipush 7, 2) := by decide +kernel
theorem dX3_raise_10 : decode cX3_raise 10 = .ok (.dup2, 1) := by decide +kernel
theorem dX3_raise_11 : decode cX3_raise 11 = .ok (.laload, 1) := by decide +kernel
theorem dX3_raise_12 : decode cX3_raise 12 = .ok (.lload_n 1, 1) := by decide +kernel
theorem dX3_raise_13 : decode cX3_raise 13 = .ok (.lor, 1) := by decide +kernel
theorem dX3_raise_14 : decode cX3_raise 14 = .ok (.lastore, 1) := by decide +kernel
theorem dX3_raise_15 : decode cX3_raise 15 = .ok (.return_, 1) := by decide +kernel
set_option maxRecDepth 20000 in
theorem ggX3_productOrQuotient_X2_highOfSignedProduct : GoodIn wsX3_productOrQuotient wsX2_highOfSignedProduct := goodIn_r _ [5, 6, 7, 4, 8, 9] (by decide +kernel) (by decide +kernel)
set_option maxRecDepth 20000 in
theorem gX3_productOrQuotient_X2_highOfSignedProduct_n201 : GoodIn wsX3_productOrQuotient (wsX2_highOfSignedProduct) := ggX3_productOrQuotient_X2_highOfSignedProduct
set_option maxRecDepth 20000 in
theorem ggX3_productOrQuotient_X3_raise : GoodIn wsX3_productOrQuotient wsX3_raise := goodIn_r _ [14, 2, 33, 34, 35, 36, 37, 38, 39, 40, 41, 42, 43, 44] (by decide +kernel) (by decide +kernel)
set_option maxRecDepth 20000 in
theorem gX3_productOrQuotient_X3_raise : GoodIn wsX3_productOrQuotient (wsV RX3 205 RX3 yX3_raise wsX3_raise) := goodIn_app (goodIn_of _ (by decide +kernel)) ggX3_productOrQuotient_X3_raise
set_option maxRecDepth 20000 in
theorem ggX3_productOrQuotient_X2_highOfProduct : GoodIn wsX3_productOrQuotient wsX2_highOfProduct := goodIn_r _ [8, 9] (by decide +kernel) (by decide +kernel)
set_option maxRecDepth 20000 in
theorem gX3_productOrQuotient_X2_highOfProduct_n209 : GoodIn wsX3_productOrQuotient (wsX2_highOfProduct) := ggX3_productOrQuotient_X2_highOfProduct
set_option maxRecDepth 20000 in
theorem ggX3_productOrQuotient_X3_quotient : GoodIn wsX3_productOrQuotient wsX3_quotient := goodIn_r _ [18, 19, 2, 1, 20, 21, 10, 11, 12, 13, 14, 22, 23, 24, 25, 33, 34, 35, 36, 37, 38, 39, 40, 41, 42, 43, 44] (by decide +kernel) (by decide +kernel)
set_option maxRecDepth 20000 in
theorem gX3_productOrQuotient_X3_quotient : GoodIn wsX3_productOrQuotient (wsV RX3 212 RX3 yX3_quotient wsX3_quotient) := goodIn_app (goodIn_of _ (by decide +kernel)) ggX3_productOrQuotient_X3_quotient
set_option maxRecDepth 20000 in
theorem ggX3_productOrQuotient_X3_longQuotient : GoodIn wsX3_productOrQuotient wsX3_longQuotient := goodIn_r _ [29, 2, 30, 4, 31, 32, 33, 34, 35, 36, 37, 38, 39, 40, 41, 42, 43, 44] (by decide +kernel) (by decide +kernel)
set_option maxRecDepth 20000 in
theorem gX3_productOrQuotient_X3_longQuotient : GoodIn wsX3_productOrQuotient (wsV RX3 215 RX3 yX3_longQuotient wsX3_longQuotient) := goodIn_app (goodIn_of _ (by decide +kernel)) ggX3_productOrQuotient_X3_longQuotient
theorem dX3_productOrQuotient_0 : decode cX3_productOrQuotient 0 = .ok (.iload_n 1, 1) := by decide +kernel
theorem dX3_productOrQuotient_1 : decode cX3_productOrQuotient 1 = .ok (.sipush 254, 3) := by decide +kernel
theorem dX3_productOrQuotient_4 : decode cX3_productOrQuotient 4 = .ok (.iand, 1) := by decide +kernel
theorem dX3_productOrQuotient_5 : decode cX3_productOrQuotient 5 = .ok (.tableswitch 94 24 28 #[35, 94, 69, 94, 86], 35) := by decide +kernel
theorem dX3_productOrQuotient_40 : decode cX3_productOrQuotient 40 = .ok (.aload_n 0, 1) := by decide +kernel
theorem dX3_productOrQuotient_41 : decode cX3_productOrQuotient 41 = .ok (.ldc2_w 199, 3) := by decide +kernel
theorem dX3_productOrQuotient_44 : decode cX3_productOrQuotient 44 = .ok (.lload_n 2, 1) := by decide +kernel
theorem dX3_productOrQuotient_45 : decode cX3_productOrQuotient 45 = .ok (.lload 4, 2) := by decide +kernel
theorem dX3_productOrQuotient_47 : decode cX3_productOrQuotient 47 = .ok (.invokestatic 201, 3) := by decide +kernel
theorem dX3_productOrQuotient_50 : decode cX3_productOrQuotient 50 = .ok (.lload_n 2, 1) := by decide +kernel
theorem dX3_productOrQuotient_51 : decode cX3_productOrQuotient 51 = .ok (.lload 4, 2) := by decide +kernel
theorem dX3_productOrQuotient_53 : decode cX3_productOrQuotient 53 = .ok (.lmul, 1) := by decide +kernel
theorem dX3_productOrQuotient_54 : decode cX3_productOrQuotient 54 = .ok (.bipush 63, 2) := by decide +kernel
theorem dX3_productOrQuotient_56 : decode cX3_productOrQuotient 56 = .ok (.lshr, 1) := by decide +kernel
theorem dX3_productOrQuotient_57 : decode cX3_productOrQuotient 57 = .ok (.lcmp, 1) := by decide +kernel
theorem dX3_productOrQuotient_58 : decode cX3_productOrQuotient 58 = .ok (.ifCond .eq 7, 3) := by decide +kernel
theorem dX3_productOrQuotient_61 : decode cX3_productOrQuotient 61 = .ok (.iconst 1, 1) := by decide +kernel
theorem dX3_productOrQuotient_62 : decode cX3_productOrQuotient 62 = .ok (.goto 4, 3) := by decide +kernel
theorem dX3_productOrQuotient_65 : decode cX3_productOrQuotient 65 = .ok (.iconst 0, 1) := by decide +kernel
theorem dX3_productOrQuotient_66 : decode cX3_productOrQuotient 66 = .ok (.invokevirtual 205, 3) := by decide +kernel
theorem dX3_productOrQuotient_69 : decode cX3_productOrQuotient 69 = .ok (.lload_n 2, 1) := by decide +kernel
theorem dX3_productOrQuotient_70 : decode cX3_productOrQuotient 70 = .ok (.lload 4, 2) := by decide +kernel
theorem dX3_productOrQuotient_72 : decode cX3_productOrQuotient 72 = .ok (.lmul, 1) := by decide +kernel
theorem dX3_productOrQuotient_73 : decode cX3_productOrQuotient 73 = .ok (.lreturn, 1) := by decide +kernel
theorem dX3_productOrQuotient_74 : decode cX3_productOrQuotient 74 = .ok (.aload_n 0, 1) := by decide +kernel
theorem dX3_productOrQuotient_75 : decode cX3_productOrQuotient 75 = .ok (.getfield 13, 3) := by decide +kernel
theorem dX3_productOrQuotient_78 : decode cX3_productOrQuotient 78 = .ok (.iconst 3, 1) := by decide +kernel
theorem dX3_productOrQuotient_79 : decode cX3_productOrQuotient 79 = .ok (.lload_n 2, 1) := by decide +kernel
theorem dX3_productOrQuotient_80 : decode cX3_productOrQuotient 80 = .ok (.lload 4, 2) := by decide +kernel
theorem dX3_productOrQuotient_82 : decode cX3_productOrQuotient 82 = .ok (.invokestatic 209, 3) := by decide +kernel
theorem dX3_productOrQuotient_85 : decode cX3_productOrQuotient 85 = .ok (.lastore, 1) := by decide +kernel
theorem dX3_productOrQuotient_86 : decode cX3_productOrQuotient 86 = .ok (.lload_n 2, 1) := by decide +kernel
theorem dX3_productOrQuotient_87 : decode cX3_productOrQuotient 87 = .ok (.lload 4, 2) := by decide +kernel
theorem dX3_productOrQuotient_89 : decode cX3_productOrQuotient 89 = .ok (.lmul, 1) := by decide +kernel
theorem dX3_productOrQuotient_90 : decode cX3_productOrQuotient 90 = .ok (.lreturn, 1) := by decide +kernel
theorem dX3_productOrQuotient_91 : decode cX3_productOrQuotient 91 = .ok (.aload_n 0, 1) := by decide +kernel
theorem dX3_productOrQuotient_92 : decode cX3_productOrQuotient 92 = .ok (.lload_n 2, 1) := by decide +kernel
theorem dX3_productOrQuotient_93 : decode cX3_productOrQuotient 93 = .ok (.lload 4, 2) := by decide +kernel
theorem dX3_productOrQuotient_95 : decode cX3_productOrQuotient 95 = .ok (.invokevirtual 212, 3) := by decide +kernel
theorem dX3_productOrQuotient_98 : decode cX3_productOrQuotient 98 = .ok (.lreturn, 1) := by decide +kernel
theorem dX3_productOrQuotient_99 : decode cX3_productOrQuotient 99 = .ok (.aload_n 0, 1) := by decide +kernel
theorem dX3_productOrQuotient_100 : decode cX3_productOrQuotient 100 = .ok (.aload_n 0, 1) := by decide +kernel
theorem dX3_productOrQuotient_101 : decode cX3_productOrQuotient 101 = .ok (.getfield 13, 3) := by decide +kernel
theorem dX3_productOrQuotient_104 : decode cX3_productOrQuotient 104 = .ok (.iconst 1, 1) := by decide +kernel
theorem dX3_productOrQuotient_105 : decode cX3_productOrQuotient 105 = .ok (.laload, 1) := by decide +kernel
theorem dX3_productOrQuotient_106 : decode cX3_productOrQuotient 106 = .ok (.lload_n 2, 1) := by decide +kernel
theorem dX3_productOrQuotient_107 : decode cX3_productOrQuotient 107 = .ok (.lload 4, 2) := by decide +kernel
theorem dX3_productOrQuotient_109 : decode cX3_productOrQuotient 109 = .ok (.invokevirtual 215, 3) := by decide +kernel
theorem dX3_productOrQuotient_112 : decode cX3_productOrQuotient 112 = .ok (.lreturn, 1) := by decide +kernel
set_option maxRecDepth 20000 in
theorem ggX3_quotient_X3_raise : GoodIn wsX3_quotient wsX3_raise := goodIn_r _ [10, 2, 15, 16, 17, 18, 19, 20, 21, 22, 23, 24, 25, 26] (by decide +kernel) (by decide +kernel)
set_option maxRecDepth 20000 in
theorem gX3_quotient_X3_raise : GoodIn wsX3_quotient (wsV RX3 205 RX3 yX3_raise wsX3_raise) := goodIn_app (goodIn_of _ (by decide +kernel)) ggX3_quotient_X3_raise
set_option maxRecDepth 20000 in
theorem ggX3_quotient_J9_floorDiv_f86c9 : GoodIn wsX3_quotient wsJ9_floorDiv_f86c9 := goodIn_r _ [14] (by decide +kernel) (by decide +kernel)
set_option maxRecDepth 20000 in
theorem gX3_quotient_J9_floorDiv_f86c9 : GoodIn wsX3_quotient (va_wsS RX3 223 yJ9_floorDiv_f86c9 wsJ9_floorDiv_f86c9) := goodIn_app (goodIn_of _ (by decide +kernel)) ggX3_quotient_J9_floorDiv_f86c9
theorem dX3_quotient_0 : decode cX3_quotient 0 = .ok (.lload_n 3, 1) := by decide +kernel
theorem dX3_quotient_1 : decode cX3_quotient 1 = .ok (.lconst 0, 1) := by decide +kernel
theorem dX3_quotient_2 : decode cX3_quotient 2 = .ok (.lcmp, 1) := by decide +kernel
theorem dX3_quotient_3 : decode cX3_quotient 3 = .ok (.ifCond .ne 21, 3) := by decide +kernel
theorem dX3_quotient_6 : decode cX3_quotient 6 = .ok (.aload_n 0, 1) := by decide +kernel
theorem dX3_quotient_7 : decode cX3_quotient 7 = .ok (.ldc2_w 219, 3) := by decide +kernel
theorem dX3_quotient_10 : decode cX3_quotient 10 = .ok (.iconst 1, 1) := by decide +kernel
theorem dX3_quotient_11 : decode cX3_quotient 11 = .ok (.invokevirtual 205, 3) := by decide +kernel
theorem dX3_quotient_14 : decode cX3_quotient 14 = .ok (.aload_n 0, 1) := by decide +kernel
theorem dX3_quotient_15 : decode cX3_quotient 15 = .ok (.getfield 13, 3) := by decide +kernel
theorem dX3_quotient_18 : decode cX3_quotient 18 = .ok (.bipush 6, 2) := by decide +kernel
theorem dX3_quotient_20 : decode cX3_quotient 20 = .ok (.lload_n 1, 1) := by decide +kernel
theorem dX3_quotient_21 : decode cX3_quotient 21 = .ok (.lastore, 1) := by decide +kernel
theorem dX3_quotient_22 : decode cX3_quotient 22 = .ok (.lconst 0, 1) := by decide +kernel
theorem dX3_quotient_23 : decode cX3_quotient 23 = .ok (.lreturn, 1) := by decide +kernel
theorem dX3_quotient_24 : decode cX3_quotient 24 = .ok (.aload_n 0, 1) := by decide +kernel
theorem dX3_quotient_25 : decode cX3_quotient 25 = .ok (.ldc2_w 199, 3) := by decide +kernel
theorem dX3_quotient_28 : decode cX3_quotient 28 = .ok (.lload_n 1, 1) := by decide +kernel
theorem dX3_quotient_29 : decode cX3_quotient 29 = .ok (.ldc2_w 221, 3) := by decide +kernel
theorem dX3_quotient_32 : decode cX3_quotient 32 = .ok (.lcmp, 1) := by decide +kernel
theorem dX3_quotient_33 : decode cX3_quotient 33 = .ok (.ifCond .ne 15, 3) := by decide +kernel
theorem dX3_quotient_36 : decode cX3_quotient 36 = .ok (.lload_n 3, 1) := by decide +kernel
theorem dX3_quotient_37 : decode cX3_quotient 37 = .ok (.ldc2_w 104, 3) := by decide +kernel
theorem dX3_quotient_40 : decode cX3_quotient 40 = .ok (.lcmp, 1) := by decide +kernel
theorem dX3_quotient_41 : decode cX3_quotient 41 = .ok (.ifCond .ne 7, 3) := by decide +kernel
theorem dX3_quotient_44 : decode cX3_quotient 44 = .ok (.iconst 1, 1) := by decide +kernel
theorem dX3_quotient_45 : decode cX3_quotient 45 = .ok (.goto 4, 3) := by decide +kernel
theorem dX3_quotient_48 : decode cX3_quotient 48 = .ok (.iconst 0, 1) := by decide +kernel
theorem dX3_quotient_49 : decode cX3_quotient 49 = .ok (.invokevirtual 205, 3) := by decide +kernel
theorem dX3_quotient_52 : decode cX3_quotient 52 = .ok (.lload_n 1, 1) := by decide +kernel
theorem dX3_quotient_53 : decode cX3_quotient 53 = .ok (.lload_n 3, 1) := by decide +kernel
theorem dX3_quotient_54 : decode cX3_quotient 54 = .ok (.invokestatic 223, 3) := by decide +kernel
theorem dX3_quotient_57 : decode cX3_quotient 57 = .ok (.lstore 5, 2) := by decide +kernel
theorem dX3_quotient_59 : decode cX3_quotient 59 = .ok (.aload_n 0, 1) := by decide +kernel
theorem dX3_quotient_60 : decode cX3_quotient 60 = .ok (.getfield 13, 3) := by decide +kernel
theorem dX3_quotient_63 : decode cX3_quotient 63 = .ok (.bipush 6, 2) := by decide +kernel
theorem dX3_quotient_65 : decode cX3_quotient 65 = .ok (.lload_n 1, 1) := by decide +kernel
theorem dX3_quotient_66 : decode cX3_quotient 66 = .ok (.lload_n 3, 1) := by decide +kernel
theorem dX3_quotient_67 : decode cX3_quotient 67 = .ok (.lload 5, 2) := by decide +kernel
theorem dX3_quotient_69 : decode cX3_quotient 69 = .ok (.lmul, 1) := by decide +kernel
theorem dX3_quotient_70 : decode cX3_quotient 70 = .ok (.lsub, 1) := by decide +kernel
theorem dX3_quotient_71 : decode cX3_quotient 71 = .ok (.lastore, 1) := by decide +kernel
theorem dX3_quotient_72 : decode cX3_quotient 72 = .ok (.lload 5, 2) := by decide +kernel
theorem dX3_quotient_74 : decode cX3_quotient 74 = .ok (.lreturn, 1) := by decide +kernel
set_option maxRecDepth 20000 in
theorem ggX3_longQuotient_X2_isAbove : GoodIn wsX3_longQuotient wsX2_isAbove := goodIn_r _ [4, 5] (by decide +kernel) (by decide +kernel)
set_option maxRecDepth 20000 in
theorem gX3_longQuotient_X2_isAbove_n228 : GoodIn wsX3_longQuotient (wsX2_isAbove) := ggX3_longQuotient_X2_isAbove
theorem dX3_longQuotient_0 : decode cX3_longQuotient 0 = .ok (.lload 5, 2) := by decide +kernel
theorem dX3_longQuotient_2 : decode cX3_longQuotient 2 = .ok (.lload_n 1, 1) := by decide +kernel
theorem dX3_longQuotient_3 : decode cX3_longQuotient 3 = .ok (.invokestatic 228, 3) := by decide +kernel
theorem dX3_longQuotient_6 : decode cX3_longQuotient 6 = .ok (.ifCond .ne 13, 3) := by decide +kernel
theorem dX3_longQuotient_9 : decode cX3_longQuotient 9 = .ok (.aload_n 0, 1) := by decide +kernel
theorem dX3_longQuotient_10 : decode cX3_longQuotient 10 = .ok (.getfield 13, 3) := by decide +kernel
theorem dX3_longQuotient_13 : decode cX3_longQuotient 13 = .ok (.bipush 6, 2) := by decide +kernel
theorem dX3_longQuotient_15 : decode cX3_longQuotient 15 = .ok (.lload_n 3, 1) := by decide +kernel
theorem dX3_longQuotient_16 : decode cX3_longQuotient 16 = .ok (.lastore, 1) := by decide +kernel
theorem dX3_longQuotient_17 : decode cX3_longQuotient 17 = .ok (.lload_n 1, 1) := by decide +kernel
theorem dX3_longQuotient_18 : decode cX3_longQuotient 18 = .ok (.lreturn, 1) := by decide +kernel
theorem dX3_longQuotient_19 : decode cX3_longQuotient 19 = .ok (.lload_n 1, 1) := by decide +kernel
theorem dX3_longQuotient_20 : decode cX3_longQuotient 20 = .ok (.lstore 7, 2) := by decide +kernel
theorem dX3_longQuotient_22 : decode cX3_longQuotient 22 = .ok (.lconst 0, 1) := by decide +kernel
theorem dX3_longQuotient_23 : decode cX3_longQuotient 23 = .ok (.lstore 9, 2) := by decide +kernel
theorem dX3_longQuotient_25 : decode cX3_longQuotient 25 = .ok (.bipush 63, 2) := by decide +kernel
theorem dX3_longQuotient_27 : decode cX3_longQuotient 27 = .ok (.istore 11, 2) := by decide +kernel
theorem dX3_longQuotient_29 : decode cX3_longQuotient 29 = .ok (.iload 11, 2) := by decide +kernel
theorem dX3_longQuotient_31 : decode cX3_longQuotient 31 = .ok (.ifCond .lt 70, 3) := by decide +kernel
theorem dX3_longQuotient_34 : decode cX3_longQuotient 34 = .ok (.lload 7, 2) := by decide +kernel
theorem dX3_longQuotient_36 : decode cX3_longQuotient 36 = .ok (.lconst 0, 1) := by decide +kernel
theorem dX3_longQuotient_37 : decode cX3_longQuotient 37 = .ok (.lcmp, 1) := by decide +kernel
theorem dX3_longQuotient_38 : decode cX3_longQuotient 38 = .ok (.ifCond .ge 7, 3) := by decide +kernel
theorem dX3_longQuotient_41 : decode cX3_longQuotient 41 = .ok (.iconst 1, 1) := by decide +kernel
theorem dX3_longQuotient_42 : decode cX3_longQuotient 42 = .ok (.goto 4, 3) := by decide +kernel
theorem dX3_longQuotient_45 : decode cX3_longQuotient 45 = .ok (.iconst 0, 1) := by decide +kernel
theorem dX3_longQuotient_46 : decode cX3_longQuotient 46 = .ok (.istore 12, 2) := by decide +kernel
theorem dX3_longQuotient_48 : decode cX3_longQuotient 48 = .ok (.lload 7, 2) := by decide +kernel
theorem dX3_longQuotient_50 : decode cX3_longQuotient 50 = .ok (.iconst 1, 1) := by decide +kernel
theorem dX3_longQuotient_51 : decode cX3_longQuotient 51 = .ok (.lshl, 1) := by decide +kernel
theorem dX3_longQuotient_52 : decode cX3_longQuotient 52 = .ok (.lload_n 3, 1) := by decide +kernel
theorem dX3_longQuotient_53 : decode cX3_longQuotient 53 = .ok (.iload 11, 2) := by decide +kernel
theorem dX3_longQuotient_55 : decode cX3_longQuotient 55 = .ok (.lushr, 1) := by decide +kernel
theorem dX3_longQuotient_56 : decode cX3_longQuotient 56 = .ok (.lconst 1, 1) := by decide +kernel
theorem dX3_longQuotient_57 : decode cX3_longQuotient 57 = .ok (.land, 1) := by decide +kernel
theorem dX3_longQuotient_58 : decode cX3_longQuotient 58 = .ok (.lor, 1) := by decide +kernel
theorem dX3_longQuotient_59 : decode cX3_longQuotient 59 = .ok (.lstore 7, 2) := by decide +kernel
theorem dX3_longQuotient_61 : decode cX3_longQuotient 61 = .ok (.lload 9, 2) := by decide +kernel
theorem dX3_longQuotient_63 : decode cX3_longQuotient 63 = .ok (.iconst 1, 1) := by decide +kernel
theorem dX3_longQuotient_64 : decode cX3_longQuotient 64 = .ok (.lshl, 1) := by decide +kernel
theorem dX3_longQuotient_65 : decode cX3_longQuotient 65 = .ok (.lstore 9, 2) := by decide +kernel
theorem dX3_longQuotient_67 : decode cX3_longQuotient 67 = .ok (.iload 12, 2) := by decide +kernel
theorem dX3_longQuotient_69 : decode cX3_longQuotient 69 = .ok (.ifCond .ne 13, 3) := by decide +kernel
theorem dX3_longQuotient_72 : decode cX3_longQuotient 72 = .ok (.lload 5, 2) := by decide +kernel
theorem dX3_longQuotient_74 : decode cX3_longQuotient 74 = .ok (.lload 7, 2) := by decide +kernel
theorem dX3_longQuotient_76 : decode cX3_longQuotient 76 = .ok (.invokestatic 228, 3) := by decide +kernel
theorem dX3_longQuotient_79 : decode cX3_longQuotient 79 = .ok (.ifCond .ne 16, 3) := by decide +kernel
theorem dX3_longQuotient_82 : decode cX3_longQuotient 82 = .ok (.lload 7, 2) := by decide +kernel
theorem dX3_longQuotient_84 : decode cX3_longQuotient 84 = .ok (.lload 5, 2) := by decide +kernel
theorem dX3_longQuotient_86 : decode cX3_longQuotient 86 = .ok (.lsub, 1) := by decide +kernel
theorem dX3_longQuotient_87 : decode cX3_longQuotient 87 = .ok (.lstore 7, 2) := by decide +kernel
theorem dX3_longQuotient_89 : decode cX3_longQuotient 89 = .ok (.lload 9, 2) := by decide +kernel
theorem dX3_longQuotient_91 : decode cX3_longQuotient 91 = .ok (.lconst 1, 1) := by decide +kernel
theorem dX3_longQuotient_92 : decode cX3_longQuotient 92 = .ok (.lor, 1) := by decide +kernel
theorem dX3_longQuotient_93 : decode cX3_longQuotient 93 = .ok (.lstore 9, 2) := by decide +kernel
theorem dX3_longQuotient_95 : decode cX3_longQuotient 95 = .ok (.iinc 11 (-1), 3) := by decide +kernel
theorem dX3_longQuotient_98 : decode cX3_longQuotient 98 = .ok (.goto (-69), 3) := by decide +kernel
theorem dX3_longQuotient_101 : decode cX3_longQuotient 101 = .ok (.aload_n 0, 1) := by decide +kernel
theorem dX3_longQuotient_102 : decode cX3_longQuotient 102 = .ok (.getfield 13, 3) := by decide +kernel
theorem dX3_longQuotient_105 : decode cX3_longQuotient 105 = .ok (.bipush 6, 2) := by decide +kernel
theorem dX3_longQuotient_107 : decode cX3_longQuotient 107 = .ok (.lload 7, 2) := by decide +kernel
theorem dX3_longQuotient_109 : decode cX3_longQuotient 109 = .ok (.lastore, 1) := by decide +kernel
theorem dX3_longQuotient_110 : decode cX3_longQuotient 110 = .ok (.lload 9, 2) := by decide +kernel
theorem dX3_longQuotient_112 : decode cX3_longQuotient 112 = .ok (.lreturn, 1) := by decide +kernel
set_option maxRecDepth 20000 in
theorem ggX3_sumOrDifference_X3_checkedSum : GoodIn wsX3_sumOrDifference wsX3_checkedSum := goodIn_r _ [5, 6, 7, 8, 9, 4, 10, 11, 16, 17, 18, 19, 20, 21, 22, 23, 24, 25, 26, 27] (by decide +kernel) (by decide +kernel)
set_option maxRecDepth 20000 in
theorem gX3_sumOrDifference_X3_checkedSum : GoodIn wsX3_sumOrDifference (wsV RX3 232 RX3 yX3_checkedSum wsX3_checkedSum) := goodIn_app (goodIn_of _ (by decide +kernel)) ggX3_sumOrDifference_X3_checkedSum
set_option maxRecDepth 20000 in
theorem ggX3_sumOrDifference_X3_checkedDifference : GoodIn wsX3_sumOrDifference wsX3_checkedDifference := goodIn_r _ [15, 6, 7, 8, 9, 4, 10, 11, 16, 17, 18, 19, 20, 21, 22, 23, 24, 25, 26, 27] (by decide +kernel) (by decide +kernel)
set_option maxRecDepth 20000 in
theorem gX3_sumOrDifference_X3_checkedDifference : GoodIn wsX3_sumOrDifference (wsV RX3 235 RX3 yX3_checkedDifference wsX3_checkedDifference) := goodIn_app (goodIn_of _ (by decide +kernel)) ggX3_sumOrDifference_X3_checkedDifference
theorem dX3_sumOrDifference_0 : decode cX3_sumOrDifference 0 = .ok (.iload_n 1, 1) := by decide +kernel
theorem dX3_sumOrDifference_1 : decode cX3_sumOrDifference 1 = .ok (.sipush 254, 3) := by decide +kernel
theorem dX3_sumOrDifference_4 : decode cX3_sumOrDifference 4 = .ok (.iand, 1) := by decide +kernel
theorem dX3_sumOrDifference_5 : decode cX3_sumOrDifference 5 = .ok (.tableswitch 114 32 44 #[67, 114, 75, 114, 80, 114, 88, 114, 93, 114, 100, 114, 107], 67) := by decide +kernel
theorem dX3_sumOrDifference_72 : decode cX3_sumOrDifference 72 = .ok (.aload_n 0, 1) := by decide +kernel
theorem dX3_sumOrDifference_73 : decode cX3_sumOrDifference 73 = .ok (.lload_n 2, 1) := by decide +kernel
theorem dX3_sumOrDifference_74 : decode cX3_sumOrDifference 74 = .ok (.lload 4, 2) := by decide +kernel
theorem dX3_sumOrDifference_76 : decode cX3_sumOrDifference 76 = .ok (.invokevirtual 232, 3) := by decide +kernel
theorem dX3_sumOrDifference_79 : decode cX3_sumOrDifference 79 = .ok (.lreturn, 1) := by decide +kernel
theorem dX3_sumOrDifference_80 : decode cX3_sumOrDifference 80 = .ok (.lload_n 2, 1) := by decide +kernel
theorem dX3_sumOrDifference_81 : decode cX3_sumOrDifference 81 = .ok (.lload 4, 2) := by decide +kernel
theorem dX3_sumOrDifference_83 : decode cX3_sumOrDifference 83 = .ok (.ladd, 1) := by decide +kernel
theorem dX3_sumOrDifference_84 : decode cX3_sumOrDifference 84 = .ok (.lreturn, 1) := by decide +kernel
theorem dX3_sumOrDifference_85 : decode cX3_sumOrDifference 85 = .ok (.aload_n 0, 1) := by decide +kernel
theorem dX3_sumOrDifference_86 : decode cX3_sumOrDifference 86 = .ok (.lload_n 2, 1) := by decide +kernel
theorem dX3_sumOrDifference_87 : decode cX3_sumOrDifference 87 = .ok (.lload 4, 2) := by decide +kernel
theorem dX3_sumOrDifference_89 : decode cX3_sumOrDifference 89 = .ok (.invokevirtual 235, 3) := by decide +kernel
theorem dX3_sumOrDifference_92 : decode cX3_sumOrDifference 92 = .ok (.lreturn, 1) := by decide +kernel
theorem dX3_sumOrDifference_93 : decode cX3_sumOrDifference 93 = .ok (.lload_n 2, 1) := by decide +kernel
theorem dX3_sumOrDifference_94 : decode cX3_sumOrDifference 94 = .ok (.lload 4, 2) := by decide +kernel
theorem dX3_sumOrDifference_96 : decode cX3_sumOrDifference 96 = .ok (.lsub, 1) := by decide +kernel
theorem dX3_sumOrDifference_97 : decode cX3_sumOrDifference 97 = .ok (.lreturn, 1) := by decide +kernel
theorem dX3_sumOrDifference_98 : decode cX3_sumOrDifference 98 = .ok (.lload_n 2, 1) := by decide +kernel
theorem dX3_sumOrDifference_99 : decode cX3_sumOrDifference 99 = .ok (.iconst 1, 1) := by decide +kernel
theorem dX3_sumOrDifference_100 : decode cX3_sumOrDifference 100 = .ok (.lshl, 1) := by decide +kernel
theorem dX3_sumOrDifference_101 : decode cX3_sumOrDifference 101 = .ok (.lload 4, 2) := by decide +kernel
theorem dX3_sumOrDifference_103 : decode cX3_sumOrDifference 103 = .ok (.ladd, 1) := by decide +kernel
theorem dX3_sumOrDifference_104 : decode cX3_sumOrDifference 104 = .ok (.lreturn, 1) := by decide +kernel
theorem dX3_sumOrDifference_105 : decode cX3_sumOrDifference 105 = .ok (.lload_n 2, 1) := by decide +kernel
theorem dX3_sumOrDifference_106 : decode cX3_sumOrDifference 106 = .ok (.iconst 2, 1) := by decide +kernel
theorem dX3_sumOrDifference_107 : decode cX3_sumOrDifference 107 = .ok (.lshl, 1) := by decide +kernel
theorem dX3_sumOrDifference_108 : decode cX3_sumOrDifference 108 = .ok (.lload 4, 2) := by decide +kernel
theorem dX3_sumOrDifference_110 : decode cX3_sumOrDifference 110 = .ok (.ladd, 1) := by decide +kernel
theorem dX3_sumOrDifference_111 : decode cX3_sumOrDifference 111 = .ok (.lreturn, 1) := by decide +kernel
theorem dX3_sumOrDifference_112 : decode cX3_sumOrDifference 112 = .ok (.lload_n 2, 1) := by decide +kernel
theorem dX3_sumOrDifference_113 : decode cX3_sumOrDifference 113 = .ok (.iconst 3, 1) := by decide +kernel
theorem dX3_sumOrDifference_114 : decode cX3_sumOrDifference 114 = .ok (.lshl, 1) := by decide +kernel
theorem dX3_sumOrDifference_115 : decode cX3_sumOrDifference 115 = .ok (.lload 4, 2) := by decide +kernel
theorem dX3_sumOrDifference_117 : decode cX3_sumOrDifference 117 = .ok (.ladd, 1) := by decide +kernel
theorem dX3_sumOrDifference_118 : decode cX3_sumOrDifference 118 = .ok (.lreturn, 1) := by decide +kernel
theorem dX3_sumOrDifference_119 : decode cX3_sumOrDifference 119 = .ok (.lload_n 2, 1) := by decide +kernel
theorem dX3_sumOrDifference_120 : decode cX3_sumOrDifference 120 = .ok (.iconst 4, 1) := by decide +kernel
theorem dX3_sumOrDifference_121 : decode cX3_sumOrDifference 121 = .ok (.lshl, 1) := by decide +kernel
theorem dX3_sumOrDifference_122 : decode cX3_sumOrDifference 122 = .ok (.lload 4, 2) := by decide +kernel
theorem dX3_sumOrDifference_124 : decode cX3_sumOrDifference 124 = .ok (.ladd, 1) := by decide +kernel
theorem dX3_sumOrDifference_125 : decode cX3_sumOrDifference 125 = .ok (.lreturn, 1) := by decide +kernel
set_option maxRecDepth 20000 in
theorem ggX3_checkedSum_X3_raise : GoodIn wsX3_checkedSum wsX3_raise := goodIn_r _ [6, 7, 8, 9, 10, 11, 12, 13, 14, 15, 16, 17, 18, 19] (by decide +kernel) (by decide +kernel)
set_option maxRecDepth 20000 in
theorem gX3_checkedSum_X3_raise : GoodIn wsX3_checkedSum (wsV RX3 205 RX3 yX3_raise wsX3_raise) := goodIn_app (goodIn_of _ (by decide +kernel)) ggX3_checkedSum_X3_raise
theorem dX3_checkedSum_0 : decode cX3_checkedSum 0 = .ok (.lload_n 1, 1) := by decide +kernel
theorem dX3_checkedSum_1 : decode cX3_checkedSum 1 = .ok (.lload_n 3, 1) := by decide +kernel
theorem dX3_checkedSum_2 : decode cX3_checkedSum 2 = .ok (.ladd, 1) := by decide +kernel
theorem dX3_checkedSum_3 : decode cX3_checkedSum 3 = .ok (.lstore 5, 2) := by decide +kernel
theorem dX3_checkedSum_5 : decode cX3_checkedSum 5 = .ok (.aload_n 0, 1) := by decide +kernel
theorem dX3_checkedSum_6 : decode cX3_checkedSum 6 = .ok (.ldc2_w 199, 3) := by decide +kernel
theorem dX3_checkedSum_9 : decode cX3_checkedSum 9 = .ok (.lload 5, 2) := by decide +kernel
theorem dX3_checkedSum_11 : decode cX3_checkedSum 11 = .ok (.lload_n 1, 1) := by decide +kernel
theorem dX3_checkedSum_12 : decode cX3_checkedSum 12 = .ok (.lxor, 1) := by decide +kernel
theorem dX3_checkedSum_13 : decode cX3_checkedSum 13 = .ok (.lload 5, 2) := by decide +kernel
theorem dX3_checkedSum_15 : decode cX3_checkedSum 15 = .ok (.lload_n 3, 1) := by decide +kernel
theorem dX3_checkedSum_16 : decode cX3_checkedSum 16 = .ok (.lxor, 1) := by decide +kernel
theorem dX3_checkedSum_17 : decode cX3_checkedSum 17 = .ok (.land, 1) := by decide +kernel
theorem dX3_checkedSum_18 : decode cX3_checkedSum 18 = .ok (.lconst 0, 1) := by decide +kernel
theorem dX3_checkedSum_19 : decode cX3_checkedSum 19 = .ok (.lcmp, 1) := by decide +kernel
theorem dX3_checkedSum_20 : decode cX3_checkedSum 20 = .ok (.ifCond .ge 7, 3) := by decide +kernel
theorem dX3_checkedSum_23 : decode cX3_checkedSum 23 = .ok (.iconst 1, 1) := by decide +kernel
theorem dX3_checkedSum_24 : decode cX3_checkedSum 24 = .ok (.goto 4, 3) := by decide +kernel
theorem dX3_checkedSum_27 : decode cX3_checkedSum 27 = .ok (.iconst 0, 1) := by decide +kernel
theorem dX3_checkedSum_28 : decode cX3_checkedSum 28 = .ok (.invokevirtual 205, 3) := by decide +kernel
theorem dX3_checkedSum_31 : decode cX3_checkedSum 31 = .ok (.lload 5, 2) := by decide +kernel
theorem dX3_checkedSum_33 : decode cX3_checkedSum 33 = .ok (.lreturn, 1) := by decide +kernel
set_option maxRecDepth 20000 in
theorem ggX3_checkedDifference_X3_raise : GoodIn wsX3_checkedDifference wsX3_raise := goodIn_r _ [6, 7, 8, 9, 10, 11, 12, 13, 14, 15, 16, 17, 18, 19] (by decide +kernel) (by decide +kernel)
set_option maxRecDepth 20000 in
theorem gX3_checkedDifference_X3_raise : GoodIn wsX3_checkedDifference (wsV RX3 205 RX3 yX3_raise wsX3_raise) := goodIn_app (goodIn_of _ (by decide +kernel)) ggX3_checkedDifference_X3_raise
theorem dX3_checkedDifference_0 : decode cX3_checkedDifference 0 = .ok (.lload_n 1, 1) := by decide +kernel
theorem dX3_checkedDifference_1 : decode cX3_checkedDifference 1 = .ok (.lload_n 3, 1) := by decide +kernel
theorem dX3_checkedDifference_2 : decode cX3_checkedDifference 2 = .ok (.lsub, 1) := by decide +kernel
theorem dX3_checkedDifference_3 : decode cX3_checkedDifference 3 = .ok (.lstore 5, 2) := by decide +kernel
theorem dX3_checkedDifference_5 : decode cX3_checkedDifference 5 = .ok (.aload_n 0, 1) := by decide +kernel
theorem dX3_checkedDifference_6 : decode cX3_checkedDifference 6 = .ok (.ldc2_w 199, 3) := by decide +kernel
theorem dX3_checkedDifference_9 : decode cX3_checkedDifference 9 = .ok (.lload_n 1, 1) := by decide +kernel
theorem dX3_checkedDifference_10 : decode cX3_checkedDifference 10 = .ok (.lload_n 3, 1) := by decide +kernel
theorem dX3_checkedDifference_11 : decode cX3_checkedDifference 11 = .ok (.lxor, 1) := by decide +kernel
theorem dX3_checkedDifference_12 : decode cX3_checkedDifference 12 = .ok (.lload_n 1, 1) := by decide +kernel
theorem dX3_checkedDifference_13 : decode cX3_checkedDifference 13 = .ok (.lload 5, 2) := by decide +kernel
theorem dX3_checkedDifference_15 : decode cX3_checkedDifference 15 = .ok (.lxor, 1) := by decide +kernel
theorem dX3_checkedDifference_16 : decode cX3_checkedDifference 16 = .ok (.land, 1) := by decide +kernel
theorem dX3_checkedDifference_17 : decode cX3_checkedDifference 17 = .ok (.lconst 0, 1) := by decide +kernel
theorem dX3_checkedDifference_18 : decode cX3_checkedDifference 18 = .ok (.lcmp, 1) := by decide +kernel
theorem dX3_checkedDifference_19 : decode cX3_checkedDifference 19 = .ok (.ifCond .ge 7, 3) := by decide +kernel
theorem dX3_checkedDifference_22 : decode cX3_checkedDifference 22 = .ok (.iconst 1, 1) := by decide +kernel
theorem dX3_checkedDifference_23 : decode cX3_checkedDifference 23 = .ok (.goto 4, 3) := by decide +kernel
theorem dX3_checkedDifference_26 : decode cX3_checkedDifference 26 = .ok (.iconst 0, 1) := by decide +kernel
theorem dX3_checkedDifference_27 : decode cX3_checkedDifference 27 = .ok (.invokevirtual 205, 3) := by decide +kernel
theorem dX3_checkedDifference_30 : decode cX3_checkedDifference 30 = .ok (.lload 5, 2) := by decide +kernel
theorem dX3_checkedDifference_32 : decode cX3_checkedDifference 32 = .ok (.lreturn, 1) := by decide +kernel
set_option maxRecDepth 20000 in
theorem ggX3_comparedOrShifted_X3_opOf : GoodIn wsX3_comparedOrShifted wsX3_opOf := goodIn_r _ [5] (by decide +kernel) (by decide +kernel)
set_option maxRecDepth 20000 in
theorem gX3_comparedOrShifted_X3_opOf : GoodIn wsX3_comparedOrShifted (va_wsS RX3 124 yX3_opOf wsX3_opOf) := goodIn_app (goodIn_of _ (by decide +kernel)) ggX3_comparedOrShifted_X3_opOf
set_option maxRecDepth 20000 in
theorem ggX3_comparedOrShifted_X2_isAbove : GoodIn wsX3_comparedOrShifted wsX2_isAbove := goodIn_r _ [8, 9] (by decide +kernel) (by decide +kernel)
set_option maxRecDepth 20000 in
theorem gX3_comparedOrShifted_X2_isAbove_n228 : GoodIn wsX3_comparedOrShifted (wsX2_isAbove) := ggX3_comparedOrShifted_X2_isAbove
set_option maxRecDepth 20000 in
theorem ggX3_comparedOrShifted_X3_byteY : GoodIn wsX3_comparedOrShifted wsX3_byteY := goodIn_r _ [12] (by decide +kernel) (by decide +kernel)
set_option maxRecDepth 20000 in
theorem gX3_comparedOrShifted_X3_byteY : GoodIn wsX3_comparedOrShifted (va_wsS RX3 117 yX3_byteY wsX3_byteY) := goodIn_app (goodIn_of _ (by decide +kernel)) ggX3_comparedOrShifted_X3_byteY
set_option maxRecDepth 20000 in
theorem ggX3_comparedOrShifted_X3_checkedDifference : GoodIn wsX3_comparedOrShifted wsX3_checkedDifference := goodIn_r _ [16, 17, 18, 19, 20, 4, 21, 22, 37, 38, 39, 40, 41, 42, 43, 44, 45, 46, 47, 48] (by decide +kernel) (by decide +kernel)
set_option maxRecDepth 20000 in
theorem gX3_comparedOrShifted_X3_checkedDifference : GoodIn wsX3_comparedOrShifted (wsV RX3 235 RX3 yX3_checkedDifference wsX3_checkedDifference) := goodIn_app (goodIn_of _ (by decide +kernel)) ggX3_comparedOrShifted_X3_checkedDifference
set_option maxRecDepth 20000 in
theorem ggX3_comparedOrShifted_X3_checkedShift : GoodIn wsX3_comparedOrShifted wsX3_checkedShift := goodIn_r _ [26, 17, 27, 7, 28, 29, 30, 31, 32, 33, 34, 18, 19, 20, 4, 21, 22, 37, 38, 39, 40, 41, 42, 43, 44, 45, 46, 47, 48] (by decide +kernel) (by decide +kernel)
set_option maxRecDepth 20000 in
theorem gX3_comparedOrShifted_X3_checkedShift : GoodIn wsX3_comparedOrShifted (wsV RX3 238 RX3 yX3_checkedShift wsX3_checkedShift) := goodIn_app (goodIn_of _ (by decide +kernel)) ggX3_comparedOrShifted_X3_checkedShift
set_option maxRecDepth 20000 in
theorem ggX3_comparedOrShifted_X2_shiftLeft : GoodIn wsX3_comparedOrShifted wsX2_shiftLeft := goodIn_r _ [28, 29, 30, 7, 31, 32] (by decide +kernel) (by decide +kernel)
set_option maxRecDepth 20000 in
theorem gX3_comparedOrShifted_X2_shiftLeft_n241 : GoodIn wsX3_comparedOrShifted (wsX2_shiftLeft) := ggX3_comparedOrShifted_X2_shiftLeft
set_option maxRecDepth 20000 in
theorem ggX3_comparedOrShifted_X2_shiftRight : GoodIn wsX3_comparedOrShifted wsX2_shiftRight := goodIn_r _ [34, 29, 30, 7, 31, 32] (by decide +kernel) (by decide +kernel)
set_option maxRecDepth 20000 in
theorem gX3_comparedOrShifted_X2_shiftRight_n244 : GoodIn wsX3_comparedOrShifted (wsX2_shiftRight) := ggX3_comparedOrShifted_X2_shiftRight
set_option maxRecDepth 20000 in
theorem ggX3_comparedOrShifted_X2_shiftRightUnsigned : GoodIn wsX3_comparedOrShifted wsX2_shiftRightUnsigned := goodIn_r _ [36, 29, 30, 7, 31, 32] (by decide +kernel) (by decide +kernel)
set_option maxRecDepth 20000 in
theorem gX3_comparedOrShifted_X2_shiftRightUnsigned_n247 : GoodIn wsX3_comparedOrShifted (wsX2_shiftRightUnsigned) := ggX3_comparedOrShifted_X2_shiftRightUnsigned
theorem dX3_comparedOrShifted_0 : decode cX3_comparedOrShifted 0 = .ok (.iload_n 1, 1) := by decide +kernel
theorem dX3_comparedOrShifted_1 : decode cX3_comparedOrShifted 1 = .ok (.invokestatic 124, 3) := by decide +kernel
theorem dX3_comparedOrShifted_4 : decode cX3_comparedOrShifted 4 = .ok (.sipush 254, 3) := by decide +kernel
theorem dX3_comparedOrShifted_7 : decode cX3_comparedOrShifted 7 = .ok (.iand, 1) := by decide +kernel
theorem dX3_comparedOrShifted_8 : decode cX3_comparedOrShifted 8 = .ok (.tableswitch 167 48 60 #[68, 167, 94, 167, 124, 167, 136, 167, 145, 167, 153, 167, 160], 68) := by decide +kernel
theorem dX3_comparedOrShifted_76 : decode cX3_comparedOrShifted 76 = .ok (.lload_n 2, 1) := by decide +kernel
theorem dX3_comparedOrShifted_77 : decode cX3_comparedOrShifted 77 = .ok (.lload 4, 2) := by decide +kernel
theorem dX3_comparedOrShifted_79 : decode cX3_comparedOrShifted 79 = .ok (.lcmp, 1) := by decide +kernel
theorem dX3_comparedOrShifted_80 : decode cX3_comparedOrShifted 80 = .ok (.ifCond .ge 9, 3) := by decide +kernel
theorem dX3_comparedOrShifted_83 : decode cX3_comparedOrShifted 83 = .ok (.ldc2_w 104, 3) := by decide +kernel
theorem dX3_comparedOrShifted_86 : decode cX3_comparedOrShifted 86 = .ok (.goto 15, 3) := by decide +kernel
theorem dX3_comparedOrShifted_89 : decode cX3_comparedOrShifted 89 = .ok (.lload_n 2, 1) := by decide +kernel
theorem dX3_comparedOrShifted_90 : decode cX3_comparedOrShifted 90 = .ok (.lload 4, 2) := by decide +kernel
theorem dX3_comparedOrShifted_92 : decode cX3_comparedOrShifted 92 = .ok (.lcmp, 1) := by decide +kernel
theorem dX3_comparedOrShifted_93 : decode cX3_comparedOrShifted 93 = .ok (.ifCond .le 7, 3) := by decide +kernel
theorem dX3_comparedOrShifted_96 : decode cX3_comparedOrShifted 96 = .ok (.lconst 1, 1) := by decide +kernel
theorem dX3_comparedOrShifted_97 : decode cX3_comparedOrShifted 97 = .ok (.goto 4, 3) := by decide +kernel
theorem dX3_comparedOrShifted_100 : decode cX3_comparedOrShifted 100 = .ok (.lconst 0, 1) := by decide +kernel
theorem dX3_comparedOrShifted_101 : decode cX3_comparedOrShifted 101 = .ok (.lreturn, 1) := by decide +kernel
theorem dX3_comparedOrShifted_102 : decode cX3_comparedOrShifted 102 = .ok (.lload 4, 2) := by decide +kernel
theorem dX3_comparedOrShifted_104 : decode cX3_comparedOrShifted 104 = .ok (.lload_n 2, 1) := by decide +kernel
theorem dX3_comparedOrShifted_105 : decode cX3_comparedOrShifted 105 = .ok (.invokestatic 228, 3) := by decide +kernel
theorem dX3_comparedOrShifted_108 : decode cX3_comparedOrShifted 108 = .ok (.ifCond .eq 9, 3) := by decide +kernel
theorem dX3_comparedOrShifted_111 : decode cX3_comparedOrShifted 111 = .ok (.ldc2_w 104, 3) := by decide +kernel
theorem dX3_comparedOrShifted_114 : decode cX3_comparedOrShifted 114 = .ok (.goto 17, 3) := by decide +kernel
theorem dX3_comparedOrShifted_117 : decode cX3_comparedOrShifted 117 = .ok (.lload_n 2, 1) := by decide +kernel
theorem dX3_comparedOrShifted_118 : decode cX3_comparedOrShifted 118 = .ok (.lload 4, 2) := by decide +kernel
theorem dX3_comparedOrShifted_120 : decode cX3_comparedOrShifted 120 = .ok (.invokestatic 228, 3) := by decide +kernel
theorem dX3_comparedOrShifted_123 : decode cX3_comparedOrShifted 123 = .ok (.ifCond .eq 7, 3) := by decide +kernel
theorem dX3_comparedOrShifted_126 : decode cX3_comparedOrShifted 126 = .ok (.lconst 1, 1) := by decide +kernel
theorem dX3_comparedOrShifted_127 : decode cX3_comparedOrShifted 127 = .ok (.goto 4, 3) := by decide +kernel
theorem dX3_comparedOrShifted_130 : decode cX3_comparedOrShifted 130 = .ok (.lconst 0, 1) := by decide +kernel
theorem dX3_comparedOrShifted_131 : decode cX3_comparedOrShifted 131 = .ok (.lreturn, 1) := by decide +kernel
theorem dX3_comparedOrShifted_132 : decode cX3_comparedOrShifted 132 = .ok (.aload_n 0, 1) := by decide +kernel
theorem dX3_comparedOrShifted_133 : decode cX3_comparedOrShifted 133 = .ok (.iload_n 1, 1) := by decide +kernel
theorem dX3_comparedOrShifted_134 : decode cX3_comparedOrShifted 134 = .ok (.invokestatic 117, 3) := by decide +kernel
theorem dX3_comparedOrShifted_137 : decode cX3_comparedOrShifted 137 = .ok (.i2l, 1) := by decide +kernel
theorem dX3_comparedOrShifted_138 : decode cX3_comparedOrShifted 138 = .ok (.lload 4, 2) := by decide +kernel
theorem dX3_comparedOrShifted_140 : decode cX3_comparedOrShifted 140 = .ok (.invokevirtual 235, 3) := by decide +kernel
theorem dX3_comparedOrShifted_143 : decode cX3_comparedOrShifted 143 = .ok (.lreturn, 1) := by decide +kernel
theorem dX3_comparedOrShifted_144 : decode cX3_comparedOrShifted 144 = .ok (.iload_n 1, 1) := by decide +kernel
theorem dX3_comparedOrShifted_145 : decode cX3_comparedOrShifted 145 = .ok (.invokestatic 117, 3) := by decide +kernel
theorem dX3_comparedOrShifted_148 : decode cX3_comparedOrShifted 148 = .ok (.i2l, 1) := by decide +kernel
theorem dX3_comparedOrShifted_149 : decode cX3_comparedOrShifted 149 = .ok (.lload 4, 2) := by decide +kernel
theorem dX3_comparedOrShifted_151 : decode cX3_comparedOrShifted 151 = .ok (.lsub, 1) := by decide +kernel
theorem dX3_comparedOrShifted_152 : decode cX3_comparedOrShifted 152 = .ok (.lreturn, 1) := by decide +kernel
theorem dX3_comparedOrShifted_153 : decode cX3_comparedOrShifted 153 = .ok (.aload_n 0, 1) := by decide +kernel
theorem dX3_comparedOrShifted_154 : decode cX3_comparedOrShifted 154 = .ok (.lload_n 2, 1) := by decide +kernel
theorem dX3_comparedOrShifted_155 : decode cX3_comparedOrShifted 155 = .ok (.lload 4, 2) := by decide +kernel
theorem dX3_comparedOrShifted_157 : decode cX3_comparedOrShifted 157 = .ok (.invokevirtual 238, 3) := by decide +kernel
theorem dX3_comparedOrShifted_160 : decode cX3_comparedOrShifted 160 = .ok (.lreturn, 1) := by decide +kernel
theorem dX3_comparedOrShifted_161 : decode cX3_comparedOrShifted 161 = .ok (.lload_n 2, 1) := by decide +kernel
theorem dX3_comparedOrShifted_162 : decode cX3_comparedOrShifted 162 = .ok (.lload 4, 2) := by decide +kernel
theorem dX3_comparedOrShifted_164 : decode cX3_comparedOrShifted 164 = .ok (.invokestatic 241, 3) := by decide +kernel
theorem dX3_comparedOrShifted_167 : decode cX3_comparedOrShifted 167 = .ok (.lreturn, 1) := by decide +kernel
theorem dX3_comparedOrShifted_168 : decode cX3_comparedOrShifted 168 = .ok (.lload_n 2, 1) := by decide +kernel
theorem dX3_comparedOrShifted_169 : decode cX3_comparedOrShifted 169 = .ok (.lload 4, 2) := by decide +kernel
theorem dX3_comparedOrShifted_171 : decode cX3_comparedOrShifted 171 = .ok (.invokestatic 244, 3) := by decide +kernel
theorem dX3_comparedOrShifted_174 : decode cX3_comparedOrShifted 174 = .ok (.lreturn, 1) := by decide +kernel
theorem dX3_comparedOrShifted_175 : decode cX3_comparedOrShifted 175 = .ok (.lload_n 2, 1) := by decide +kernel
theorem dX3_comparedOrShifted_176 : decode cX3_comparedOrShifted 176 = .ok (.lload 4, 2) := by decide +kernel
theorem dX3_comparedOrShifted_178 : decode cX3_comparedOrShifted 178 = .ok (.invokestatic 247, 3) := by decide +kernel
theorem dX3_comparedOrShifted_181 : decode cX3_comparedOrShifted 181 = .ok (.lreturn, 1) := by decide +kernel
set_option maxRecDepth 20000 in
theorem ggX3_checkedShift_X2_shiftLeft : GoodIn wsX3_checkedShift wsX2_shiftLeft := goodIn_r _ [4, 5, 6, 3, 7, 8] (by decide +kernel) (by decide +kernel)
set_option maxRecDepth 20000 in
theorem gX3_checkedShift_X2_shiftLeft_n241 : GoodIn wsX3_checkedShift (wsX2_shiftLeft) := ggX3_checkedShift_X2_shiftLeft
set_option maxRecDepth 20000 in
theorem ggX3_checkedShift_X2_shiftRight : GoodIn wsX3_checkedShift wsX2_shiftRight := goodIn_r _ [10, 5, 6, 3, 7, 8] (by decide +kernel) (by decide +kernel)
set_option maxRecDepth 20000 in
theorem gX3_checkedShift_X2_shiftRight_n244 : GoodIn wsX3_checkedShift (wsX2_shiftRight) := ggX3_checkedShift_X2_shiftRight
set_option maxRecDepth 20000 in
theorem ggX3_checkedShift_X3_raise : GoodIn wsX3_checkedShift wsX3_raise := goodIn_r _ [15, 16, 17, 18, 19, 20, 21, 22, 23, 24, 25, 26, 27, 28] (by decide +kernel) (by decide +kernel)
set_option maxRecDepth 20000 in
theorem gX3_checkedShift_X3_raise : GoodIn wsX3_checkedShift (wsV RX3 205 RX3 yX3_raise wsX3_raise) := goodIn_app (goodIn_of _ (by decide +kernel)) ggX3_checkedShift_X3_raise
theorem dX3_checkedShift_0 : decode cX3_checkedShift 0 = .ok (.lload_n 1, 1) := by decide +kernel
theorem dX3_checkedShift_1 : decode cX3_checkedShift 1 = .ok (.lload_n 3, 1) := by decide +kernel
theorem dX3_checkedShift_2 : decode cX3_checkedShift 2 = .ok (.invokestatic 241, 3) := by decide +kernel
theorem dX3_checkedShift_5 : decode cX3_checkedShift 5 = .ok (.lstore 5, 2) := by decide +kernel
theorem dX3_checkedShift_7 : decode cX3_checkedShift 7 = .ok (.aload_n 0, 1) := by decide +kernel
theorem dX3_checkedShift_8 : decode cX3_checkedShift 8 = .ok (.ldc2_w 199, 3) := by decide +kernel
theorem dX3_checkedShift_11 : decode cX3_checkedShift 11 = .ok (.lload 5, 2) := by decide +kernel
theorem dX3_checkedShift_13 : decode cX3_checkedShift 13 = .ok (.lload_n 3, 1) := by decide +kernel
theorem dX3_checkedShift_14 : decode cX3_checkedShift 14 = .ok (.invokestatic 244, 3) := by decide +kernel
theorem dX3_checkedShift_17 : decode cX3_checkedShift 17 = .ok (.lload_n 1, 1) := by decide +kernel
theorem dX3_checkedShift_18 : decode cX3_checkedShift 18 = .ok (.lcmp, 1) := by decide +kernel
theorem dX3_checkedShift_19 : decode cX3_checkedShift 19 = .ok (.ifCond .eq 7, 3) := by decide +kernel
theorem dX3_checkedShift_22 : decode cX3_checkedShift 22 = .ok (.iconst 1, 1) := by decide +kernel
theorem dX3_checkedShift_23 : decode cX3_checkedShift 23 = .ok (.goto 4, 3) := by decide +kernel
theorem dX3_checkedShift_26 : decode cX3_checkedShift 26 = .ok (.iconst 0, 1) := by decide +kernel
theorem dX3_checkedShift_27 : decode cX3_checkedShift 27 = .ok (.invokevirtual 205, 3) := by decide +kernel
theorem dX3_checkedShift_30 : decode cX3_checkedShift 30 = .ok (.lload 5, 2) := by decide +kernel
theorem dX3_checkedShift_32 : decode cX3_checkedShift 32 = .ok (.lreturn, 1) := by decide +kernel
theorem dX3_holds_0 : decode cX3_holds 0 = .ok (.iload_n 0, 1) := by decide +kernel
theorem dX3_holds_1 : decode cX3_holds 1 = .ok (.iconst 1, 1) := by decide +kernel
theorem dX3_holds_2 : decode cX3_holds 2 = .ok (.ishr, 1) := by decide +kernel
theorem dX3_holds_3 : decode cX3_holds 3 = .ok (.bipush 7, 2) := by decide +kernel
theorem dX3_holds_5 : decode cX3_holds 5 = .ok (.iand, 1) := by decide +kernel
theorem dX3_holds_6 : decode cX3_holds 6 = .ok (.tableswitch 128 0 6 #[42, 54, 66, 78, 92, 104, 116], 42) := by decide +kernel
theorem dX3_holds_48 : decode cX3_holds 48 = .ok (.lload_n 1, 1) := by decide +kernel
theorem dX3_holds_49 : decode cX3_holds 49 = .ok (.lconst 0, 1) := by decide +kernel
theorem dX3_holds_50 : decode cX3_holds 50 = .ok (.lcmp, 1) := by decide +kernel
theorem dX3_holds_51 : decode cX3_holds 51 = .ok (.ifCond .ge 7, 3) := by decide +kernel
theorem dX3_holds_54 : decode cX3_holds 54 = .ok (.iconst 1, 1) := by decide +kernel
theorem dX3_holds_55 : decode cX3_holds 55 = .ok (.goto 4, 3) := by decide +kernel
theorem dX3_holds_58 : decode cX3_holds 58 = .ok (.iconst 0, 1) := by decide +kernel
theorem dX3_holds_59 : decode cX3_holds 59 = .ok (.ireturn, 1) := by decide +kernel
theorem dX3_holds_60 : decode cX3_holds 60 = .ok (.lload_n 1, 1) := by decide +kernel
theorem dX3_holds_61 : decode cX3_holds 61 = .ok (.lconst 0, 1) := by decide +kernel
theorem dX3_holds_62 : decode cX3_holds 62 = .ok (.lcmp, 1) := by decide +kernel
theorem dX3_holds_63 : decode cX3_holds 63 = .ok (.ifCond .ne 7, 3) := by decide +kernel
theorem dX3_holds_66 : decode cX3_holds 66 = .ok (.iconst 1, 1) := by decide +kernel
theorem dX3_holds_67 : decode cX3_holds 67 = .ok (.goto 4, 3) := by decide +kernel
theorem dX3_holds_70 : decode cX3_holds 70 = .ok (.iconst 0, 1) := by decide +kernel
theorem dX3_holds_71 : decode cX3_holds 71 = .ok (.ireturn, 1) := by decide +kernel
theorem dX3_holds_72 : decode cX3_holds 72 = .ok (.lload_n 1, 1) := by decide +kernel
theorem dX3_holds_73 : decode cX3_holds 73 = .ok (.lconst 0, 1) := by decide +kernel
theorem dX3_holds_74 : decode cX3_holds 74 = .ok (.lcmp, 1) := by decide +kernel
theorem dX3_holds_75 : decode cX3_holds 75 = .ok (.ifCond .le 7, 3) := by decide +kernel
theorem dX3_holds_78 : decode cX3_holds 78 = .ok (.iconst 1, 1) := by decide +kernel
theorem dX3_holds_79 : decode cX3_holds 79 = .ok (.goto 4, 3) := by decide +kernel
theorem dX3_holds_82 : decode cX3_holds 82 = .ok (.iconst 0, 1) := by decide +kernel
theorem dX3_holds_83 : decode cX3_holds 83 = .ok (.ireturn, 1) := by decide +kernel
theorem dX3_holds_84 : decode cX3_holds 84 = .ok (.lload_n 1, 1) := by decide +kernel
theorem dX3_holds_85 : decode cX3_holds 85 = .ok (.lconst 1, 1) := by decide +kernel
theorem dX3_holds_86 : decode cX3_holds 86 = .ok (.land, 1) := by decide +kernel
theorem dX3_holds_87 : decode cX3_holds 87 = .ok (.lconst 1, 1) := by decide +kernel
theorem dX3_holds_88 : decode cX3_holds 88 = .ok (.lcmp, 1) := by decide +kernel
theorem dX3_holds_89 : decode cX3_holds 89 = .ok (.ifCond .ne 7, 3) := by decide +kernel
theorem dX3_holds_92 : decode cX3_holds 92 = .ok (.iconst 1, 1) := by decide +kernel
theorem dX3_holds_93 : decode cX3_holds 93 = .ok (.goto 4, 3) := by decide +kernel
theorem dX3_holds_96 : decode cX3_holds 96 = .ok (.iconst 0, 1) := by decide +kernel
theorem dX3_holds_97 : decode cX3_holds 97 = .ok (.ireturn, 1) := by decide +kernel
theorem dX3_holds_98 : decode cX3_holds 98 = .ok (.lload_n 1, 1) := by decide +kernel
theorem dX3_holds_99 : decode cX3_holds 99 = .ok (.lconst 0, 1) := by decide +kernel
theorem dX3_holds_100 : decode cX3_holds 100 = .ok (.lcmp, 1) := by decide +kernel
theorem dX3_holds_101 : decode cX3_holds 101 = .ok (.ifCond .lt 7, 3) := by decide +kernel
theorem dX3_holds_104 : decode cX3_holds 104 = .ok (.iconst 1, 1) := by decide +kernel
theorem dX3_holds_105 : decode cX3_holds 105 = .ok (.goto 4, 3) := by decide +kernel
theorem dX3_holds_108 : decode cX3_holds 108 = .ok (.iconst 0, 1) := by decide +kernel
theorem dX3_holds_109 : decode cX3_holds 109 = .ok (.ireturn, 1) := by decide +kernel
theorem dX3_holds_110 : decode cX3_holds 110 = .ok (.lload_n 1, 1) := by decide +kernel
theorem dX3_holds_111 : decode cX3_holds 111 = .ok (.lconst 0, 1) := by decide +kernel
theorem dX3_holds_112 : decode cX3_holds 112 = .ok (.lcmp, 1) := by decide +kernel
theorem dX3_holds_113 : decode cX3_holds 113 = .ok (.ifCond .eq 7, 3) := by decide +kernel
theorem dX3_holds_116 : decode cX3_holds 116 = .ok (.iconst 1, 1) := by decide +kernel
theorem dX3_holds_117 : decode cX3_holds 117 = .ok (.goto 4, 3) := by decide +kernel
theorem dX3_holds_120 : decode cX3_holds 120 = .ok (.iconst 0, 1) := by decide +kernel
theorem dX3_holds_121 : decode cX3_holds 121 = .ok (.ireturn, 1) := by decide +kernel
theorem dX3_holds_122 : decode cX3_holds 122 = .ok (.lload_n 1, 1) := by decide +kernel
theorem dX3_holds_123 : decode cX3_holds 123 = .ok (.lconst 0, 1) := by decide +kernel
theorem dX3_holds_124 : decode cX3_holds 124 = .ok (.lcmp, 1) := by decide +kernel
theorem dX3_holds_125 : decode cX3_holds 125 = .ok (.ifCond .gt 7, 3) := by decide +kernel
theorem dX3_holds_128 : decode cX3_holds 128 = .ok (.iconst 1, 1) := by decide +kernel
theorem dX3_holds_129 : decode cX3_holds 129 = .ok (.goto 4, 3) := by decide +kernel
theorem dX3_holds_132 : decode cX3_holds 132 = .ok (.iconst 0, 1) := by decide +kernel
theorem dX3_holds_133 : decode cX3_holds 133 = .ok (.ireturn, 1) := by decide +kernel
theorem dX3_holds_134 : decode cX3_holds 134 = .ok (.lload_n 1, 1) := by decide +kernel
theorem dX3_holds_135 : decode cX3_holds 135 = .ok (.lconst 1, 1) := by decide +kernel
theorem dX3_holds_136 : decode cX3_holds 136 = .ok (.land, 1) := by decide +kernel
theorem dX3_holds_137 : decode cX3_holds 137 = .ok (.lconst 0, 1) := by decide +kernel
theorem dX3_holds_138 : decode cX3_holds 138 = .ok (.lcmp, 1) := by decide +kernel
theorem dX3_holds_139 : decode cX3_holds 139 = .ok (.ifCond .ne 7, 3) := by decide +kernel
theorem dX3_holds_142 : decode cX3_holds 142 = .ok (.iconst 1, 1) := by decide +kernel
theorem dX3_holds_143 : decode cX3_holds 143 = .ok (.goto 4, 3) := by decide +kernel
theorem dX3_holds_146 : decode cX3_holds 146 = .ok (.iconst 0, 1) := by decide +kernel
theorem dX3_holds_147 : decode cX3_holds 147 = .ok (.ireturn, 1) := by decide +kernel
set_option maxRecDepth 20000 in
theorem ggX3_branch_X3_opOf : GoodIn wsX3_branch wsX3_opOf := goodIn_r _ [8] (by decide +kernel) (by decide +kernel)
set_option maxRecDepth 20000 in
theorem gX3_branch_X3_opOf : GoodIn wsX3_branch (va_wsS RX3 124 yX3_opOf wsX3_opOf) := goodIn_app (goodIn_of _ (by decide +kernel)) ggX3_branch_X3_opOf
set_option maxRecDepth 20000 in
theorem ggX3_branch_X3_byteX : GoodIn wsX3_branch wsX3_byteX := goodIn_r _ [11] (by decide +kernel) (by decide +kernel)
set_option maxRecDepth 20000 in
theorem gX3_branch_X3_byteX : GoodIn wsX3_branch (va_wsS RX3 143 yX3_byteX wsX3_byteX) := goodIn_app (goodIn_of _ (by decide +kernel)) ggX3_branch_X3_byteX
set_option maxRecDepth 20000 in
theorem ggX3_branch_X3_holds : GoodIn wsX3_branch wsX3_holds := goodIn_r _ [14] (by decide +kernel) (by decide +kernel)
set_option maxRecDepth 20000 in
theorem gX3_branch_X3_holds : GoodIn wsX3_branch (va_wsS RX3 250 yX3_holds wsX3_holds) := goodIn_app (goodIn_of _ (by decide +kernel)) ggX3_branch_X3_holds
set_option maxRecDepth 20000 in
theorem ggX3_branch_X3_relative : GoodIn wsX3_branch wsX3_relative := goodIn_r _ [17, 18, 19, 5, 6, 7, 8, 20, 21, 22, 23] (by decide +kernel) (by decide +kernel)
set_option maxRecDepth 20000 in
theorem gX3_branch_X3_relative : GoodIn wsX3_branch (va_wsS RX3 256 yX3_relative wsX3_relative) := goodIn_app (goodIn_of _ (by decide +kernel)) ggX3_branch_X3_relative
theorem dX3_branch_0 : decode cX3_branch 0 = .ok (.iload_n 1, 1) := by decide +kernel
theorem dX3_branch_1 : decode cX3_branch 1 = .ok (.invokestatic 124, 3) := by decide +kernel
theorem dX3_branch_4 : decode cX3_branch 4 = .ok (.istore 4, 2) := by decide +kernel
theorem dX3_branch_6 : decode cX3_branch 6 = .ok (.iload 4, 2) := by decide +kernel
theorem dX3_branch_8 : decode cX3_branch 8 = .ok (.aload_n 0, 1) := by decide +kernel
theorem dX3_branch_9 : decode cX3_branch 9 = .ok (.getfield 9, 3) := by decide +kernel
theorem dX3_branch_12 : decode cX3_branch 12 = .ok (.iload_n 1, 1) := by decide +kernel
theorem dX3_branch_13 : decode cX3_branch 13 = .ok (.invokestatic 143, 3) := by decide +kernel
theorem dX3_branch_16 : decode cX3_branch 16 = .ok (.laload, 1) := by decide +kernel
theorem dX3_branch_17 : decode cX3_branch 17 = .ok (.invokestatic 250, 3) := by decide +kernel
theorem dX3_branch_20 : decode cX3_branch 20 = .ok (.istore 5, 2) := by decide +kernel
theorem dX3_branch_22 : decode cX3_branch 22 = .ok (.iload 4, 2) := by decide +kernel
theorem dX3_branch_24 : decode cX3_branch 24 = .ok (.bipush 80, 2) := by decide +kernel
theorem dX3_branch_26 : decode cX3_branch 26 = .ok (.if_icmp .lt 7, 3) := by decide +kernel
theorem dX3_branch_29 : decode cX3_branch 29 = .ok (.iconst 1, 1) := by decide +kernel
theorem dX3_branch_30 : decode cX3_branch 30 = .ok (.goto 4, 3) := by decide +kernel
theorem dX3_branch_33 : decode cX3_branch 33 = .ok (.iconst 0, 1) := by decide +kernel
theorem dX3_branch_34 : decode cX3_branch 34 = .ok (.istore 6, 2) := by decide +kernel
theorem dX3_branch_36 : decode cX3_branch 36 = .ok (.iload 5, 2) := by decide +kernel
theorem dX3_branch_38 : decode cX3_branch 38 = .ok (.iload 6, 2) := by decide +kernel
theorem dX3_branch_40 : decode cX3_branch 40 = .ok (.if_icmp .eq 15, 3) := by decide +kernel
theorem dX3_branch_43 : decode cX3_branch 43 = .ok (.aload_n 0, 1) := by decide +kernel
theorem dX3_branch_44 : decode cX3_branch 44 = .ok (.dup, 1) := by decide +kernel
theorem dX3_branch_45 : decode cX3_branch 45 = .ok (.getfield 87, 3) := by decide +kernel
theorem dX3_branch_48 : decode cX3_branch 48 = .ok (.ldc2_w 254, 3) := by decide +kernel
theorem dX3_branch_51 : decode cX3_branch 51 = .ok (.ladd, 1) := by decide +kernel
theorem dX3_branch_52 : decode cX3_branch 52 = .ok (.putfield 87, 3) := by decide +kernel
theorem dX3_branch_55 : decode cX3_branch 55 = .ok (.iload 5, 2) := by decide +kernel
theorem dX3_branch_57 : decode cX3_branch 57 = .ok (.ifCond .eq 12, 3) := by decide +kernel
theorem dX3_branch_60 : decode cX3_branch 60 = .ok (.aload_n 0, 1) := by decide +kernel
theorem dX3_branch_61 : decode cX3_branch 61 = .ok (.iload_n 1, 1) := by decide +kernel
theorem dX3_branch_62 : decode cX3_branch 62 = .ok (.lload_n 2, 1) := by decide +kernel
theorem dX3_branch_63 : decode cX3_branch 63 = .ok (.invokestatic 256, 3) := by decide +kernel
theorem dX3_branch_66 : decode cX3_branch 66 = .ok (.putfield 73, 3) := by decide +kernel
theorem dX3_branch_69 : decode cX3_branch 69 = .ok (.return_, 1) := by decide +kernel
set_option maxRecDepth 20000 in
theorem ggX3_relative_X3_opOf : GoodIn wsX3_relative wsX3_opOf := goodIn_r _ [6] (by decide +kernel) (by decide +kernel)
set_option maxRecDepth 20000 in
theorem gX3_relative_X3_opOf : GoodIn wsX3_relative (va_wsS RX3 124 yX3_opOf wsX3_opOf) := goodIn_app (goodIn_of _ (by decide +kernel)) ggX3_relative_X3_opOf
set_option maxRecDepth 20000 in
theorem ggX3_relative_X3_wydeYZ : GoodIn wsX3_relative wsX3_wydeYZ := goodIn_r _ [9, 10] (by decide +kernel) (by decide +kernel)
set_option maxRecDepth 20000 in
theorem gX3_relative_X3_wydeYZ : GoodIn wsX3_relative (va_wsS RX3 260 yX3_wydeYZ wsX3_wydeYZ) := goodIn_app (goodIn_of _ (by decide +kernel)) ggX3_relative_X3_wydeYZ
theorem dX3_relative_0 : decode cX3_relative 0 = .ok (.iload_n 0, 1) := by decide +kernel
theorem dX3_relative_1 : decode cX3_relative 1 = .ok (.invokestatic 124, 3) := by decide +kernel
theorem dX3_relative_4 : decode cX3_relative 4 = .ok (.iconst 1, 1) := by decide +kernel
theorem dX3_relative_5 : decode cX3_relative 5 = .ok (.iand, 1) := by decide +kernel
theorem dX3_relative_6 : decode cX3_relative 6 = .ok (.iconst 1, 1) := by decide +kernel
theorem dX3_relative_7 : decode cX3_relative 7 = .ok (.if_icmp .ne 7, 3) := by decide +kernel
theorem dX3_relative_10 : decode cX3_relative 10 = .ok (.iconst 1, 1) := by decide +kernel
theorem dX3_relative_11 : decode cX3_relative 11 = .ok (.goto 4, 3) := by decide +kernel
theorem dX3_relative_14 : decode cX3_relative 14 = .ok (.iconst 0, 1) := by decide +kernel
theorem dX3_relative_15 : decode cX3_relative 15 = .ok (.istore_n 3, 1) := by decide +kernel
theorem dX3_relative_16 : decode cX3_relative 16 = .ok (.lload_n 1, 1) := by decide +kernel
theorem dX3_relative_17 : decode cX3_relative 17 = .ok (.ldc2_w 152, 3) := by decide +kernel
theorem dX3_relative_20 : decode cX3_relative 20 = .ok (.iload_n 3, 1) := by decide +kernel
theorem dX3_relative_21 : decode cX3_relative 21 = .ok (.ifCond .eq 14, 3) := by decide +kernel
theorem dX3_relative_24 : decode cX3_relative 24 = .ok (.iload_n 0, 1) := by decide +kernel
theorem dX3_relative_25 : decode cX3_relative 25 = .ok (.invokestatic 260, 3) := by decide +kernel
theorem dX3_relative_28 : decode cX3_relative 28 = .ok (.ldc_w 263, 3) := by decide +kernel
theorem dX3_relative_31 : decode cX3_relative 31 = .ok (.isub, 1) := by decide +kernel
theorem dX3_relative_32 : decode cX3_relative 32 = .ok (.goto 7, 3) := by decide +kernel
theorem dX3_relative_35 : decode cX3_relative 35 = .ok (.iload_n 0, 1) := by decide +kernel
theorem dX3_relative_36 : decode cX3_relative 36 = .ok (.invokestatic 260, 3) := by decide +kernel
theorem dX3_relative_39 : decode cX3_relative 39 = .ok (.i2l, 1) := by decide +kernel
theorem dX3_relative_40 : decode cX3_relative 40 = .ok (.lmul, 1) := by decide +kernel
theorem dX3_relative_41 : decode cX3_relative 41 = .ok (.ladd, 1) := by decide +kernel
theorem dX3_relative_42 : decode cX3_relative 42 = .ok (.lreturn, 1) := by decide +kernel
set_option maxRecDepth 20000 in
theorem ggX3_choose_X3_opOf : GoodIn wsX3_choose wsX3_opOf := goodIn_r _ [4] (by decide +kernel) (by decide +kernel)
set_option maxRecDepth 20000 in
theorem gX3_choose_X3_opOf : GoodIn wsX3_choose (va_wsS RX3 124 yX3_opOf wsX3_opOf) := goodIn_app (goodIn_of _ (by decide +kernel)) ggX3_choose_X3_opOf
set_option maxRecDepth 20000 in
theorem ggX3_choose_X3_holds : GoodIn wsX3_choose wsX3_holds := goodIn_r _ [7] (by decide +kernel) (by decide +kernel)
set_option maxRecDepth 20000 in
theorem gX3_choose_X3_holds : GoodIn wsX3_choose (va_wsS RX3 250 yX3_holds wsX3_holds) := goodIn_app (goodIn_of _ (by decide +kernel)) ggX3_choose_X3_holds
set_option maxRecDepth 20000 in
theorem ggX3_choose_X3_writeX : GoodIn wsX3_choose wsX3_writeX := goodIn_r _ [11, 12, 13, 14, 15, 16, 3, 17, 18, 19, 20, 21, 22, 23, 24, 25, 26, 27, 28, 29] (by decide +kernel) (by decide +kernel)
set_option maxRecDepth 20000 in
theorem gX3_choose_X3_writeX : GoodIn wsX3_choose (wsV RX3 162 RX3 yX3_writeX wsX3_writeX) := goodIn_app (goodIn_of _ (by decide +kernel)) ggX3_choose_X3_writeX
theorem dX3_choose_0 : decode cX3_choose 0 = .ok (.iload_n 1, 1) := by decide +kernel
theorem dX3_choose_1 : decode cX3_choose 1 = .ok (.invokestatic 124, 3) := by decide +kernel
theorem dX3_choose_4 : decode cX3_choose 4 = .ok (.bipush 112, 2) := by decide +kernel
theorem dX3_choose_6 : decode cX3_choose 6 = .ok (.if_icmp .lt 7, 3) := by decide +kernel
theorem dX3_choose_9 : decode cX3_choose 9 = .ok (.iconst 1, 1) := by decide +kernel
theorem dX3_choose_10 : decode cX3_choose 10 = .ok (.goto 4, 3) := by decide +kernel
theorem dX3_choose_13 : decode cX3_choose 13 = .ok (.iconst 0, 1) := by decide +kernel
theorem dX3_choose_14 : decode cX3_choose 14 = .ok (.istore 6, 2) := by decide +kernel
theorem dX3_choose_16 : decode cX3_choose 16 = .ok (.iload_n 1, 1) := by decide +kernel
theorem dX3_choose_17 : decode cX3_choose 17 = .ok (.invokestatic 124, 3) := by decide +kernel
theorem dX3_choose_20 : decode cX3_choose 20 = .ok (.lload_n 2, 1) := by decide +kernel
theorem dX3_choose_21 : decode cX3_choose 21 = .ok (.invokestatic 250, 3) := by decide +kernel
theorem dX3_choose_24 : decode cX3_choose 24 = .ok (.ifCond .eq 13, 3) := by decide +kernel
theorem dX3_choose_27 : decode cX3_choose 27 = .ok (.aload_n 0, 1) := by decide +kernel
theorem dX3_choose_28 : decode cX3_choose 28 = .ok (.iload_n 1, 1) := by decide +kernel
theorem dX3_choose_29 : decode cX3_choose 29 = .ok (.lload 4, 2) := by decide +kernel
theorem dX3_choose_31 : decode cX3_choose 31 = .ok (.invokevirtual 162, 3) := by decide +kernel
theorem dX3_choose_34 : decode cX3_choose 34 = .ok (.goto 14, 3) := by decide +kernel
theorem dX3_choose_37 : decode cX3_choose 37 = .ok (.iload 6, 2) := by decide +kernel
theorem dX3_choose_39 : decode cX3_choose 39 = .ok (.ifCond .eq 9, 3) := by decide +kernel
theorem dX3_choose_42 : decode cX3_choose 42 = .ok (.aload_n 0, 1) := by decide +kernel
theorem dX3_choose_43 : decode cX3_choose 43 = .ok (.iload_n 1, 1) := by decide +kernel
theorem dX3_choose_44 : decode cX3_choose 44 = .ok (.lconst 0, 1) := by decide +kernel
theorem dX3_choose_45 : decode cX3_choose 45 = .ok (.invokevirtual 162, 3) := by decide +kernel
theorem dX3_choose_48 : decode cX3_choose 48 = .ok (.return_, 1) := by decide +kernel
theorem dX3_sizeOf_0 : decode cX3_sizeOf 0 = .ok (.iconst 1, 1) := by decide +kernel
theorem dX3_sizeOf_1 : decode cX3_sizeOf 1 = .ok (.iload_n 0, 1) := by decide +kernel
theorem dX3_sizeOf_2 : decode cX3_sizeOf 2 = .ok (.iconst 2, 1) := by decide +kernel
theorem dX3_sizeOf_3 : decode cX3_sizeOf 3 = .ok (.ishr, 1) := by decide +kernel
theorem dX3_sizeOf_4 : decode cX3_sizeOf 4 = .ok (.iconst 3, 1) := by decide +kernel
theorem dX3_sizeOf_5 : decode cX3_sizeOf 5 = .ok (.iand, 1) := by decide +kernel
theorem dX3_sizeOf_6 : decode cX3_sizeOf 6 = .ok (.ishl, 1) := by decide +kernel
theorem dX3_sizeOf_7 : decode cX3_sizeOf 7 = .ok (.ireturn, 1) := by decide +kernel
theorem dX3_isUnsigned_0 : decode cX3_isUnsigned 0 = .ok (.iload_n 0, 1) := by decide +kernel
theorem dX3_isUnsigned_1 : decode cX3_isUnsigned 1 = .ok (.iconst 2, 1) := by decide +kernel
theorem dX3_isUnsigned_2 : decode cX3_isUnsigned 2 = .ok (.iand, 1) := by decide +kernel
theorem dX3_isUnsigned_3 : decode cX3_isUnsigned 3 = .ok (.ifCond .eq 7, 3) := by decide +kernel
theorem dX3_isUnsigned_6 : decode cX3_isUnsigned 6 = .ok (.iconst 1, 1) := by decide +kernel
theorem dX3_isUnsigned_7 : decode cX3_isUnsigned 7 = .ok (.goto 4, 3) := by decide +kernel
theorem dX3_isUnsigned_10 : decode cX3_isUnsigned 10 = .ok (.iconst 0, 1) := by decide +kernel
theorem dX3_isUnsigned_11 : decode cX3_isUnsigned 11 = .ok (.ireturn, 1) := by decide +kernel
set_option maxRecDepth 20000 in
theorem ggX3_loadOrGo_X3_opOf : GoodIn wsX3_loadOrGo wsX3_opOf := goodIn_r _ [8] (by decide +kernel) (by decide +kernel)
set_option maxRecDepth 20000 in
theorem gX3_loadOrGo_X3_opOf : GoodIn wsX3_loadOrGo (va_wsS RX3 124 yX3_opOf wsX3_opOf) := goodIn_app (goodIn_of _ (by decide +kernel)) ggX3_loadOrGo_X3_opOf
set_option maxRecDepth 20000 in
theorem ggX3_loadOrGo_X3_isGo : GoodIn wsX3_loadOrGo wsX3_isGo := goodIn_r _ [11] (by decide +kernel) (by decide +kernel)
set_option maxRecDepth 20000 in
theorem gX3_loadOrGo_X3_isGo : GoodIn wsX3_loadOrGo (va_wsS RX3 146 yX3_isGo wsX3_isGo) := goodIn_app (goodIn_of _ (by decide +kernel)) ggX3_loadOrGo_X3_isGo
set_option maxRecDepth 20000 in
theorem ggX3_loadOrGo_X3_writeX : GoodIn wsX3_loadOrGo wsX3_writeX := goodIn_r _ [15, 16, 17, 18, 19, 20, 7, 21, 46, 47, 48, 49, 50, 51, 52, 53, 54, 55, 56, 57] (by decide +kernel) (by decide +kernel)
set_option maxRecDepth 20000 in
theorem gX3_loadOrGo_X3_writeX : GoodIn wsX3_loadOrGo (wsV RX3 162 RX3 yX3_writeX wsX3_writeX) := goodIn_app (goodIn_of _ (by decide +kernel)) ggX3_loadOrGo_X3_writeX
set_option maxRecDepth 20000 in
theorem ggX3_loadOrGo_X0_load : GoodIn wsX3_loadOrGo wsX0_load := goodIn_r _ [25, 26, 27, 28, 23, 29, 30, 31, 32, 33, 34, 35, 36, 58] (by decide +kernel) (by decide +kernel)
set_option maxRecDepth 20000 in
theorem gX3_loadOrGo_X0_load_n46 : GoodIn wsX3_loadOrGo (wsX0_load) := ggX3_loadOrGo_X0_load
set_option maxRecDepth 20000 in
theorem ggX3_loadOrGo_X3_sizeOf : GoodIn wsX3_loadOrGo wsX3_sizeOf := goodIn_r _ [39] (by decide +kernel) (by decide +kernel)
set_option maxRecDepth 20000 in
theorem gX3_loadOrGo_X3_sizeOf : GoodIn wsX3_loadOrGo (va_wsS RX3 266 yX3_sizeOf wsX3_sizeOf) := goodIn_app (goodIn_of _ (by decide +kernel)) ggX3_loadOrGo_X3_sizeOf
set_option maxRecDepth 20000 in
theorem ggX3_loadOrGo_X3_isUnsigned : GoodIn wsX3_loadOrGo wsX3_isUnsigned := goodIn_r _ [42] (by decide +kernel) (by decide +kernel)
set_option maxRecDepth 20000 in
theorem gX3_loadOrGo_X3_isUnsigned : GoodIn wsX3_loadOrGo (va_wsS RX3 269 yX3_isUnsigned wsX3_isUnsigned) := goodIn_app (goodIn_of _ (by decide +kernel)) ggX3_loadOrGo_X3_isUnsigned
set_option maxRecDepth 20000 in
theorem ggX3_loadOrGo_X2_signed : GoodIn wsX3_loadOrGo wsX2_signed := goodIn_r _ [45] (by decide +kernel) (by decide +kernel)
set_option maxRecDepth 20000 in
theorem gX3_loadOrGo_X2_signed_n272 : GoodIn wsX3_loadOrGo (wsX2_signed) := ggX3_loadOrGo_X2_signed
theorem dX3_loadOrGo_0 : decode cX3_loadOrGo 0 = .ok (.iload_n 1, 1) := by decide +kernel
theorem dX3_loadOrGo_1 : decode cX3_loadOrGo 1 = .ok (.invokestatic 124, 3) := by decide +kernel
theorem dX3_loadOrGo_4 : decode cX3_loadOrGo 4 = .ok (.istore 6, 2) := by decide +kernel
theorem dX3_loadOrGo_6 : decode cX3_loadOrGo 6 = .ok (.iload 6, 2) := by decide +kernel
theorem dX3_loadOrGo_8 : decode cX3_loadOrGo 8 = .ok (.invokestatic 146, 3) := by decide +kernel
theorem dX3_loadOrGo_11 : decode cX3_loadOrGo 11 = .ok (.ifCond .eq 26, 3) := by decide +kernel
theorem dX3_loadOrGo_14 : decode cX3_loadOrGo 14 = .ok (.aload_n 0, 1) := by decide +kernel
theorem dX3_loadOrGo_15 : decode cX3_loadOrGo 15 = .ok (.iload_n 1, 1) := by decide +kernel
theorem dX3_loadOrGo_16 : decode cX3_loadOrGo 16 = .ok (.lload 4, 2) := by decide +kernel
theorem dX3_loadOrGo_18 : decode cX3_loadOrGo 18 = .ok (.ldc2_w 152, 3) := by decide +kernel
theorem dX3_loadOrGo_21 : decode cX3_loadOrGo 21 = .ok (.ladd, 1) := by decide +kernel
theorem dX3_loadOrGo_22 : decode cX3_loadOrGo 22 = .ok (.invokevirtual 162, 3) := by decide +kernel
theorem dX3_loadOrGo_25 : decode cX3_loadOrGo 25 = .ok (.aload_n 0, 1) := by decide +kernel
theorem dX3_loadOrGo_26 : decode cX3_loadOrGo 26 = .ok (.lload_n 2, 1) := by decide +kernel
theorem dX3_loadOrGo_27 : decode cX3_loadOrGo 27 = .ok (.ldc2_w 264, 3) := by decide +kernel
theorem dX3_loadOrGo_30 : decode cX3_loadOrGo 30 = .ok (.land, 1) := by decide +kernel
theorem dX3_loadOrGo_31 : decode cX3_loadOrGo 31 = .ok (.putfield 73, 3) := by decide +kernel
theorem dX3_loadOrGo_34 : decode cX3_loadOrGo 34 = .ok (.goto 74, 3) := by decide +kernel
theorem dX3_loadOrGo_37 : decode cX3_loadOrGo 37 = .ok (.iload 6, 2) := by decide +kernel
theorem dX3_loadOrGo_39 : decode cX3_loadOrGo 39 = .ok (.sipush 144, 3) := by decide +kernel
theorem dX3_loadOrGo_42 : decode cX3_loadOrGo 42 = .ok (.if_icmp .lt 23, 3) := by decide +kernel
theorem dX3_loadOrGo_45 : decode cX3_loadOrGo 45 = .ok (.aload_n 0, 1) := by decide +kernel
theorem dX3_loadOrGo_46 : decode cX3_loadOrGo 46 = .ok (.iload_n 1, 1) := by decide +kernel
theorem dX3_loadOrGo_47 : decode cX3_loadOrGo 47 = .ok (.aload_n 0, 1) := by decide +kernel
theorem dX3_loadOrGo_48 : decode cX3_loadOrGo 48 = .ok (.getfield 26, 3) := by decide +kernel
theorem dX3_loadOrGo_51 : decode cX3_loadOrGo 51 = .ok (.lload_n 2, 1) := by decide +kernel
theorem dX3_loadOrGo_52 : decode cX3_loadOrGo 52 = .ok (.iconst 4, 1) := by decide +kernel
theorem dX3_loadOrGo_53 : decode cX3_loadOrGo 53 = .ok (.invokevirtual 46, 3) := by decide +kernel
theorem dX3_loadOrGo_56 : decode cX3_loadOrGo 56 = .ok (.bipush 32, 2) := by decide +kernel
theorem dX3_loadOrGo_58 : decode cX3_loadOrGo 58 = .ok (.lshl, 1) := by decide +kernel
theorem dX3_loadOrGo_59 : decode cX3_loadOrGo 59 = .ok (.invokevirtual 162, 3) := by decide +kernel
theorem dX3_loadOrGo_62 : decode cX3_loadOrGo 62 = .ok (.goto 46, 3) := by decide +kernel
theorem dX3_loadOrGo_65 : decode cX3_loadOrGo 65 = .ok (.aload_n 0, 1) := by decide +kernel
theorem dX3_loadOrGo_66 : decode cX3_loadOrGo 66 = .ok (.getfield 26, 3) := by decide +kernel
theorem dX3_loadOrGo_69 : decode cX3_loadOrGo 69 = .ok (.lload_n 2, 1) := by decide +kernel
theorem dX3_loadOrGo_70 : decode cX3_loadOrGo 70 = .ok (.iload 6, 2) := by decide +kernel
theorem dX3_loadOrGo_72 : decode cX3_loadOrGo 72 = .ok (.invokestatic 266, 3) := by decide +kernel
theorem dX3_loadOrGo_75 : decode cX3_loadOrGo 75 = .ok (.invokevirtual 46, 3) := by decide +kernel
theorem dX3_loadOrGo_78 : decode cX3_loadOrGo 78 = .ok (.lstore 7, 2) := by decide +kernel
theorem dX3_loadOrGo_80 : decode cX3_loadOrGo 80 = .ok (.aload_n 0, 1) := by decide +kernel
theorem dX3_loadOrGo_81 : decode cX3_loadOrGo 81 = .ok (.iload_n 1, 1) := by decide +kernel
theorem dX3_loadOrGo_82 : decode cX3_loadOrGo 82 = .ok (.iload 6, 2) := by decide +kernel
theorem dX3_loadOrGo_84 : decode cX3_loadOrGo 84 = .ok (.invokestatic 269, 3) := by decide +kernel
theorem dX3_loadOrGo_87 : decode cX3_loadOrGo 87 = .ok (.ifCond .eq 8, 3) := by decide +kernel
theorem dX3_loadOrGo_90 : decode cX3_loadOrGo 90 = .ok (.lload 7, 2) := by decide +kernel
theorem dX3_loadOrGo_92 : decode cX3_loadOrGo 92 = .ok (.goto 13, 3) := by decide +kernel
theorem dX3_loadOrGo_95 : decode cX3_loadOrGo 95 = .ok (.lload 7, 2) := by decide +kernel
theorem dX3_loadOrGo_97 : decode cX3_loadOrGo 97 = .ok (.iload 6, 2) := by decide +kernel
theorem dX3_loadOrGo_99 : decode cX3_loadOrGo 99 = .ok (.invokestatic 266, 3) := by decide +kernel
theorem dX3_loadOrGo_102 : decode cX3_loadOrGo 102 = .ok (.invokestatic 272, 3) := by decide +kernel
theorem dX3_loadOrGo_105 : decode cX3_loadOrGo 105 = .ok (.invokevirtual 162, 3) := by decide +kernel
theorem dX3_loadOrGo_108 : decode cX3_loadOrGo 108 = .ok (.return_, 1) := by decide +kernel
set_option maxRecDepth 20000 in
theorem ggX3_storeX_X3_opOf : GoodIn wsX3_storeX wsX3_opOf := goodIn_r _ [7] (by decide +kernel) (by decide +kernel)
set_option maxRecDepth 20000 in
theorem gX3_storeX_X3_opOf : GoodIn wsX3_storeX (va_wsS RX3 124 yX3_opOf wsX3_opOf) := goodIn_app (goodIn_of _ (by decide +kernel)) ggX3_storeX_X3_opOf
set_option maxRecDepth 20000 in
theorem ggX3_storeX_X3_byteX : GoodIn wsX3_storeX wsX3_byteX := goodIn_r _ [10] (by decide +kernel) (by decide +kernel)
set_option maxRecDepth 20000 in
theorem gX3_storeX_X3_byteX : GoodIn wsX3_storeX (va_wsS RX3 143 yX3_byteX wsX3_byteX) := goodIn_app (goodIn_of _ (by decide +kernel)) ggX3_storeX_X3_byteX
set_option maxRecDepth 20000 in
theorem ggX3_storeX_X0_store : GoodIn wsX3_storeX wsX0_store := goodIn_r _ [14, 15, 16, 17, 18, 12, 19, 20, 21, 22, 23, 24, 25, 52] (by decide +kernel) (by decide +kernel)
set_option maxRecDepth 20000 in
theorem gX3_storeX_X0_store_n50 : GoodIn wsX3_storeX (wsX0_store) := ggX3_storeX_X0_store
set_option maxRecDepth 20000 in
theorem ggX3_storeX_X3_isUnsigned : GoodIn wsX3_storeX wsX3_isUnsigned := goodIn_r _ [28] (by decide +kernel) (by decide +kernel)
set_option maxRecDepth 20000 in
theorem gX3_storeX_X3_isUnsigned : GoodIn wsX3_storeX (va_wsS RX3 269 yX3_isUnsigned wsX3_isUnsigned) := goodIn_app (goodIn_of _ (by decide +kernel)) ggX3_storeX_X3_isUnsigned
set_option maxRecDepth 20000 in
theorem ggX3_storeX_X3_sizeOf : GoodIn wsX3_storeX wsX3_sizeOf := goodIn_r _ [31] (by decide +kernel) (by decide +kernel)
set_option maxRecDepth 20000 in
theorem gX3_storeX_X3_sizeOf : GoodIn wsX3_storeX (va_wsS RX3 266 yX3_sizeOf wsX3_sizeOf) := goodIn_app (goodIn_of _ (by decide +kernel)) ggX3_storeX_X3_sizeOf
set_option maxRecDepth 20000 in
theorem ggX3_storeX_X2_signed : GoodIn wsX3_storeX wsX2_signed := goodIn_r _ [34] (by decide +kernel) (by decide +kernel)
set_option maxRecDepth 20000 in
theorem gX3_storeX_X2_signed_n272 : GoodIn wsX3_storeX (wsX2_signed) := ggX3_storeX_X2_signed
set_option maxRecDepth 20000 in
theorem ggX3_storeX_X3_raise : GoodIn wsX3_storeX wsX3_raise := goodIn_r _ [38, 39, 40, 41, 42, 43, 44, 45, 46, 47, 48, 49, 50, 51] (by decide +kernel) (by decide +kernel)
set_option maxRecDepth 20000 in
theorem gX3_storeX_X3_raise : GoodIn wsX3_storeX (wsV RX3 205 RX3 yX3_raise wsX3_raise) := goodIn_app (goodIn_of _ (by decide +kernel)) ggX3_storeX_X3_raise
theorem dX3_storeX_0 : decode cX3_storeX 0 = .ok (.iload_n 1, 1) := by decide +kernel
theorem dX3_storeX_1 : decode cX3_storeX 1 = .ok (.invokestatic 124, 3) := by decide +kernel
theorem dX3_storeX_4 : decode cX3_storeX 4 = .ok (.istore 4, 2) := by decide +kernel
theorem dX3_storeX_6 : decode cX3_storeX 6 = .ok (.aload_n 0, 1) := by decide +kernel
theorem dX3_storeX_7 : decode cX3_storeX 7 = .ok (.getfield 9, 3) := by decide +kernel
theorem dX3_storeX_10 : decode cX3_storeX 10 = .ok (.iload_n 1, 1) := by decide +kernel
theorem dX3_storeX_11 : decode cX3_storeX 11 = .ok (.invokestatic 143, 3) := by decide +kernel
theorem dX3_storeX_14 : decode cX3_storeX 14 = .ok (.laload, 1) := by decide +kernel
theorem dX3_storeX_15 : decode cX3_storeX 15 = .ok (.lstore 5, 2) := by decide +kernel
theorem dX3_storeX_17 : decode cX3_storeX 17 = .ok (.iload 4, 2) := by decide +kernel
theorem dX3_storeX_19 : decode cX3_storeX 19 = .ok (.sipush 180, 3) := by decide +kernel
theorem dX3_storeX_22 : decode cX3_storeX 22 = .ok (.if_icmp .lt 21, 3) := by decide +kernel
theorem dX3_storeX_25 : decode cX3_storeX 25 = .ok (.aload_n 0, 1) := by decide +kernel
theorem dX3_storeX_26 : decode cX3_storeX 26 = .ok (.getfield 26, 3) := by decide +kernel
theorem dX3_storeX_29 : decode cX3_storeX 29 = .ok (.lload_n 2, 1) := by decide +kernel
theorem dX3_storeX_30 : decode cX3_storeX 30 = .ok (.bipush 8, 2) := by decide +kernel
theorem dX3_storeX_32 : decode cX3_storeX 32 = .ok (.iload_n 1, 1) := by decide +kernel
theorem dX3_storeX_33 : decode cX3_storeX 33 = .ok (.invokestatic 143, 3) := by decide +kernel
theorem dX3_storeX_36 : decode cX3_storeX 36 = .ok (.i2l, 1) := by decide +kernel
theorem dX3_storeX_37 : decode cX3_storeX 37 = .ok (.invokevirtual 50, 3) := by decide +kernel
theorem dX3_storeX_40 : decode cX3_storeX 40 = .ok (.goto 79, 3) := by decide +kernel
theorem dX3_storeX_43 : decode cX3_storeX 43 = .ok (.iload 4, 2) := by decide +kernel
theorem dX3_storeX_45 : decode cX3_storeX 45 = .ok (.sipush 176, 3) := by decide +kernel
theorem dX3_storeX_48 : decode cX3_storeX 48 = .ok (.if_icmp .lt 20, 3) := by decide +kernel
theorem dX3_storeX_51 : decode cX3_storeX 51 = .ok (.aload_n 0, 1) := by decide +kernel
theorem dX3_storeX_52 : decode cX3_storeX 52 = .ok (.getfield 26, 3) := by decide +kernel
theorem dX3_storeX_55 : decode cX3_storeX 55 = .ok (.lload_n 2, 1) := by decide +kernel
theorem dX3_storeX_56 : decode cX3_storeX 56 = .ok (.iconst 4, 1) := by decide +kernel
theorem dX3_storeX_57 : decode cX3_storeX 57 = .ok (.lload 5, 2) := by decide +kernel
theorem dX3_storeX_59 : decode cX3_storeX 59 = .ok (.bipush 32, 2) := by decide +kernel
theorem dX3_storeX_61 : decode cX3_storeX 61 = .ok (.lushr, 1) := by decide +kernel
theorem dX3_storeX_62 : decode cX3_storeX 62 = .ok (.invokevirtual 50, 3) := by decide +kernel
theorem dX3_storeX_65 : decode cX3_storeX 65 = .ok (.goto 54, 3) := by decide +kernel
theorem dX3_storeX_68 : decode cX3_storeX 68 = .ok (.aload_n 0, 1) := by decide +kernel
theorem dX3_storeX_69 : decode cX3_storeX 69 = .ok (.ldc2_w 199, 3) := by decide +kernel

theorem dX4_quotientOf_77 : decode cX4_quotientOf 77 = .ok (.iconst 1, 1) := by decide +kernel
theorem dX4_quotientOf_78 : decode cX4_quotientOf 78 = .ok (.lshl, 1) := by decide +kernel
theorem dX4_quotientOf_79 : decode cX4_quotientOf 79 = .ok (.lstore 7, 2) := by decide +kernel
theorem dX4_quotientOf_81 : decode cX4_quotientOf 81 = .ok (.iload 10, 2) := by decide +kernel
theorem dX4_quotientOf_83 : decode cX4_quotientOf 83 = .ok (.ifCond .ne 15, 3) := by decide +kernel
theorem dX4_quotientOf_86 : decode cX4_quotientOf 86 = .ok (.lload_n 3, 1) := by decide +kernel
theorem dX4_quotientOf_87 : decode cX4_quotientOf 87 = .ok (.lload 5, 2) := by decide +kernel
theorem dX4_quotientOf_89 : decode cX4_quotientOf 89 = .ok (.invokestatic 263, 3) := by decide +kernel
theorem dX4_quotientOf_92 : decode cX4_quotientOf 92 = .ok (.ifCond .eq 6, 3) := by decide +kernel
theorem dX4_quotientOf_95 : decode cX4_quotientOf 95 = .ok (.goto 15, 3) := by decide +kernel
theorem dX4_quotientOf_98 : decode cX4_quotientOf 98 = .ok (.lload 5, 2) := by decide +kernel
theorem dX4_quotientOf_100 : decode cX4_quotientOf 100 = .ok (.lload_n 3, 1) := by decide +kernel
theorem dX4_quotientOf_101 : decode cX4_quotientOf 101 = .ok (.lsub, 1) := by decide +kernel
theorem dX4_quotientOf_102 : decode cX4_quotientOf 102 = .ok (.lstore 5, 2) := by decide +kernel
theorem dX4_quotientOf_104 : decode cX4_quotientOf 104 = .ok (.lload 7, 2) := by decide +kernel
theorem dX4_quotientOf_106 : decode cX4_quotientOf 106 = .ok (.lconst 1, 1) := by decide +kernel
theorem dX4_quotientOf_107 : decode cX4_quotientOf 107 = .ok (.lor, 1) := by decide +kernel
theorem dX4_quotientOf_108 : decode cX4_quotientOf 108 = .ok (.lstore 7, 2) := by decide +kernel
theorem dX4_quotientOf_110 : decode cX4_quotientOf 110 = .ok (.iinc 9 (-1), 3) := by decide +kernel
theorem dX4_quotientOf_113 : decode cX4_quotientOf 113 = .ok (.goto (-70), 3) := by decide +kernel
theorem dX4_quotientOf_116 : decode cX4_quotientOf 116 = .ok (.aload_n 0, 1) := by decide +kernel
theorem dX4_quotientOf_117 : decode cX4_quotientOf 117 = .ok (.getfield 13, 3) := by decide +kernel
theorem dX4_quotientOf_120 : decode cX4_quotientOf 120 = .ok (.bipush 6, 2) := by decide +kernel
theorem dX4_quotientOf_122 : decode cX4_quotientOf 122 = .ok (.lload 5, 2) := by decide +kernel
theorem dX4_quotientOf_124 : decode cX4_quotientOf 124 = .ok (.lastore, 1) := by decide +kernel
theorem dX4_quotientOf_125 : decode cX4_quotientOf 125 = .ok (.lload 7, 2) := by decide +kernel
theorem dX4_quotientOf_127 : decode cX4_quotientOf 127 = .ok (.lreturn, 1) := by decide +kernel
theorem dX4_trap_0 : decode cX4_trap 0 = .ok (.aload_n 0, 1) := by decide +kernel
theorem dX4_trap_1 : decode cX4_trap 1 = .ok (.iconst 0, 1) := by decide +kernel
theorem dX4_trap_2 : decode cX4_trap 2 = .ok (.putfield 215, 3) := by decide +kernel
theorem dX4_trap_5 : decode cX4_trap 5 = .ok (.iload_n 1, 1) := by decide +kernel
theorem dX4_trap_6 : decode cX4_trap 6 = .ok (.ifCond .ne 13, 3) := by decide +kernel
theorem dX4_trap_9 : decode cX4_trap 9 = .ok (.iload_n 2, 1) := by decide +kernel
theorem dX4_trap_10 : decode cX4_trap 10 = .ok (.ifCond .ne 9, 3) := by decide +kernel
theorem dX4_trap_13 : decode cX4_trap 13 = .ok (.iload_n 3, 1) := by decide +kernel
theorem dX4_trap_14 : decode cX4_trap 14 = .ok (.ifCond .ne 5, 3) := by decide +kernel
theorem dX4_trap_17 : decode cX4_trap 17 = .ok (.iconst 1, 1) := by decide +kernel
theorem dX4_trap_18 : decode cX4_trap 18 = .ok (.ireturn, 1) := by decide +kernel
theorem dX4_trap_19 : decode cX4_trap 19 = .ok (.iload_n 1, 1) := by decide +kernel
theorem dX4_trap_20 : decode cX4_trap 20 = .ok (.ifCond .ne 8, 3) := by decide +kernel
theorem dX4_trap_23 : decode cX4_trap 23 = .ok (.iload_n 2, 1) := by decide +kernel
theorem dX4_trap_24 : decode cX4_trap 24 = .ok (.iconst 1, 1) := by decide +kernel
theorem dX4_trap_25 : decode cX4_trap 25 = .ok (.if_icmp .eq 5, 3) := by decide +kernel
theorem dX4_trap_28 : decode cX4_trap 28 = .ok (.iconst 2, 1) := by decide +kernel
theorem dX4_trap_29 : decode cX4_trap 29 = .ok (.ireturn, 1) := by decide +kernel
theorem dX4_trap_30 : decode cX4_trap 30 = .ok (.aload_n 0, 1) := by decide +kernel
theorem dX4_trap_31 : decode cX4_trap 31 = .ok (.getfield 277, 3) := by decide +kernel
theorem dX4_trap_34 : decode cX4_trap 34 = .ok (.sipush 500, 3) := by decide +kernel
theorem dX4_trap_37 : decode cX4_trap 37 = .ok (.if_icmp .ge 30, 3) := by decide +kernel
theorem dX4_trap_40 : decode cX4_trap 40 = .ok (.aload_n 0, 1) := by decide +kernel
theorem dX4_trap_41 : decode cX4_trap 41 = .ok (.getfield 23, 3) := by decide +kernel
theorem dX4_trap_44 : decode cX4_trap 44 = .ok (.aload_n 0, 1) := by decide +kernel
theorem dX4_trap_45 : decode cX4_trap 45 = .ok (.getfield 277, 3) := by decide +kernel
theorem dX4_trap_48 : decode cX4_trap 48 = .ok (.aload_n 0, 1) := by decide +kernel
theorem dX4_trap_49 : decode cX4_trap 49 = .ok (.getfield 7, 3) := by decide +kernel
theorem dX4_trap_52 : decode cX4_trap 52 = .ok (.iload_n 3, 1) := by decide +kernel
theorem dX4_trap_53 : decode cX4_trap 53 = .ok (.laload, 1) := by decide +kernel
theorem dX4_trap_54 : decode cX4_trap 54 = .ok (.l2i, 1) := by decide +kernel
theorem dX4_trap_55 : decode cX4_trap 55 = .ok (.i2b, 1) := by decide +kernel
theorem dX4_trap_56 : decode cX4_trap 56 = .ok (.bastore, 1) := by decide +kernel
theorem dX4_trap_57 : decode cX4_trap 57 = .ok (.aload_n 0, 1) := by decide +kernel
theorem dX4_trap_58 : decode cX4_trap 58 = .ok (.dup, 1) := by decide +kernel
theorem dX4_trap_59 : decode cX4_trap 59 = .ok (.getfield 277, 3) := by decide +kernel
theorem dX4_trap_62 : decode cX4_trap 62 = .ok (.iconst 1, 1) := by decide +kernel
theorem dX4_trap_63 : decode cX4_trap 63 = .ok (.iadd, 1) := by decide +kernel
theorem dX4_trap_64 : decode cX4_trap 64 = .ok (.putfield 277, 3) := by decide +kernel
theorem dX4_trap_67 : decode cX4_trap 67 = .ok (.aload_n 0, 1) := by decide +kernel
theorem dX4_trap_68 : decode cX4_trap 68 = .ok (.dup, 1) := by decide +kernel
theorem dX4_trap_69 : decode cX4_trap 69 = .ok (.getfield 162, 3) := by decide +kernel
theorem dX4_trap_72 : decode cX4_trap 72 = .ok (.ldc2_w 223, 3) := by decide +kernel
theorem dX4_trap_75 : decode cX4_trap 75 = .ok (.ladd, 1) := by decide +kernel
theorem dX4_trap_76 : decode cX4_trap 76 = .ok (.putfield 162, 3) := by decide +kernel
theorem dX4_trap_79 : decode cX4_trap 79 = .ok (.iconst 0, 1) := by decide +kernel
theorem dX4_trap_80 : decode cX4_trap 80 = .ok (.ireturn, 1) := by decide +kernel
set_option maxRecDepth 20000 in
theorem ggX4_choose_X4_holds : GoodIn wsX4_choose wsX4_holds := goodIn_r _ [5] rfl (by decide +kernel)
set_option maxRecDepth 20000 in
theorem gX4_choose_X4_holds : GoodIn wsX4_choose (va_wsS RX4 219 yX4_holds wsX4_holds) := goodIn_app (goodIn_of _ (by decide +kernel)) ggX4_choose_X4_holds
set_option maxRecDepth 20000 in
theorem ggX4_choose_X4_on : GoodIn wsX4_choose wsX4_on := goodIn_r _ [9, 10, 11, 12, 23, 24, 25, 26, 27, 28, 29, 30, 31, 32, 33, 34, 35, 36, 37, 38, 39] rfl (by decide +kernel)
set_option maxRecDepth 20000 in
theorem gX4_choose_X4_on : GoodIn wsX4_choose (wsV RX4 230 RX4 yX4_on wsX4_on) := goodIn_app (goodIn_of _ (by decide +kernel)) ggX4_choose_X4_on
set_option maxRecDepth 20000 in
theorem ggX4_choose_X4_number : GoodIn wsX4_choose wsX4_number := goodIn_r _ [16, 1, 23, 24, 25, 26, 27, 28, 29, 30, 31, 32, 33, 34, 35, 36, 37, 38, 39] rfl (by decide +kernel)
set_option maxRecDepth 20000 in
theorem gX4_choose_X4_number : GoodIn wsX4_choose (wsV RX4 237 RX4 yX4_number wsX4_number) := goodIn_app (goodIn_of _ (by decide +kernel)) ggX4_choose_X4_number
set_option maxRecDepth 20000 in
theorem ggX4_choose_X4_done : GoodIn wsX4_choose wsX4_done := goodIn_r _ [20, 21, 22, 1, 6, 7, 8, 4, 9, 10, 11, 12, 23, 24, 25, 26, 27, 28, 29, 30, 31, 32, 33, 34, 35, 36, 37, 38, 39] rfl (by decide +kernel)
set_option maxRecDepth 20000 in
theorem gX4_choose_X4_done : GoodIn wsX4_choose (wsV RX4 269 RX4 yX4_done wsX4_done) := goodIn_app (goodIn_of _ (by decide +kernel)) ggX4_choose_X4_done
theorem dX4_choose_0 : decode cX4_choose 0 = .ok (.iload_n 1, 1) := by decide +kernel
theorem dX4_choose_1 : decode cX4_choose 1 = .ok (.iconst 1, 1) := by decide +kernel
theorem dX4_choose_2 : decode cX4_choose 2 = .ok (.ishr, 1) := by decide +kernel
theorem dX4_choose_3 : decode cX4_choose 3 = .ok (.bipush 7, 2) := by decide +kernel
theorem dX4_choose_5 : decode cX4_choose 5 = .ok (.iand, 1) := by decide +kernel
theorem dX4_choose_6 : decode cX4_choose 6 = .ok (.aload_n 0, 1) := by decide +kernel
theorem dX4_choose_7 : decode cX4_choose 7 = .ok (.getfield 7, 3) := by decide +kernel
theorem dX4_choose_10 : decode cX4_choose 10 = .ok (.iload_n 3, 1) := by decide +kernel
theorem dX4_choose_11 : decode cX4_choose 11 = .ok (.laload, 1) := by decide +kernel
theorem dX4_choose_12 : decode cX4_choose 12 = .ok (.invokestatic 219, 3) := by decide +kernel
theorem dX4_choose_15 : decode cX4_choose 15 = .ok (.istore 5, 2) := by decide +kernel
theorem dX4_choose_17 : decode cX4_choose 17 = .ok (.iload 5, 2) := by decide +kernel
theorem dX4_choose_19 : decode cX4_choose 19 = .ok (.ifCond .ne 16, 3) := by decide +kernel
theorem dX4_choose_22 : decode cX4_choose 22 = .ok (.iload_n 1, 1) := by decide +kernel
theorem dX4_choose_23 : decode cX4_choose 23 = .ok (.bipush 112, 2) := by decide +kernel
theorem dX4_choose_25 : decode cX4_choose 25 = .ok (.if_icmp .ge 10, 3) := by decide +kernel
theorem dX4_choose_28 : decode cX4_choose 28 = .ok (.aload_n 0, 1) := by decide +kernel
theorem dX4_choose_29 : decode cX4_choose 29 = .ok (.invokevirtual 230, 3) := by decide +kernel
theorem dX4_choose_32 : decode cX4_choose 32 = .ok (.goto 24, 3) := by decide +kernel
theorem dX4_choose_35 : decode cX4_choose 35 = .ok (.aload_n 0, 1) := by decide +kernel
theorem dX4_choose_36 : decode cX4_choose 36 = .ok (.iload_n 2, 1) := by decide +kernel
theorem dX4_choose_37 : decode cX4_choose 37 = .ok (.iload 5, 2) := by decide +kernel
theorem dX4_choose_39 : decode cX4_choose 39 = .ok (.ifCond .eq 13, 3) := by decide +kernel
theorem dX4_choose_42 : decode cX4_choose 42 = .ok (.aload_n 0, 1) := by decide +kernel
theorem dX4_choose_43 : decode cX4_choose 43 = .ok (.iload_n 1, 1) := by decide +kernel
theorem dX4_choose_44 : decode cX4_choose 44 = .ok (.iload 4, 2) := by decide +kernel
theorem dX4_choose_46 : decode cX4_choose 46 = .ok (.invokevirtual 237, 3) := by decide +kernel
theorem dX4_choose_49 : decode cX4_choose 49 = .ok (.goto 4, 3) := by decide +kernel
theorem dX4_choose_52 : decode cX4_choose 52 = .ok (.lconst 0, 1) := by decide +kernel
theorem dX4_choose_53 : decode cX4_choose 53 = .ok (.invokevirtual 269, 3) := by decide +kernel
theorem dX4_choose_56 : decode cX4_choose 56 = .ok (.ireturn, 1) := by decide +kernel
set_option maxRecDepth 20000 in
theorem ggX4_access_X4_number : GoodIn wsX4_access wsX4_number := goodIn_r _ [10, 1, 44, 45, 46, 47, 48, 49, 50, 51, 52, 53, 54, 55, 56, 57, 58, 59, 60] rfl (by decide +kernel)
set_option maxRecDepth 20000 in
theorem gX4_access_X4_number : GoodIn wsX4_access (wsV RX4 237 RX4 yX4_number wsX4_number) := goodIn_app (goodIn_of _ (by decide +kernel)) ggX4_access_X4_number
set_option maxRecDepth 20000 in
theorem ggX4_access_X4_done : GoodIn wsX4_access wsX4_done := goodIn_r _ [14, 15, 16, 1, 17, 18, 19, 9, 20, 2, 3, 21, 44, 45, 46, 47, 48, 49, 50, 51, 52, 53, 54, 55, 56, 57, 58, 59, 60] rfl (by decide +kernel)
set_option maxRecDepth 20000 in
theorem gX4_access_X4_done : GoodIn wsX4_access (wsV RX4 269 RX4 yX4_done wsX4_done) := goodIn_app (goodIn_of _ (by decide +kernel)) ggX4_access_X4_done
set_option maxRecDepth 20000 in
theorem ggX4_access_X4_beyond : GoodIn wsX4_access wsX4_beyond := goodIn_r _ [24, 25] rfl (by decide +kernel)
set_option maxRecDepth 20000 in
theorem gX4_access_X4_beyond : GoodIn wsX4_access (va_wsS RX4 166 yX4_beyond wsX4_beyond) := goodIn_app (goodIn_of _ (by decide +kernel)) ggX4_access_X4_beyond
set_option maxRecDepth 20000 in
theorem ggX4_access_X4_m : GoodIn wsX4_access wsX4_m := goodIn_r _ [29, 30, 44, 45, 46, 47, 48, 49, 50, 51, 52, 53, 54, 55, 56, 57, 58, 59, 60] rfl (by decide +kernel)
set_option maxRecDepth 20000 in
theorem gX4_access_X4_m : GoodIn wsX4_access (wsV RX4 170 RX4 yX4_m wsX4_m) := goodIn_app (goodIn_of _ (by decide +kernel)) ggX4_access_X4_m
set_option maxRecDepth 20000 in
theorem ggX4_access_X4_signed : GoodIn wsX4_access wsX4_signed := goodIn_r _ [33] rfl (by decide +kernel)
set_option maxRecDepth 20000 in
theorem gX4_access_X4_signed : GoodIn wsX4_access (va_wsS RX4 283 yX4_signed wsX4_signed) := goodIn_app (goodIn_of _ (by decide +kernel)) ggX4_access_X4_signed
set_option maxRecDepth 20000 in
theorem ggX4_access_X4_over : GoodIn wsX4_access wsX4_over := goodIn_r _ [37, 38, 39, 44, 45, 46, 47, 48, 49, 50, 51, 52, 53, 54, 55, 56, 57, 58, 59, 60] rfl (by decide +kernel)
set_option maxRecDepth 20000 in
theorem gX4_access_X4_over : GoodIn wsX4_access (wsV RX4 245 RX4 yX4_over wsX4_over) := goodIn_app (goodIn_of _ (by decide +kernel)) ggX4_access_X4_over
set_option maxRecDepth 20000 in
theorem ggX4_access_X4_m_ : GoodIn wsX4_access wsX4_m_ := goodIn_r _ [43, 30, 44, 45, 46, 47, 48, 49, 50, 51, 52, 53, 54, 55, 56, 57, 58, 59, 60] rfl (by decide +kernel)
set_option maxRecDepth 20000 in
theorem gX4_access_X4_m_ : GoodIn wsX4_access (wsV RX4 286 RX4 yX4_m_ wsX4_m_) := goodIn_app (goodIn_of _ (by decide +kernel)) ggX4_access_X4_m_
set_option maxRecDepth 20000 in
theorem ggX4_access_X4_on : GoodIn wsX4_access wsX4_on := goodIn_r _ [20, 2, 3, 21, 44, 45, 46, 47, 48, 49, 50, 51, 52, 53, 54, 55, 56, 57, 58, 59, 60] rfl (by decide +kernel)
set_option maxRecDepth 20000 in
theorem gX4_access_X4_on : GoodIn wsX4_access (wsV RX4 230 RX4 yX4_on wsX4_on) := goodIn_app (goodIn_of _ (by decide +kernel)) ggX4_access_X4_on
theorem dX4_access_0 : decode cX4_access 0 = .ok (.iload_n 1, 1) := by decide +kernel
theorem dX4_access_1 : decode cX4_access 1 = .ok (.sipush 254, 3) := by decide +kernel
theorem dX4_access_4 : decode cX4_access 4 = .ok (.iand, 1) := by decide +kernel
theorem dX4_access_5 : decode cX4_access 5 = .ok (.istore 5, 2) := by decide +kernel
theorem dX4_access_7 : decode cX4_access 7 = .ok (.iload 5, 2) := by decide +kernel
theorem dX4_access_9 : decode cX4_access 9 = .ok (.sipush 144, 3) := by decide +kernel
theorem dX4_access_12 : decode cX4_access 12 = .ok (.if_icmp .lt 11, 3) := by decide +kernel
theorem dX4_access_15 : decode cX4_access 15 = .ok (.iload 5, 2) := by decide +kernel
theorem dX4_access_17 : decode cX4_access 17 = .ok (.sipush 146, 3) := by decide +kernel
theorem dX4_access_20 : decode cX4_access 20 = .ok (.if_icmp .ne 7, 3) := by decide +kernel
theorem dX4_access_23 : decode cX4_access 23 = .ok (.iconst 1, 1) := by decide +kernel
theorem dX4_access_24 : decode cX4_access 24 = .ok (.goto 4, 3) := by decide +kernel
theorem dX4_access_27 : decode cX4_access 27 = .ok (.iconst 0, 1) := by decide +kernel
theorem dX4_access_28 : decode cX4_access 28 = .ok (.istore 6, 2) := by decide +kernel
theorem dX4_access_30 : decode cX4_access 30 = .ok (.iload 5, 2) := by decide +kernel
theorem dX4_access_32 : decode cX4_access 32 = .ok (.sipush 160, 3) := by decide +kernel
theorem dX4_access_35 : decode cX4_access 35 = .ok (.if_icmp .lt 11, 3) := by decide +kernel
theorem dX4_access_38 : decode cX4_access 38 = .ok (.iload 5, 2) := by decide +kernel
theorem dX4_access_40 : decode cX4_access 40 = .ok (.sipush 174, 3) := by decide +kernel
theorem dX4_access_43 : decode cX4_access 43 = .ok (.if_icmp .le 19, 3) := by decide +kernel
theorem dX4_access_46 : decode cX4_access 46 = .ok (.iload 5, 2) := by decide +kernel
theorem dX4_access_48 : decode cX4_access 48 = .ok (.sipush 178, 3) := by decide +kernel
theorem dX4_access_51 : decode cX4_access 51 = .ok (.if_icmp .eq 11, 3) := by decide +kernel
theorem dX4_access_54 : decode cX4_access 54 = .ok (.iload 5, 2) := by decide +kernel
theorem dX4_access_56 : decode cX4_access 56 = .ok (.sipush 180, 3) := by decide +kernel
theorem dX4_access_59 : decode cX4_access 59 = .ok (.if_icmp .ne 7, 3) := by decide +kernel
theorem dX4_access_62 : decode cX4_access 62 = .ok (.iconst 1, 1) := by decide +kernel
theorem dX4_access_63 : decode cX4_access 63 = .ok (.goto 4, 3) := by decide +kernel
theorem dX4_access_66 : decode cX4_access 66 = .ok (.iconst 0, 1) := by decide +kernel
theorem dX4_access_67 : decode cX4_access 67 = .ok (.istore 7, 2) := by decide +kernel
theorem dX4_access_69 : decode cX4_access 69 = .ok (.iload 6, 2) := by decide +kernel
theorem dX4_access_71 : decode cX4_access 71 = .ok (.ifCond .ne 18, 3) := by decide +kernel
theorem dX4_access_74 : decode cX4_access 74 = .ok (.iload 7, 2) := by decide +kernel
theorem dX4_access_76 : decode cX4_access 76 = .ok (.ifCond .ne 13, 3) := by decide +kernel
theorem dX4_access_79 : decode cX4_access 79 = .ok (.iload 5, 2) := by decide +kernel
theorem dX4_access_81 : decode cX4_access 81 = .ok (.sipush 158, 3) := by decide +kernel
theorem dX4_access_84 : decode cX4_access 84 = .ok (.if_icmp .eq 5, 3) := by decide +kernel
theorem dX4_access_87 : decode cX4_access 87 = .ok (.iconst 2, 1) := by decide +kernel
theorem dX4_access_88 : decode cX4_access 88 = .ok (.ireturn, 1) := by decide +kernel
theorem dX4_access_89 : decode cX4_access 89 = .ok (.aload_n 0, 1) := by decide +kernel
theorem dX4_access_90 : decode cX4_access 90 = .ok (.getfield 7, 3) := by decide +kernel
theorem dX4_access_93 : decode cX4_access 93 = .ok (.iload_n 3, 1) := by decide +kernel
theorem dX4_access_94 : decode cX4_access 94 = .ok (.laload, 1) := by decide +kernel
theorem dX4_access_95 : decode cX4_access 95 = .ok (.aload_n 0, 1) := by decide +kernel
theorem dX4_access_96 : decode cX4_access 96 = .ok (.iload_n 1, 1) := by decide +kernel
theorem dX4_access_97 : decode cX4_access 97 = .ok (.iload 4, 2) := by decide +kernel
theorem dX4_access_99 : decode cX4_access 99 = .ok (.invokevirtual 237, 3) := by decide +kernel
theorem dX4_access_102 : decode cX4_access 102 = .ok (.ladd, 1) := by decide +kernel
theorem dX4_access_103 : decode cX4_access 103 = .ok (.lstore 8, 2) := by decide +kernel
theorem dX4_access_105 : decode cX4_access 105 = .ok (.iload 5, 2) := by decide +kernel
theorem dX4_access_107 : decode cX4_access 107 = .ok (.sipush 158, 3) := by decide +kernel
theorem dX4_access_110 : decode cX4_access 110 = .ok (.if_icmp .ne 33, 3) := by decide +kernel
theorem dX4_access_113 : decode cX4_access 113 = .ok (.aload_n 0, 1) := by decide +kernel
theorem dX4_access_114 : decode cX4_access 114 = .ok (.getfield 162, 3) := by decide +kernel
theorem dX4_access_117 : decode cX4_access 117 = .ok (.lstore 10, 2) := by decide +kernel
theorem dX4_access_119 : decode cX4_access 119 = .ok (.aload_n 0, 1) := by decide +kernel
theorem dX4_access_120 : decode cX4_access 120 = .ok (.iload_n 2, 1) := by decide +kernel
theorem dX4_access_121 : decode cX4_access 121 = .ok (.lload 10, 2) := by decide +kernel
theorem dX4_access_123 : decode cX4_access 123 = .ok (.ldc2_w 223, 3) := by decide +kernel
theorem dX4_access_126 : decode cX4_access 126 = .ok (.ladd, 1) := by decide +kernel
theorem dX4_access_127 : decode cX4_access 127 = .ok (.invokevirtual 269, 3) := by decide +kernel
theorem dX4_access_130 : decode cX4_access 130 = .ok (.pop, 1) := by decide +kernel
theorem dX4_access_131 : decode cX4_access 131 = .ok (.aload_n 0, 1) := by decide +kernel
theorem dX4_access_132 : decode cX4_access 132 = .ok (.lload 8, 2) := by decide +kernel
theorem dX4_access_134 : decode cX4_access 134 = .ok (.ldc2_w 225, 3) := by decide +kernel
theorem dX4_access_137 : decode cX4_access 137 = .ok (.land, 1) := by decide +kernel
theorem dX4_access_138 : decode cX4_access 138 = .ok (.putfield 162, 3) := by decide +kernel
theorem dX4_access_141 : decode cX4_access 141 = .ok (.iconst 0, 1) := by decide +kernel
theorem dX4_access_142 : decode cX4_access 142 = .ok (.ireturn, 1) := by decide +kernel
theorem dX4_access_143 : decode cX4_access 143 = .ok (.lload 8, 2) := by decide +kernel
theorem dX4_access_145 : decode cX4_access 145 = .ok (.invokestatic 166, 3) := by decide +kernel
theorem dX4_access_148 : decode cX4_access 148 = .ok (.ifCond .eq 5, 3) := by decide +kernel
theorem dX4_access_151 : decode cX4_access 151 = .ok (.iconst 3, 1) := by decide +kernel
theorem dX4_access_152 : decode cX4_access 152 = .ok (.ireturn, 1) := by decide +kernel
theorem dX4_access_153 : decode cX4_access 153 = .ok (.aload_n 0, 1) := by decide +kernel
theorem dX4_access_154 : decode cX4_access 154 = .ok (.dup, 1) := by decide +kernel
theorem dX4_access_155 : decode cX4_access 155 = .ok (.getfield 280, 3) := by decide +kernel
theorem dX4_access_158 : decode cX4_access 158 = .ok (.lconst 1, 1) := by decide +kernel
theorem dX4_access_159 : decode cX4_access 159 = .ok (.ladd, 1) := by decide +kernel
theorem dX4_access_160 : decode cX4_access 160 = .ok (.putfield 280, 3) := by decide +kernel
theorem dX4_access_163 : decode cX4_access 163 = .ok (.iload 5, 2) := by decide +kernel
theorem dX4_access_165 : decode cX4_access 165 = .ok (.sipush 146, 3) := by decide +kernel
theorem dX4_access_168 : decode cX4_access 168 = .ok (.if_icmp .eq 11, 3) := by decide +kernel
theorem dX4_access_171 : decode cX4_access 171 = .ok (.iload 5, 2) := by decide +kernel
theorem dX4_access_173 : decode cX4_access 173 = .ok (.sipush 178, 3) := by decide +kernel
theorem dX4_access_176 : decode cX4_access 176 = .ok (.if_icmp .ne 7, 3) := by decide +kernel
theorem dX4_access_179 : decode cX4_access 179 = .ok (.iconst 4, 1) := by decide +kernel
theorem dX4_access_180 : decode cX4_access 180 = .ok (.goto 24, 3) := by decide +kernel
theorem dX4_access_183 : decode cX4_access 183 = .ok (.iload 5, 2) := by decide +kernel
theorem dX4_access_185 : decode cX4_access 185 = .ok (.sipush 180, 3) := by decide +kernel
theorem dX4_access_188 : decode cX4_access 188 = .ok (.if_icmp .ne 8, 3) := by decide +kernel
theorem dX4_access_191 : decode cX4_access 191 = .ok (.bipush 8, 2) := by decide +kernel
theorem dX4_access_193 : decode cX4_access 193 = .ok (.goto 11, 3) := by decide +kernel
theorem dX4_access_196 : decode cX4_access 196 = .ok (.iconst 1, 1) := by decide +kernel
theorem dX4_access_197 : decode cX4_access 197 = .ok (.iload 5, 2) := by decide +kernel
theorem dX4_access_199 : decode cX4_access 199 = .ok (.iconst 2, 1) := by decide +kernel
theorem dX4_access_200 : decode cX4_access 200 = .ok (.ishr, 1) := by decide +kernel
theorem dX4_access_201 : decode cX4_access 201 = .ok (.iconst 3, 1) := by decide +kernel
theorem dX4_access_202 : decode cX4_access 202 = .ok (.iand, 1) := by decide +kernel
theorem dX4_access_203 : decode cX4_access 203 = .ok (.ishl, 1) := by decide +kernel
theorem dX4_access_204 : decode cX4_access 204 = .ok (.istore 10, 2) := by decide +kernel
theorem dX4_access_206 : decode cX4_access 206 = .ok (.iload 5, 2) := by decide +kernel
theorem dX4_access_208 : decode cX4_access 208 = .ok (.sipush 146, 3) := by decide +kernel
theorem dX4_access_211 : decode cX4_access 211 = .ok (.if_icmp .ne 19, 3) := by decide +kernel
theorem dX4_access_214 : decode cX4_access 214 = .ok (.aload_n 0, 1) := by decide +kernel
theorem dX4_access_215 : decode cX4_access 215 = .ok (.iload_n 2, 1) := by decide +kernel
theorem dX4_access_216 : decode cX4_access 216 = .ok (.aload_n 0, 1) := by decide +kernel
theorem dX4_access_217 : decode cX4_access 217 = .ok (.lload 8, 2) := by decide +kernel
theorem dX4_access_219 : decode cX4_access 219 = .ok (.iconst 4, 1) := by decide +kernel
theorem dX4_access_220 : decode cX4_access 220 = .ok (.invokevirtual 170, 3) := by decide +kernel
theorem dX4_access_223 : decode cX4_access 223 = .ok (.bipush 32, 2) := by decide +kernel
theorem dX4_access_225 : decode cX4_access 225 = .ok (.lshl, 1) := by decide +kernel
theorem dX4_access_226 : decode cX4_access 226 = .ok (.invokevirtual 269, 3) := by decide +kernel
theorem dX4_access_229 : decode cX4_access 229 = .ok (.ireturn, 1) := by decide +kernel
theorem dX4_access_230 : decode cX4_access 230 = .ok (.iload 6, 2) := by decide +kernel
theorem dX4_access_232 : decode cX4_access 232 = .ok (.ifCond .eq 40, 3) := by decide +kernel
theorem dX4_access_235 : decode cX4_access 235 = .ok (.aload_n 0, 1) := by decide +kernel
theorem dX4_access_236 : decode cX4_access 236 = .ok (.iload_n 2, 1) := by decide +kernel
theorem dX4_access_237 : decode cX4_access 237 = .ok (.iload 5, 2) := by decide +kernel
theorem dX4_access_239 : decode cX4_access 239 = .ok (.iconst 2, 1) := by decide +kernel
theorem dX4_access_240 : decode cX4_access 240 = .ok (.iand, 1) := by decide +kernel
theorem dX4_access_241 : decode cX4_access 241 = .ok (.ifCond .ne 19, 3) := by decide +kernel
theorem dX4_access_244 : decode cX4_access 244 = .ok (.aload_n 0, 1) := by decide +kernel
theorem dX4_access_245 : decode cX4_access 245 = .ok (.lload 8, 2) := by decide +kernel
theorem dX4_access_247 : decode cX4_access 247 = .ok (.iload 10, 2) := by decide +kernel
theorem dX4_access_249 : decode cX4_access 249 = .ok (.invokevirtual 170, 3) := by decide +kernel
theorem dX4_access_252 : decode cX4_access 252 = .ok (.iload 10, 2) := by decide +kernel
theorem dX4_access_254 : decode cX4_access 254 = .ok (.invokestatic 283, 3) := by decide +kernel
theorem dX4_access_257 : decode cX4_access 257 = .ok (.goto 11, 3) := by decide +kernel
theorem dX4_access_260 : decode cX4_access 260 = .ok (.aload_n 0, 1) := by decide +kernel
theorem dX4_access_261 : decode cX4_access 261 = .ok (.lload 8, 2) := by decide +kernel
theorem dX4_access_263 : decode cX4_access 263 = .ok (.iload 10, 2) := by decide +kernel
theorem dX4_access_265 : decode cX4_access 265 = .ok (.invokevirtual 170, 3) := by decide +kernel
theorem dX4_access_268 : decode cX4_access 268 = .ok (.invokevirtual 269, 3) := by decide +kernel
theorem dX4_access_271 : decode cX4_access 271 = .ok (.ireturn, 1) := by decide +kernel
theorem dX4_access_272 : decode cX4_access 272 = .ok (.iload 5, 2) := by decide +kernel
theorem dX4_access_274 : decode cX4_access 274 = .ok (.sipush 178, 3) := by decide +kernel
theorem dX4_access_277 : decode cX4_access 277 = .ok (.if_icmp .ne 15, 3) := by decide +kernel
theorem dX4_access_280 : decode cX4_access 280 = .ok (.aload_n 0, 1) := by decide +kernel
theorem dX4_access_281 : decode cX4_access 281 = .ok (.getfield 7, 3) := by decide +kernel
theorem dX4_access_284 : decode cX4_access 284 = .ok (.iload_n 2, 1) := by decide +kernel
theorem dX4_access_285 : decode cX4_access 285 = .ok (.laload, 1) := by decide +kernel
theorem dX4_access_286 : decode cX4_access 286 = .ok (.bipush 32, 2) := by decide +kernel
theorem dX4_access_288 : decode cX4_access 288 = .ok (.lushr, 1) := by decide +kernel
theorem dX4_access_289 : decode cX4_access 289 = .ok (.goto 22, 3) := by decide +kernel
theorem dX4_access_292 : decode cX4_access 292 = .ok (.iload 5, 2) := by decide +kernel
theorem dX4_access_294 : decode cX4_access 294 = .ok (.sipush 180, 3) := by decide +kernel
theorem dX4_access_297 : decode cX4_access 297 = .ok (.if_icmp .ne 8, 3) := by decide +kernel
theorem dX4_access_300 : decode cX4_access 300 = .ok (.iload_n 2, 1) := by decide +kernel
theorem dX4_access_301 : decode cX4_access 301 = .ok (.i2l, 1) := by decide +kernel
theorem dX4_access_302 : decode cX4_access 302 = .ok (.goto 9, 3) := by decide +kernel
theorem dX4_access_305 : decode cX4_access 305 = .ok (.aload_n 0, 1) := by decide +kernel
theorem dX4_access_306 : decode cX4_access 306 = .ok (.getfield 7, 3) := by decide +kernel
theorem dX4_access_309 : decode cX4_access 309 = .ok (.iload_n 2, 1) := by decide +kernel
theorem dX4_access_310 : decode cX4_access 310 = .ok (.laload, 1) := by decide +kernel
theorem dX4_access_311 : decode cX4_access 311 = .ok (.lstore 11, 2) := by decide +kernel
theorem dX4_access_313 : decode cX4_access 313 = .ok (.iload 5, 2) := by decide +kernel
theorem dX4_access_315 : decode cX4_access 315 = .ok (.sipush 176, 3) := by decide +kernel
theorem dX4_access_318 : decode cX4_access 318 = .ok (.if_icmp .ge 32, 3) := by decide +kernel
theorem dX4_access_321 : decode cX4_access 321 = .ok (.iload 5, 2) := by decide +kernel
theorem dX4_access_323 : decode cX4_access 323 = .ok (.iconst 2, 1) := by decide +kernel
theorem dX4_access_324 : decode cX4_access 324 = .ok (.iand, 1) := by decide +kernel
theorem dX4_access_325 : decode cX4_access 325 = .ok (.ifCond .ne 25, 3) := by decide +kernel
theorem dX4_access_328 : decode cX4_access 328 = .ok (.aload_n 0, 1) := by decide +kernel
theorem dX4_access_329 : decode cX4_access 329 = .ok (.lload 11, 2) := by decide +kernel
theorem dX4_access_331 : decode cX4_access 331 = .ok (.iload 10, 2) := by decide +kernel
theorem dX4_access_333 : decode cX4_access 333 = .ok (.invokestatic 283, 3) := by decide +kernel
theorem dX4_access_336 : decode cX4_access 336 = .ok (.lload 11, 2) := by decide +kernel
theorem dX4_access_338 : decode cX4_access 338 = .ok (.lcmp, 1) := by decide +kernel
theorem dX4_access_339 : decode cX4_access 339 = .ok (.ifCond .eq 7, 3) := by decide +kernel
theorem dX4_access_342 : decode cX4_access 342 = .ok (.iconst 1, 1) := by decide +kernel
theorem dX4_access_343 : decode cX4_access 343 = .ok (.goto 4, 3) := by decide +kernel
theorem dX4_access_346 : decode cX4_access 346 = .ok (.iconst 0, 1) := by decide +kernel
theorem dX4_access_347 : decode cX4_access 347 = .ok (.invokevirtual 245, 3) := by decide +kernel
theorem dX4_access_350 : decode cX4_access 350 = .ok (.aload_n 0, 1) := by decide +kernel
theorem dX4_access_351 : decode cX4_access 351 = .ok (.lload 8, 2) := by decide +kernel
theorem dX4_access_353 : decode cX4_access 353 = .ok (.iload 10, 2) := by decide +kernel
theorem dX4_access_355 : decode cX4_access 355 = .ok (.lload 11, 2) := by decide +kernel
theorem dX4_access_357 : decode cX4_access 357 = .ok (.invokevirtual 286, 3) := by decide +kernel
theorem dX4_access_360 : decode cX4_access 360 = .ok (.aload_n 0, 1) := by decide +kernel
theorem dX4_access_361 : decode cX4_access 361 = .ok (.invokevirtual 230, 3) := by decide +kernel
theorem dX4_access_364 : decode cX4_access 364 = .ok (.ireturn, 1) := by decide +kernel
set_option maxRecDepth 20000 in
theorem ggX4_bits_X4_number : GoodIn wsX4_bits wsX4_number := goodIn_r _ [8, 1, 33, 34, 35, 36, 37, 38, 39, 40, 41, 42, 43, 44, 45, 46, 47, 48, 49] rfl (by decide +kernel)
set_option maxRecDepth 20000 in
theorem gX4_bits_X4_number : GoodIn wsX4_bits (wsV RX4 237 RX4 yX4_number wsX4_number) := goodIn_app (goodIn_of _ (by decide +kernel)) ggX4_bits_X4_number
set_option maxRecDepth 20000 in
theorem ggX4_bits_X4_matrix : GoodIn wsX4_bits wsX4_matrix := goodIn_r _ [11, 12] rfl (by decide +kernel)
set_option maxRecDepth 20000 in
theorem gX4_bits_X4_matrix : GoodIn wsX4_bits (va_wsS RX4 289 yX4_matrix wsX4_matrix) := goodIn_app (goodIn_of _ (by decide +kernel)) ggX4_bits_X4_matrix
set_option maxRecDepth 20000 in
theorem ggX4_bits_X4_differences : GoodIn wsX4_bits wsX4_differences := goodIn_r _ [15, 16, 17, 7, 18, 19] rfl (by decide +kernel)
set_option maxRecDepth 20000 in
theorem gX4_bits_X4_differences : GoodIn wsX4_bits (va_wsS RX4 293 yX4_differences wsX4_differences) := goodIn_app (goodIn_of _ (by decide +kernel)) ggX4_bits_X4_differences
set_option maxRecDepth 20000 in
theorem ggX4_bits_X4_done : GoodIn wsX4_bits wsX4_done := goodIn_r _ [23, 24, 25, 1, 26, 27, 28, 7, 29, 30, 31, 32, 33, 34, 35, 36, 37, 38, 39, 40, 41, 42, 43, 44, 45, 46, 47, 48, 49] rfl (by decide +kernel)
set_option maxRecDepth 20000 in
theorem gX4_bits_X4_done : GoodIn wsX4_bits (wsV RX4 269 RX4 yX4_done wsX4_done) := goodIn_app (goodIn_of _ (by decide +kernel)) ggX4_bits_X4_done
theorem dX4_bits_0 : decode cX4_bits 0 = .ok (.aload_n 0, 1) := by decide +kernel
theorem dX4_bits_1 : decode cX4_bits 1 = .ok (.getfield 7, 3) := by decide +kernel
theorem dX4_bits_4 : decode cX4_bits 4 = .ok (.iload_n 3, 1) := by decide +kernel
theorem dX4_bits_5 : decode cX4_bits 5 = .ok (.laload, 1) := by decide +kernel
theorem dX4_bits_6 : decode cX4_bits 6 = .ok (.lstore 5, 2) := by decide +kernel
theorem dX4_bits_8 : decode cX4_bits 8 = .ok (.aload_n 0, 1) := by decide +kernel
theorem dX4_bits_9 : decode cX4_bits 9 = .ok (.iload_n 1, 1) := by decide +kernel
theorem dX4_bits_10 : decode cX4_bits 10 = .ok (.iload 4, 2) := by decide +kernel
theorem dX4_bits_12 : decode cX4_bits 12 = .ok (.invokevirtual 237, 3) := by decide +kernel
theorem dX4_bits_15 : decode cX4_bits 15 = .ok (.lstore 7, 2) := by decide +kernel
theorem dX4_bits_17 : decode cX4_bits 17 = .ok (.lconst 0, 1) := by decide +kernel
theorem dX4_bits_18 : decode cX4_bits 18 = .ok (.lstore 9, 2) := by decide +kernel
theorem dX4_bits_20 : decode cX4_bits 20 = .ok (.iload_n 1, 1) := by decide +kernel
theorem dX4_bits_21 : decode cX4_bits 21 = .ok (.sipush 254, 3) := by decide +kernel
theorem dX4_bits_24 : decode cX4_bits 24 = .ok (.iand, 1) := by decide +kernel
theorem dX4_bits_25 : decode cX4_bits 25 = .ok (.tableswitch 333 192 222 #[139, 333, 149, 333, 163, 333, 177, 333, 187, 333, 197, 333, 211, 333, 225, 333, 333, 333, 333, 333, 333, 333, 333, 333, 239, 333, 267, 333, 305, 333, 305], 139) := by decide +kernel
theorem dX4_bits_164 : decode cX4_bits 164 = .ok (.lload 5, 2) := by decide +kernel
theorem dX4_bits_166 : decode cX4_bits 166 = .ok (.lload 7, 2) := by decide +kernel
theorem dX4_bits_168 : decode cX4_bits 168 = .ok (.lor, 1) := by decide +kernel
theorem dX4_bits_169 : decode cX4_bits 169 = .ok (.lstore 9, 2) := by decide +kernel
theorem dX4_bits_171 : decode cX4_bits 171 = .ok (.goto 203, 3) := by decide +kernel
theorem dX4_bits_174 : decode cX4_bits 174 = .ok (.lload 5, 2) := by decide +kernel
theorem dX4_bits_176 : decode cX4_bits 176 = .ok (.lload 7, 2) := by decide +kernel
theorem dX4_bits_178 : decode cX4_bits 178 = .ok (.ldc2_w 261, 3) := by decide +kernel
theorem dX4_bits_181 : decode cX4_bits 181 = .ok (.lxor, 1) := by decide +kernel
theorem dX4_bits_182 : decode cX4_bits 182 = .ok (.lor, 1) := by decide +kernel
theorem dX4_bits_183 : decode cX4_bits 183 = .ok (.lstore 9, 2) := by decide +kernel
theorem dX4_bits_185 : decode cX4_bits 185 = .ok (.goto 189, 3) := by decide +kernel
theorem dX4_bits_188 : decode cX4_bits 188 = .ok (.lload 5, 2) := by decide +kernel
theorem dX4_bits_190 : decode cX4_bits 190 = .ok (.lload 7, 2) := by decide +kernel
theorem dX4_bits_192 : decode cX4_bits 192 = .ok (.lor, 1) := by decide +kernel
theorem dX4_bits_193 : decode cX4_bits 193 = .ok (.ldc2_w 261, 3) := by decide +kernel
theorem dX4_bits_196 : decode cX4_bits 196 = .ok (.lxor, 1) := by decide +kernel
theorem dX4_bits_197 : decode cX4_bits 197 = .ok (.lstore 9, 2) := by decide +kernel
theorem dX4_bits_199 : decode cX4_bits 199 = .ok (.goto 175, 3) := by decide +kernel
theorem dX4_bits_202 : decode cX4_bits 202 = .ok (.lload 5, 2) := by decide +kernel
theorem dX4_bits_204 : decode cX4_bits 204 = .ok (.lload 7, 2) := by decide +kernel
theorem dX4_bits_206 : decode cX4_bits 206 = .ok (.lxor, 1) := by decide +kernel
theorem dX4_bits_207 : decode cX4_bits 207 = .ok (.lstore 9, 2) := by decide +kernel
theorem dX4_bits_209 : decode cX4_bits 209 = .ok (.goto 165, 3) := by decide +kernel
theorem dX4_bits_212 : decode cX4_bits 212 = .ok (.lload 5, 2) := by decide +kernel
theorem dX4_bits_214 : decode cX4_bits 214 = .ok (.lload 7, 2) := by decide +kernel
theorem dX4_bits_216 : decode cX4_bits 216 = .ok (.land, 1) := by decide +kernel
theorem dX4_bits_217 : decode cX4_bits 217 = .ok (.lstore 9, 2) := by decide +kernel
theorem dX4_bits_219 : decode cX4_bits 219 = .ok (.goto 155, 3) := by decide +kernel
theorem dX4_bits_222 : decode cX4_bits 222 = .ok (.lload 5, 2) := by decide +kernel
theorem dX4_bits_224 : decode cX4_bits 224 = .ok (.lload 7, 2) := by decide +kernel
theorem dX4_bits_226 : decode cX4_bits 226 = .ok (.ldc2_w 261, 3) := by decide +kernel
theorem dX4_bits_229 : decode cX4_bits 229 = .ok (.lxor, 1) := by decide +kernel
theorem dX4_bits_230 : decode cX4_bits 230 = .ok (.land, 1) := by decide +kernel
theorem dX4_bits_231 : decode cX4_bits 231 = .ok (.lstore 9, 2) := by decide +kernel
theorem dX4_bits_233 : decode cX4_bits 233 = .ok (.goto 141, 3) := by decide +kernel
theorem dX4_bits_236 : decode cX4_bits 236 = .ok (.lload 5, 2) := by decide +kernel
theorem dX4_bits_238 : decode cX4_bits 238 = .ok (.lload 7, 2) := by decide +kernel
theorem dX4_bits_240 : decode cX4_bits 240 = .ok (.land, 1) := by decide +kernel
theorem dX4_bits_241 : decode cX4_bits 241 = .ok (.ldc2_w 261, 3) := by decide +kernel
theorem dX4_bits_244 : decode cX4_bits 244 = .ok (.lxor, 1) := by decide +kernel
theorem dX4_bits_245 : decode cX4_bits 245 = .ok (.lstore 9, 2) := by decide +kernel
theorem dX4_bits_247 : decode cX4_bits 247 = .ok (.goto 127, 3) := by decide +kernel
theorem dX4_bits_250 : decode cX4_bits 250 = .ok (.lload 5, 2) := by decide +kernel
theorem dX4_bits_252 : decode cX4_bits 252 = .ok (.lload 7, 2) := by decide +kernel
theorem dX4_bits_254 : decode cX4_bits 254 = .ok (.lxor, 1) := by decide +kernel
theorem dX4_bits_255 : decode cX4_bits 255 = .ok (.ldc2_w 261, 3) := by decide +kernel
theorem dX4_bits_258 : decode cX4_bits 258 = .ok (.lxor, 1) := by decide +kernel
theorem dX4_bits_259 : decode cX4_bits 259 = .ok (.lstore 9, 2) := by decide +kernel
theorem dX4_bits_261 : decode cX4_bits 261 = .ok (.goto 113, 3) := by decide +kernel
theorem dX4_bits_264 : decode cX4_bits 264 = .ok (.lload 5, 2) := by decide +kernel
theorem dX4_bits_266 : decode cX4_bits 266 = .ok (.aload_n 0, 1) := by decide +kernel
theorem dX4_bits_267 : decode cX4_bits 267 = .ok (.getfield 13, 3) := by decide +kernel
theorem dX4_bits_270 : decode cX4_bits 270 = .ok (.iconst 5, 1) := by decide +kernel
theorem dX4_bits_271 : decode cX4_bits 271 = .ok (.laload, 1) := by decide +kernel
theorem dX4_bits_272 : decode cX4_bits 272 = .ok (.land, 1) := by decide +kernel
theorem dX4_bits_273 : decode cX4_bits 273 = .ok (.lload 7, 2) := by decide +kernel
theorem dX4_bits_275 : decode cX4_bits 275 = .ok (.aload_n 0, 1) := by decide +kernel
theorem dX4_bits_276 : decode cX4_bits 276 = .ok (.getfield 13, 3) := by decide +kernel
theorem dX4_bits_279 : decode cX4_bits 279 = .ok (.iconst 5, 1) := by decide +kernel
theorem dX4_bits_280 : decode cX4_bits 280 = .ok (.laload, 1) := by decide +kernel
theorem dX4_bits_281 : decode cX4_bits 281 = .ok (.ldc2_w 261, 3) := by decide +kernel
theorem dX4_bits_284 : decode cX4_bits 284 = .ok (.lxor, 1) := by decide +kernel
theorem dX4_bits_285 : decode cX4_bits 285 = .ok (.land, 1) := by decide +kernel
theorem dX4_bits_286 : decode cX4_bits 286 = .ok (.lor, 1) := by decide +kernel
theorem dX4_bits_287 : decode cX4_bits 287 = .ok (.lstore 9, 2) := by decide +kernel
theorem dX4_bits_289 : decode cX4_bits 289 = .ok (.goto 85, 3) := by decide +kernel
theorem dX4_bits_292 : decode cX4_bits 292 = .ok (.iconst 0, 1) := by decide +kernel
theorem dX4_bits_293 : decode cX4_bits 293 = .ok (.istore 11, 2) := by decide +kernel
theorem dX4_bits_295 : decode cX4_bits 295 = .ok (.iload 11, 2) := by decide +kernel
theorem dX4_bits_297 : decode cX4_bits 297 = .ok (.bipush 64, 2) := by decide +kernel
theorem dX4_bits_299 : decode cX4_bits 299 = .ok (.if_icmp .ge 28, 3) := by decide +kernel
theorem dX4_bits_302 : decode cX4_bits 302 = .ok (.lload 9, 2) := by decide +kernel
theorem dX4_bits_304 : decode cX4_bits 304 = .ok (.lload 5, 2) := by decide +kernel
theorem dX4_bits_306 : decode cX4_bits 306 = .ok (.lload 7, 2) := by decide +kernel
theorem dX4_bits_308 : decode cX4_bits 308 = .ok (.ldc2_w 261, 3) := by decide +kernel
theorem dX4_bits_311 : decode cX4_bits 311 = .ok (.lxor, 1) := by decide +kernel
theorem dX4_bits_312 : decode cX4_bits 312 = .ok (.land, 1) := by decide +kernel
theorem dX4_bits_313 : decode cX4_bits 313 = .ok (.iload 11, 2) := by decide +kernel
theorem dX4_bits_315 : decode cX4_bits 315 = .ok (.lushr, 1) := by decide +kernel
theorem dX4_bits_316 : decode cX4_bits 316 = .ok (.lconst 1, 1) := by decide +kernel
theorem dX4_bits_317 : decode cX4_bits 317 = .ok (.land, 1) := by decide +kernel
theorem dX4_bits_318 : decode cX4_bits 318 = .ok (.ladd, 1) := by decide +kernel
theorem dX4_bits_319 : decode cX4_bits 319 = .ok (.lstore 9, 2) := by decide +kernel
theorem dX4_bits_321 : decode cX4_bits 321 = .ok (.iinc 11 1, 3) := by decide +kernel
theorem dX4_bits_324 : decode cX4_bits 324 = .ok (.goto (-29), 3) := by decide +kernel
theorem dX4_bits_327 : decode cX4_bits 327 = .ok (.goto 47, 3) := by decide +kernel
theorem dX4_bits_330 : decode cX4_bits 330 = .ok (.lload 5, 2) := by decide +kernel
theorem dX4_bits_332 : decode cX4_bits 332 = .ok (.lload 7, 2) := by decide +kernel
theorem dX4_bits_334 : decode cX4_bits 334 = .ok (.iload_n 1, 1) := by decide +kernel
theorem dX4_bits_335 : decode cX4_bits 335 = .ok (.sipush 254, 3) := by decide +kernel
theorem dX4_bits_338 : decode cX4_bits 338 = .ok (.iand, 1) := by decide +kernel
theorem dX4_bits_339 : decode cX4_bits 339 = .ok (.sipush 222, 3) := by decide +kernel
theorem dX4_bits_342 : decode cX4_bits 342 = .ok (.if_icmp .ne 7, 3) := by decide +kernel
theorem dX4_bits_345 : decode cX4_bits 345 = .ok (.iconst 1, 1) := by decide +kernel
theorem dX4_bits_346 : decode cX4_bits 346 = .ok (.goto 4, 3) := by decide +kernel
theorem dX4_bits_349 : decode cX4_bits 349 = .ok (.iconst 0, 1) := by decide +kernel
theorem dX4_bits_350 : decode cX4_bits 350 = .ok (.invokestatic 289, 3) := by decide +kernel
theorem dX4_bits_353 : decode cX4_bits 353 = .ok (.lstore 9, 2) := by decide +kernel
theorem dX4_bits_355 : decode cX4_bits 355 = .ok (.goto 19, 3) := by decide +kernel
theorem dX4_bits_358 : decode cX4_bits 358 = .ok (.lload 5, 2) := by decide +kernel
theorem dX4_bits_360 : decode cX4_bits 360 = .ok (.lload 7, 2) := by decide +kernel
theorem dX4_bits_362 : decode cX4_bits 362 = .ok (.iconst 1, 1) := by decide +kernel
theorem dX4_bits_363 : decode cX4_bits 363 = .ok (.iload_n 1, 1) := by decide +kernel
theorem dX4_bits_364 : decode cX4_bits 364 = .ok (.iconst 1, 1) := by decide +kernel
theorem dX4_bits_365 : decode cX4_bits 365 = .ok (.ishr, 1) := by decide +kernel
theorem dX4_bits_366 : decode cX4_bits 366 = .ok (.iconst 3, 1) := by decide +kernel
theorem dX4_bits_367 : decode cX4_bits 367 = .ok (.iand, 1) := by decide +kernel
theorem dX4_bits_368 : decode cX4_bits 368 = .ok (.ishl, 1) := by decide +kernel
theorem dX4_bits_369 : decode cX4_bits 369 = .ok (.invokestatic 293, 3) := by decide +kernel
theorem dX4_bits_372 : decode cX4_bits 372 = .ok (.lstore 9, 2) := by decide +kernel
theorem dX4_bits_374 : decode cX4_bits 374 = .ok (.aload_n 0, 1) := by decide +kernel
theorem dX4_bits_375 : decode cX4_bits 375 = .ok (.iload_n 2, 1) := by decide +kernel
theorem dX4_bits_376 : decode cX4_bits 376 = .ok (.lload 9, 2) := by decide +kernel
theorem dX4_bits_378 : decode cX4_bits 378 = .ok (.invokevirtual 269, 3) := by decide +kernel
theorem dX4_bits_381 : decode cX4_bits 381 = .ok (.ireturn, 1) := by decide +kernel
set_option maxRecDepth 20000 in
theorem ggX4_differences_X4_above : GoodIn wsX4_differences wsX4_above := goodIn_r _ [4, 5] rfl (by decide +kernel)
set_option maxRecDepth 20000 in
theorem gX4_differences_X4_above : GoodIn wsX4_differences (va_wsS RX4 263 yX4_above wsX4_above) := goodIn_app (goodIn_of _ (by decide +kernel)) ggX4_differences_X4_above
theorem dX4_differences_0 : decode cX4_differences 0 = .ok (.iload 4, 2) := by decide +kernel
theorem dX4_differences_2 : decode cX4_differences 2 = .ok (.bipush 8, 2) := by decide +kernel
theorem dX4_differences_4 : decode cX4_differences 4 = .ok (.if_icmp .ne 19, 3) := by decide +kernel
theorem dX4_differences_7 : decode cX4_differences 7 = .ok (.lload_n 0, 1) := by decide +kernel
theorem dX4_differences_8 : decode cX4_differences 8 = .ok (.lload_n 2, 1) := by decide +kernel
theorem dX4_differences_9 : decode cX4_differences 9 = .ok (.invokestatic 263, 3) := by decide +kernel
theorem dX4_differences_12 : decode cX4_differences 12 = .ok (.ifCond .eq 9, 3) := by decide +kernel
theorem dX4_differences_15 : decode cX4_differences 15 = .ok (.lload_n 0, 1) := by decide +kernel
theorem dX4_differences_16 : decode cX4_differences 16 = .ok (.lload_n 2, 1) := by decide +kernel
theorem dX4_differences_17 : decode cX4_differences 17 = .ok (.lsub, 1) := by decide +kernel
theorem dX4_differences_18 : decode cX4_differences 18 = .ok (.goto 4, 3) := by decide +kernel
theorem dX4_differences_21 : decode cX4_differences 21 = .ok (.lconst 0, 1) := by decide +kernel
theorem dX4_differences_22 : decode cX4_differences 22 = .ok (.lreturn, 1) := by decide +kernel
theorem dX4_differences_23 : decode cX4_differences 23 = .ok (.lconst 0, 1) := by decide +kernel
theorem dX4_differences_24 : decode cX4_differences 24 = .ok (.lstore 5, 2) := by decide +kernel
theorem dX4_differences_26 : decode cX4_differences 26 = .ok (.lconst 1, 1) := by decide +kernel
theorem dX4_differences_27 : decode cX4_differences 27 = .ok (.bipush 8, 2) := by decide +kernel
theorem dX4_differences_29 : decode cX4_differences 29 = .ok (.iload 4, 2) := by decide +kernel
theorem dX4_differences_31 : decode cX4_differences 31 = .ok (.imul, 1) := by decide +kernel
theorem dX4_differences_32 : decode cX4_differences 32 = .ok (.lshl, 1) := by decide +kernel
theorem dX4_differences_33 : decode cX4_differences 33 = .ok (.lconst 1, 1) := by decide +kernel
theorem dX4_differences_34 : decode cX4_differences 34 = .ok (.lsub, 1) := by decide +kernel
theorem dX4_differences_35 : decode cX4_differences 35 = .ok (.lstore 7, 2) := by decide +kernel
theorem dX4_differences_37 : decode cX4_differences 37 = .ok (.iconst 0, 1) := by decide +kernel
theorem dX4_differences_38 : decode cX4_differences 38 = .ok (.istore 9, 2) := by decide +kernel
theorem dX4_differences_40 : decode cX4_differences 40 = .ok (.iload 9, 2) := by decide +kernel
theorem dX4_differences_42 : decode cX4_differences 42 = .ok (.bipush 64, 2) := by decide +kernel
theorem dX4_differences_44 : decode cX4_differences 44 = .ok (.if_icmp .ge 50, 3) := by decide +kernel
theorem dX4_differences_47 : decode cX4_differences 47 = .ok (.lload_n 0, 1) := by decide +kernel
theorem dX4_differences_48 : decode cX4_differences 48 = .ok (.iload 9, 2) := by decide +kernel
theorem dX4_differences_50 : decode cX4_differences 50 = .ok (.lushr, 1) := by decide +kernel
theorem dX4_differences_51 : decode cX4_differences 51 = .ok (.lload 7, 2) := by decide +kernel
theorem dX4_differences_53 : decode cX4_differences 53 = .ok (.land, 1) := by decide +kernel
theorem dX4_differences_54 : decode cX4_differences 54 = .ok (.lload_n 2, 1) := by decide +kernel
theorem dX4_differences_55 : decode cX4_differences 55 = .ok (.iload 9, 2) := by decide +kernel
theorem dX4_differences_57 : decode cX4_differences 57 = .ok (.lushr, 1) := by decide +kernel
theorem dX4_differences_58 : decode cX4_differences 58 = .ok (.lload 7, 2) := by decide +kernel
theorem dX4_differences_60 : decode cX4_differences 60 = .ok (.land, 1) := by decide +kernel
theorem dX4_differences_61 : decode cX4_differences 61 = .ok (.lsub, 1) := by decide +kernel
theorem dX4_differences_62 : decode cX4_differences 62 = .ok (.lstore 10, 2) := by decide +kernel
theorem dX4_differences_64 : decode cX4_differences 64 = .ok (.lload 10, 2) := by decide +kernel
theorem dX4_differences_66 : decode cX4_differences 66 = .ok (.lconst 0, 1) := by decide +kernel
theorem dX4_differences_67 : decode cX4_differences 67 = .ok (.lcmp, 1) := by decide +kernel
theorem dX4_differences_68 : decode cX4_differences 68 = .ok (.ifCond .le 13, 3) := by decide +kernel
theorem dX4_differences_71 : decode cX4_differences 71 = .ok (.lload 5, 2) := by decide +kernel
theorem dX4_differences_73 : decode cX4_differences 73 = .ok (.lload 10, 2) := by decide +kernel
theorem dX4_differences_75 : decode cX4_differences 75 = .ok (.iload 9, 2) := by decide +kernel
theorem dX4_differences_77 : decode cX4_differences 77 = .ok (.lshl, 1) := by decide +kernel
theorem dX4_differences_78 : decode cX4_differences 78 = .ok (.lor, 1) := by decide +kernel
theorem dX4_differences_79 : decode cX4_differences 79 = .ok (.lstore 5, 2) := by decide +kernel
theorem dX4_differences_81 : decode cX4_differences 81 = .ok (.iload 9, 2) := by decide +kernel
theorem dX4_differences_83 : decode cX4_differences 83 = .ok (.bipush 8, 2) := by decide +kernel
theorem dX4_differences_85 : decode cX4_differences 85 = .ok (.iload 4, 2) := by decide +kernel
theorem dX4_differences_87 : decode cX4_differences 87 = .ok (.imul, 1) := by decide +kernel
theorem dX4_differences_88 : decode cX4_differences 88 = .ok (.iadd, 1) := by decide +kernel
theorem dX4_differences_89 : decode cX4_differences 89 = .ok (.istore 9, 2) := by decide +kernel
theorem dX4_differences_91 : decode cX4_differences 91 = .ok (.goto (-51), 3) := by decide +kernel
theorem dX4_differences_94 : decode cX4_differences 94 = .ok (.lload 5, 2) := by decide +kernel
theorem dX4_differences_96 : decode cX4_differences 96 = .ok (.lreturn, 1) := by decide +kernel
theorem dX4_matrix_0 : decode cX4_matrix 0 = .ok (.lconst 0, 1) := by decide +kernel
theorem dX4_matrix_1 : decode cX4_matrix 1 = .ok (.lstore 5, 2) := by decide +kernel
theorem dX4_matrix_3 : decode cX4_matrix 3 = .ok (.iconst 0, 1) := by decide +kernel
theorem dX4_matrix_4 : decode cX4_matrix 4 = .ok (.istore 7, 2) := by decide +kernel
theorem dX4_matrix_6 : decode cX4_matrix 6 = .ok (.iload 7, 2) := by decide +kernel
theorem dX4_matrix_8 : decode cX4_matrix 8 = .ok (.bipush 8, 2) := by decide +kernel
theorem dX4_matrix_10 : decode cX4_matrix 10 = .ok (.if_icmp .ge 100, 3) := by decide +kernel
theorem dX4_matrix_13 : decode cX4_matrix 13 = .ok (.lconst 0, 1) := by decide +kernel
theorem dX4_matrix_14 : decode cX4_matrix 14 = .ok (.lstore 8, 2) := by decide +kernel
theorem dX4_matrix_16 : decode cX4_matrix 16 = .ok (.iconst 0, 1) := by decide +kernel
theorem dX4_matrix_17 : decode cX4_matrix 17 = .ok (.istore 10, 2) := by decide +kernel
theorem dX4_matrix_19 : decode cX4_matrix 19 = .ok (.iload 10, 2) := by decide +kernel
theorem dX4_matrix_21 : decode cX4_matrix 21 = .ok (.bipush 8, 2) := by decide +kernel
theorem dX4_matrix_23 : decode cX4_matrix 23 = .ok (.if_icmp .ge 71, 3) := by decide +kernel
theorem dX4_matrix_26 : decode cX4_matrix 26 = .ok (.lload_n 2, 1) := by decide +kernel
theorem dX4_matrix_27 : decode cX4_matrix 27 = .ok (.bipush 56, 2) := by decide +kernel
theorem dX4_matrix_29 : decode cX4_matrix 29 = .ok (.bipush 8, 2) := by decide +kernel
theorem dX4_matrix_31 : decode cX4_matrix 31 = .ok (.iload 7, 2) := by decide +kernel
theorem dX4_matrix_33 : decode cX4_matrix 33 = .ok (.imul, 1) := by decide +kernel
theorem dX4_matrix_34 : decode cX4_matrix 34 = .ok (.isub, 1) := by decide +kernel
theorem dX4_matrix_35 : decode cX4_matrix 35 = .ok (.bipush 7, 2) := by decide +kernel
theorem dX4_matrix_37 : decode cX4_matrix 37 = .ok (.iadd, 1) := by decide +kernel
theorem dX4_matrix_38 : decode cX4_matrix 38 = .ok (.iload 10, 2) := by decide +kernel
theorem dX4_matrix_40 : decode cX4_matrix 40 = .ok (.isub, 1) := by decide +kernel
theorem dX4_matrix_41 : decode cX4_matrix 41 = .ok (.lushr, 1) := by decide +kernel
theorem dX4_matrix_42 : decode cX4_matrix 42 = .ok (.lconst 1, 1) := by decide +kernel
theorem dX4_matrix_43 : decode cX4_matrix 43 = .ok (.land, 1) := by decide +kernel
theorem dX4_matrix_44 : decode cX4_matrix 44 = .ok (.lconst 0, 1) := by decide +kernel
theorem dX4_matrix_45 : decode cX4_matrix 45 = .ok (.lcmp, 1) := by decide +kernel
theorem dX4_matrix_46 : decode cX4_matrix 46 = .ok (.ifCond .ne 6, 3) := by decide +kernel
theorem dX4_matrix_49 : decode cX4_matrix 49 = .ok (.goto 39, 3) := by decide +kernel
theorem dX4_matrix_52 : decode cX4_matrix 52 = .ok (.lload_n 0, 1) := by decide +kernel
theorem dX4_matrix_53 : decode cX4_matrix 53 = .ok (.bipush 56, 2) := by decide +kernel
theorem dX4_matrix_55 : decode cX4_matrix 55 = .ok (.bipush 8, 2) := by decide +kernel
theorem dX4_matrix_57 : decode cX4_matrix 57 = .ok (.iload 10, 2) := by decide +kernel
theorem dX4_matrix_59 : decode cX4_matrix 59 = .ok (.imul, 1) := by decide +kernel
theorem dX4_matrix_60 : decode cX4_matrix 60 = .ok (.isub, 1) := by decide +kernel
theorem dX4_matrix_61 : decode cX4_matrix 61 = .ok (.lushr, 1) := by decide +kernel
theorem dX4_matrix_62 : decode cX4_matrix 62 = .ok (.ldc2_w 297, 3) := by decide +kernel
theorem dX4_matrix_65 : decode cX4_matrix 65 = .ok (.land, 1) := by decide +kernel
theorem dX4_matrix_66 : decode cX4_matrix 66 = .ok (.lstore 11, 2) := by decide +kernel
theorem dX4_matrix_68 : decode cX4_matrix 68 = .ok (.iload 4, 2) := by decide +kernel
theorem dX4_matrix_70 : decode cX4_matrix 70 = .ok (.ifCond .eq 11, 3) := by decide +kernel
theorem dX4_matrix_73 : decode cX4_matrix 73 = .ok (.lload 8, 2) := by decide +kernel
theorem dX4_matrix_75 : decode cX4_matrix 75 = .ok (.lload 11, 2) := by decide +kernel
theorem dX4_matrix_77 : decode cX4_matrix 77 = .ok (.lxor, 1) := by decide +kernel
theorem dX4_matrix_78 : decode cX4_matrix 78 = .ok (.goto 8, 3) := by decide +kernel
theorem dX4_matrix_81 : decode cX4_matrix 81 = .ok (.lload 8, 2) := by decide +kernel
theorem dX4_matrix_83 : decode cX4_matrix 83 = .ok (.lload 11, 2) := by decide +kernel
theorem dX4_matrix_85 : decode cX4_matrix 85 = .ok (.lor, 1) := by decide +kernel
theorem dX4_matrix_86 : decode cX4_matrix 86 = .ok (.lstore 8, 2) := by decide +kernel
theorem dX4_matrix_88 : decode cX4_matrix 88 = .ok (.iinc 10 1, 3) := by decide +kernel
theorem dX4_matrix_91 : decode cX4_matrix 91 = .ok (.goto (-72), 3) := by decide +kernel
theorem dX4_matrix_94 : decode cX4_matrix 94 = .ok (.lload 5, 2) := by decide +kernel
theorem dX4_matrix_96 : decode cX4_matrix 96 = .ok (.bipush 8, 2) := by decide +kernel
theorem dX4_matrix_98 : decode cX4_matrix 98 = .ok (.lshl, 1) := by decide +kernel
theorem dX4_matrix_99 : decode cX4_matrix 99 = .ok (.lload 8, 2) := by decide +kernel
theorem dX4_matrix_101 : decode cX4_matrix 101 = .ok (.lor, 1) := by decide +kernel
theorem dX4_matrix_102 : decode cX4_matrix 102 = .ok (.lstore 5, 2) := by decide +kernel
theorem dX4_matrix_104 : decode cX4_matrix 104 = .ok (.iinc 7 1, 3) := by decide +kernel
theorem dX4_matrix_107 : decode cX4_matrix 107 = .ok (.goto (-101), 3) := by decide +kernel
theorem dX4_matrix_110 : decode cX4_matrix 110 = .ok (.lload 5, 2) := by decide +kernel
theorem dX4_matrix_112 : decode cX4_matrix 112 = .ok (.lreturn, 1) := by decide +kernel
set_option maxRecDepth 20000 in
theorem ggX4_high_X4_done : GoodIn wsX4_high wsX4_done := goodIn_r _ [15, 16, 17, 4, 18, 19, 20, 14, 21, 6, 7, 3, 26, 27, 28, 29, 30, 31, 32, 33, 34, 35, 36, 37, 38, 39, 40, 41, 42] rfl (by decide +kernel)
set_option maxRecDepth 20000 in
theorem gX4_high_X4_done : GoodIn wsX4_high (wsV RX4 269 RX4 yX4_done wsX4_done) := goodIn_app (goodIn_of _ (by decide +kernel)) ggX4_high_X4_done
set_option maxRecDepth 20000 in
theorem ggX4_high_X4_number : GoodIn wsX4_high wsX4_number := goodIn_r _ [25, 4, 26, 27, 28, 29, 30, 31, 32, 33, 34, 35, 36, 37, 38, 39, 40, 41, 42] rfl (by decide +kernel)
set_option maxRecDepth 20000 in
theorem gX4_high_X4_number : GoodIn wsX4_high (wsV RX4 237 RX4 yX4_number wsX4_number) := goodIn_app (goodIn_of _ (by decide +kernel)) ggX4_high_X4_number
theorem dX4_high_0 : decode cX4_high 0 = .ok (.iload 5, 2) := by decide +kernel
theorem dX4_high_2 : decode cX4_high 2 = .ok (.ldc 179, 2) := by decide +kernel
theorem dX4_high_4 : decode cX4_high 4 = .ok (.iand, 1) := by decide +kernel
theorem dX4_high_5 : decode cX4_high 5 = .ok (.i2l, 1) := by decide +kernel
theorem dX4_high_6 : decode cX4_high 6 = .ok (.lstore 6, 2) := by decide +kernel
theorem dX4_high_8 : decode cX4_high 8 = .ok (.lload 6, 2) := by decide +kernel
theorem dX4_high_10 : decode cX4_high 10 = .ok (.bipush 48, 2) := by decide +kernel
theorem dX4_high_12 : decode cX4_high 12 = .ok (.bipush 16, 2) := by decide +kernel
theorem dX4_high_14 : decode cX4_high 14 = .ok (.iload_n 1, 1) := by decide +kernel
theorem dX4_high_15 : decode cX4_high 15 = .ok (.iconst 3, 1) := by decide +kernel
theorem dX4_high_16 : decode cX4_high 16 = .ok (.iand, 1) := by decide +kernel
theorem dX4_high_17 : decode cX4_high 17 = .ok (.imul, 1) := by decide +kernel
theorem dX4_high_18 : decode cX4_high 18 = .ok (.isub, 1) := by decide +kernel
theorem dX4_high_19 : decode cX4_high 19 = .ok (.lshl, 1) := by decide +kernel
theorem dX4_high_20 : decode cX4_high 20 = .ok (.lstore 8, 2) := by decide +kernel
theorem dX4_high_22 : decode cX4_high 22 = .ok (.iload 5, 2) := by decide +kernel
theorem dX4_high_24 : decode cX4_high 24 = .ok (.ldc_w 299, 3) := by decide +kernel
theorem dX4_high_27 : decode cX4_high 27 = .ok (.iand, 1) := by decide +kernel
theorem dX4_high_28 : decode cX4_high 28 = .ok (.i2l, 1) := by decide +kernel
theorem dX4_high_29 : decode cX4_high 29 = .ok (.lstore 10, 2) := by decide +kernel
theorem dX4_high_31 : decode cX4_high 31 = .ok (.aload_n 0, 1) := by decide +kernel
theorem dX4_high_32 : decode cX4_high 32 = .ok (.iconst 0, 1) := by decide +kernel
theorem dX4_high_33 : decode cX4_high 33 = .ok (.putfield 215, 3) := by decide +kernel
theorem dX4_high_36 : decode cX4_high 36 = .ok (.iload_n 1, 1) := by decide +kernel
theorem dX4_high_37 : decode cX4_high 37 = .ok (.iconst 2, 1) := by decide +kernel
theorem dX4_high_38 : decode cX4_high 38 = .ok (.ishr, 1) := by decide +kernel
theorem dX4_high_39 : decode cX4_high 39 = .ok (.bipush 7, 2) := by decide +kernel
theorem dX4_high_41 : decode cX4_high 41 = .ok (.iand, 1) := by decide +kernel
theorem dX4_high_42 : decode cX4_high 42 = .ok (.tableswitch 87 0 3 #[30, 38, 53, 68], 30) := by decide +kernel
theorem dX4_high_72 : decode cX4_high 72 = .ok (.aload_n 0, 1) := by decide +kernel
theorem dX4_high_73 : decode cX4_high 73 = .ok (.iload_n 2, 1) := by decide +kernel
theorem dX4_high_74 : decode cX4_high 74 = .ok (.lload 8, 2) := by decide +kernel
theorem dX4_high_76 : decode cX4_high 76 = .ok (.invokevirtual 269, 3) := by decide +kernel
theorem dX4_high_79 : decode cX4_high 79 = .ok (.ireturn, 1) := by decide +kernel
theorem dX4_high_80 : decode cX4_high 80 = .ok (.aload_n 0, 1) := by decide +kernel
theorem dX4_high_81 : decode cX4_high 81 = .ok (.iload_n 2, 1) := by decide +kernel
theorem dX4_high_82 : decode cX4_high 82 = .ok (.aload_n 0, 1) := by decide +kernel
theorem dX4_high_83 : decode cX4_high 83 = .ok (.getfield 7, 3) := by decide +kernel
theorem dX4_high_86 : decode cX4_high 86 = .ok (.iload_n 2, 1) := by decide +kernel
theorem dX4_high_87 : decode cX4_high 87 = .ok (.laload, 1) := by decide +kernel
theorem dX4_high_88 : decode cX4_high 88 = .ok (.lload 8, 2) := by decide +kernel
theorem dX4_high_90 : decode cX4_high 90 = .ok (.ladd, 1) := by decide +kernel
theorem dX4_high_91 : decode cX4_high 91 = .ok (.invokevirtual 269, 3) := by decide +kernel
theorem dX4_high_94 : decode cX4_high 94 = .ok (.ireturn, 1) := by decide +kernel
theorem dX4_high_95 : decode cX4_high 95 = .ok (.aload_n 0, 1) := by decide +kernel
theorem dX4_high_96 : decode cX4_high 96 = .ok (.iload_n 2, 1) := by decide +kernel
theorem dX4_high_97 : decode cX4_high 97 = .ok (.aload_n 0, 1) := by decide +kernel
theorem dX4_high_98 : decode cX4_high 98 = .ok (.getfield 7, 3) := by decide +kernel
theorem dX4_high_101 : decode cX4_high 101 = .ok (.iload_n 2, 1) := by decide +kernel
theorem dX4_high_102 : decode cX4_high 102 = .ok (.laload, 1) := by decide +kernel
theorem dX4_high_103 : decode cX4_high 103 = .ok (.lload 8, 2) := by decide +kernel
theorem dX4_high_105 : decode cX4_high 105 = .ok (.lor, 1) := by decide +kernel
theorem dX4_high_106 : decode cX4_high 106 = .ok (.invokevirtual 269, 3) := by decide +kernel
theorem dX4_high_109 : decode cX4_high 109 = .ok (.ireturn, 1) := by decide +kernel
theorem dX4_high_110 : decode cX4_high 110 = .ok (.aload_n 0, 1) := by decide +kernel
theorem dX4_high_111 : decode cX4_high 111 = .ok (.iload_n 2, 1) := by decide +kernel
theorem dX4_high_112 : decode cX4_high 112 = .ok (.aload_n 0, 1) := by decide +kernel
theorem dX4_high_113 : decode cX4_high 113 = .ok (.getfield 7, 3) := by decide +kernel
theorem dX4_high_116 : decode cX4_high 116 = .ok (.iload_n 2, 1) := by decide +kernel
theorem dX4_high_117 : decode cX4_high 117 = .ok (.laload, 1) := by decide +kernel
theorem dX4_high_118 : decode cX4_high 118 = .ok (.lload 8, 2) := by decide +kernel
theorem dX4_high_120 : decode cX4_high 120 = .ok (.ldc2_w 261, 3) := by decide +kernel
theorem dX4_high_123 : decode cX4_high 123 = .ok (.lxor, 1) := by decide +kernel
theorem dX4_high_124 : decode cX4_high 124 = .ok (.land, 1) := by decide +kernel
theorem dX4_high_125 : decode cX4_high 125 = .ok (.invokevirtual 269, 3) := by decide +kernel
theorem dX4_high_128 : decode cX4_high 128 = .ok (.ireturn, 1) := by decide +kernel
theorem dX4_high_129 : decode cX4_high 129 = .ok (.iload_n 1, 1) := by decide +kernel
theorem dX4_high_130 : decode cX4_high 130 = .ok (.tableswitch 223 240 254 #[74, 91, 223, 223, 112, 129, 150, 150, 223, 223, 223, 223, 223, 185, 199], 74) := by decide +kernel
theorem dX4_high_204 : decode cX4_high 204 = .ok (.aload_n 0, 1) := by decide +kernel
theorem dX4_high_205 : decode cX4_high 205 = .ok (.dup, 1) := by decide +kernel
theorem dX4_high_206 : decode cX4_high 206 = .ok (.getfield 162, 3) := by decide +kernel
theorem dX4_high_209 : decode cX4_high 209 = .ok (.ldc2_w 223, 3) := by decide +kernel
theorem dX4_high_212 : decode cX4_high 212 = .ok (.lload 10, 2) := by decide +kernel
theorem dX4_high_214 : decode cX4_high 214 = .ok (.lmul, 1) := by decide +kernel
theorem dX4_high_215 : decode cX4_high 215 = .ok (.ladd, 1) := by decide +kernel
theorem dX4_high_216 : decode cX4_high 216 = .ok (.putfield 162, 3) := by decide +kernel
theorem dX4_high_219 : decode cX4_high 219 = .ok (.iconst 0, 1) := by decide +kernel
theorem dX4_high_220 : decode cX4_high 220 = .ok (.ireturn, 1) := by decide +kernel
theorem dX4_high_221 : decode cX4_high 221 = .ok (.aload_n 0, 1) := by decide +kernel
theorem dX4_high_222 : decode cX4_high 222 = .ok (.dup, 1) := by decide +kernel
theorem dX4_high_223 : decode cX4_high 223 = .ok (.getfield 162, 3) := by decide +kernel
theorem dX4_high_226 : decode cX4_high 226 = .ok (.ldc2_w 223, 3) := by decide +kernel
theorem dX4_high_229 : decode cX4_high 229 = .ok (.ldc2_w 300, 3) := by decide +kernel
theorem dX4_high_232 : decode cX4_high 232 = .ok (.lload 10, 2) := by decide +kernel
theorem dX4_high_234 : decode cX4_high 234 = .ok (.lsub, 1) := by decide +kernel
theorem dX4_high_235 : decode cX4_high 235 = .ok (.lmul, 1) := by decide +kernel
theorem dX4_high_236 : decode cX4_high 236 = .ok (.lsub, 1) := by decide +kernel
theorem dX4_high_237 : decode cX4_high 237 = .ok (.putfield 162, 3) := by decide +kernel
theorem dX4_high_240 : decode cX4_high 240 = .ok (.iconst 0, 1) := by decide +kernel
theorem dX4_high_241 : decode cX4_high 241 = .ok (.ireturn, 1) := by decide +kernel
theorem dX4_high_242 : decode cX4_high 242 = .ok (.aload_n 0, 1) := by decide +kernel
theorem dX4_high_243 : decode cX4_high 243 = .ok (.iload_n 2, 1) := by decide +kernel
theorem dX4_high_244 : decode cX4_high 244 = .ok (.aload_n 0, 1) := by decide +kernel
theorem dX4_high_245 : decode cX4_high 245 = .ok (.getfield 162, 3) := by decide +kernel
theorem dX4_high_248 : decode cX4_high 248 = .ok (.ldc2_w 223, 3) := by decide +kernel
theorem dX4_high_251 : decode cX4_high 251 = .ok (.lload 6, 2) := by decide +kernel
theorem dX4_high_253 : decode cX4_high 253 = .ok (.lmul, 1) := by decide +kernel
theorem dX4_high_254 : decode cX4_high 254 = .ok (.ladd, 1) := by decide +kernel
theorem dX4_high_255 : decode cX4_high 255 = .ok (.invokevirtual 269, 3) := by decide +kernel
theorem dX4_high_258 : decode cX4_high 258 = .ok (.ireturn, 1) := by decide +kernel
theorem dX4_high_259 : decode cX4_high 259 = .ok (.aload_n 0, 1) := by decide +kernel
theorem dX4_high_260 : decode cX4_high 260 = .ok (.iload_n 2, 1) := by decide +kernel
theorem dX4_high_261 : decode cX4_high 261 = .ok (.aload_n 0, 1) := by decide +kernel
theorem dX4_high_262 : decode cX4_high 262 = .ok (.getfield 162, 3) := by decide +kernel
theorem dX4_high_265 : decode cX4_high 265 = .ok (.ldc2_w 223, 3) := by decide +kernel
theorem dX4_high_268 : decode cX4_high 268 = .ok (.ldc2_w 302, 3) := by decide +kernel
theorem dX4_high_271 : decode cX4_high 271 = .ok (.lload 6, 2) := by decide +kernel
theorem dX4_high_273 : decode cX4_high 273 = .ok (.lsub, 1) := by decide +kernel
theorem dX4_high_274 : decode cX4_high 274 = .ok (.lmul, 1) := by decide +kernel
theorem dX4_high_275 : decode cX4_high 275 = .ok (.lsub, 1) := by decide +kernel
theorem dX4_high_276 : decode cX4_high 276 = .ok (.invokevirtual 269, 3) := by decide +kernel
theorem dX4_high_279 : decode cX4_high 279 = .ok (.ireturn, 1) := by decide +kernel
theorem dX4_high_280 : decode cX4_high 280 = .ok (.iload_n 2, 1) := by decide +kernel
theorem dX4_high_281 : decode cX4_high 281 = .ok (.bipush 7, 2) := by decide +kernel
theorem dX4_high_283 : decode cX4_high 283 = .ok (.if_icmp .le 5, 3) := by decide +kernel
theorem dX4_high_286 : decode cX4_high 286 = .ok (.iconst 2, 1) := by decide +kernel
theorem dX4_high_287 : decode cX4_high 287 = .ok (.ireturn, 1) := by decide +kernel
theorem dX4_high_288 : decode cX4_high 288 = .ok (.aload_n 0, 1) := by decide +kernel
theorem dX4_high_289 : decode cX4_high 289 = .ok (.getfield 13, 3) := by decide +kernel
theorem dX4_high_292 : decode cX4_high 292 = .ok (.iload_n 2, 1) := by decide +kernel
theorem dX4_high_293 : decode cX4_high 293 = .ok (.aload_n 0, 1) := by decide +kernel
theorem dX4_high_294 : decode cX4_high 294 = .ok (.iload_n 1, 1) := by decide +kernel
theorem dX4_high_295 : decode cX4_high 295 = .ok (.iload 4, 2) := by decide +kernel
theorem dX4_high_297 : decode cX4_high 297 = .ok (.invokevirtual 237, 3) := by decide +kernel
theorem dX4_high_300 : decode cX4_high 300 = .ok (.lastore, 1) := by decide +kernel
theorem dX4_high_301 : decode cX4_high 301 = .ok (.aload_n 0, 1) := by decide +kernel
theorem dX4_high_302 : decode cX4_high 302 = .ok (.dup, 1) := by decide +kernel
theorem dX4_high_303 : decode cX4_high 303 = .ok (.getfield 162, 3) := by decide +kernel
theorem dX4_high_306 : decode cX4_high 306 = .ok (.ldc2_w 223, 3) := by decide +kernel
theorem dX4_high_309 : decode cX4_high 309 = .ok (.ladd, 1) := by decide +kernel
theorem dX4_high_310 : decode cX4_high 310 = .ok (.putfield 162, 3) := by decide +kernel
theorem dX4_high_313 : decode cX4_high 313 = .ok (.iconst 0, 1) := by decide +kernel
theorem dX4_high_314 : decode cX4_high 314 = .ok (.ireturn, 1) := by decide +kernel
theorem dX4_high_315 : decode cX4_high 315 = .ok (.aload_n 0, 1) := by decide +kernel
theorem dX4_high_316 : decode cX4_high 316 = .ok (.dup, 1) := by decide +kernel
theorem dX4_high_317 : decode cX4_high 317 = .ok (.getfield 162, 3) := by decide +kernel
theorem dX4_high_320 : decode cX4_high 320 = .ok (.ldc2_w 223, 3) := by decide +kernel
theorem dX4_high_323 : decode cX4_high 323 = .ok (.ladd, 1) := by decide +kernel
theorem dX4_high_324 : decode cX4_high 324 = .ok (.putfield 162, 3) := by decide +kernel
theorem dX4_high_327 : decode cX4_high 327 = .ok (.iconst 0, 1) := by decide +kernel
theorem dX4_high_328 : decode cX4_high 328 = .ok (.ireturn, 1) := by decide +kernel
theorem dX4_high_329 : decode cX4_high 329 = .ok (.iload 4, 2) := by decide +kernel
theorem dX4_high_331 : decode cX4_high 331 = .ok (.bipush 7, 2) := by decide +kernel
theorem dX4_high_333 : decode cX4_high 333 = .ok (.if_icmp .le 7, 3) := by decide +kernel
theorem dX4_high_336 : decode cX4_high 336 = .ok (.iconst 2, 1) := by decide +kernel
theorem dX4_high_337 : decode cX4_high 337 = .ok (.goto 15, 3) := by decide +kernel
theorem dX4_high_340 : decode cX4_high 340 = .ok (.aload_n 0, 1) := by decide +kernel
theorem dX4_high_341 : decode cX4_high 341 = .ok (.iload_n 2, 1) := by decide +kernel
theorem dX4_high_342 : decode cX4_high 342 = .ok (.aload_n 0, 1) := by decide +kernel
theorem dX4_high_343 : decode cX4_high 343 = .ok (.getfield 13, 3) := by decide +kernel
theorem dX4_high_346 : decode cX4_high 346 = .ok (.iload 4, 2) := by decide +kernel
theorem dX4_high_348 : decode cX4_high 348 = .ok (.laload, 1) := by decide +kernel
theorem dX4_high_349 : decode cX4_high 349 = .ok (.invokevirtual 269, 3) := by decide +kernel
theorem dX4_high_352 : decode cX4_high 352 = .ok (.ireturn, 1) := by decide +kernel
theorem dX4_high_353 : decode cX4_high 353 = .ok (.iconst 2, 1) := by decide +kernel
theorem dX4_high_354 : decode cX4_high 354 = .ok (.ireturn, 1) := by decide +kernel
set_option maxRecDepth 20000 in
theorem ggX4_set_X4_fail : GoodIn wsX4_set wsX4_fail := goodIn_r _ [7, 1, 8, 9, 10, 11, 12, 13, 14, 15, 16, 17, 18, 19, 20, 21, 22, 23, 24] rfl (by decide +kernel)
set_option maxRecDepth 20000 in
theorem gX4_set_X4_fail : GoodIn wsX4_set (wsV RX4 304 RX4 yX4_fail wsX4_fail) := goodIn_app (goodIn_of _ (by decide +kernel)) ggX4_set_X4_fail
theorem dX4_set_0 : decode cX4_set 0 = .ok (.aload_n 0, 1) := by decide +kernel
theorem dX4_set_1 : decode cX4_set 1 = .ok (.iconst 0, 1) := by decide +kernel
theorem dX4_set_2 : decode cX4_set 2 = .ok (.putfield 153, 3) := by decide +kernel
theorem dX4_set_5 : decode cX4_set 5 = .ok (.iload_n 1, 1) := by decide +kernel
theorem dX4_set_6 : decode cX4_set 6 = .ok (.ifCond .lt 10, 3) := by decide +kernel
theorem dX4_set_9 : decode cX4_set 9 = .ok (.iload_n 1, 1) := by decide +kernel
theorem dX4_set_10 : decode cX4_set 10 = .ok (.sipush 255, 3) := by decide +kernel
theorem dX4_set_13 : decode cX4_set 13 = .ok (.if_icmp .le 10, 3) := by decide +kernel
theorem dX4_set_16 : decode cX4_set 16 = .ok (.aload_n 0, 1) := by decide +kernel
theorem dX4_set_17 : decode cX4_set 17 = .ok (.iconst 1, 1) := by decide +kernel
theorem dX4_set_18 : decode cX4_set 18 = .ok (.invokevirtual 304, 3) := by decide +kernel
theorem dX4_set_21 : decode cX4_set 21 = .ok (.i2l, 1) := by decide +kernel
theorem dX4_set_22 : decode cX4_set 22 = .ok (.lreturn, 1) := by decide +kernel
theorem dX4_set_23 : decode cX4_set 23 = .ok (.aload_n 0, 1) := by decide +kernel
theorem dX4_set_24 : decode cX4_set 24 = .ok (.getfield 7, 3) := by decide +kernel
theorem dX4_set_27 : decode cX4_set 27 = .ok (.iload_n 1, 1) := by decide +kernel
theorem dX4_set_28 : decode cX4_set 28 = .ok (.laload, 1) := by decide +kernel
theorem dX4_set_29 : decode cX4_set 29 = .ok (.lstore 4, 2) := by decide +kernel
theorem dX4_set_31 : decode cX4_set 31 = .ok (.aload_n 0, 1) := by decide +kernel
theorem dX4_set_32 : decode cX4_set 32 = .ok (.getfield 7, 3) := by decide +kernel
theorem dX4_set_35 : decode cX4_set 35 = .ok (.iload_n 1, 1) := by decide +kernel
theorem dX4_set_36 : decode cX4_set 36 = .ok (.lload_n 2, 1) := by decide +kernel
theorem dX4_set_37 : decode cX4_set 37 = .ok (.lastore, 1) := by decide +kernel
theorem dX4_set_38 : decode cX4_set 38 = .ok (.lload 4, 2) := by decide +kernel
theorem dX4_set_40 : decode cX4_set 40 = .ok (.lreturn, 1) := by decide +kernel
set_option maxRecDepth 20000 in
theorem ggX4_get_X4_fail : GoodIn wsX4_get wsX4_fail := goodIn_r _ [8, 1, 9, 10, 11, 12, 13, 14, 15, 16, 17, 18, 19, 20, 21, 22, 23, 24, 25] rfl (by decide +kernel)
set_option maxRecDepth 20000 in
theorem gX4_get_X4_fail : GoodIn wsX4_get (wsV RX4 304 RX4 yX4_fail wsX4_fail) := goodIn_app (goodIn_of _ (by decide +kernel)) ggX4_get_X4_fail
theorem dX4_get_0 : decode cX4_get 0 = .ok (.aload_n 0, 1) := by decide +kernel
theorem dX4_get_1 : decode cX4_get 1 = .ok (.iconst 0, 1) := by decide +kernel
theorem dX4_get_2 : decode cX4_get 2 = .ok (.putfield 153, 3) := by decide +kernel
theorem dX4_get_5 : decode cX4_get 5 = .ok (.iload_n 1, 1) := by decide +kernel
theorem dX4_get_6 : decode cX4_get 6 = .ok (.ifCond .lt 10, 3) := by decide +kernel
theorem dX4_get_9 : decode cX4_get 9 = .ok (.iload_n 1, 1) := by decide +kernel
theorem dX4_get_10 : decode cX4_get 10 = .ok (.sipush 263, 3) := by decide +kernel
theorem dX4_get_13 : decode cX4_get 13 = .ok (.if_icmp .le 10, 3) := by decide +kernel
theorem dX4_get_16 : decode cX4_get 16 = .ok (.aload_n 0, 1) := by decide +kernel
theorem dX4_get_17 : decode cX4_get 17 = .ok (.iconst 1, 1) := by decide +kernel
theorem dX4_get_18 : decode cX4_get 18 = .ok (.invokevirtual 304, 3) := by decide +kernel
theorem dX4_get_21 : decode cX4_get 21 = .ok (.i2l, 1) := by decide +kernel
theorem dX4_get_22 : decode cX4_get 22 = .ok (.lreturn, 1) := by decide +kernel
theorem dX4_get_23 : decode cX4_get 23 = .ok (.iload_n 1, 1) := by decide +kernel
theorem dX4_get_24 : decode cX4_get 24 = .ok (.sipush 256, 3) := by decide +kernel
theorem dX4_get_27 : decode cX4_get 27 = .ok (.if_icmp .ge 12, 3) := by decide +kernel
theorem dX4_get_30 : decode cX4_get 30 = .ok (.aload_n 0, 1) := by decide +kernel
theorem dX4_get_31 : decode cX4_get 31 = .ok (.getfield 7, 3) := by decide +kernel
theorem dX4_get_34 : decode cX4_get 34 = .ok (.iload_n 1, 1) := by decide +kernel
theorem dX4_get_35 : decode cX4_get 35 = .ok (.laload, 1) := by decide +kernel
theorem dX4_get_36 : decode cX4_get 36 = .ok (.goto 13, 3) := by decide +kernel
theorem dX4_get_39 : decode cX4_get 39 = .ok (.aload_n 0, 1) := by decide +kernel
theorem dX4_get_40 : decode cX4_get 40 = .ok (.getfield 13, 3) := by decide +kernel
theorem dX4_get_43 : decode cX4_get 43 = .ok (.iload_n 1, 1) := by decide +kernel
theorem dX4_get_44 : decode cX4_get 44 = .ok (.sipush 256, 3) := by decide +kernel
theorem dX4_get_47 : decode cX4_get 47 = .ok (.isub, 1) := by decide +kernel
theorem dX4_get_48 : decode cX4_get 48 = .ok (.laload, 1) := by decide +kernel
theorem dX4_get_49 : decode cX4_get 49 = .ok (.lreturn, 1) := by decide +kernel
set_option maxRecDepth 20000 in
theorem ggX4_poke_X4_beyond : GoodIn wsX4_poke wsX4_beyond := goodIn_r _ [5, 6] rfl (by decide +kernel)
set_option maxRecDepth 20000 in
theorem gX4_poke_X4_beyond : GoodIn wsX4_poke (va_wsS RX4 166 yX4_beyond wsX4_beyond) := goodIn_app (goodIn_of _ (by decide +kernel)) ggX4_poke_X4_beyond
set_option maxRecDepth 20000 in
theorem ggX4_poke_X4_fail : GoodIn wsX4_poke wsX4_fail := goodIn_r _ [10, 1, 20, 21, 22, 23, 24, 25, 26, 27, 28, 29, 30, 31, 32, 33, 34, 35, 36] rfl (by decide +kernel)
set_option maxRecDepth 20000 in
theorem gX4_poke_X4_fail : GoodIn wsX4_poke (wsV RX4 304 RX4 yX4_fail wsX4_fail) := goodIn_app (goodIn_of _ (by decide +kernel)) ggX4_poke_X4_fail
set_option maxRecDepth 20000 in
theorem ggX4_poke_X4_m : GoodIn wsX4_poke wsX4_m := goodIn_r _ [14, 15, 20, 21, 22, 23, 24, 25, 26, 27, 28, 29, 30, 31, 32, 33, 34, 35, 36] rfl (by decide +kernel)
set_option maxRecDepth 20000 in
theorem gX4_poke_X4_m : GoodIn wsX4_poke (wsV RX4 170 RX4 yX4_m wsX4_m) := goodIn_app (goodIn_of _ (by decide +kernel)) ggX4_poke_X4_m
set_option maxRecDepth 20000 in
theorem ggX4_poke_X4_m_ : GoodIn wsX4_poke wsX4_m_ := goodIn_r _ [19, 15, 20, 21, 22, 23, 24, 25, 26, 27, 28, 29, 30, 31, 32, 33, 34, 35, 36] rfl (by decide +kernel)
set_option maxRecDepth 20000 in
theorem gX4_poke_X4_m_ : GoodIn wsX4_poke (wsV RX4 286 RX4 yX4_m_ wsX4_m_) := goodIn_app (goodIn_of _ (by decide +kernel)) ggX4_poke_X4_m_
theorem dX4_poke_0 : decode cX4_poke 0 = .ok (.aload_n 0, 1) := by decide +kernel
theorem dX4_poke_1 : decode cX4_poke 1 = .ok (.iconst 0, 1) := by decide +kernel
theorem dX4_poke_2 : decode cX4_poke 2 = .ok (.putfield 153, 3) := by decide +kernel
theorem dX4_poke_5 : decode cX4_poke 5 = .ok (.iload_n 1, 1) := by decide +kernel
theorem dX4_poke_6 : decode cX4_poke 6 = .ok (.i2l, 1) := by decide +kernel
theorem dX4_poke_7 : decode cX4_poke 7 = .ok (.invokestatic 166, 3) := by decide +kernel
theorem dX4_poke_10 : decode cX4_poke 10 = .ok (.ifCond .eq 10, 3) := by decide +kernel
theorem dX4_poke_13 : decode cX4_poke 13 = .ok (.aload_n 0, 1) := by decide +kernel
theorem dX4_poke_14 : decode cX4_poke 14 = .ok (.iconst 1, 1) := by decide +kernel
theorem dX4_poke_15 : decode cX4_poke 15 = .ok (.invokevirtual 304, 3) := by decide +kernel
theorem dX4_poke_18 : decode cX4_poke 18 = .ok (.i2l, 1) := by decide +kernel
theorem dX4_poke_19 : decode cX4_poke 19 = .ok (.lreturn, 1) := by decide +kernel
theorem dX4_poke_20 : decode cX4_poke 20 = .ok (.aload_n 0, 1) := by decide +kernel
theorem dX4_poke_21 : decode cX4_poke 21 = .ok (.iload_n 1, 1) := by decide +kernel
theorem dX4_poke_22 : decode cX4_poke 22 = .ok (.i2l, 1) := by decide +kernel
theorem dX4_poke_23 : decode cX4_poke 23 = .ok (.bipush 8, 2) := by decide +kernel
theorem dX4_poke_25 : decode cX4_poke 25 = .ok (.invokevirtual 170, 3) := by decide +kernel
theorem dX4_poke_28 : decode cX4_poke 28 = .ok (.lstore 4, 2) := by decide +kernel
theorem dX4_poke_30 : decode cX4_poke 30 = .ok (.aload_n 0, 1) := by decide +kernel
theorem dX4_poke_31 : decode cX4_poke 31 = .ok (.iload_n 1, 1) := by decide +kernel
theorem dX4_poke_32 : decode cX4_poke 32 = .ok (.i2l, 1) := by decide +kernel
theorem dX4_poke_33 : decode cX4_poke 33 = .ok (.bipush 8, 2) := by decide +kernel
theorem dX4_poke_35 : decode cX4_poke 35 = .ok (.lload_n 2, 1) := by decide +kernel
theorem dX4_poke_36 : decode cX4_poke 36 = .ok (.invokevirtual 286, 3) := by decide +kernel
theorem dX4_poke_39 : decode cX4_poke 39 = .ok (.lload 4, 2) := by decide +kernel
theorem dX4_poke_41 : decode cX4_poke 41 = .ok (.lreturn, 1) := by decide +kernel
set_option maxRecDepth 20000 in
theorem ggX4_peek_X4_beyond : GoodIn wsX4_peek wsX4_beyond := goodIn_r _ [5, 6] rfl (by decide +kernel)
set_option maxRecDepth 20000 in
theorem gX4_peek_X4_beyond : GoodIn wsX4_peek (va_wsS RX4 166 yX4_beyond wsX4_beyond) := goodIn_app (goodIn_of _ (by decide +kernel)) ggX4_peek_X4_beyond
set_option maxRecDepth 20000 in
theorem ggX4_peek_X4_fail : GoodIn wsX4_peek wsX4_fail := goodIn_r _ [10, 1, 16, 17, 18, 19, 20, 21, 22, 23, 24, 25, 26, 27, 28, 29, 30, 31, 32] rfl (by decide +kernel)
set_option maxRecDepth 20000 in
theorem gX4_peek_X4_fail : GoodIn wsX4_peek (wsV RX4 304 RX4 yX4_fail wsX4_fail) := goodIn_app (goodIn_of _ (by decide +kernel)) ggX4_peek_X4_fail
set_option maxRecDepth 20000 in
theorem ggX4_peek_X4_m : GoodIn wsX4_peek wsX4_m := goodIn_r _ [14, 15, 16, 17, 18, 19, 20, 21, 22, 23, 24, 25, 26, 27, 28, 29, 30, 31, 32] rfl (by decide +kernel)
set_option maxRecDepth 20000 in
theorem gX4_peek_X4_m : GoodIn wsX4_peek (wsV RX4 170 RX4 yX4_m wsX4_m) := goodIn_app (goodIn_of _ (by decide +kernel)) ggX4_peek_X4_m
theorem dX4_peek_0 : decode cX4_peek 0 = .ok (.aload_n 0, 1) := by decide +kernel
theorem dX4_peek_1 : decode cX4_peek 1 = .ok (.iconst 0, 1) := by decide +kernel
theorem dX4_peek_2 : decode cX4_peek 2 = .ok (.putfield 153, 3) := by decide +kernel
theorem dX4_peek_5 : decode cX4_peek 5 = .ok (.iload_n 1, 1) := by decide +kernel
theorem dX4_peek_6 : decode cX4_peek 6 = .ok (.i2l, 1) := by decide +kernel
theorem dX4_peek_7 : decode cX4_peek 7 = .ok (.invokestatic 166, 3) := by decide +kernel
theorem dX4_peek_10 : decode cX4_peek 10 = .ok (.ifCond .eq 10, 3) := by decide +kernel
theorem dX4_peek_13 : decode cX4_peek 13 = .ok (.aload_n 0, 1) := by decide +kernel
theorem dX4_peek_14 : decode cX4_peek 14 = .ok (.iconst 1, 1) := by decide +kernel
theorem dX4_peek_15 : decode cX4_peek 15 = .ok (.invokevirtual 304, 3) := by decide +kernel
theorem dX4_peek_18 : decode cX4_peek 18 = .ok (.i2l, 1) := by decide +kernel
theorem dX4_peek_19 : decode cX4_peek 19 = .ok (.lreturn, 1) := by decide +kernel
theorem dX4_peek_20 : decode cX4_peek 20 = .ok (.aload_n 0, 1) := by decide +kernel
theorem dX4_peek_21 : decode cX4_peek 21 = .ok (.iload_n 1, 1) := by decide +kernel
theorem dX4_peek_22 : decode cX4_peek 22 = .ok (.i2l, 1) := by decide +kernel
theorem dX4_peek_23 : decode cX4_peek 23 = .ok (.bipush 8, 2) := by decide +kernel
theorem dX4_peek_25 : decode cX4_peek 25 = .ok (.invokevirtual 170, 3) := by decide +kernel
theorem dX4_peek_28 : decode cX4_peek 28 = .ok (.lreturn, 1) := by decide +kernel
set_option maxRecDepth 20000 in
theorem ggX4_at_X4_beyond : GoodIn wsX4_at wsX4_beyond := goodIn_r _ [6, 7] rfl (by decide +kernel)
set_option maxRecDepth 20000 in
theorem gX4_at_X4_beyond : GoodIn wsX4_at (va_wsS RX4 166 yX4_beyond wsX4_beyond) := goodIn_app (goodIn_of _ (by decide +kernel)) ggX4_at_X4_beyond
set_option maxRecDepth 20000 in
theorem ggX4_at_X4_fail : GoodIn wsX4_at wsX4_fail := goodIn_r _ [11, 1, 12, 13, 14, 15, 16, 17, 18, 19, 20, 21, 22, 23, 24, 25, 26, 27, 28] rfl (by decide +kernel)
set_option maxRecDepth 20000 in
theorem gX4_at_X4_fail : GoodIn wsX4_at (wsV RX4 304 RX4 yX4_fail wsX4_fail) := goodIn_app (goodIn_of _ (by decide +kernel)) ggX4_at_X4_fail
theorem dX4_at_0 : decode cX4_at 0 = .ok (.aload_n 0, 1) := by decide +kernel
theorem dX4_at_1 : decode cX4_at 1 = .ok (.iconst 0, 1) := by decide +kernel
theorem dX4_at_2 : decode cX4_at 2 = .ok (.putfield 153, 3) := by decide +kernel
theorem dX4_at_5 : decode cX4_at 5 = .ok (.iload_n 1, 1) := by decide +kernel
theorem dX4_at_6 : decode cX4_at 6 = .ok (.i2l, 1) := by decide +kernel
theorem dX4_at_7 : decode cX4_at 7 = .ok (.invokestatic 166, 3) := by decide +kernel
theorem dX4_at_10 : decode cX4_at 10 = .ok (.ifCond .eq 9, 3) := by decide +kernel
theorem dX4_at_13 : decode cX4_at 13 = .ok (.aload_n 0, 1) := by decide +kernel
theorem dX4_at_14 : decode cX4_at 14 = .ok (.iconst 1, 1) := by decide +kernel
theorem dX4_at_15 : decode cX4_at 15 = .ok (.invokevirtual 304, 3) := by decide +kernel
theorem dX4_at_18 : decode cX4_at 18 = .ok (.ireturn, 1) := by decide +kernel
theorem dX4_at_19 : decode cX4_at 19 = .ok (.aload_n 0, 1) := by decide +kernel
theorem dX4_at_20 : decode cX4_at 20 = .ok (.iload_n 1, 1) := by decide +kernel
theorem dX4_at_21 : decode cX4_at 21 = .ok (.bipush (-4), 2) := by decide +kernel
theorem dX4_at_23 : decode cX4_at 23 = .ok (.iand, 1) := by decide +kernel
theorem dX4_at_24 : decode cX4_at 24 = .ok (.putfield 308, 3) := by decide +kernel
theorem dX4_at_27 : decode cX4_at 27 = .ok (.aload_n 0, 1) := by decide +kernel
theorem dX4_at_28 : decode cX4_at 28 = .ok (.getfield 308, 3) := by decide +kernel
theorem dX4_at_31 : decode cX4_at 31 = .ok (.ireturn, 1) := by decide +kernel
set_option maxRecDepth 20000 in
theorem ggX4_put_X4_fail : GoodIn wsX4_put wsX4_fail := goodIn_r _ [11, 1, 12, 13, 14, 15, 16, 17, 18, 19, 20, 21, 22, 23, 24, 25, 26, 27, 28] rfl (by decide +kernel)
set_option maxRecDepth 20000 in
theorem gX4_put_X4_fail : GoodIn wsX4_put (wsV RX4 304 RX4 yX4_fail wsX4_fail) := goodIn_app (goodIn_of _ (by decide +kernel)) ggX4_put_X4_fail
theorem dX4_put_0 : decode cX4_put 0 = .ok (.aload_n 0, 1) := by decide +kernel
theorem dX4_put_1 : decode cX4_put 1 = .ok (.iconst 0, 1) := by decide +kernel
theorem dX4_put_2 : decode cX4_put 2 = .ok (.putfield 153, 3) := by decide +kernel
theorem dX4_put_5 : decode cX4_put 5 = .ok (.iconst 0, 1) := by decide +kernel
theorem dX4_put_6 : decode cX4_put 6 = .ok (.istore 5, 2) := by decide +kernel
theorem dX4_put_8 : decode cX4_put 8 = .ok (.iload 5, 2) := by decide +kernel
theorem dX4_put_10 : decode cX4_put 10 = .ok (.aload_n 0, 1) := by decide +kernel
theorem dX4_put_11 : decode cX4_put 11 = .ok (.getfield 149, 3) := by decide +kernel
theorem dX4_put_14 : decode cX4_put 14 = .ok (.if_icmp .ge 20, 3) := by decide +kernel
theorem dX4_put_17 : decode cX4_put 17 = .ok (.aload_n 0, 1) := by decide +kernel
theorem dX4_put_18 : decode cX4_put 18 = .ok (.getfield 26, 3) := by decide +kernel
theorem dX4_put_21 : decode cX4_put 21 = .ok (.iload 5, 2) := by decide +kernel
theorem dX4_put_23 : decode cX4_put 23 = .ok (.iaload, 1) := by decide +kernel
theorem dX4_put_24 : decode cX4_put 24 = .ok (.iload_n 1, 1) := by decide +kernel
theorem dX4_put_25 : decode cX4_put 25 = .ok (.if_icmp .eq 9, 3) := by decide +kernel
theorem dX4_put_28 : decode cX4_put 28 = .ok (.iinc 5 1, 3) := by decide +kernel
theorem dX4_put_31 : decode cX4_put 31 = .ok (.goto (-23), 3) := by decide +kernel
theorem dX4_put_34 : decode cX4_put 34 = .ok (.iload 5, 2) := by decide +kernel
theorem dX4_put_36 : decode cX4_put 36 = .ok (.aload_n 0, 1) := by decide +kernel
theorem dX4_put_37 : decode cX4_put 37 = .ok (.getfield 149, 3) := by decide +kernel
theorem dX4_put_40 : decode cX4_put 40 = .ok (.if_icmp .ne 9, 3) := by decide +kernel
theorem dX4_put_43 : decode cX4_put 43 = .ok (.aload_n 0, 1) := by decide +kernel
theorem dX4_put_44 : decode cX4_put 44 = .ok (.iconst 1, 1) := by decide +kernel
theorem dX4_put_45 : decode cX4_put 45 = .ok (.invokevirtual 304, 3) := by decide +kernel
theorem dX4_put_48 : decode cX4_put 48 = .ok (.ireturn, 1) := by decide +kernel
theorem dX4_put_49 : decode cX4_put 49 = .ok (.aload_n 0, 1) := by decide +kernel
theorem dX4_put_50 : decode cX4_put 50 = .ok (.getfield 308, 3) := by decide +kernel
theorem dX4_put_53 : decode cX4_put 53 = .ok (.sipush 16383, 3) := by decide +kernel
theorem dX4_put_56 : decode cX4_put 56 = .ok (.if_icmp .le 9, 3) := by decide +kernel
theorem dX4_put_59 : decode cX4_put 59 = .ok (.aload_n 0, 1) := by decide +kernel
theorem dX4_put_60 : decode cX4_put 60 = .ok (.iconst 2, 1) := by decide +kernel
theorem dX4_put_61 : decode cX4_put 61 = .ok (.invokevirtual 304, 3) := by decide +kernel
theorem dX4_put_64 : decode cX4_put 64 = .ok (.ireturn, 1) := by decide +kernel
theorem dX4_put_65 : decode cX4_put 65 = .ok (.aload_n 0, 1) := by decide +kernel
theorem dX4_put_66 : decode cX4_put 66 = .ok (.getfield 19, 3) := by decide +kernel
theorem dX4_put_69 : decode cX4_put 69 = .ok (.aload_n 0, 1) := by decide +kernel
theorem dX4_put_70 : decode cX4_put 70 = .ok (.getfield 308, 3) := by decide +kernel
theorem dX4_put_73 : decode cX4_put 73 = .ok (.aload_n 0, 1) := by decide +kernel
theorem dX4_put_74 : decode cX4_put 74 = .ok (.getfield 30, 3) := by decide +kernel
theorem dX4_put_77 : decode cX4_put 77 = .ok (.iload 5, 2) := by decide +kernel
theorem dX4_put_79 : decode cX4_put 79 = .ok (.iaload, 1) := by decide +kernel
theorem dX4_put_80 : decode cX4_put 80 = .ok (.i2b, 1) := by decide +kernel
theorem dX4_put_81 : decode cX4_put 81 = .ok (.bastore, 1) := by decide +kernel
theorem dX4_put_82 : decode cX4_put 82 = .ok (.aload_n 0, 1) := by decide +kernel
theorem dX4_put_83 : decode cX4_put 83 = .ok (.getfield 19, 3) := by decide +kernel
theorem dX4_put_86 : decode cX4_put 86 = .ok (.aload_n 0, 1) := by decide +kernel
theorem dX4_put_87 : decode cX4_put 87 = .ok (.getfield 308, 3) := by decide +kernel
theorem dX4_put_90 : decode cX4_put 90 = .ok (.iconst 1, 1) := by decide +kernel
theorem dX4_put_91 : decode cX4_put 91 = .ok (.iadd, 1) := by decide +kernel
theorem dX4_put_92 : decode cX4_put 92 = .ok (.iload_n 2, 1) := by decide +kernel
theorem dX4_put_93 : decode cX4_put 93 = .ok (.i2b, 1) := by decide +kernel
theorem dX4_put_94 : decode cX4_put 94 = .ok (.bastore, 1) := by decide +kernel
theorem dX4_put_95 : decode cX4_put 95 = .ok (.aload_n 0, 1) := by decide +kernel
theorem dX4_put_96 : decode cX4_put 96 = .ok (.getfield 19, 3) := by decide +kernel
theorem dX4_put_99 : decode cX4_put 99 = .ok (.aload_n 0, 1) := by decide +kernel
theorem dX4_put_100 : decode cX4_put 100 = .ok (.getfield 308, 3) := by decide +kernel
theorem dX4_put_103 : decode cX4_put 103 = .ok (.iconst 2, 1) := by decide +kernel
theorem dX4_put_104 : decode cX4_put 104 = .ok (.iadd, 1) := by decide +kernel
theorem dX4_put_105 : decode cX4_put 105 = .ok (.iload_n 3, 1) := by decide +kernel
theorem dX4_put_106 : decode cX4_put 106 = .ok (.i2b, 1) := by decide +kernel
theorem dX4_put_107 : decode cX4_put 107 = .ok (.bastore, 1) := by decide +kernel
theorem dX4_put_108 : decode cX4_put 108 = .ok (.aload_n 0, 1) := by decide +kernel
theorem dX4_put_109 : decode cX4_put 109 = .ok (.getfield 19, 3) := by decide +kernel
theorem dX4_put_112 : decode cX4_put 112 = .ok (.aload_n 0, 1) := by decide +kernel
theorem dX4_put_113 : decode cX4_put 113 = .ok (.getfield 308, 3) := by decide +kernel
theorem dX4_put_116 : decode cX4_put 116 = .ok (.iconst 3, 1) := by decide +kernel
theorem dX4_put_117 : decode cX4_put 117 = .ok (.iadd, 1) := by decide +kernel
theorem dX4_put_118 : decode cX4_put 118 = .ok (.iload 4, 2) := by decide +kernel
theorem dX4_put_120 : decode cX4_put 120 = .ok (.i2b, 1) := by decide +kernel
theorem dX4_put_121 : decode cX4_put 121 = .ok (.bastore, 1) := by decide +kernel
theorem dX4_put_122 : decode cX4_put 122 = .ok (.aload_n 0, 1) := by decide +kernel
theorem dX4_put_123 : decode cX4_put 123 = .ok (.dup, 1) := by decide +kernel
theorem dX4_put_124 : decode cX4_put 124 = .ok (.getfield 308, 3) := by decide +kernel
theorem dX4_put_127 : decode cX4_put 127 = .ok (.iconst 4, 1) := by decide +kernel
theorem dX4_put_128 : decode cX4_put 128 = .ok (.iadd, 1) := by decide +kernel
theorem dX4_put_129 : decode cX4_put 129 = .ok (.putfield 308, 3) := by decide +kernel
theorem dX4_put_132 : decode cX4_put 132 = .ok (.aload_n 0, 1) := by decide +kernel
theorem dX4_put_133 : decode cX4_put 133 = .ok (.getfield 30, 3) := by decide +kernel
theorem dX4_put_136 : decode cX4_put 136 = .ok (.iload 5, 2) := by decide +kernel
theorem dX4_put_138 : decode cX4_put 138 = .ok (.iaload, 1) := by decide +kernel
theorem dX4_put_139 : decode cX4_put 139 = .ok (.ireturn, 1) := by decide +kernel
set_option maxRecDepth 20000 in
theorem ggX4_go_X4_fail : GoodIn wsX4_go wsX4_fail := goodIn_r _ [7, 1, 128, 129, 130, 131, 132, 133, 134, 135, 136, 137, 138, 139, 140, 141, 142, 143, 144] rfl (by decide +kernel)
set_option maxRecDepth 20000 in
theorem gX4_go_X4_fail : GoodIn wsX4_go (wsV RX4 304 RX4 yX4_fail wsX4_fail) := goodIn_app (goodIn_of _ (by decide +kernel)) ggX4_go_X4_fail
set_option maxRecDepth 20000 in
theorem ghX4_go_X4_step_h : GoodIn wsX4_go ([.code yX4_step cX4_step 7 (some .int)] : List Cond) := goodIn_r _ [11] rfl (by decide +kernel)
set_option maxRecDepth 20000 in
theorem ghX4_go_X4_step_wsX4_step_r1 : GoodIn wsX4_go wsX4_step_r1 := goodIn_r _ [2, 12, 13, 14, 15, 16, 17, 18, 19, 20, 21, 22, 23, 24, 25, 6, 26, 27, 28, 29, 30, 31, 32, 33] rfl (by decide +kernel)
set_option maxRecDepth 20000 in
theorem ghX4_go_X4_step_wsX4_step_r2 : GoodIn wsX4_go wsX4_step_r2 := goodIn_r _ [34, 35, 36, 37, 38, 39, 40, 41, 42, 43, 44, 45, 46, 47, 48, 49, 50, 51, 52, 53, 54, 55, 56, 57] rfl (by decide +kernel)
set_option maxRecDepth 20000 in
theorem ghX4_go_X4_step_wsX4_step_r3 : GoodIn wsX4_go wsX4_step_r3 := goodIn_r _ [58, 59, 60, 61, 62, 63, 64, 65, 66, 67, 68, 69, 70, 71, 72, 73, 74, 75, 76, 77, 78, 79, 80, 81] rfl (by decide +kernel)
set_option maxRecDepth 20000 in
theorem ghX4_go_X4_step_wsX4_step_r4 : GoodIn wsX4_go wsX4_step_r4 := goodIn_r _ [82, 83, 84, 85, 86, 87, 88, 89, 90, 91, 92, 93, 94, 95, 96, 97, 98, 99, 100, 101, 102, 103, 104, 105] rfl (by decide +kernel)
set_option maxRecDepth 20000 in
theorem ghX4_go_X4_step_wsX4_step_r5 : GoodIn wsX4_go wsX4_step_r5 := goodIn_r _ [106, 107, 108, 109, 110, 111, 112, 113, 114, 115, 116, 117, 118, 119, 120, 121, 122, 123, 124, 125, 126, 127] rfl (by decide +kernel)
set_option maxRecDepth 20000 in
theorem ghX4_go_X4_step_wsX40 : GoodIn wsX4_go wsX40 := goodIn_r _ [128, 129, 130, 131, 132, 133, 134, 135, 136, 137, 138, 139, 140, 141, 142, 143, 144] rfl (by decide +kernel)
theorem ggX4_go_X4_step : GoodIn wsX4_go wsX4_step := (goodIn_app (a := [.code yX4_step cX4_step 7 (some .int)]) ghX4_go_X4_step_h (goodIn_app (goodIn_app ghX4_go_X4_step_wsX4_step_r1 (goodIn_app ghX4_go_X4_step_wsX4_step_r2 (goodIn_app ghX4_go_X4_step_wsX4_step_r3 (goodIn_app ghX4_go_X4_step_wsX4_step_r4 ghX4_go_X4_step_wsX4_step_r5)))) ghX4_go_X4_step_wsX40))
set_option maxRecDepth 20000 in
theorem gX4_go_X4_step : GoodIn wsX4_go (wsV RX4 311 RX4 yX4_step wsX4_step) := goodIn_app (goodIn_of _ (by decide +kernel)) ggX4_go_X4_step
theorem dX4_go_0 : decode cX4_go 0 = .ok (.aload_n 0, 1) := by decide +kernel
theorem dX4_go_1 : decode cX4_go 1 = .ok (.iconst 0, 1) := by decide +kernel
theorem dX4_go_2 : decode cX4_go 2 = .ok (.putfield 153, 3) := by decide +kernel
theorem dX4_go_5 : decode cX4_go 5 = .ok (.iload_n 2, 1) := by decide +kernel
theorem dX4_go_6 : decode cX4_go 6 = .ok (.iconst 1, 1) := by decide +kernel
theorem dX4_go_7 : decode cX4_go 7 = .ok (.if_icmp .lt 10, 3) := by decide +kernel
theorem dX4_go_10 : decode cX4_go 10 = .ok (.iload_n 2, 1) := by decide +kernel
theorem dX4_go_11 : decode cX4_go 11 = .ok (.sipush 1000, 3) := by decide +kernel
theorem dX4_go_14 : decode cX4_go 14 = .ok (.if_icmp .le 9, 3) := by decide +kernel
theorem dX4_go_17 : decode cX4_go 17 = .ok (.aload_n 0, 1) := by decide +kernel
theorem dX4_go_18 : decode cX4_go 18 = .ok (.iconst 1, 1) := by decide +kernel
theorem dX4_go_19 : decode cX4_go 19 = .ok (.invokevirtual 304, 3) := by decide +kernel
theorem dX4_go_22 : decode cX4_go 22 = .ok (.ireturn, 1) := by decide +kernel
theorem dX4_go_23 : decode cX4_go 23 = .ok (.iload_n 1, 1) := by decide +kernel
theorem dX4_go_24 : decode cX4_go 24 = .ok (.ifCond .lt 12, 3) := by decide +kernel
theorem dX4_go_27 : decode cX4_go 27 = .ok (.aload_n 0, 1) := by decide +kernel
theorem dX4_go_28 : decode cX4_go 28 = .ok (.iload_n 1, 1) := by decide +kernel
theorem dX4_go_29 : decode cX4_go 29 = .ok (.bipush (-4), 2) := by decide +kernel
theorem dX4_go_31 : decode cX4_go 31 = .ok (.iand, 1) := by decide +kernel
theorem dX4_go_32 : decode cX4_go 32 = .ok (.i2l, 1) := by decide +kernel
theorem dX4_go_33 : decode cX4_go 33 = .ok (.putfield 162, 3) := by decide +kernel
theorem dX4_go_36 : decode cX4_go 36 = .ok (.iconst 0, 1) := by decide +kernel
theorem dX4_go_37 : decode cX4_go 37 = .ok (.istore_n 3, 1) := by decide +kernel
theorem dX4_go_38 : decode cX4_go 38 = .ok (.iconst 0, 1) := by decide +kernel
theorem dX4_go_39 : decode cX4_go 39 = .ok (.istore 4, 2) := by decide +kernel
theorem dX4_go_41 : decode cX4_go 41 = .ok (.iload 4, 2) := by decide +kernel
theorem dX4_go_43 : decode cX4_go 43 = .ok (.iload_n 2, 1) := by decide +kernel
theorem dX4_go_44 : decode cX4_go 44 = .ok (.if_icmp .ge 18, 3) := by decide +kernel
theorem dX4_go_47 : decode cX4_go 47 = .ok (.iload_n 3, 1) := by decide +kernel
theorem dX4_go_48 : decode cX4_go 48 = .ok (.ifCond .ne 14, 3) := by decide +kernel
theorem dX4_go_51 : decode cX4_go 51 = .ok (.aload_n 0, 1) := by decide +kernel
theorem dX4_go_52 : decode cX4_go 52 = .ok (.invokevirtual 311, 3) := by decide +kernel
theorem dX4_go_55 : decode cX4_go 55 = .ok (.istore_n 3, 1) := by decide +kernel
theorem dX4_go_56 : decode cX4_go 56 = .ok (.iinc 4 1, 3) := by decide +kernel
theorem dX4_go_59 : decode cX4_go 59 = .ok (.goto (-18), 3) := by decide +kernel
theorem dX4_go_62 : decode cX4_go 62 = .ok (.iload_n 3, 1) := by decide +kernel
theorem dX4_go_63 : decode cX4_go 63 = .ok (.ireturn, 1) := by decide +kernel
theorem dX4_mark_0 : decode cX4_mark 0 = .ok (.aload_n 0, 1) := by decide +kernel
theorem dX4_mark_1 : decode cX4_mark 1 = .ok (.iconst 0, 1) := by decide +kernel
theorem dX4_mark_2 : decode cX4_mark 2 = .ok (.putfield 153, 3) := by decide +kernel
theorem dX4_mark_5 : decode cX4_mark 5 = .ok (.lconst 0, 1) := by decide +kernel
theorem dX4_mark_6 : decode cX4_mark 6 = .ok (.lstore_n 1, 1) := by decide +kernel
theorem dX4_mark_7 : decode cX4_mark 7 = .ok (.iconst 0, 1) := by decide +kernel
theorem dX4_mark_8 : decode cX4_mark 8 = .ok (.istore_n 3, 1) := by decide +kernel
theorem dX4_mark_9 : decode cX4_mark 9 = .ok (.iload_n 3, 1) := by decide +kernel
theorem dX4_mark_10 : decode cX4_mark 10 = .ok (.sipush 256, 3) := by decide +kernel
theorem dX4_mark_13 : decode cX4_mark 13 = .ok (.if_icmp .ge 31, 3) := by decide +kernel
theorem dX4_mark_16 : decode cX4_mark 16 = .ok (.lload_n 1, 1) := by decide +kernel
theorem dX4_mark_17 : decode cX4_mark 17 = .ok (.aload_n 0, 1) := by decide +kernel
theorem dX4_mark_18 : decode cX4_mark 18 = .ok (.getfield 7, 3) := by decide +kernel
theorem dX4_mark_21 : decode cX4_mark 21 = .ok (.iload_n 3, 1) := by decide +kernel
theorem dX4_mark_22 : decode cX4_mark 22 = .ok (.laload, 1) := by decide +kernel
theorem dX4_mark_23 : decode cX4_mark 23 = .ok (.ldc2_w 255, 3) := by decide +kernel
theorem dX4_mark_26 : decode cX4_mark 26 = .ok (.iload_n 3, 1) := by decide +kernel
theorem dX4_mark_27 : decode cX4_mark 27 = .ok (.i2l, 1) := by decide +kernel
theorem dX4_mark_28 : decode cX4_mark 28 = .ok (.lmul, 1) := by decide +kernel
theorem dX4_mark_29 : decode cX4_mark 29 = .ok (.lconst 1, 1) := by decide +kernel
theorem dX4_mark_30 : decode cX4_mark 30 = .ok (.ladd, 1) := by decide +kernel
theorem dX4_mark_31 : decode cX4_mark 31 = .ok (.lmul, 1) := by decide +kernel
theorem dX4_mark_32 : decode cX4_mark 32 = .ok (.ldc2_w 314, 3) := by decide +kernel
theorem dX4_mark_35 : decode cX4_mark 35 = .ok (.lmul, 1) := by decide +kernel

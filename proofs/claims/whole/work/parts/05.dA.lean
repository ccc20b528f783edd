theorem dX0_init_0 : decode cX0_init 0 = .ok (.aload_n 0, 1) := by decide +kernel
theorem dX0_init_1 : decode cX0_init 1 = .ok (.invokespecial 3, 3) := by decide +kernel
theorem dX0_init_4 : decode cX0_init 4 = .ok (.aload_n 0, 1) := by decide +kernel
theorem dX0_init_5 : decode cX0_init 5 = .ok (.iconst 0, 1) := by decide +kernel
theorem dX0_init_6 : decode cX0_init 6 = .ok (.putfield 9, 3) := by decide +kernel
theorem dX0_init_9 : decode cX0_init 9 = .ok (.aload_n 0, 1) := by decide +kernel
theorem dX0_init_10 : decode cX0_init 10 = .ok (.iload_n 1, 1) := by decide +kernel
theorem dX0_init_11 : decode cX0_init 11 = .ok (.iconst 0, 1) := by decide +kernel
theorem dX0_init_12 : decode cX0_init 12 = .ok (.invokestatic 15, 3) := by decide +kernel
theorem dX0_init_15 : decode cX0_init 15 = .ok (.newarray .int, 2) := by decide +kernel
theorem dX0_init_17 : decode cX0_init 17 = .ok (.putfield 21, 3) := by decide +kernel
theorem dX0_init_20 : decode cX0_init 20 = .ok (.return_, 1) := by decide +kernel
theorem dX0_put_0 : decode cX0_put 0 = .ok (.aload_n 0, 1) := by decide +kernel
theorem dX0_put_1 : decode cX0_put 1 = .ok (.getfield 9, 3) := by decide +kernel
theorem dX0_put_4 : decode cX0_put 4 = .ok (.aload_n 0, 1) := by decide +kernel
theorem dX0_put_5 : decode cX0_put 5 = .ok (.getfield 21, 3) := by decide +kernel
theorem dX0_put_8 : decode cX0_put 8 = .ok (.arraylength, 1) := by decide +kernel
theorem dX0_put_9 : decode cX0_put 9 = .ok (.if_icmp .ge 27, 3) := by decide +kernel
theorem dX0_put_12 : decode cX0_put 12 = .ok (.aload_n 0, 1) := by decide +kernel
theorem dX0_put_13 : decode cX0_put 13 = .ok (.getfield 21, 3) := by decide +kernel
theorem dX0_put_16 : decode cX0_put 16 = .ok (.aload_n 0, 1) := by decide +kernel
theorem dX0_put_17 : decode cX0_put 17 = .ok (.getfield 9, 3) := by decide +kernel
theorem dX0_put_20 : decode cX0_put 20 = .ok (.iload_n 1, 1) := by decide +kernel
theorem dX0_put_21 : decode cX0_put 21 = .ok (.sipush 255, 3) := by decide +kernel
theorem dX0_put_24 : decode cX0_put 24 = .ok (.iand, 1) := by decide +kernel
theorem dX0_put_25 : decode cX0_put 25 = .ok (.iastore, 1) := by decide +kernel
theorem dX0_put_26 : decode cX0_put 26 = .ok (.aload_n 0, 1) := by decide +kernel
theorem dX0_put_27 : decode cX0_put 27 = .ok (.dup, 1) := by decide +kernel
theorem dX0_put_28 : decode cX0_put 28 = .ok (.getfield 9, 3) := by decide +kernel
theorem dX0_put_31 : decode cX0_put 31 = .ok (.iconst 1, 1) := by decide +kernel
theorem dX0_put_32 : decode cX0_put 32 = .ok (.iadd, 1) := by decide +kernel
theorem dX0_put_33 : decode cX0_put 33 = .ok (.putfield 9, 3) := by decide +kernel
theorem dX0_put_36 : decode cX0_put 36 = .ok (.return_, 1) := by decide +kernel
set_option maxRecDepth 20000 in
theorem ggX0_putFour_X0_put : GoodIn wsX0_putFour wsX0_put := goodIn_r _ [5, 6, 7, 8, 9] (by decide +kernel) (by decide +kernel)
set_option maxRecDepth 20000 in
theorem gX0_putFour_X0_put : GoodIn wsX0_putFour (wsV RX0 25 RX0 yX0_put wsX0_put) := goodIn_app (goodIn_of _ (by decide +kernel)) ggX0_putFour_X0_put
theorem dX0_putFour_0 : decode cX0_putFour 0 = .ok (.aload_n 0, 1) := by decide +kernel
theorem dX0_putFour_1 : decode cX0_putFour 1 = .ok (.iload_n 1, 1) := by decide +kernel
theorem dX0_putFour_2 : decode cX0_putFour 2 = .ok (.bipush 24, 2) := by decide +kernel
theorem dX0_putFour_4 : decode cX0_putFour 4 = .ok (.iushr, 1) := by decide +kernel
theorem dX0_putFour_5 : decode cX0_putFour 5 = .ok (.invokevirtual 25, 3) := by decide +kernel
theorem dX0_putFour_8 : decode cX0_putFour 8 = .ok (.aload_n 0, 1) := by decide +kernel
theorem dX0_putFour_9 : decode cX0_putFour 9 = .ok (.iload_n 1, 1) := by decide +kernel
theorem dX0_putFour_10 : decode cX0_putFour 10 = .ok (.bipush 16, 2) := by decide +kernel
theorem dX0_putFour_12 : decode cX0_putFour 12 = .ok (.iushr, 1) := by decide +kernel
theorem dX0_putFour_13 : decode cX0_putFour 13 = .ok (.invokevirtual 25, 3) := by decide +kernel
theorem dX0_putFour_16 : decode cX0_putFour 16 = .ok (.aload_n 0, 1) := by decide +kernel
theorem dX0_putFour_17 : decode cX0_putFour 17 = .ok (.iload_n 1, 1) := by decide +kernel
theorem dX0_putFour_18 : decode cX0_putFour 18 = .ok (.bipush 8, 2) := by decide +kernel
theorem dX0_putFour_20 : decode cX0_putFour 20 = .ok (.iushr, 1) := by decide +kernel
theorem dX0_putFour_21 : decode cX0_putFour 21 = .ok (.invokevirtual 25, 3) := by decide +kernel
theorem dX0_putFour_24 : decode cX0_putFour 24 = .ok (.aload_n 0, 1) := by decide +kernel
theorem dX0_putFour_25 : decode cX0_putFour 25 = .ok (.iload_n 1, 1) := by decide +kernel
theorem dX0_putFour_26 : decode cX0_putFour 26 = .ok (.invokevirtual 25, 3) := by decide +kernel
theorem dX0_putFour_29 : decode cX0_putFour 29 = .ok (.return_, 1) := by decide +kernel
set_option maxRecDepth 20000 in
theorem ggX0_putUnsigned_X0_put : GoodIn wsX0_putUnsigned wsX0_put := goodIn_r _ [5, 6, 7, 8, 9] (by decide +kernel) (by decide +kernel)
set_option maxRecDepth 20000 in
theorem gX0_putUnsigned_X0_put : GoodIn wsX0_putUnsigned (wsV RX0 25 RX0 yX0_put wsX0_put) := goodIn_app (goodIn_of _ (by decide +kernel)) ggX0_putUnsigned_X0_put
theorem dX0_putUnsigned_0 : decode cX0_putUnsigned 0 = .ok (.iload_n 1, 1) := by decide +kernel
theorem dX0_putUnsigned_1 : decode cX0_putUnsigned 1 = .ok (.istore_n 2, 1) := by decide +kernel
theorem dX0_putUnsigned_2 : decode cX0_putUnsigned 2 = .ok (.iconst 0, 1) := by decide +kernel
theorem dX0_putUnsigned_3 : decode cX0_putUnsigned 3 = .ok (.istore_n 3, 1) := by decide +kernel
theorem dX0_putUnsigned_4 : decode cX0_putUnsigned 4 = .ok (.iload_n 3, 1) := by decide +kernel
theorem dX0_putUnsigned_5 : decode cX0_putUnsigned 5 = .ok (.bipush 14, 2) := by decide +kernel
theorem dX0_putUnsigned_7 : decode cX0_putUnsigned 7 = .ok (.if_icmp .ge 32, 3) := by decide +kernel
theorem dX0_putUnsigned_10 : decode cX0_putUnsigned 10 = .ok (.iload_n 2, 1) := by decide +kernel
theorem dX0_putUnsigned_11 : decode cX0_putUnsigned 11 = .ok (.bipush 127, 2) := by decide +kernel
theorem dX0_putUnsigned_13 : decode cX0_putUnsigned 13 = .ok (.if_icmp .le 26, 3) := by decide +kernel
theorem dX0_putUnsigned_16 : decode cX0_putUnsigned 16 = .ok (.aload_n 0, 1) := by decide +kernel
theorem dX0_putUnsigned_17 : decode cX0_putUnsigned 17 = .ok (.sipush 128, 3) := by decide +kernel
theorem dX0_putUnsigned_20 : decode cX0_putUnsigned 20 = .ok (.iload_n 2, 1) := by decide +kernel
theorem dX0_putUnsigned_21 : decode cX0_putUnsigned 21 = .ok (.bipush 127, 2) := by decide +kernel
theorem dX0_putUnsigned_23 : decode cX0_putUnsigned 23 = .ok (.iand, 1) := by decide +kernel
theorem dX0_putUnsigned_24 : decode cX0_putUnsigned 24 = .ok (.ior, 1) := by decide +kernel
theorem dX0_putUnsigned_25 : decode cX0_putUnsigned 25 = .ok (.invokevirtual 25, 3) := by decide +kernel
theorem dX0_putUnsigned_28 : decode cX0_putUnsigned 28 = .ok (.iload_n 2, 1) := by decide +kernel
theorem dX0_putUnsigned_29 : decode cX0_putUnsigned 29 = .ok (.bipush 7, 2) := by decide +kernel
theorem dX0_putUnsigned_31 : decode cX0_putUnsigned 31 = .ok (.iushr, 1) := by decide +kernel
theorem dX0_putUnsigned_32 : decode cX0_putUnsigned 32 = .ok (.istore_n 2, 1) := by decide +kernel
theorem dX0_putUnsigned_33 : decode cX0_putUnsigned 33 = .ok (.iinc 3 7, 3) := by decide +kernel
theorem dX0_putUnsigned_36 : decode cX0_putUnsigned 36 = .ok (.goto (-32), 3) := by decide +kernel
theorem dX0_putUnsigned_39 : decode cX0_putUnsigned 39 = .ok (.aload_n 0, 1) := by decide +kernel
theorem dX0_putUnsigned_40 : decode cX0_putUnsigned 40 = .ok (.iload_n 2, 1) := by decide +kernel
theorem dX0_putUnsigned_41 : decode cX0_putUnsigned 41 = .ok (.invokevirtual 25, 3) := by decide +kernel
theorem dX0_putUnsigned_44 : decode cX0_putUnsigned 44 = .ok (.return_, 1) := by decide +kernel
theorem dX1_init_0 : decode cX1_init 0 = .ok (.aload_n 0, 1) := by decide +kernel
theorem dX1_init_1 : decode cX1_init 1 = .ok (.invokespecial 3, 3) := by decide +kernel
theorem dX1_init_4 : decode cX1_init 4 = .ok (.aload_n 0, 1) := by decide +kernel
theorem dX1_init_5 : decode cX1_init 5 = .ok (.iconst 0, 1) := by decide +kernel
theorem dX1_init_6 : decode cX1_init 6 = .ok (.putfield 9, 3) := by decide +kernel
theorem dX1_init_9 : decode cX1_init 9 = .ok (.aload_n 0, 1) := by decide +kernel
theorem dX1_init_10 : decode cX1_init 10 = .ok (.iconst 0, 1) := by decide +kernel
theorem dX1_init_11 : decode cX1_init 11 = .ok (.putfield 15, 3) := by decide +kernel
theorem dX1_init_14 : decode cX1_init 14 = .ok (.aload_n 0, 1) := by decide +kernel
theorem dX1_init_15 : decode cX1_init 15 = .ok (.iconst 0, 1) := by decide +kernel
theorem dX1_init_16 : decode cX1_init 16 = .ok (.putfield 18, 3) := by decide +kernel
theorem dX1_init_19 : decode cX1_init 19 = .ok (.aload_n 0, 1) := by decide +kernel
theorem dX1_init_20 : decode cX1_init 20 = .ok (.iconst 0, 1) := by decide +kernel
theorem dX1_init_21 : decode cX1_init 21 = .ok (.putfield 21, 3) := by decide +kernel
theorem dX1_init_24 : decode cX1_init 24 = .ok (.aload_n 0, 1) := by decide +kernel
theorem dX1_init_25 : decode cX1_init 25 = .ok (.iconst 0, 1) := by decide +kernel
theorem dX1_init_26 : decode cX1_init 26 = .ok (.putfield 24, 3) := by decide +kernel
theorem dX1_init_29 : decode cX1_init 29 = .ok (.return_, 1) := by decide +kernel
set_option maxRecDepth 20000 in
theorem ggX1_decode_X1_unsigned : GoodIn wsX1_decode wsX1_unsigned := goodIn_r _ [9, 1, 10, 11, 12, 13, 8, 14, 2, 15, 16, 17, 18, 19, 66, 67, 68, 69, 70, 71, 72] (by decide +kernel) (by decide +kernel)
set_option maxRecDepth 20000 in
theorem gX1_decode_X1_unsigned : GoodIn wsX1_decode (wsV RX1 27 RX1 yX1_unsigned wsX1_unsigned) := goodIn_app (goodIn_of _ (by decide +kernel)) ggX1_decode_X1_unsigned
set_option maxRecDepth 20000 in
theorem ggX1_decode_X2_canHave : GoodIn wsX1_decode wsX2_canHave := goodIn_r _ [23] (by decide +kernel) (by decide +kernel)
set_option maxRecDepth 20000 in
theorem gX1_decode_X2_canHave : GoodIn wsX1_decode (va_wsS RX1 31 yX2_canHave wsX2_canHave) := goodIn_app (goodIn_of _ (by decide +kernel)) ggX1_decode_X2_canHave
set_option maxRecDepth 20000 in
theorem ggX1_decode_X1_refuse : GoodIn wsX1_decode wsX1_refuse := goodIn_r _ [14, 2, 15, 66, 67, 68, 69, 70] (by decide +kernel) (by decide +kernel)
set_option maxRecDepth 20000 in
theorem gX1_decode_X1_refuse : GoodIn wsX1_decode (wsV RX1 37 RX1 yX1_refuse wsX1_refuse) := goodIn_app (goodIn_of _ (by decide +kernel)) ggX1_decode_X1_refuse
set_option maxRecDepth 20000 in
theorem ggX1_decode_X2_reset : GoodIn wsX1_decode wsX2_reset := goodIn_r _ [27, 28, 29, 30, 31, 32, 33, 21, 22, 23, 73, 74, 75, 76, 77, 78] (by decide +kernel) (by decide +kernel)
set_option maxRecDepth 20000 in
theorem gX1_decode_X2_reset : GoodIn wsX1_decode (wsV RX1 41 RX2 yX2_reset wsX2_reset) := goodIn_app (goodIn_of _ (by decide +kernel)) ggX1_decode_X2_reset
set_option maxRecDepth 20000 in
theorem ggX1_decode_X1_decodeNode : GoodIn wsX1_decode wsX1_decodeNode := goodIn_r _ [37, 1, 4, 3, 5, 6, 7, 8, 9, 10, 11, 12, 13, 14, 2, 15, 16, 17, 18, 19, 38, 39, 40, 41, 42, 43, 22, 44, 29, 45, 46, 47, 48, 49, 50, 51, 52, 53, 28, 54, 55, 56, 57, 32, 58, 59, 60, 61, 62, 63, 64, 65, 66, 67, 68, 69, 70, 71, 72, 73, 74, 75, 76, 77, 78] (by decide +kernel) (by decide +kernel)
set_option maxRecDepth 20000 in
theorem gX1_decode_X1_decodeNode : GoodIn wsX1_decode (wsV RX1 45 RX1 yX1_decodeNode wsX1_decodeNode) := goodIn_app (goodIn_of _ (by decide +kernel)) ggX1_decode_X1_decodeNode
theorem dX1_decode_0 : decode cX1_decode 0 = .ok (.aload_n 0, 1) := by decide +kernel
theorem dX1_decode_1 : decode cX1_decode 1 = .ok (.iconst 0, 1) := by decide +kernel
theorem dX1_decode_2 : decode cX1_decode 2 = .ok (.putfield 9, 3) := by decide +kernel
theorem dX1_decode_5 : decode cX1_decode 5 = .ok (.aload_n 0, 1) := by decide +kernel
theorem dX1_decode_6 : decode cX1_decode 6 = .ok (.iconst 0, 1) := by decide +kernel
theorem dX1_decode_7 : decode cX1_decode 7 = .ok (.putfield 21, 3) := by decide +kernel
theorem dX1_decode_10 : decode cX1_decode 10 = .ok (.aload_n 0, 1) := by decide +kernel
theorem dX1_decode_11 : decode cX1_decode 11 = .ok (.iconst 0, 1) := by decide +kernel
theorem dX1_decode_12 : decode cX1_decode 12 = .ok (.putfield 18, 3) := by decide +kernel
theorem dX1_decode_15 : decode cX1_decode 15 = .ok (.aload_n 0, 1) := by decide +kernel
theorem dX1_decode_16 : decode cX1_decode 16 = .ok (.aload_n 0, 1) := by decide +kernel
theorem dX1_decode_17 : decode cX1_decode 17 = .ok (.aload_n 1, 1) := by decide +kernel
theorem dX1_decode_18 : decode cX1_decode 18 = .ok (.invokevirtual 27, 3) := by decide +kernel
theorem dX1_decode_21 : decode cX1_decode 21 = .ok (.putfield 15, 3) := by decide +kernel
theorem dX1_decode_24 : decode cX1_decode 24 = .ok (.aload_n 0, 1) := by decide +kernel
theorem dX1_decode_25 : decode cX1_decode 25 = .ok (.getfield 15, 3) := by decide +kernel
theorem dX1_decode_28 : decode cX1_decode 28 = .ok (.iconst (-1), 1) := by decide +kernel
theorem dX1_decode_29 : decode cX1_decode 29 = .ok (.if_icmp .ne 5, 3) := by decide +kernel
theorem dX1_decode_32 : decode cX1_decode 32 = .ok (.iconst 0, 1) := by decide +kernel
theorem dX1_decode_33 : decode cX1_decode 33 = .ok (.ireturn, 1) := by decide +kernel
theorem dX1_decode_34 : decode cX1_decode 34 = .ok (.aload_n 0, 1) := by decide +kernel
theorem dX1_decode_35 : decode cX1_decode 35 = .ok (.getfield 15, 3) := by decide +kernel
theorem dX1_decode_38 : decode cX1_decode 38 = .ok (.invokestatic 31, 3) := by decide +kernel
theorem dX1_decode_41 : decode cX1_decode 41 = .ok (.ifCond .ne 10, 3) := by decide +kernel
theorem dX1_decode_44 : decode cX1_decode 44 = .ok (.aload_n 0, 1) := by decide +kernel
theorem dX1_decode_45 : decode cX1_decode 45 = .ok (.iconst 3, 1) := by decide +kernel
theorem dX1_decode_46 : decode cX1_decode 46 = .ok (.iconst 0, 1) := by decide +kernel
theorem dX1_decode_47 : decode cX1_decode 47 = .ok (.invokevirtual 37, 3) := by decide +kernel
theorem dX1_decode_50 : decode cX1_decode 50 = .ok (.ireturn, 1) := by decide +kernel
theorem dX1_decode_51 : decode cX1_decode 51 = .ok (.aload_n 2, 1) := by decide +kernel
theorem dX1_decode_52 : decode cX1_decode 52 = .ok (.ifnull 11, 3) := by decide +kernel
theorem dX1_decode_55 : decode cX1_decode 55 = .ok (.aload_n 2, 1) := by decide +kernel
theorem dX1_decode_56 : decode cX1_decode 56 = .ok (.aload_n 0, 1) := by decide +kernel
theorem dX1_decode_57 : decode cX1_decode 57 = .ok (.getfield 15, 3) := by decide +kernel
theorem dX1_decode_60 : decode cX1_decode 60 = .ok (.invokevirtual 41, 3) := by decide +kernel
theorem dX1_decode_63 : decode cX1_decode 63 = .ok (.iconst 0, 1) := by decide +kernel
theorem dX1_decode_64 : decode cX1_decode 64 = .ok (.istore_n 3, 1) := by decide +kernel
theorem dX1_decode_65 : decode cX1_decode 65 = .ok (.iload_n 3, 1) := by decide +kernel
theorem dX1_decode_66 : decode cX1_decode 66 = .ok (.aload_n 0, 1) := by decide +kernel
theorem dX1_decode_67 : decode cX1_decode 67 = .ok (.getfield 15, 3) := by decide +kernel
theorem dX1_decode_70 : decode cX1_decode 70 = .ok (.if_icmp .ge 21, 3) := by decide +kernel
theorem dX1_decode_73 : decode cX1_decode 73 = .ok (.aload_n 0, 1) := by decide +kernel
theorem dX1_decode_74 : decode cX1_decode 74 = .ok (.aload_n 1, 1) := by decide +kernel
theorem dX1_decode_75 : decode cX1_decode 75 = .ok (.aload_n 2, 1) := by decide +kernel
theorem dX1_decode_76 : decode cX1_decode 76 = .ok (.iload_n 3, 1) := by decide +kernel
theorem dX1_decode_77 : decode cX1_decode 77 = .ok (.invokevirtual 45, 3) := by decide +kernel
theorem dX1_decode_80 : decode cX1_decode 80 = .ok (.ifCond .ne 5, 3) := by decide +kernel
theorem dX1_decode_83 : decode cX1_decode 83 = .ok (.iconst 0, 1) := by decide +kernel
theorem dX1_decode_84 : decode cX1_decode 84 = .ok (.ireturn, 1) := by decide +kernel
theorem dX1_decode_85 : decode cX1_decode 85 = .ok (.iinc 3 1, 3) := by decide +kernel
theorem dX1_decode_88 : decode cX1_decode 88 = .ok (.goto (-23), 3) := by decide +kernel
theorem dX1_decode_91 : decode cX1_decode 91 = .ok (.aload_n 0, 1) := by decide +kernel
theorem dX1_decode_92 : decode cX1_decode 92 = .ok (.getfield 9, 3) := by decide +kernel
theorem dX1_decode_95 : decode cX1_decode 95 = .ok (.aload_n 1, 1) := by decide +kernel
theorem dX1_decode_96 : decode cX1_decode 96 = .ok (.getfield 49, 3) := by decide +kernel
theorem dX1_decode_99 : decode cX1_decode 99 = .ok (.if_icmp .ge 15, 3) := by decide +kernel
theorem dX1_decode_102 : decode cX1_decode 102 = .ok (.aload_n 0, 1) := by decide +kernel
theorem dX1_decode_103 : decode cX1_decode 103 = .ok (.iconst 4, 1) := by decide +kernel
theorem dX1_decode_104 : decode cX1_decode 104 = .ok (.aload_n 0, 1) := by decide +kernel
theorem dX1_decode_105 : decode cX1_decode 105 = .ok (.getfield 9, 3) := by decide +kernel
theorem dX1_decode_108 : decode cX1_decode 108 = .ok (.invokevirtual 37, 3) := by decide +kernel
theorem dX1_decode_111 : decode cX1_decode 111 = .ok (.ifCond .eq 7, 3) := by decide +kernel
theorem dX1_decode_114 : decode cX1_decode 114 = .ok (.iconst 1, 1) := by decide +kernel
theorem dX1_decode_115 : decode cX1_decode 115 = .ok (.goto 4, 3) := by decide +kernel
theorem dX1_decode_118 : decode cX1_decode 118 = .ok (.iconst 0, 1) := by decide +kernel
theorem dX1_decode_119 : decode cX1_decode 119 = .ok (.ireturn, 1) := by decide +kernel
set_option maxRecDepth 20000 in
theorem ggX1_decodeNode_X1_unsigned : GoodIn wsX1_decodeNode wsX1_unsigned := goodIn_r _ [8, 1, 9, 10, 11, 12, 7, 13, 14, 15, 16, 17, 18, 19, 52, 53, 54, 55, 56, 57, 58] (by decide +kernel) (by decide +kernel)
set_option maxRecDepth 20000 in
theorem gX1_decodeNode_X1_unsigned : GoodIn wsX1_decodeNode (wsV RX1 27 RX1 yX1_unsigned wsX1_unsigned) := goodIn_app (goodIn_of _ (by decide +kernel)) ggX1_decodeNode_X1_unsigned
set_option maxRecDepth 20000 in
theorem ggX1_decodeNode_X1_refuse : GoodIn wsX1_decodeNode wsX1_refuse := goodIn_r _ [13, 14, 15, 52, 53, 54, 55, 56] (by decide +kernel) (by decide +kernel)
set_option maxRecDepth 20000 in
theorem gX1_decodeNode_X1_refuse : GoodIn wsX1_decodeNode (wsV RX1 37 RX1 yX1_refuse wsX1_refuse) := goodIn_app (goodIn_of _ (by decide +kernel)) ggX1_decodeNode_X1_refuse
set_option maxRecDepth 20000 in
theorem ggX1_decodeNode_X1_signed : GoodIn wsX1_decodeNode wsX1_signed := goodIn_r _ [22] (by decide +kernel) (by decide +kernel)
set_option maxRecDepth 20000 in
theorem gX1_decodeNode_X1_signed : GoodIn wsX1_decodeNode (va_wsS RX1 54 yX1_signed wsX1_signed) := goodIn_app (goodIn_of _ (by decide +kernel)) ggX1_decodeNode_X1_signed
set_option maxRecDepth 20000 in
theorem ggX1_decodeNode_X2_join : GoodIn wsX1_decodeNode wsX2_join := goodIn_r _ [27, 28, 29, 30, 31, 32, 33, 34, 35, 36, 26, 37, 38, 39, 40, 41, 42, 43, 44, 45, 46, 47, 48, 49, 50, 51, 59, 60, 61, 62, 63, 64] (by decide +kernel) (by decide +kernel)
set_option maxRecDepth 20000 in
theorem gX1_decodeNode_X2_join : GoodIn wsX1_decodeNode (wsV RX1 58 RX2 yX2_join wsX2_join) := goodIn_app (goodIn_of _ (by decide +kernel)) ggX1_decodeNode_X2_join
theorem dX1_decodeNode_0 : decode cX1_decodeNode 0 = .ok (.aload_n 0, 1) := by decide +kernel
theorem dX1_decodeNode_1 : decode cX1_decodeNode 1 = .ok (.getfield 9, 3) := by decide +kernel
theorem dX1_decodeNode_4 : decode cX1_decodeNode 4 = .ok (.istore 4, 2) := by decide +kernel
theorem dX1_decodeNode_6 : decode cX1_decodeNode 6 = .ok (.aload_n 0, 1) := by decide +kernel
theorem dX1_decodeNode_7 : decode cX1_decodeNode 7 = .ok (.aload_n 1, 1) := by decide +kernel
theorem dX1_decodeNode_8 : decode cX1_decodeNode 8 = .ok (.invokevirtual 27, 3) := by decide +kernel
theorem dX1_decodeNode_11 : decode cX1_decodeNode 11 = .ok (.istore 5, 2) := by decide +kernel
theorem dX1_decodeNode_13 : decode cX1_decodeNode 13 = .ok (.iload 5, 2) := by decide +kernel
theorem dX1_decodeNode_15 : decode cX1_decodeNode 15 = .ok (.iconst (-1), 1) := by decide +kernel
theorem dX1_decodeNode_16 : decode cX1_decodeNode 16 = .ok (.if_icmp .ne 5, 3) := by decide +kernel
theorem dX1_decodeNode_19 : decode cX1_decodeNode 19 = .ok (.iconst 0, 1) := by decide +kernel
theorem dX1_decodeNode_20 : decode cX1_decodeNode 20 = .ok (.ireturn, 1) := by decide +kernel
theorem dX1_decodeNode_21 : decode cX1_decodeNode 21 = .ok (.iload 5, 2) := by decide +kernel
theorem dX1_decodeNode_23 : decode cX1_decodeNode 23 = .ok (.aload_n 0, 1) := by decide +kernel
theorem dX1_decodeNode_24 : decode cX1_decodeNode 24 = .ok (.getfield 15, 3) := by decide +kernel
theorem dX1_decodeNode_27 : decode cX1_decodeNode 27 = .ok (.if_icmp .gt 16, 3) := by decide +kernel
theorem dX1_decodeNode_30 : decode cX1_decodeNode 30 = .ok (.iload 5, 2) := by decide +kernel
theorem dX1_decodeNode_32 : decode cX1_decodeNode 32 = .ok (.sipush 2500, 3) := by decide +kernel
theorem dX1_decodeNode_35 : decode cX1_decodeNode 35 = .ok (.aload_n 0, 1) := by decide +kernel
theorem dX1_decodeNode_36 : decode cX1_decodeNode 36 = .ok (.getfield 18, 3) := by decide +kernel
theorem dX1_decodeNode_39 : decode cX1_decodeNode 39 = .ok (.isub, 1) := by decide +kernel
theorem dX1_decodeNode_40 : decode cX1_decodeNode 40 = .ok (.if_icmp .le 11, 3) := by decide +kernel
theorem dX1_decodeNode_43 : decode cX1_decodeNode 43 = .ok (.aload_n 0, 1) := by decide +kernel
theorem dX1_decodeNode_44 : decode cX1_decodeNode 44 = .ok (.iconst 3, 1) := by decide +kernel
theorem dX1_decodeNode_45 : decode cX1_decodeNode 45 = .ok (.iload 4, 2) := by decide +kernel
theorem dX1_decodeNode_47 : decode cX1_decodeNode 47 = .ok (.invokevirtual 37, 3) := by decide +kernel
theorem dX1_decodeNode_50 : decode cX1_decodeNode 50 = .ok (.ireturn, 1) := by decide +kernel
theorem dX1_decodeNode_51 : decode cX1_decodeNode 51 = .ok (.aload_n 0, 1) := by decide +kernel
theorem dX1_decodeNode_52 : decode cX1_decodeNode 52 = .ok (.dup, 1) := by decide +kernel
theorem dX1_decodeNode_53 : decode cX1_decodeNode 53 = .ok (.getfield 18, 3) := by decide +kernel
theorem dX1_decodeNode_56 : decode cX1_decodeNode 56 = .ok (.iload 5, 2) := by decide +kernel
theorem dX1_decodeNode_58 : decode cX1_decodeNode 58 = .ok (.iadd, 1) := by decide +kernel
theorem dX1_decodeNode_59 : decode cX1_decodeNode 59 = .ok (.putfield 18, 3) := by decide +kernel
theorem dX1_decodeNode_62 : decode cX1_decodeNode 62 = .ok (.iconst (-1), 1) := by decide +kernel
theorem dX1_decodeNode_63 : decode cX1_decodeNode 63 = .ok (.istore 6, 2) := by decide +kernel
theorem dX1_decodeNode_65 : decode cX1_decodeNode 65 = .ok (.iconst 0, 1) := by decide +kernel
theorem dX1_decodeNode_66 : decode cX1_decodeNode 66 = .ok (.istore 7, 2) := by decide +kernel
theorem dX1_decodeNode_68 : decode cX1_decodeNode 68 = .ok (.iload 7, 2) := by decide +kernel
theorem dX1_decodeNode_70 : decode cX1_decodeNode 70 = .ok (.iload 5, 2) := by decide +kernel
theorem dX1_decodeNode_72 : decode cX1_decodeNode 72 = .ok (.if_icmp .ge 88, 3) := by decide +kernel
theorem dX1_decodeNode_75 : decode cX1_decodeNode 75 = .ok (.aload_n 0, 1) := by decide +kernel
theorem dX1_decodeNode_76 : decode cX1_decodeNode 76 = .ok (.getfield 9, 3) := by decide +kernel
theorem dX1_decodeNode_79 : decode cX1_decodeNode 79 = .ok (.istore 4, 2) := by decide +kernel
theorem dX1_decodeNode_81 : decode cX1_decodeNode 81 = .ok (.aload_n 0, 1) := by decide +kernel
theorem dX1_decodeNode_82 : decode cX1_decodeNode 82 = .ok (.aload_n 1, 1) := by decide +kernel
theorem dX1_decodeNode_83 : decode cX1_decodeNode 83 = .ok (.invokevirtual 27, 3) := by decide +kernel
theorem dX1_decodeNode_86 : decode cX1_decodeNode 86 = .ok (.istore 8, 2) := by decide +kernel
theorem dX1_decodeNode_88 : decode cX1_decodeNode 88 = .ok (.iload 8, 2) := by decide +kernel
theorem dX1_decodeNode_90 : decode cX1_decodeNode 90 = .ok (.iconst (-1), 1) := by decide +kernel
theorem dX1_decodeNode_91 : decode cX1_decodeNode 91 = .ok (.if_icmp .ne 5, 3) := by decide +kernel
theorem dX1_decodeNode_94 : decode cX1_decodeNode 94 = .ok (.iconst 0, 1) := by decide +kernel
theorem dX1_decodeNode_95 : decode cX1_decodeNode 95 = .ok (.ireturn, 1) := by decide +kernel
theorem dX1_decodeNode_96 : decode cX1_decodeNode 96 = .ok (.iload 7, 2) := by decide +kernel
theorem dX1_decodeNode_98 : decode cX1_decodeNode 98 = .ok (.ifCond .le 13, 3) := by decide +kernel
theorem dX1_decodeNode_101 : decode cX1_decodeNode 101 = .ok (.iload 6, 2) := by decide +kernel
theorem dX1_decodeNode_103 : decode cX1_decodeNode 103 = .ok (.iconst 1, 1) := by decide +kernel
theorem dX1_decodeNode_104 : decode cX1_decodeNode 104 = .ok (.iadd, 1) := by decide +kernel
theorem dX1_decodeNode_105 : decode cX1_decodeNode 105 = .ok (.iload 8, 2) := by decide +kernel
theorem dX1_decodeNode_107 : decode cX1_decodeNode 107 = .ok (.iadd, 1) := by decide +kernel
theorem dX1_decodeNode_108 : decode cX1_decodeNode 108 = .ok (.goto 10, 3) := by decide +kernel
theorem dX1_decodeNode_111 : decode cX1_decodeNode 111 = .ok (.iload_n 3, 1) := by decide +kernel
theorem dX1_decodeNode_112 : decode cX1_decodeNode 112 = .ok (.iload 8, 2) := by decide +kernel
theorem dX1_decodeNode_114 : decode cX1_decodeNode 114 = .ok (.invokestatic 54, 3) := by decide +kernel
theorem dX1_decodeNode_117 : decode cX1_decodeNode 117 = .ok (.iadd, 1) := by decide +kernel
theorem dX1_decodeNode_118 : decode cX1_decodeNode 118 = .ok (.istore 6, 2) := by decide +kernel
theorem dX1_decodeNode_120 : decode cX1_decodeNode 120 = .ok (.iload 6, 2) := by decide +kernel
theorem dX1_decodeNode_122 : decode cX1_decodeNode 122 = .ok (.ifCond .lt 12, 3) := by decide +kernel
theorem dX1_decodeNode_125 : decode cX1_decodeNode 125 = .ok (.iload 6, 2) := by decide +kernel
theorem dX1_decodeNode_127 : decode cX1_decodeNode 127 = .ok (.aload_n 0, 1) := by decide +kernel
theorem dX1_decodeNode_128 : decode cX1_decodeNode 128 = .ok (.getfield 15, 3) := by decide +kernel
theorem dX1_decodeNode_131 : decode cX1_decodeNode 131 = .ok (.if_icmp .lt 11, 3) := by decide +kernel
theorem dX1_decodeNode_134 : decode cX1_decodeNode 134 = .ok (.aload_n 0, 1) := by decide +kernel
theorem dX1_decodeNode_135 : decode cX1_decodeNode 135 = .ok (.iconst 3, 1) := by decide +kernel
theorem dX1_decodeNode_136 : decode cX1_decodeNode 136 = .ok (.iload 4, 2) := by decide +kernel
theorem dX1_decodeNode_138 : decode cX1_decodeNode 138 = .ok (.invokevirtual 37, 3) := by decide +kernel
theorem dX1_decodeNode_141 : decode cX1_decodeNode 141 = .ok (.ireturn, 1) := by decide +kernel
theorem dX1_decodeNode_142 : decode cX1_decodeNode 142 = .ok (.aload_n 2, 1) := by decide +kernel
theorem dX1_decodeNode_143 : decode cX1_decodeNode 143 = .ok (.ifnull 11, 3) := by decide +kernel
theorem dX1_decodeNode_146 : decode cX1_decodeNode 146 = .ok (.aload_n 2, 1) := by decide +kernel
theorem dX1_decodeNode_147 : decode cX1_decodeNode 147 = .ok (.iload_n 3, 1) := by decide +kernel
theorem dX1_decodeNode_148 : decode cX1_decodeNode 148 = .ok (.iload 6, 2) := by decide +kernel
theorem dX1_decodeNode_150 : decode cX1_decodeNode 150 = .ok (.invokevirtual 58, 3) := by decide +kernel
theorem dX1_decodeNode_153 : decode cX1_decodeNode 153 = .ok (.pop, 1) := by decide +kernel
theorem dX1_decodeNode_154 : decode cX1_decodeNode 154 = .ok (.iinc 7 1, 3) := by decide +kernel
theorem dX1_decodeNode_157 : decode cX1_decodeNode 157 = .ok (.goto (-89), 3) := by decide +kernel
theorem dX1_decodeNode_160 : decode cX1_decodeNode 160 = .ok (.iconst 1, 1) := by decide +kernel
theorem dX1_decodeNode_161 : decode cX1_decodeNode 161 = .ok (.ireturn, 1) := by decide +kernel
set_option maxRecDepth 20000 in
theorem ggX1_unsigned_X1_refuse : GoodIn wsX1_unsigned wsX1_refuse := goodIn_r _ [7, 8, 9, 14, 15, 16, 17, 18] (by decide +kernel) (by decide +kernel)
set_option maxRecDepth 20000 in
theorem gX1_unsigned_X1_refuse : GoodIn wsX1_unsigned (wsV RX1 37 RX1 yX1_refuse wsX1_refuse) := goodIn_app (goodIn_of _ (by decide +kernel)) ggX1_unsigned_X1_refuse
set_option maxRecDepth 20000 in
theorem ggX1_unsigned_X1_refuseUnsigned : GoodIn wsX1_unsigned wsX1_refuseUnsigned := goodIn_r _ [13, 3, 4, 5, 6, 7, 8, 9, 14, 15, 16, 17, 18] (by decide +kernel) (by decide +kernel)
set_option maxRecDepth 20000 in
theorem gX1_unsigned_X1_refuseUnsigned : GoodIn wsX1_unsigned (wsV RX1 66 RX1 yX1_refuseUnsigned wsX1_refuseUnsigned) := goodIn_app (goodIn_of _ (by decide +kernel)) ggX1_unsigned_X1_refuseUnsigned
theorem dX1_unsigned_0 : decode cX1_unsigned 0 = .ok (.aload_n 0, 1) := by decide +kernel
theorem dX1_unsigned_1 : decode cX1_unsigned 1 = .ok (.getfield 9, 3) := by decide +kernel
theorem dX1_unsigned_4 : decode cX1_unsigned 4 = .ok (.istore_n 2, 1) := by decide +kernel
theorem dX1_unsigned_5 : decode cX1_unsigned 5 = .ok (.iconst 0, 1) := by decide +kernel
theorem dX1_unsigned_6 : decode cX1_unsigned 6 = .ok (.istore_n 3, 1) := by decide +kernel
theorem dX1_unsigned_7 : decode cX1_unsigned 7 = .ok (.iconst 0, 1) := by decide +kernel
theorem dX1_unsigned_8 : decode cX1_unsigned 8 = .ok (.istore 4, 2) := by decide +kernel
theorem dX1_unsigned_10 : decode cX1_unsigned 10 = .ok (.iload 4, 2) := by decide +kernel
theorem dX1_unsigned_12 : decode cX1_unsigned 12 = .ok (.bipush 14, 2) := by decide +kernel
theorem dX1_unsigned_14 : decode cX1_unsigned 14 = .ok (.if_icmp .gt 110, 3) := by decide +kernel
theorem dX1_unsigned_17 : decode cX1_unsigned 17 = .ok (.aload_n 0, 1) := by decide +kernel
theorem dX1_unsigned_18 : decode cX1_unsigned 18 = .ok (.getfield 9, 3) := by decide +kernel
theorem dX1_unsigned_21 : decode cX1_unsigned 21 = .ok (.aload_n 1, 1) := by decide +kernel
theorem dX1_unsigned_22 : decode cX1_unsigned 22 = .ok (.getfield 49, 3) := by decide +kernel
theorem dX1_unsigned_25 : decode cX1_unsigned 25 = .ok (.if_icmp .lt 15, 3) := by decide +kernel
theorem dX1_unsigned_28 : decode cX1_unsigned 28 = .ok (.aload_n 0, 1) := by decide +kernel
theorem dX1_unsigned_29 : decode cX1_unsigned 29 = .ok (.iconst 1, 1) := by decide +kernel
theorem dX1_unsigned_30 : decode cX1_unsigned 30 = .ok (.aload_n 1, 1) := by decide +kernel
theorem dX1_unsigned_31 : decode cX1_unsigned 31 = .ok (.getfield 49, 3) := by decide +kernel
theorem dX1_unsigned_34 : decode cX1_unsigned 34 = .ok (.invokevirtual 37, 3) := by decide +kernel
theorem dX1_unsigned_37 : decode cX1_unsigned 37 = .ok (.pop, 1) := by decide +kernel
theorem dX1_unsigned_38 : decode cX1_unsigned 38 = .ok (.iconst (-1), 1) := by decide +kernel
theorem dX1_unsigned_39 : decode cX1_unsigned 39 = .ok (.ireturn, 1) := by decide +kernel
theorem dX1_unsigned_40 : decode cX1_unsigned 40 = .ok (.aload_n 1, 1) := by decide +kernel
theorem dX1_unsigned_41 : decode cX1_unsigned 41 = .ok (.getfield 61, 3) := by decide +kernel
theorem dX1_unsigned_44 : decode cX1_unsigned 44 = .ok (.aload_n 0, 1) := by decide +kernel
theorem dX1_unsigned_45 : decode cX1_unsigned 45 = .ok (.getfield 9, 3) := by decide +kernel
theorem dX1_unsigned_48 : decode cX1_unsigned 48 = .ok (.iaload, 1) := by decide +kernel
theorem dX1_unsigned_49 : decode cX1_unsigned 49 = .ok (.istore 5, 2) := by decide +kernel
theorem dX1_unsigned_51 : decode cX1_unsigned 51 = .ok (.aload_n 0, 1) := by decide +kernel
theorem dX1_unsigned_52 : decode cX1_unsigned 52 = .ok (.dup, 1) := by decide +kernel
theorem dX1_unsigned_53 : decode cX1_unsigned 53 = .ok (.getfield 9, 3) := by decide +kernel
theorem dX1_unsigned_56 : decode cX1_unsigned 56 = .ok (.iconst 1, 1) := by decide +kernel
theorem dX1_unsigned_57 : decode cX1_unsigned 57 = .ok (.iadd, 1) := by decide +kernel
theorem dX1_unsigned_58 : decode cX1_unsigned 58 = .ok (.putfield 9, 3) := by decide +kernel
theorem dX1_unsigned_61 : decode cX1_unsigned 61 = .ok (.iload_n 3, 1) := by decide +kernel
theorem dX1_unsigned_62 : decode cX1_unsigned 62 = .ok (.iload 5, 2) := by decide +kernel
theorem dX1_unsigned_64 : decode cX1_unsigned 64 = .ok (.bipush 127, 2) := by decide +kernel
theorem dX1_unsigned_66 : decode cX1_unsigned 66 = .ok (.iand, 1) := by decide +kernel
theorem dX1_unsigned_67 : decode cX1_unsigned 67 = .ok (.iload 4, 2) := by decide +kernel
theorem dX1_unsigned_69 : decode cX1_unsigned 69 = .ok (.ishl, 1) := by decide +kernel
theorem dX1_unsigned_70 : decode cX1_unsigned 70 = .ok (.iadd, 1) := by decide +kernel
theorem dX1_unsigned_71 : decode cX1_unsigned 71 = .ok (.istore_n 3, 1) := by decide +kernel
theorem dX1_unsigned_72 : decode cX1_unsigned 72 = .ok (.iload 5, 2) := by decide +kernel
theorem dX1_unsigned_74 : decode cX1_unsigned 74 = .ok (.sipush 128, 3) := by decide +kernel
theorem dX1_unsigned_77 : decode cX1_unsigned 77 = .ok (.if_icmp .ge 41, 3) := by decide +kernel
theorem dX1_unsigned_80 : decode cX1_unsigned 80 = .ok (.iload 4, 2) := by decide +kernel
theorem dX1_unsigned_82 : decode cX1_unsigned 82 = .ok (.ifCond .le 12, 3) := by decide +kernel
theorem dX1_unsigned_85 : decode cX1_unsigned 85 = .ok (.iload 5, 2) := by decide +kernel
theorem dX1_unsigned_87 : decode cX1_unsigned 87 = .ok (.ifCond .ne 7, 3) := by decide +kernel
theorem dX1_unsigned_90 : decode cX1_unsigned 90 = .ok (.iconst 1, 1) := by decide +kernel
theorem dX1_unsigned_91 : decode cX1_unsigned 91 = .ok (.goto 4, 3) := by decide +kernel
theorem dX1_unsigned_94 : decode cX1_unsigned 94 = .ok (.iconst 0, 1) := by decide +kernel
theorem dX1_unsigned_95 : decode cX1_unsigned 95 = .ok (.istore 6, 2) := by decide +kernel
theorem dX1_unsigned_97 : decode cX1_unsigned 97 = .ok (.iload 6, 2) := by decide +kernel
theorem dX1_unsigned_99 : decode cX1_unsigned 99 = .ok (.ifCond .ne 9, 3) := by decide +kernel
theorem dX1_unsigned_102 : decode cX1_unsigned 102 = .ok (.iload_n 3, 1) := by decide +kernel
theorem dX1_unsigned_103 : decode cX1_unsigned 103 = .ok (.ldc 65, 2) := by decide +kernel
theorem dX1_unsigned_105 : decode cX1_unsigned 105 = .ok (.if_icmp .le 11, 3) := by decide +kernel
theorem dX1_unsigned_108 : decode cX1_unsigned 108 = .ok (.aload_n 0, 1) := by decide +kernel
theorem dX1_unsigned_109 : decode cX1_unsigned 109 = .ok (.iload_n 2, 1) := by decide +kernel
theorem dX1_unsigned_110 : decode cX1_unsigned 110 = .ok (.invokevirtual 66, 3) := by decide +kernel
theorem dX1_unsigned_113 : decode cX1_unsigned 113 = .ok (.goto 4, 3) := by decide +kernel
theorem dX1_unsigned_116 : decode cX1_unsigned 116 = .ok (.iload_n 3, 1) := by decide +kernel
theorem dX1_unsigned_117 : decode cX1_unsigned 117 = .ok (.ireturn, 1) := by decide +kernel
theorem dX1_unsigned_118 : decode cX1_unsigned 118 = .ok (.iinc 4 7, 3) := by decide +kernel
theorem dX1_unsigned_121 : decode cX1_unsigned 121 = .ok (.goto (-111), 3) := by decide +kernel
theorem dX1_unsigned_124 : decode cX1_unsigned 124 = .ok (.aload_n 0, 1) := by decide +kernel
theorem dX1_unsigned_125 : decode cX1_unsigned 125 = .ok (.iload_n 2, 1) := by decide +kernel
theorem dX1_unsigned_126 : decode cX1_unsigned 126 = .ok (.invokevirtual 66, 3) := by decide +kernel
theorem dX1_unsigned_129 : decode cX1_unsigned 129 = .ok (.ireturn, 1) := by decide +kernel
set_option maxRecDepth 20000 in
theorem ggX1_refuseUnsigned_X1_refuse : GoodIn wsX1_refuseUnsigned wsX1_refuse := goodIn_r _ [5, 6, 7, 8, 9, 10, 11, 12] (by decide +kernel) (by decide +kernel)
set_option maxRecDepth 20000 in
theorem gX1_refuseUnsigned_X1_refuse : GoodIn wsX1_refuseUnsigned (wsV RX1 37 RX1 yX1_refuse wsX1_refuse) := goodIn_app (goodIn_of _ (by decide +kernel)) ggX1_refuseUnsigned_X1_refuse
theorem dX1_refuseUnsigned_0 : decode cX1_refuseUnsigned 0 = .ok (.aload_n 0, 1) := by decide +kernel
theorem dX1_refuseUnsigned_1 : decode cX1_refuseUnsigned 1 = .ok (.iconst 2, 1) := by decide +kernel
theorem dX1_refuseUnsigned_2 : decode cX1_refuseUnsigned 2 = .ok (.iload_n 1, 1) := by decide +kernel
theorem dX1_refuseUnsigned_3 : decode cX1_refuseUnsigned 3 = .ok (.invokevirtual 37, 3) := by decide +kernel
theorem dX1_refuseUnsigned_6 : decode cX1_refuseUnsigned 6 = .ok (.pop, 1) := by decide +kernel
theorem dX1_refuseUnsigned_7 : decode cX1_refuseUnsigned 7 = .ok (.iconst (-1), 1) := by decide +kernel
theorem dX1_refuseUnsigned_8 : decode cX1_refuseUnsigned 8 = .ok (.ireturn, 1) := by decide +kernel
theorem dX1_refuse_0 : decode cX1_refuse 0 = .ok (.aload_n 0, 1) := by decide +kernel
theorem dX1_refuse_1 : decode cX1_refuse 1 = .ok (.iload_n 1, 1) := by decide +kernel
theorem dX1_refuse_2 : decode cX1_refuse 2 = .ok (.putfield 21, 3) := by decide +kernel
theorem dX1_refuse_5 : decode cX1_refuse 5 = .ok (.aload_n 0, 1) := by decide +kernel
theorem dX1_refuse_6 : decode cX1_refuse 6 = .ok (.iload_n 2, 1) := by decide +kernel
theorem dX1_refuse_7 : decode cX1_refuse 7 = .ok (.putfield 24, 3) := by decide +kernel
theorem dX1_refuse_10 : decode cX1_refuse 10 = .ok (.iconst 0, 1) := by decide +kernel
theorem dX1_refuse_11 : decode cX1_refuse 11 = .ok (.ireturn, 1) := by decide +kernel
theorem dX1_signed_0 : decode cX1_signed 0 = .ok (.iload_n 0, 1) := by decide +kernel
theorem dX1_signed_1 : decode cX1_signed 1 = .ok (.iconst 1, 1) := by decide +kernel
theorem dX1_signed_2 : decode cX1_signed 2 = .ok (.iand, 1) := by decide +kernel
theorem dX1_signed_3 : decode cX1_signed 3 = .ok (.ifCond .ne 9, 3) := by decide +kernel
theorem dX1_signed_6 : decode cX1_signed 6 = .ok (.iload_n 0, 1) := by decide +kernel
theorem dX1_signed_7 : decode cX1_signed 7 = .ok (.iconst 1, 1) := by decide +kernel
theorem dX1_signed_8 : decode cX1_signed 8 = .ok (.ishr, 1) := by decide +kernel
theorem dX1_signed_9 : decode cX1_signed 9 = .ok (.goto 9, 3) := by decide +kernel
theorem dX1_signed_12 : decode cX1_signed 12 = .ok (.iload_n 0, 1) := by decide +kernel
theorem dX1_signed_13 : decode cX1_signed 13 = .ok (.iconst 1, 1) := by decide +kernel
theorem dX1_signed_14 : decode cX1_signed 14 = .ok (.iadd, 1) := by decide +kernel
theorem dX1_signed_15 : decode cX1_signed 15 = .ok (.iconst 1, 1) := by decide +kernel
theorem dX1_signed_16 : decode cX1_signed 16 = .ok (.ishr, 1) := by decide +kernel
theorem dX1_signed_17 : decode cX1_signed 17 = .ok (.ineg, 1) := by decide +kernel
theorem dX1_signed_18 : decode cX1_signed 18 = .ok (.ireturn, 1) := by decide +kernel
theorem dX2_init_0 : decode cX2_init 0 = .ok (.aload_n 0, 1) := by decide +kernel
theorem dX2_init_1 : decode cX2_init 1 = .ok (.invokespecial 3, 3) := by decide +kernel
theorem dX2_init_4 : decode cX2_init 4 = .ok (.aload_n 0, 1) := by decide +kernel
theorem dX2_init_5 : decode cX2_init 5 = .ok (.sipush 251, 3) := by decide +kernel
theorem dX2_init_8 : decode cX2_init 8 = .ok (.newarray .int, 2) := by decide +kernel
theorem dX2_init_10 : decode cX2_init 10 = .ok (.putfield 9, 3) := by decide +kernel
theorem dX2_init_13 : decode cX2_init 13 = .ok (.aload_n 0, 1) := by decide +kernel
theorem dX2_init_14 : decode cX2_init 14 = .ok (.sipush 2500, 3) := by decide +kernel
theorem dX2_init_17 : decode cX2_init 17 = .ok (.newarray .int, 2) := by decide +kernel
theorem dX2_init_19 : decode cX2_init 19 = .ok (.putfield 15, 3) := by decide +kernel
theorem dX2_init_22 : decode cX2_init 22 = .ok (.aload_n 0, 1) := by decide +kernel
theorem dX2_init_23 : decode cX2_init 23 = .ok (.sipush 250, 3) := by decide +kernel
theorem dX2_init_26 : decode cX2_init 26 = .ok (.newarray .int, 2) := by decide +kernel
theorem dX2_init_28 : decode cX2_init 28 = .ok (.putfield 18, 3) := by decide +kernel
theorem dX2_init_31 : decode cX2_init 31 = .ok (.aload_n 0, 1) := by decide +kernel
theorem dX2_init_32 : decode cX2_init 32 = .ok (.iconst 1, 1) := by decide +kernel
theorem dX2_init_33 : decode cX2_init 33 = .ok (.putfield 21, 3) := by decide +kernel
theorem dX2_init_36 : decode cX2_init 36 = .ok (.aload_n 0, 1) := by decide +kernel
theorem dX2_init_37 : decode cX2_init 37 = .ok (.iconst 0, 1) := by decide +kernel
theorem dX2_init_38 : decode cX2_init 38 = .ok (.putfield 25, 3) := by decide +kernel
theorem dX2_init_41 : decode cX2_init 41 = .ok (.aload_n 0, 1) := by decide +kernel
theorem dX2_init_42 : decode cX2_init 42 = .ok (.iconst 1, 1) := by decide +kernel
theorem dX2_init_43 : decode cX2_init 43 = .ok (.putfield 28, 3) := by decide +kernel
theorem dX2_init_46 : decode cX2_init 46 = .ok (.aload_n 0, 1) := by decide +kernel
theorem dX2_init_47 : decode cX2_init 47 = .ok (.getfield 18, 3) := by decide +kernel
theorem dX2_init_50 : decode cX2_init 50 = .ok (.iconst 0, 1) := by decide +kernel
theorem dX2_init_51 : decode cX2_init 51 = .ok (.iconst 1, 1) := by decide +kernel
theorem dX2_init_52 : decode cX2_init 52 = .ok (.iastore, 1) := by decide +kernel
theorem dX2_init_53 : decode cX2_init 53 = .ok (.return_, 1) := by decide +kernel
theorem dX2_canHave_0 : decode cX2_canHave 0 = .ok (.iload_n 0, 1) := by decide +kernel
theorem dX2_canHave_1 : decode cX2_canHave 1 = .ok (.iconst 1, 1) := by decide +kernel
theorem dX2_canHave_2 : decode cX2_canHave 2 = .ok (.if_icmp .lt 14, 3) := by decide +kernel
theorem dX2_canHave_5 : decode cX2_canHave 5 = .ok (.iload_n 0, 1) := by decide +kernel
theorem dX2_canHave_6 : decode cX2_canHave 6 = .ok (.sipush 250, 3) := by decide +kernel
theorem dX2_canHave_9 : decode cX2_canHave 9 = .ok (.if_icmp .gt 7, 3) := by decide +kernel
theorem dX2_canHave_12 : decode cX2_canHave 12 = .ok (.iconst 1, 1) := by decide +kernel
theorem dX2_canHave_13 : decode cX2_canHave 13 = .ok (.goto 4, 3) := by decide +kernel
theorem dX2_canHave_16 : decode cX2_canHave 16 = .ok (.iconst 0, 1) := by decide +kernel
theorem dX2_canHave_17 : decode cX2_canHave 17 = .ok (.ireturn, 1) := by decide +kernel
set_option maxRecDepth 20000 in
theorem ggX2_reset_X2_canHave : GoodIn wsX2_reset wsX2_canHave := goodIn_r _ [9] (by decide +kernel) (by decide +kernel)
set_option maxRecDepth 20000 in
theorem gX2_reset_X2_canHave : GoodIn wsX2_reset (va_wsS RX2 31 yX2_canHave wsX2_canHave) := goodIn_app (goodIn_of _ (by decide +kernel)) ggX2_reset_X2_canHave
theorem dX2_reset_0 : decode cX2_reset 0 = .ok (.iload_n 1, 1) := by decide +kernel
theorem dX2_reset_1 : decode cX2_reset 1 = .ok (.invokestatic 31, 3) := by decide +kernel
theorem dX2_reset_4 : decode cX2_reset 4 = .ok (.ifCond .ne 4, 3) := by decide +kernel
theorem dX2_reset_7 : decode cX2_reset 7 = .ok (.return_, 1) := by decide +kernel
theorem dX2_reset_8 : decode cX2_reset 8 = .ok (.aload_n 0, 1) := by decide +kernel
theorem dX2_reset_9 : decode cX2_reset 9 = .ok (.iload_n 1, 1) := by decide +kernel
theorem dX2_reset_10 : decode cX2_reset 10 = .ok (.putfield 21, 3) := by decide +kernel
theorem dX2_reset_13 : decode cX2_reset 13 = .ok (.aload_n 0, 1) := by decide +kernel
theorem dX2_reset_14 : decode cX2_reset 14 = .ok (.iconst 0, 1) := by decide +kernel
theorem dX2_reset_15 : decode cX2_reset 15 = .ok (.putfield 25, 3) := by decide +kernel
theorem dX2_reset_18 : decode cX2_reset 18 = .ok (.aload_n 0, 1) := by decide +kernel
theorem dX2_reset_19 : decode cX2_reset 19 = .ok (.iload_n 1, 1) := by decide +kernel
theorem dX2_reset_20 : decode cX2_reset 20 = .ok (.putfield 28, 3) := by decide +kernel
theorem dX2_reset_23 : decode cX2_reset 23 = .ok (.iconst 0, 1) := by decide +kernel
theorem dX2_reset_24 : decode cX2_reset 24 = .ok (.istore_n 2, 1) := by decide +kernel
theorem dX2_reset_25 : decode cX2_reset 25 = .ok (.iload_n 2, 1) := by decide +kernel
theorem dX2_reset_26 : decode cX2_reset 26 = .ok (.iload_n 1, 1) := by decide +kernel
theorem dX2_reset_27 : decode cX2_reset 27 = .ok (.if_icmp .ge 23, 3) := by decide +kernel
theorem dX2_reset_30 : decode cX2_reset 30 = .ok (.aload_n 0, 1) := by decide +kernel
theorem dX2_reset_31 : decode cX2_reset 31 = .ok (.getfield 18, 3) := by decide +kernel
theorem dX2_reset_34 : decode cX2_reset 34 = .ok (.iload_n 2, 1) := by decide +kernel
theorem dX2_reset_35 : decode cX2_reset 35 = .ok (.iconst 1, 1) := by decide +kernel
theorem dX2_reset_36 : decode cX2_reset 36 = .ok (.iastore, 1) := by decide +kernel
theorem dX2_reset_37 : decode cX2_reset 37 = .ok (.aload_n 0, 1) := by decide +kernel
theorem dX2_reset_38 : decode cX2_reset 38 = .ok (.getfield 9, 3) := by decide +kernel
theorem dX2_reset_41 : decode cX2_reset 41 = .ok (.iload_n 2, 1) := by decide +kernel
theorem dX2_reset_42 : decode cX2_reset 42 = .ok (.iconst 0, 1) := by decide +kernel
theorem dX2_reset_43 : decode cX2_reset 43 = .ok (.iastore, 1) := by decide +kernel
theorem dX2_reset_44 : decode cX2_reset 44 = .ok (.iinc 2 1, 3) := by decide +kernel
theorem dX2_reset_47 : decode cX2_reset 47 = .ok (.goto (-22), 3) := by decide +kernel
theorem dX2_reset_50 : decode cX2_reset 50 = .ok (.aload_n 0, 1) := by decide +kernel
theorem dX2_reset_51 : decode cX2_reset 51 = .ok (.getfield 9, 3) := by decide +kernel
theorem dX2_reset_54 : decode cX2_reset 54 = .ok (.iload_n 1, 1) := by decide +kernel
theorem dX2_reset_55 : decode cX2_reset 55 = .ok (.iconst 0, 1) := by decide +kernel
theorem dX2_reset_56 : decode cX2_reset 56 = .ok (.iastore, 1) := by decide +kernel
theorem dX2_reset_57 : decode cX2_reset 57 = .ok (.return_, 1) := by decide +kernel
theorem dX2_isNode_0 : decode cX2_isNode 0 = .ok (.iload_n 1, 1) := by decide +kernel
theorem dX2_isNode_1 : decode cX2_isNode 1 = .ok (.ifCond .lt 15, 3) := by decide +kernel
theorem dX2_isNode_4 : decode cX2_isNode 4 = .ok (.iload_n 1, 1) := by decide +kernel
theorem dX2_isNode_5 : decode cX2_isNode 5 = .ok (.aload_n 0, 1) := by decide +kernel
theorem dX2_isNode_6 : decode cX2_isNode 6 = .ok (.getfield 21, 3) := by decide +kernel
theorem dX2_isNode_9 : decode cX2_isNode 9 = .ok (.if_icmp .ge 7, 3) := by decide +kernel
theorem dX2_isNode_12 : decode cX2_isNode 12 = .ok (.iconst 1, 1) := by decide +kernel
theorem dX2_isNode_13 : decode cX2_isNode 13 = .ok (.goto 4, 3) := by decide +kernel
theorem dX2_isNode_16 : decode cX2_isNode 16 = .ok (.iconst 0, 1) := by decide +kernel
theorem dX2_isNode_17 : decode cX2_isNode 17 = .ok (.ireturn, 1) := by decide +kernel
set_option maxRecDepth 20000 in
theorem ggX2_outOf_X2_isNode : GoodIn wsX2_outOf wsX2_isNode := goodIn_r _ [6, 7, 8, 9, 10, 11, 12, 13] (by decide +kernel) (by decide +kernel)
set_option maxRecDepth 20000 in
theorem gX2_outOf_X2_isNode : GoodIn wsX2_outOf (wsV RX2 35 RX2 yX2_isNode wsX2_isNode) := goodIn_app (goodIn_of _ (by decide +kernel)) ggX2_outOf_X2_isNode
theorem dX2_outOf_0 : decode cX2_outOf 0 = .ok (.aload_n 0, 1) := by decide +kernel
theorem dX2_outOf_1 : decode cX2_outOf 1 = .ok (.iload_n 1, 1) := by decide +kernel
theorem dX2_outOf_2 : decode cX2_outOf 2 = .ok (.invokevirtual 35, 3) := by decide +kernel
theorem dX2_outOf_5 : decode cX2_outOf 5 = .ok (.ifCond .eq 21, 3) := by decide +kernel
theorem dX2_outOf_8 : decode cX2_outOf 8 = .ok (.aload_n 0, 1) := by decide +kernel
theorem dX2_outOf_9 : decode cX2_outOf 9 = .ok (.getfield 9, 3) := by decide +kernel
theorem dX2_outOf_12 : decode cX2_outOf 12 = .ok (.iload_n 1, 1) := by decide +kernel
theorem dX2_outOf_13 : decode cX2_outOf 13 = .ok (.iconst 1, 1) := by decide +kernel
theorem dX2_outOf_14 : decode cX2_outOf 14 = .ok (.iadd, 1) := by decide +kernel
theorem dX2_outOf_15 : decode cX2_outOf 15 = .ok (.iaload, 1) := by decide +kernel
theorem dX2_outOf_16 : decode cX2_outOf 16 = .ok (.aload_n 0, 1) := by decide +kernel
theorem dX2_outOf_17 : decode cX2_outOf 17 = .ok (.getfield 9, 3) := by decide +kernel
theorem dX2_outOf_20 : decode cX2_outOf 20 = .ok (.iload_n 1, 1) := by decide +kernel
theorem dX2_outOf_21 : decode cX2_outOf 21 = .ok (.iaload, 1) := by decide +kernel
theorem dX2_outOf_22 : decode cX2_outOf 22 = .ok (.isub, 1) := by decide +kernel
theorem dX2_outOf_23 : decode cX2_outOf 23 = .ok (.goto 4, 3) := by decide +kernel
theorem dX2_outOf_26 : decode cX2_outOf 26 = .ok (.iconst 0, 1) := by decide +kernel
theorem dX2_outOf_27 : decode cX2_outOf 27 = .ok (.ireturn, 1) := by decide +kernel
theorem dX2_into_0 : decode cX2_into 0 = .ok (.iconst 0, 1) := by decide +kernel
theorem dX2_into_1 : decode cX2_into 1 = .ok (.istore_n 2, 1) := by decide +kernel
theorem dX2_into_2 : decode cX2_into 2 = .ok (.iconst 0, 1) := by decide +kernel
theorem dX2_into_3 : decode cX2_into 3 = .ok (.istore_n 3, 1) := by decide +kernel
theorem dX2_into_4 : decode cX2_into 4 = .ok (.iload_n 3, 1) := by decide +kernel
theorem dX2_into_5 : decode cX2_into 5 = .ok (.aload_n 0, 1) := by decide +kernel
theorem dX2_into_6 : decode cX2_into 6 = .ok (.getfield 25, 3) := by decide +kernel
theorem dX2_into_9 : decode cX2_into 9 = .ok (.if_icmp .ge 22, 3) := by decide +kernel
theorem dX2_into_12 : decode cX2_into 12 = .ok (.aload_n 0, 1) := by decide +kernel
theorem dX2_into_13 : decode cX2_into 13 = .ok (.getfield 15, 3) := by decide +kernel
theorem dX2_into_16 : decode cX2_into 16 = .ok (.iload_n 3, 1) := by decide +kernel
theorem dX2_into_17 : decode cX2_into 17 = .ok (.iaload, 1) := by decide +kernel
theorem dX2_into_18 : decode cX2_into 18 = .ok (.iload_n 1, 1) := by decide +kernel
theorem dX2_into_19 : decode cX2_into 19 = .ok (.if_icmp .ne 6, 3) := by decide +kernel
theorem dX2_into_22 : decode cX2_into 22 = .ok (.iinc 2 1, 3) := by decide +kernel
theorem dX2_into_25 : decode cX2_into 25 = .ok (.iinc 3 1, 3) := by decide +kernel
theorem dX2_into_28 : decode cX2_into 28 = .ok (.goto (-24), 3) := by decide +kernel
theorem dX2_into_31 : decode cX2_into 31 = .ok (.iload_n 2, 1) := by decide +kernel
theorem dX2_into_32 : decode cX2_into 32 = .ok (.ireturn, 1) := by decide +kernel
set_option maxRecDepth 20000 in
theorem ggX2_target_X2_outOf : GoodIn wsX2_target wsX2_outOf := goodIn_r _ [7, 2, 8, 9, 10, 6, 11, 12, 13, 14, 15, 16, 17, 18] (by decide +kernel) (by decide +kernel)
set_option maxRecDepth 20000 in
theorem gX2_target_X2_outOf : GoodIn wsX2_target (wsV RX2 38 RX2 yX2_outOf wsX2_outOf) := goodIn_app (goodIn_of _ (by decide +kernel)) ggX2_target_X2_outOf
theorem dX2_target_0 : decode cX2_target 0 = .ok (.iload_n 2, 1) := by decide +kernel
theorem dX2_target_1 : decode cX2_target 1 = .ok (.ifCond .lt 28, 3) := by decide +kernel
theorem dX2_target_4 : decode cX2_target 4 = .ok (.iload_n 2, 1) := by decide +kernel
theorem dX2_target_5 : decode cX2_target 5 = .ok (.aload_n 0, 1) := by decide +kernel
theorem dX2_target_6 : decode cX2_target 6 = .ok (.iload_n 1, 1) := by decide +kernel
theorem dX2_target_7 : decode cX2_target 7 = .ok (.invokevirtual 38, 3) := by decide +kernel
theorem dX2_target_10 : decode cX2_target 10 = .ok (.if_icmp .ge 19, 3) := by decide +kernel
theorem dX2_target_13 : decode cX2_target 13 = .ok (.aload_n 0, 1) := by decide +kernel
theorem dX2_target_14 : decode cX2_target 14 = .ok (.getfield 15, 3) := by decide +kernel
theorem dX2_target_17 : decode cX2_target 17 = .ok (.aload_n 0, 1) := by decide +kernel
theorem dX2_target_18 : decode cX2_target 18 = .ok (.getfield 9, 3) := by decide +kernel
theorem dX2_target_21 : decode cX2_target 21 = .ok (.iload_n 1, 1) := by decide +kernel
theorem dX2_target_22 : decode cX2_target 22 = .ok (.iaload, 1) := by decide +kernel
theorem dX2_target_23 : decode cX2_target 23 = .ok (.iload_n 2, 1) := by decide +kernel
theorem dX2_target_24 : decode cX2_target 24 = .ok (.iadd, 1) := by decide +kernel
theorem dX2_target_25 : decode cX2_target 25 = .ok (.iaload, 1) := by decide +kernel
theorem dX2_target_26 : decode cX2_target 26 = .ok (.goto 4, 3) := by decide +kernel
theorem dX2_target_29 : decode cX2_target 29 = .ok (.iconst (-1), 1) := by decide +kernel
theorem dX2_target_30 : decode cX2_target 30 = .ok (.ireturn, 1) := by decide +kernel
set_option maxRecDepth 20000 in
theorem ggX2_source_X2_joins : GoodIn wsX2_source wsX2_joins := goodIn_r _ [6, 7, 8, 9, 10, 11, 5, 12, 1, 13, 14, 15, 16, 17, 18, 19, 20, 21, 22] (by decide +kernel) (by decide +kernel)
set_option maxRecDepth 20000 in
theorem gX2_source_X2_joins : GoodIn wsX2_source (wsV RX2 42 RX2 yX2_joins wsX2_joins) := goodIn_app (goodIn_of _ (by decide +kernel)) ggX2_source_X2_joins
theorem dX2_source_0 : decode cX2_source 0 = .ok (.iconst 0, 1) := by decide +kernel
theorem dX2_source_1 : decode cX2_source 1 = .ok (.istore_n 3, 1) := by decide +kernel
theorem dX2_source_2 : decode cX2_source 2 = .ok (.iconst 0, 1) := by decide +kernel
theorem dX2_source_3 : decode cX2_source 3 = .ok (.istore 4, 2) := by decide +kernel
theorem dX2_source_5 : decode cX2_source 5 = .ok (.iload 4, 2) := by decide +kernel
theorem dX2_source_7 : decode cX2_source 7 = .ok (.aload_n 0, 1) := by decide +kernel
theorem dX2_source_8 : decode cX2_source 8 = .ok (.getfield 21, 3) := by decide +kernel
theorem dX2_source_11 : decode cX2_source 11 = .ok (.if_icmp .ge 30, 3) := by decide +kernel
theorem dX2_source_14 : decode cX2_source 14 = .ok (.aload_n 0, 1) := by decide +kernel
theorem dX2_source_15 : decode cX2_source 15 = .ok (.iload 4, 2) := by decide +kernel
theorem dX2_source_17 : decode cX2_source 17 = .ok (.iload_n 1, 1) := by decide +kernel
theorem dX2_source_18 : decode cX2_source 18 = .ok (.invokevirtual 42, 3) := by decide +kernel
theorem dX2_source_21 : decode cX2_source 21 = .ok (.ifCond .eq 14, 3) := by decide +kernel
theorem dX2_source_24 : decode cX2_source 24 = .ok (.iload_n 3, 1) := by decide +kernel
theorem dX2_source_25 : decode cX2_source 25 = .ok (.iload_n 2, 1) := by decide +kernel
theorem dX2_source_26 : decode cX2_source 26 = .ok (.if_icmp .ne 6, 3) := by decide +kernel
theorem dX2_source_29 : decode cX2_source 29 = .ok (.iload 4, 2) := by decide +kernel
theorem dX2_source_31 : decode cX2_source 31 = .ok (.ireturn, 1) := by decide +kernel
theorem dX2_source_32 : decode cX2_source 32 = .ok (.iinc 3 1, 3) := by decide +kernel
theorem dX2_source_35 : decode cX2_source 35 = .ok (.iinc 4 1, 3) := by decide +kernel
theorem dX2_source_38 : decode cX2_source 38 = .ok (.goto (-33), 3) := by decide +kernel
theorem dX2_source_41 : decode cX2_source 41 = .ok (.iconst (-1), 1) := by decide +kernel
theorem dX2_source_42 : decode cX2_source 42 = .ok (.ireturn, 1) := by decide +kernel
set_option maxRecDepth 20000 in
theorem ggX2_joins_X2_isNode : GoodIn wsX2_joins wsX2_isNode := goodIn_r _ [7, 8, 13, 14, 15, 16, 17, 18] (by decide +kernel) (by decide +kernel)
set_option maxRecDepth 20000 in
theorem gX2_joins_X2_isNode : GoodIn wsX2_joins (wsV RX2 35 RX2 yX2_isNode wsX2_isNode) := goodIn_app (goodIn_of _ (by decide +kernel)) ggX2_joins_X2_isNode
set_option maxRecDepth 20000 in
theorem ggX2_joins_X2_spot : GoodIn wsX2_joins wsX2_spot := goodIn_r _ [12, 1, 2, 13, 14, 15, 16, 17, 18] (by decide +kernel) (by decide +kernel)
set_option maxRecDepth 20000 in
theorem gX2_joins_X2_spot : GoodIn wsX2_joins (wsV RX2 46 RX2 yX2_spot wsX2_spot) := goodIn_app (goodIn_of _ (by decide +kernel)) ggX2_joins_X2_spot
theorem dX2_joins_0 : decode cX2_joins 0 = .ok (.aload_n 0, 1) := by decide +kernel
theorem dX2_joins_1 : decode cX2_joins 1 = .ok (.iload_n 1, 1) := by decide +kernel
theorem dX2_joins_2 : decode cX2_joins 2 = .ok (.invokevirtual 35, 3) := by decide +kernel
theorem dX2_joins_5 : decode cX2_joins 5 = .ok (.ifCond .eq 11, 3) := by decide +kernel
theorem dX2_joins_8 : decode cX2_joins 8 = .ok (.aload_n 0, 1) := by decide +kernel
theorem dX2_joins_9 : decode cX2_joins 9 = .ok (.iload_n 2, 1) := by decide +kernel
theorem dX2_joins_10 : decode cX2_joins 10 = .ok (.invokevirtual 35, 3) := by decide +kernel
theorem dX2_joins_13 : decode cX2_joins 13 = .ok (.ifCond .ne 5, 3) := by decide +kernel
theorem dX2_joins_16 : decode cX2_joins 16 = .ok (.iconst 0, 1) := by decide +kernel
theorem dX2_joins_17 : decode cX2_joins 17 = .ok (.ireturn, 1) := by decide +kernel
theorem dX2_joins_18 : decode cX2_joins 18 = .ok (.aload_n 0, 1) := by decide +kernel
theorem dX2_joins_19 : decode cX2_joins 19 = .ok (.iload_n 1, 1) := by decide +kernel
theorem dX2_joins_20 : decode cX2_joins 20 = .ok (.iload_n 2, 1) := by decide +kernel
theorem dX2_joins_21 : decode cX2_joins 21 = .ok (.invokevirtual 46, 3) := by decide +kernel
theorem dX2_joins_24 : decode cX2_joins 24 = .ok (.istore_n 3, 1) := by decide +kernel
theorem dX2_joins_25 : decode cX2_joins 25 = .ok (.iload_n 3, 1) := by decide +kernel
theorem dX2_joins_26 : decode cX2_joins 26 = .ok (.aload_n 0, 1) := by decide +kernel
theorem dX2_joins_27 : decode cX2_joins 27 = .ok (.getfield 9, 3) := by decide +kernel
theorem dX2_joins_30 : decode cX2_joins 30 = .ok (.iload_n 1, 1) := by decide +kernel
theorem dX2_joins_31 : decode cX2_joins 31 = .ok (.iconst 1, 1) := by decide +kernel
theorem dX2_joins_32 : decode cX2_joins 32 = .ok (.iadd, 1) := by decide +kernel
theorem dX2_joins_33 : decode cX2_joins 33 = .ok (.iaload, 1) := by decide +kernel
theorem dX2_joins_34 : decode cX2_joins 34 = .ok (.if_icmp .ge 17, 3) := by decide +kernel
theorem dX2_joins_37 : decode cX2_joins 37 = .ok (.aload_n 0, 1) := by decide +kernel
theorem dX2_joins_38 : decode cX2_joins 38 = .ok (.getfield 15, 3) := by decide +kernel
theorem dX2_joins_41 : decode cX2_joins 41 = .ok (.iload_n 3, 1) := by decide +kernel
theorem dX2_joins_42 : decode cX2_joins 42 = .ok (.iaload, 1) := by decide +kernel
theorem dX2_joins_43 : decode cX2_joins 43 = .ok (.iload_n 2, 1) := by decide +kernel
theorem dX2_joins_44 : decode cX2_joins 44 = .ok (.if_icmp .ne 7, 3) := by decide +kernel
theorem dX2_joins_47 : decode cX2_joins 47 = .ok (.iconst 1, 1) := by decide +kernel
theorem dX2_joins_48 : decode cX2_joins 48 = .ok (.goto 4, 3) := by decide +kernel
theorem dX2_joins_51 : decode cX2_joins 51 = .ok (.iconst 0, 1) := by decide +kernel
theorem dX2_joins_52 : decode cX2_joins 52 = .ok (.ireturn, 1) := by decide +kernel
set_option maxRecDepth 20000 in
theorem ggX2_join_X2_isNode : GoodIn wsX2_join wsX2_isNode := goodIn_r _ [11, 12, 26, 27, 28, 29, 30, 31] (by decide +kernel) (by decide +kernel)
set_option maxRecDepth 20000 in
theorem gX2_join_X2_isNode : GoodIn wsX2_join (wsV RX2 35 RX2 yX2_isNode wsX2_isNode) := goodIn_app (goodIn_of _ (by decide +kernel)) ggX2_join_X2_isNode
set_option maxRecDepth 20000 in
theorem ggX2_join_X2_joins : GoodIn wsX2_join wsX2_joins := goodIn_r _ [16, 17, 2, 7, 8, 9, 10, 11, 12, 18, 19, 20, 21, 26, 27, 28, 29, 30, 31] (by decide +kernel) (by decide +kernel)
set_option maxRecDepth 20000 in
theorem gX2_join_X2_joins : GoodIn wsX2_join (wsV RX2 42 RX2 yX2_joins wsX2_joins) := goodIn_app (goodIn_of _ (by decide +kernel)) ggX2_join_X2_joins
set_option maxRecDepth 20000 in
theorem ggX2_join_X2_spot : GoodIn wsX2_join wsX2_spot := goodIn_r _ [21, 17, 2, 26, 27, 28, 29, 30, 31] (by decide +kernel) (by decide +kernel)
set_option maxRecDepth 20000 in
theorem gX2_join_X2_spot : GoodIn wsX2_join (wsV RX2 46 RX2 yX2_spot wsX2_spot) := goodIn_app (goodIn_of _ (by decide +kernel)) ggX2_join_X2_spot
set_option maxRecDepth 20000 in
theorem ggX2_join_X2_grow : GoodIn wsX2_join wsX2_grow := goodIn_r _ [25, 1, 12, 17, 26, 27, 28, 29, 30, 31] (by decide +kernel) (by decide +kernel)
set_option maxRecDepth 20000 in
theorem gX2_join_X2_grow : GoodIn wsX2_join (wsV RX2 56 RX2 yX2_grow wsX2_grow) := goodIn_app (goodIn_of _ (by decide +kernel)) ggX2_join_X2_grow
theorem dX2_join_0 : decode cX2_join 0 = .ok (.aload_n 0, 1) := by decide +kernel
theorem dX2_join_1 : decode cX2_join 1 = .ok (.iload_n 1, 1) := by decide +kernel
theorem dX2_join_2 : decode cX2_join 2 = .ok (.invokevirtual 35, 3) := by decide +kernel
theorem dX2_join_5 : decode cX2_join 5 = .ok (.ifCond .eq 30, 3) := by decide +kernel
theorem dX2_join_8 : decode cX2_join 8 = .ok (.aload_n 0, 1) := by decide +kernel
theorem dX2_join_9 : decode cX2_join 9 = .ok (.iload_n 2, 1) := by decide +kernel
theorem dX2_join_10 : decode cX2_join 10 = .ok (.invokevirtual 35, 3) := by decide +kernel
theorem dX2_join_13 : decode cX2_join 13 = .ok (.ifCond .eq 22, 3) := by decide +kernel
theorem dX2_join_16 : decode cX2_join 16 = .ok (.aload_n 0, 1) := by decide +kernel
theorem dX2_join_17 : decode cX2_join 17 = .ok (.getfield 25, 3) := by decide +kernel
theorem dX2_join_20 : decode cX2_join 20 = .ok (.sipush 2500, 3) := by decide +kernel
theorem dX2_join_23 : decode cX2_join 23 = .ok (.if_icmp .ge 12, 3) := by decide +kernel
theorem dX2_join_26 : decode cX2_join 26 = .ok (.aload_n 0, 1) := by decide +kernel
theorem dX2_join_27 : decode cX2_join 27 = .ok (.iload_n 1, 1) := by decide +kernel
theorem dX2_join_28 : decode cX2_join 28 = .ok (.iload_n 2, 1) := by decide +kernel
theorem dX2_join_29 : decode cX2_join 29 = .ok (.invokevirtual 42, 3) := by decide +kernel
theorem dX2_join_32 : decode cX2_join 32 = .ok (.ifCond .eq 5, 3) := by decide +kernel
theorem dX2_join_35 : decode cX2_join 35 = .ok (.iconst 0, 1) := by decide +kernel
theorem dX2_join_36 : decode cX2_join 36 = .ok (.ireturn, 1) := by decide +kernel
theorem dX2_join_37 : decode cX2_join 37 = .ok (.aload_n 0, 1) := by decide +kernel
theorem dX2_join_38 : decode cX2_join 38 = .ok (.iload_n 1, 1) := by decide +kernel
theorem dX2_join_39 : decode cX2_join 39 = .ok (.iload_n 2, 1) := by decide +kernel
theorem dX2_join_40 : decode cX2_join 40 = .ok (.invokevirtual 46, 3) := by decide +kernel
theorem dX2_join_43 : decode cX2_join 43 = .ok (.istore_n 3, 1) := by decide +kernel
theorem dX2_join_44 : decode cX2_join 44 = .ok (.aload_n 0, 1) := by decide +kernel
theorem dX2_join_45 : decode cX2_join 45 = .ok (.getfield 15, 3) := by decide +kernel
theorem dX2_join_48 : decode cX2_join 48 = .ok (.iload_n 3, 1) := by decide +kernel
theorem dX2_join_49 : decode cX2_join 49 = .ok (.aload_n 0, 1) := by decide +kernel
theorem dX2_join_50 : decode cX2_join 50 = .ok (.getfield 15, 3) := by decide +kernel
theorem dX2_join_53 : decode cX2_join 53 = .ok (.iload_n 3, 1) := by decide +kernel
theorem dX2_join_54 : decode cX2_join 54 = .ok (.iconst 1, 1) := by decide +kernel
theorem dX2_join_55 : decode cX2_join 55 = .ok (.iadd, 1) := by decide +kernel
theorem dX2_join_56 : decode cX2_join 56 = .ok (.aload_n 0, 1) := by decide +kernel
theorem dX2_join_57 : decode cX2_join 57 = .ok (.getfield 25, 3) := by decide +kernel
theorem dX2_join_60 : decode cX2_join 60 = .ok (.iload_n 3, 1) := by decide +kernel
theorem dX2_join_61 : decode cX2_join 61 = .ok (.isub, 1) := by decide +kernel
theorem dX2_join_62 : decode cX2_join 62 = .ok (.invokestatic 50, 3) := by decide +kernel
theorem dX2_join_65 : decode cX2_join 65 = .ok (.aload_n 0, 1) := by decide +kernel
theorem dX2_join_66 : decode cX2_join 66 = .ok (.getfield 15, 3) := by decide +kernel
theorem dX2_join_69 : decode cX2_join 69 = .ok (.iload_n 3, 1) := by decide +kernel
theorem dX2_join_70 : decode cX2_join 70 = .ok (.iload_n 2, 1) := by decide +kernel
theorem dX2_join_71 : decode cX2_join 71 = .ok (.iastore, 1) := by decide +kernel
theorem dX2_join_72 : decode cX2_join 72 = .ok (.aload_n 0, 1) := by decide +kernel
theorem dX2_join_73 : decode cX2_join 73 = .ok (.iload_n 1, 1) := by decide +kernel
theorem dX2_join_74 : decode cX2_join 74 = .ok (.iconst 1, 1) := by decide +kernel
theorem dX2_join_75 : decode cX2_join 75 = .ok (.invokevirtual 56, 3) := by decide +kernel
theorem dX2_join_78 : decode cX2_join 78 = .ok (.iconst 1, 1) := by decide +kernel
theorem dX2_join_79 : decode cX2_join 79 = .ok (.ireturn, 1) := by decide +kernel
set_option maxRecDepth 20000 in
theorem ggX2_part_X2_joins : GoodIn wsX2_part wsX2_joins := goodIn_r _ [11, 12, 1, 13, 14, 15, 10, 16, 17, 18, 19, 20, 21, 26, 27, 28, 29, 30, 31] (by decide +kernel) (by decide +kernel)
set_option maxRecDepth 20000 in
theorem gX2_part_X2_joins : GoodIn wsX2_part (wsV RX2 42 RX2 yX2_joins wsX2_joins) := goodIn_app (goodIn_of _ (by decide +kernel)) ggX2_part_X2_joins
set_option maxRecDepth 20000 in
theorem ggX2_part_X2_spot : GoodIn wsX2_part wsX2_spot := goodIn_r _ [21, 12, 1, 26, 27, 28, 29, 30, 31] (by decide +kernel) (by decide +kernel)
set_option maxRecDepth 20000 in
theorem gX2_part_X2_spot : GoodIn wsX2_part (wsV RX2 46 RX2 yX2_spot wsX2_spot) := goodIn_app (goodIn_of _ (by decide +kernel)) ggX2_part_X2_spot
set_option maxRecDepth 20000 in
theorem ggX2_part_X2_grow : GoodIn wsX2_part wsX2_grow := goodIn_r _ [25, 2, 17, 12, 26, 27, 28, 29, 30, 31] (by decide +kernel) (by decide +kernel)
set_option maxRecDepth 20000 in
theorem gX2_part_X2_grow : GoodIn wsX2_part (wsV RX2 56 RX2 yX2_grow wsX2_grow) := goodIn_app (goodIn_of _ (by decide +kernel)) ggX2_part_X2_grow
theorem dX2_part_0 : decode cX2_part 0 = .ok (.aload_n 0, 1) := by decide +kernel
theorem dX2_part_1 : decode cX2_part 1 = .ok (.iload_n 1, 1) := by decide +kernel
theorem dX2_part_2 : decode cX2_part 2 = .ok (.iload_n 2, 1) := by decide +kernel
theorem dX2_part_3 : decode cX2_part 3 = .ok (.invokevirtual 42, 3) := by decide +kernel
theorem dX2_part_6 : decode cX2_part 6 = .ok (.ifCond .ne 5, 3) := by decide +kernel
theorem dX2_part_9 : decode cX2_part 9 = .ok (.iconst 0, 1) := by decide +kernel
theorem dX2_part_10 : decode cX2_part 10 = .ok (.ireturn, 1) := by decide +kernel
theorem dX2_part_11 : decode cX2_part 11 = .ok (.aload_n 0, 1) := by decide +kernel
theorem dX2_part_12 : decode cX2_part 12 = .ok (.iload_n 1, 1) := by decide +kernel
theorem dX2_part_13 : decode cX2_part 13 = .ok (.iload_n 2, 1) := by decide +kernel
theorem dX2_part_14 : decode cX2_part 14 = .ok (.invokevirtual 46, 3) := by decide +kernel
theorem dX2_part_17 : decode cX2_part 17 = .ok (.istore_n 3, 1) := by decide +kernel
theorem dX2_part_18 : decode cX2_part 18 = .ok (.aload_n 0, 1) := by decide +kernel
theorem dX2_part_19 : decode cX2_part 19 = .ok (.getfield 15, 3) := by decide +kernel
theorem dX2_part_22 : decode cX2_part 22 = .ok (.iload_n 3, 1) := by decide +kernel
theorem dX2_part_23 : decode cX2_part 23 = .ok (.iconst 1, 1) := by decide +kernel
theorem dX2_part_24 : decode cX2_part 24 = .ok (.iadd, 1) := by decide +kernel
theorem dX2_part_25 : decode cX2_part 25 = .ok (.aload_n 0, 1) := by decide +kernel
theorem dX2_part_26 : decode cX2_part 26 = .ok (.getfield 15, 3) := by decide +kernel
theorem dX2_part_29 : decode cX2_part 29 = .ok (.iload_n 3, 1) := by decide +kernel
theorem dX2_part_30 : decode cX2_part 30 = .ok (.aload_n 0, 1) := by decide +kernel
theorem dX2_part_31 : decode cX2_part 31 = .ok (.getfield 25, 3) := by decide +kernel
theorem dX2_part_34 : decode cX2_part 34 = .ok (.iload_n 3, 1) := by decide +kernel
theorem dX2_part_35 : decode cX2_part 35 = .ok (.isub, 1) := by decide +kernel
theorem dX2_part_36 : decode cX2_part 36 = .ok (.iconst 1, 1) := by decide +kernel
theorem dX2_part_37 : decode cX2_part 37 = .ok (.isub, 1) := by decide +kernel
theorem dX2_part_38 : decode cX2_part 38 = .ok (.invokestatic 50, 3) := by decide +kernel
theorem dX2_part_41 : decode cX2_part 41 = .ok (.aload_n 0, 1) := by decide +kernel
theorem dX2_part_42 : decode cX2_part 42 = .ok (.iload_n 1, 1) := by decide +kernel
theorem dX2_part_43 : decode cX2_part 43 = .ok (.iconst (-1), 1) := by decide +kernel
theorem dX2_part_44 : decode cX2_part 44 = .ok (.invokevirtual 56, 3) := by decide +kernel
theorem dX2_part_47 : decode cX2_part 47 = .ok (.iconst 1, 1) := by decide +kernel
theorem dX2_part_48 : decode cX2_part 48 = .ok (.ireturn, 1) := by decide +kernel
set_option maxRecDepth 20000 in
theorem ggX2_weigh_X2_isNode : GoodIn wsX2_weigh wsX2_isNode := goodIn_r _ [7, 8, 9, 10, 11, 12, 13, 14] (by decide +kernel) (by decide +kernel)
set_option maxRecDepth 20000 in
theorem gX2_weigh_X2_isNode : GoodIn wsX2_weigh (wsV RX2 35 RX2 yX2_isNode wsX2_isNode) := goodIn_app (goodIn_of _ (by decide +kernel)) ggX2_weigh_X2_isNode
theorem dX2_weigh_0 : decode cX2_weigh 0 = .ok (.aload_n 0, 1) := by decide +kernel
theorem dX2_weigh_1 : decode cX2_weigh 1 = .ok (.iload_n 1, 1) := by decide +kernel
theorem dX2_weigh_2 : decode cX2_weigh 2 = .ok (.invokevirtual 35, 3) := by decide +kernel
theorem dX2_weigh_5 : decode cX2_weigh 5 = .ok (.ifCond .eq 30, 3) := by decide +kernel
theorem dX2_weigh_8 : decode cX2_weigh 8 = .ok (.iload_n 2, 1) := by decide +kernel
theorem dX2_weigh_9 : decode cX2_weigh 9 = .ok (.ifCond .lt 26, 3) := by decide +kernel
theorem dX2_weigh_12 : decode cX2_weigh 12 = .ok (.iload_n 2, 1) := by decide +kernel
theorem dX2_weigh_13 : decode cX2_weigh 13 = .ok (.sipush 1000, 3) := by decide +kernel
theorem dX2_weigh_16 : decode cX2_weigh 16 = .ok (.if_icmp .gt 19, 3) := by decide +kernel
theorem dX2_weigh_19 : decode cX2_weigh 19 = .ok (.aload_n 0, 1) := by decide +kernel
theorem dX2_weigh_20 : decode cX2_weigh 20 = .ok (.getfield 28, 3) := by decide +kernel
theorem dX2_weigh_23 : decode cX2_weigh 23 = .ok (.aload_n 0, 1) := by decide +kernel
theorem dX2_weigh_24 : decode cX2_weigh 24 = .ok (.getfield 18, 3) := by decide +kernel
theorem dX2_weigh_27 : decode cX2_weigh 27 = .ok (.iload_n 1, 1) := by decide +kernel
theorem dX2_weigh_28 : decode cX2_weigh 28 = .ok (.iaload, 1) := by decide +kernel
theorem dX2_weigh_29 : decode cX2_weigh 29 = .ok (.isub, 1) := by decide +kernel
theorem dX2_weigh_30 : decode cX2_weigh 30 = .ok (.iload_n 2, 1) := by decide +kernel
theorem dX2_weigh_31 : decode cX2_weigh 31 = .ok (.iadd, 1) := by decide +kernel
theorem dX2_weigh_32 : decode cX2_weigh 32 = .ok (.ifCond .ne 5, 3) := by decide +kernel
theorem dX2_weigh_35 : decode cX2_weigh 35 = .ok (.iconst 0, 1) := by decide +kernel
theorem dX2_weigh_36 : decode cX2_weigh 36 = .ok (.ireturn, 1) := by decide +kernel
theorem dX2_weigh_37 : decode cX2_weigh 37 = .ok (.aload_n 0, 1) := by decide +kernel
theorem dX2_weigh_38 : decode cX2_weigh 38 = .ok (.dup, 1) := by decide +kernel
theorem dX2_weigh_39 : decode cX2_weigh 39 = .ok (.getfield 28, 3) := by decide +kernel
theorem dX2_weigh_42 : decode cX2_weigh 42 = .ok (.iload_n 2, 1) := by decide +kernel
theorem dX2_weigh_43 : decode cX2_weigh 43 = .ok (.aload_n 0, 1) := by decide +kernel
theorem dX2_weigh_44 : decode cX2_weigh 44 = .ok (.getfield 18, 3) := by decide +kernel
theorem dX2_weigh_47 : decode cX2_weigh 47 = .ok (.iload_n 1, 1) := by decide +kernel
theorem dX2_weigh_48 : decode cX2_weigh 48 = .ok (.iaload, 1) := by decide +kernel
theorem dX2_weigh_49 : decode cX2_weigh 49 = .ok (.isub, 1) := by decide +kernel
theorem dX2_weigh_50 : decode cX2_weigh 50 = .ok (.iadd, 1) := by decide +kernel
theorem dX2_weigh_51 : decode cX2_weigh 51 = .ok (.putfield 28, 3) := by decide +kernel
theorem dX2_weigh_54 : decode cX2_weigh 54 = .ok (.aload_n 0, 1) := by decide +kernel
theorem dX2_weigh_55 : decode cX2_weigh 55 = .ok (.getfield 18, 3) := by decide +kernel
theorem dX2_weigh_58 : decode cX2_weigh 58 = .ok (.iload_n 1, 1) := by decide +kernel
theorem dX2_weigh_59 : decode cX2_weigh 59 = .ok (.iload_n 2, 1) := by decide +kernel
theorem dX2_weigh_60 : decode cX2_weigh 60 = .ok (.iastore, 1) := by decide +kernel
theorem dX2_weigh_61 : decode cX2_weigh 61 = .ok (.iconst 1, 1) := by decide +kernel
theorem dX2_weigh_62 : decode cX2_weigh 62 = .ok (.ireturn, 1) := by decide +kernel
set_option maxRecDepth 20000 in
theorem ggX2_bareNodes_X2_outOf : GoodIn wsX2_bareNodes wsX2_outOf := goodIn_r _ [6, 7, 8, 9, 10, 5, 11, 1, 12, 13, 14, 15, 16, 17] (by decide +kernel) (by decide +kernel)
set_option maxRecDepth 20000 in
theorem gX2_bareNodes_X2_outOf : GoodIn wsX2_bareNodes (wsV RX2 38 RX2 yX2_outOf wsX2_outOf) := goodIn_app (goodIn_of _ (by decide +kernel)) ggX2_bareNodes_X2_outOf
theorem dX2_bareNodes_0 : decode cX2_bareNodes 0 = .ok (.iconst 0, 1) := by decide +kernel
theorem dX2_bareNodes_1 : decode cX2_bareNodes 1 = .ok (.istore_n 1, 1) := by decide +kernel
theorem dX2_bareNodes_2 : decode cX2_bareNodes 2 = .ok (.iconst 0, 1) := by decide +kernel
theorem dX2_bareNodes_3 : decode cX2_bareNodes 3 = .ok (.istore_n 2, 1) := by decide +kernel
theorem dX2_bareNodes_4 : decode cX2_bareNodes 4 = .ok (.iload_n 2, 1) := by decide +kernel
theorem dX2_bareNodes_5 : decode cX2_bareNodes 5 = .ok (.aload_n 0, 1) := by decide +kernel
theorem dX2_bareNodes_6 : decode cX2_bareNodes 6 = .ok (.getfield 21, 3) := by decide +kernel
theorem dX2_bareNodes_9 : decode cX2_bareNodes 9 = .ok (.if_icmp .ge 20, 3) := by decide +kernel
theorem dX2_bareNodes_12 : decode cX2_bareNodes 12 = .ok (.aload_n 0, 1) := by decide +kernel
theorem dX2_bareNodes_13 : decode cX2_bareNodes 13 = .ok (.iload_n 2, 1) := by decide +kernel
theorem dX2_bareNodes_14 : decode cX2_bareNodes 14 = .ok (.invokevirtual 38, 3) := by decide +kernel
theorem dX2_bareNodes_17 : decode cX2_bareNodes 17 = .ok (.ifCond .ne 6, 3) := by decide +kernel
theorem dX2_bareNodes_20 : decode cX2_bareNodes 20 = .ok (.iinc 1 1, 3) := by decide +kernel
theorem dX2_bareNodes_23 : decode cX2_bareNodes 23 = .ok (.iinc 2 1, 3) := by decide +kernel
theorem dX2_bareNodes_26 : decode cX2_bareNodes 26 = .ok (.goto (-22), 3) := by decide +kernel
theorem dX2_bareNodes_29 : decode cX2_bareNodes 29 = .ok (.iload_n 1, 1) := by decide +kernel
theorem dX2_bareNodes_30 : decode cX2_bareNodes 30 = .ok (.ireturn, 1) := by decide +kernel
theorem dX2_spot_0 : decode cX2_spot 0 = .ok (.aload_n 0, 1) := by decide +kernel
theorem dX2_spot_1 : decode cX2_spot 1 = .ok (.getfield 9, 3) := by decide +kernel
theorem dX2_spot_4 : decode cX2_spot 4 = .ok (.iload_n 1, 1) := by decide +kernel
theorem dX2_spot_5 : decode cX2_spot 5 = .ok (.iaload, 1) := by decide +kernel
theorem dX2_spot_6 : decode cX2_spot 6 = .ok (.istore_n 3, 1) := by decide +kernel
theorem dX2_spot_7 : decode cX2_spot 7 = .ok (.iload_n 3, 1) := by decide +kernel
theorem dX2_spot_8 : decode cX2_spot 8 = .ok (.aload_n 0, 1) := by decide +kernel
theorem dX2_spot_9 : decode cX2_spot 9 = .ok (.getfield 9, 3) := by decide +kernel
theorem dX2_spot_12 : decode cX2_spot 12 = .ok (.iload_n 1, 1) := by decide +kernel
theorem dX2_spot_13 : decode cX2_spot 13 = .ok (.iconst 1, 1) := by decide +kernel
theorem dX2_spot_14 : decode cX2_spot 14 = .ok (.iadd, 1) := by decide +kernel
theorem dX2_spot_15 : decode cX2_spot 15 = .ok (.iaload, 1) := by decide +kernel
theorem dX2_spot_16 : decode cX2_spot 16 = .ok (.if_icmp .ge 19, 3) := by decide +kernel
theorem dX2_spot_19 : decode cX2_spot 19 = .ok (.aload_n 0, 1) := by decide +kernel
theorem dX2_spot_20 : decode cX2_spot 20 = .ok (.getfield 15, 3) := by decide +kernel
theorem dX2_spot_23 : decode cX2_spot 23 = .ok (.iload_n 3, 1) := by decide +kernel
theorem dX2_spot_24 : decode cX2_spot 24 = .ok (.iaload, 1) := by decide +kernel
theorem dX2_spot_25 : decode cX2_spot 25 = .ok (.iload_n 2, 1) := by decide +kernel
theorem dX2_spot_26 : decode cX2_spot 26 = .ok (.if_icmp .ge 9, 3) := by decide +kernel
theorem dX2_spot_29 : decode cX2_spot 29 = .ok (.iinc 3 1, 3) := by decide +kernel
theorem dX2_spot_32 : decode cX2_spot 32 = .ok (.goto (-25), 3) := by decide +kernel
theorem dX2_spot_35 : decode cX2_spot 35 = .ok (.iload_n 3, 1) := by decide +kernel
theorem dX2_spot_36 : decode cX2_spot 36 = .ok (.ireturn, 1) := by decide +kernel
theorem dX2_grow_0 : decode cX2_grow 0 = .ok (.aload_n 0, 1) := by decide +kernel
theorem dX2_grow_1 : decode cX2_grow 1 = .ok (.dup, 1) := by decide +kernel
theorem dX2_grow_2 : decode cX2_grow 2 = .ok (.getfield 25, 3) := by decide +kernel
theorem dX2_grow_5 : decode cX2_grow 5 = .ok (.iload_n 2, 1) := by decide +kernel
theorem dX2_grow_6 : decode cX2_grow 6 = .ok (.iadd, 1) := by decide +kernel
theorem dX2_grow_7 : decode cX2_grow 7 = .ok (.putfield 25, 3) := by decide +kernel
theorem dX2_grow_10 : decode cX2_grow 10 = .ok (.iload_n 1, 1) := by decide +kernel
theorem dX2_grow_11 : decode cX2_grow 11 = .ok (.iconst 1, 1) := by decide +kernel
theorem dX2_grow_12 : decode cX2_grow 12 = .ok (.iadd, 1) := by decide +kernel
theorem dX2_grow_13 : decode cX2_grow 13 = .ok (.istore_n 3, 1) := by decide +kernel
theorem dX2_grow_14 : decode cX2_grow 14 = .ok (.iload_n 3, 1) := by decide +kernel
theorem dX2_grow_15 : decode cX2_grow 15 = .ok (.aload_n 0, 1) := by decide +kernel
theorem dX2_grow_16 : decode cX2_grow 16 = .ok (.getfield 21, 3) := by decide +kernel
theorem dX2_grow_19 : decode cX2_grow 19 = .ok (.if_icmp .gt 19, 3) := by decide +kernel
theorem dX2_grow_22 : decode cX2_grow 22 = .ok (.aload_n 0, 1) := by decide +kernel
theorem dX2_grow_23 : decode cX2_grow 23 = .ok (.getfield 9, 3) := by decide +kernel
theorem dX2_grow_26 : decode cX2_grow 26 = .ok (.iload_n 3, 1) := by decide +kernel
theorem dX2_grow_27 : decode cX2_grow 27 = .ok (.dup2, 1) := by decide +kernel
theorem dX2_grow_28 : decode cX2_grow 28 = .ok (.iaload, 1) := by decide +kernel
theorem dX2_grow_29 : decode cX2_grow 29 = .ok (.iload_n 2, 1) := by decide +kernel
theorem dX2_grow_30 : decode cX2_grow 30 = .ok (.iadd, 1) := by decide +kernel
theorem dX2_grow_31 : decode cX2_grow 31 = .ok (.iastore, 1) := by decide +kernel
theorem dX2_grow_32 : decode cX2_grow 32 = .ok (.iinc 3 1, 3) := by decide +kernel
theorem dX2_grow_35 : decode cX2_grow 35 = .ok (.goto (-21), 3) := by decide +kernel
theorem dX2_grow_38 : decode cX2_grow 38 = .ok (.return_, 1) := by decide +kernel
theorem dX3_init_0 : decode cX3_init 0 = .ok (.aload_n 0, 1) := by decide +kernel
theorem dX3_init_1 : decode cX3_init 1 = .ok (.invokespecial 3, 3) := by decide +kernel
theorem dX3_init_4 : decode cX3_init 4 = .ok (.aload_n 0, 1) := by decide +kernel
theorem dX3_init_5 : decode cX3_init 5 = .ok (.sipush 250, 3) := by decide +kernel
theorem dX3_init_8 : decode cX3_init 8 = .ok (.newarray .int, 2) := by decide +kernel
theorem dX3_init_10 : decode cX3_init 10 = .ok (.putfield 9, 3) := by decide +kernel
theorem dX3_init_13 : decode cX3_init 13 = .ok (.aload_n 0, 1) := by decide +kernel
theorem dX3_init_14 : decode cX3_init 14 = .ok (.sipush 250, 3) := by decide +kernel
theorem dX3_init_17 : decode cX3_init 17 = .ok (.newarray .long, 2) := by decide +kernel
theorem dX3_init_19 : decode cX3_init 19 = .ok (.putfield 15, 3) := by decide +kernel
theorem dX3_init_22 : decode cX3_init 22 = .ok (.aload_n 0, 1) := by decide +kernel
theorem dX3_init_23 : decode cX3_init 23 = .ok (.iconst 0, 1) := by decide +kernel
theorem dX3_init_24 : decode cX3_init 24 = .ok (.putfield 19, 3) := by decide +kernel
theorem dX3_init_27 : decode cX3_init 27 = .ok (.return_, 1) := by decide +kernel
theorem dX3_place_0 : decode cX3_place 0 = .ok (.aload_n 0, 1) := by decide +kernel
theorem dX3_place_1 : decode cX3_place 1 = .ok (.getfield 19, 3) := by decide +kernel
theorem dX3_place_4 : decode cX3_place 4 = .ok (.sipush 250, 3) := by decide +kernel
theorem dX3_place_7 : decode cX3_place 7 = .ok (.if_icmp .lt 4, 3) := by decide +kernel
theorem dX3_place_10 : decode cX3_place 10 = .ok (.return_, 1) := by decide +kernel
theorem dX3_place_11 : decode cX3_place 11 = .ok (.aload_n 0, 1) := by decide +kernel
theorem dX3_place_12 : decode cX3_place 12 = .ok (.getfield 19, 3) := by decide +kernel
theorem dX3_place_15 : decode cX3_place 15 = .ok (.istore 4, 2) := by decide +kernel
theorem dX3_place_17 : decode cX3_place 17 = .ok (.iload 4, 2) := by decide +kernel
theorem dX3_place_19 : decode cX3_place 19 = .ok (.ifCond .le 55, 3) := by decide +kernel
theorem dX3_place_22 : decode cX3_place 22 = .ok (.aload_n 0, 1) := by decide +kernel
theorem dX3_place_23 : decode cX3_place 23 = .ok (.getfield 15, 3) := by decide +kernel
theorem dX3_place_26 : decode cX3_place 26 = .ok (.iload 4, 2) := by decide +kernel
theorem dX3_place_28 : decode cX3_place 28 = .ok (.iconst 1, 1) := by decide +kernel
theorem dX3_place_29 : decode cX3_place 29 = .ok (.isub, 1) := by decide +kernel
theorem dX3_place_30 : decode cX3_place 30 = .ok (.laload, 1) := by decide +kernel
theorem dX3_place_31 : decode cX3_place 31 = .ok (.lload_n 2, 1) := by decide +kernel
theorem dX3_place_32 : decode cX3_place 32 = .ok (.lcmp, 1) := by decide +kernel
theorem dX3_place_33 : decode cX3_place 33 = .ok (.ifCond .ge 41, 3) := by decide +kernel
theorem dX3_place_36 : decode cX3_place 36 = .ok (.aload_n 0, 1) := by decide +kernel
theorem dX3_place_37 : decode cX3_place 37 = .ok (.getfield 9, 3) := by decide +kernel
theorem dX3_place_40 : decode cX3_place 40 = .ok (.iload 4, 2) := by decide +kernel
theorem dX3_place_42 : decode cX3_place 42 = .ok (.aload_n 0, 1) := by decide +kernel
theorem dX3_place_43 : decode cX3_place 43 = .ok (.getfield 9, 3) := by decide +kernel
theorem dX3_place_46 : decode cX3_place 46 = .ok (.iload 4, 2) := by decide +kernel
theorem dX3_place_48 : decode cX3_place 48 = .ok (.iconst 1, 1) := by decide +kernel
theorem dX3_place_49 : decode cX3_place 49 = .ok (.isub, 1) := by decide +kernel
theorem dX3_place_50 : decode cX3_place 50 = .ok (.iaload, 1) := by decide +kernel
theorem dX3_place_51 : decode cX3_place 51 = .ok (.iastore, 1) := by decide +kernel
theorem dX3_place_52 : decode cX3_place 52 = .ok (.aload_n 0, 1) := by decide +kernel
theorem dX3_place_53 : decode cX3_place 53 = .ok (.getfield 15, 3) := by decide +kernel
theorem dX3_place_56 : decode cX3_place 56 = .ok (.iload 4, 2) := by decide +kernel
theorem dX3_place_58 : decode cX3_place 58 = .ok (.aload_n 0, 1) := by decide +kernel
theorem dX3_place_59 : decode cX3_place 59 = .ok (.getfield 15, 3) := by decide +kernel
theorem dX3_place_62 : decode cX3_place 62 = .ok (.iload 4, 2) := by decide +kernel
theorem dX3_place_64 : decode cX3_place 64 = .ok (.iconst 1, 1) := by decide +kernel
theorem dX3_place_65 : decode cX3_place 65 = .ok (.isub, 1) := by decide +kernel
theorem dX3_place_66 : decode cX3_place 66 = .ok (.laload, 1) := by decide +kernel
theorem dX3_place_67 : decode cX3_place 67 = .ok (.lastore, 1) := by decide +kernel
theorem dX3_place_68 : decode cX3_place 68 = .ok (.iinc 4 (-1), 3) := by decide +kernel
theorem dX3_place_71 : decode cX3_place 71 = .ok (.goto (-54), 3) := by decide +kernel
theorem dX3_place_74 : decode cX3_place 74 = .ok (.aload_n 0, 1) := by decide +kernel
theorem dX3_place_75 : decode cX3_place 75 = .ok (.getfield 9, 3) := by decide +kernel
theorem dX3_place_78 : decode cX3_place 78 = .ok (.iload 4, 2) := by decide +kernel
theorem dX3_place_80 : decode cX3_place 80 = .ok (.iload_n 1, 1) := by decide +kernel
theorem dX3_place_81 : decode cX3_place 81 = .ok (.iastore, 1) := by decide +kernel
theorem dX3_place_82 : decode cX3_place 82 = .ok (.aload_n 0, 1) := by decide +kernel
theorem dX3_place_83 : decode cX3_place 83 = .ok (.getfield 15, 3) := by decide +kernel
theorem dX3_place_86 : decode cX3_place 86 = .ok (.iload 4, 2) := by decide +kernel
theorem dX3_place_88 : decode cX3_place 88 = .ok (.lload_n 2, 1) := by decide +kernel
theorem dX3_place_89 : decode cX3_place 89 = .ok (.lastore, 1) := by decide +kernel
theorem dX3_place_90 : decode cX3_place 90 = .ok (.aload_n 0, 1) := by decide +kernel
theorem dX3_place_91 : decode cX3_place 91 = .ok (.dup, 1) := by decide +kernel
theorem dX3_place_92 : decode cX3_place 92 = .ok (.getfield 19, 3) := by decide +kernel
theorem dX3_place_95 : decode cX3_place 95 = .ok (.iconst 1, 1) := by decide +kernel
theorem dX3_place_96 : decode cX3_place 96 = .ok (.iadd, 1) := by decide +kernel
theorem dX3_place_97 : decode cX3_place 97 = .ok (.putfield 19, 3) := by decide +kernel
theorem dX3_place_100 : decode cX3_place 100 = .ok (.return_, 1) := by decide +kernel
theorem dX3_node_0 : decode cX3_node 0 = .ok (.iload_n 1, 1) := by decide +kernel
theorem dX3_node_1 : decode cX3_node 1 = .ok (.ifCond .lt 20, 3) := by decide +kernel
theorem dX3_node_4 : decode cX3_node 4 = .ok (.iload_n 1, 1) := by decide +kernel
theorem dX3_node_5 : decode cX3_node 5 = .ok (.aload_n 0, 1) := by decide +kernel
theorem dX3_node_6 : decode cX3_node 6 = .ok (.getfield 19, 3) := by decide +kernel
theorem dX3_node_9 : decode cX3_node 9 = .ok (.if_icmp .ge 12, 3) := by decide +kernel
theorem dX3_node_12 : decode cX3_node 12 = .ok (.aload_n 0, 1) := by decide +kernel
theorem dX3_node_13 : decode cX3_node 13 = .ok (.getfield 9, 3) := by decide +kernel
theorem dX3_node_16 : decode cX3_node 16 = .ok (.iload_n 1, 1) := by decide +kernel
theorem dX3_node_17 : decode cX3_node 17 = .ok (.iaload, 1) := by decide +kernel
theorem dX3_node_18 : decode cX3_node 18 = .ok (.goto 4, 3) := by decide +kernel
theorem dX3_node_21 : decode cX3_node 21 = .ok (.iconst (-1), 1) := by decide +kernel
theorem dX3_node_22 : decode cX3_node 22 = .ok (.ireturn, 1) := by decide +kernel

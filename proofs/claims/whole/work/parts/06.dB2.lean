theorem dX5_count_111 : decode cX5_count 111 = .ok (.ireturn, 1) := by decide +kernel
theorem dX5_count_112 : decode cX5_count 112 = .ok (.iconst (-1), 1) := by decide +kernel
theorem dX5_count_113 : decode cX5_count 113 = .ok (.ireturn, 1) := by decide +kernel
set_option maxRecDepth 20000 in
theorem ggX5_beginIf_X4_begin : GoodIn wsX5_beginIf wsX4_begin := goodIn_r _ [7, 8, 9, 10, 11, 12, 13, 14, 15, 16, 29, 30, 31, 32, 33, 34, 35] (by decide +kernel) (by decide +kernel)
set_option maxRecDepth 20000 in
theorem gX5_beginIf_X4_begin : GoodIn wsX5_beginIf (wsV RX5 53 RX4 yX4_begin wsX4_begin) := goodIn_app (goodIn_of _ (by decide +kernel)) ggX5_beginIf_X4_begin
theorem dX5_beginIf_0 : decode cX5_beginIf 0 = .ok (.iload_n 1, 1) := by decide +kernel
theorem dX5_beginIf_1 : decode cX5_beginIf 1 = .ok (.ifCond .eq 17, 3) := by decide +kernel
theorem dX5_beginIf_4 : decode cX5_beginIf 4 = .ok (.aload_n 0, 1) := by decide +kernel
theorem dX5_beginIf_5 : decode cX5_beginIf 5 = .ok (.getfield 31, 3) := by decide +kernel
theorem dX5_beginIf_8 : decode cX5_beginIf 8 = .ok (.aload_n 0, 1) := by decide +kernel
theorem dX5_beginIf_9 : decode cX5_beginIf 9 = .ok (.getfield 45, 3) := by decide +kernel
theorem dX5_beginIf_12 : decode cX5_beginIf 12 = .ok (.getfield 49, 3) := by decide +kernel
theorem dX5_beginIf_15 : decode cX5_beginIf 15 = .ok (.invokevirtual 53, 3) := by decide +kernel
theorem dX5_beginIf_18 : decode cX5_beginIf 18 = .ok (.iload_n 1, 1) := by decide +kernel
theorem dX5_beginIf_19 : decode cX5_beginIf 19 = .ok (.ireturn, 1) := by decide +kernel
set_option maxRecDepth 20000 in
theorem ggX5_putNode_X2_outOf : GoodIn wsX5_putNode wsX2_outOf := goodIn_r _ [7, 8, 9, 10, 11, 6, 12, 13, 37, 38, 39, 40, 41, 42] (by decide +kernel) (by decide +kernel)
set_option maxRecDepth 20000 in
theorem gX5_putNode_X2_outOf : GoodIn wsX5_putNode (wsV RX5 102 RX2 yX2_outOf wsX2_outOf) := goodIn_app (goodIn_of _ (by decide +kernel)) ggX5_putNode_X2_outOf
set_option maxRecDepth 20000 in
theorem ggX5_putNode_X0_putUnsigned : GoodIn wsX5_putNode wsX0_putUnsigned := goodIn_r _ [18, 19, 20, 21, 17, 22, 23, 24, 43, 44] (by decide +kernel) (by decide +kernel)
set_option maxRecDepth 20000 in
theorem gX5_putNode_X0_putUnsigned : GoodIn wsX5_putNode (wsV RX5 167 RX0 yX0_putUnsigned wsX0_putUnsigned) := goodIn_app (goodIn_of _ (by decide +kernel)) ggX5_putNode_X0_putUnsigned
set_option maxRecDepth 20000 in
theorem ggX5_putNode_X2_target : GoodIn wsX5_putNode wsX2_target := goodIn_r _ [28, 29, 8, 30, 4, 5, 6, 7, 9, 10, 11, 12, 13, 37, 38, 39, 40, 41, 42] (by decide +kernel) (by decide +kernel)
set_option maxRecDepth 20000 in
theorem gX5_putNode_X2_target : GoodIn wsX5_putNode (wsV RX5 109 RX2 yX2_target wsX2_target) := goodIn_app (goodIn_of _ (by decide +kernel)) ggX5_putNode_X2_target
theorem dX5_putNode_0 : decode cX5_putNode 0 = .ok (.aload_n 0, 1) := by decide +kernel
theorem dX5_putNode_1 : decode cX5_putNode 1 = .ok (.getfield 45, 3) := by decide +kernel
theorem dX5_putNode_4 : decode cX5_putNode 4 = .ok (.iload_n 1, 1) := by decide +kernel
theorem dX5_putNode_5 : decode cX5_putNode 5 = .ok (.invokevirtual 102, 3) := by decide +kernel
theorem dX5_putNode_8 : decode cX5_putNode 8 = .ok (.istore_n 2, 1) := by decide +kernel
theorem dX5_putNode_9 : decode cX5_putNode 9 = .ok (.aload_n 0, 1) := by decide +kernel
theorem dX5_putNode_10 : decode cX5_putNode 10 = .ok (.getfield 18, 3) := by decide +kernel
theorem dX5_putNode_13 : decode cX5_putNode 13 = .ok (.iload_n 2, 1) := by decide +kernel
theorem dX5_putNode_14 : decode cX5_putNode 14 = .ok (.invokevirtual 167, 3) := by decide +kernel
theorem dX5_putNode_17 : decode cX5_putNode 17 = .ok (.iconst (-1), 1) := by decide +kernel
theorem dX5_putNode_18 : decode cX5_putNode 18 = .ok (.istore_n 3, 1) := by decide +kernel
theorem dX5_putNode_19 : decode cX5_putNode 19 = .ok (.iconst 0, 1) := by decide +kernel
theorem dX5_putNode_20 : decode cX5_putNode 20 = .ok (.istore 4, 2) := by decide +kernel
theorem dX5_putNode_22 : decode cX5_putNode 22 = .ok (.iload 4, 2) := by decide +kernel
theorem dX5_putNode_24 : decode cX5_putNode 24 = .ok (.iload_n 2, 1) := by decide +kernel
theorem dX5_putNode_25 : decode cX5_putNode 25 = .ok (.if_icmp .ge 75, 3) := by decide +kernel
theorem dX5_putNode_28 : decode cX5_putNode 28 = .ok (.aload_n 0, 1) := by decide +kernel
theorem dX5_putNode_29 : decode cX5_putNode 29 = .ok (.getfield 45, 3) := by decide +kernel
theorem dX5_putNode_32 : decode cX5_putNode 32 = .ok (.iload_n 1, 1) := by decide +kernel
theorem dX5_putNode_33 : decode cX5_putNode 33 = .ok (.iload 4, 2) := by decide +kernel
theorem dX5_putNode_35 : decode cX5_putNode 35 = .ok (.invokevirtual 109, 3) := by decide +kernel
theorem dX5_putNode_38 : decode cX5_putNode 38 = .ok (.istore 5, 2) := by decide +kernel
theorem dX5_putNode_40 : decode cX5_putNode 40 = .ok (.iload 4, 2) := by decide +kernel
theorem dX5_putNode_42 : decode cX5_putNode 42 = .ok (.ifCond .le 19, 3) := by decide +kernel
theorem dX5_putNode_45 : decode cX5_putNode 45 = .ok (.aload_n 0, 1) := by decide +kernel
theorem dX5_putNode_46 : decode cX5_putNode 46 = .ok (.getfield 18, 3) := by decide +kernel
theorem dX5_putNode_49 : decode cX5_putNode 49 = .ok (.iload 5, 2) := by decide +kernel
theorem dX5_putNode_51 : decode cX5_putNode 51 = .ok (.iload_n 3, 1) := by decide +kernel
theorem dX5_putNode_52 : decode cX5_putNode 52 = .ok (.isub, 1) := by decide +kernel
theorem dX5_putNode_53 : decode cX5_putNode 53 = .ok (.iconst 1, 1) := by decide +kernel
theorem dX5_putNode_54 : decode cX5_putNode 54 = .ok (.isub, 1) := by decide +kernel
theorem dX5_putNode_55 : decode cX5_putNode 55 = .ok (.invokevirtual 167, 3) := by decide +kernel
theorem dX5_putNode_58 : decode cX5_putNode 58 = .ok (.goto 33, 3) := by decide +kernel
theorem dX5_putNode_61 : decode cX5_putNode 61 = .ok (.aload_n 0, 1) := by decide +kernel
theorem dX5_putNode_62 : decode cX5_putNode 62 = .ok (.getfield 18, 3) := by decide +kernel
theorem dX5_putNode_65 : decode cX5_putNode 65 = .ok (.iload 5, 2) := by decide +kernel
theorem dX5_putNode_67 : decode cX5_putNode 67 = .ok (.iload_n 1, 1) := by decide +kernel
theorem dX5_putNode_68 : decode cX5_putNode 68 = .ok (.if_icmp .ge 14, 3) := by decide +kernel
theorem dX5_putNode_71 : decode cX5_putNode 71 = .ok (.iconst 2, 1) := by decide +kernel
theorem dX5_putNode_72 : decode cX5_putNode 72 = .ok (.iload_n 1, 1) := by decide +kernel
theorem dX5_putNode_73 : decode cX5_putNode 73 = .ok (.iload 5, 2) := by decide +kernel
theorem dX5_putNode_75 : decode cX5_putNode 75 = .ok (.isub, 1) := by decide +kernel
theorem dX5_putNode_76 : decode cX5_putNode 76 = .ok (.imul, 1) := by decide +kernel
theorem dX5_putNode_77 : decode cX5_putNode 77 = .ok (.iconst 1, 1) := by decide +kernel
theorem dX5_putNode_78 : decode cX5_putNode 78 = .ok (.isub, 1) := by decide +kernel
theorem dX5_putNode_79 : decode cX5_putNode 79 = .ok (.goto 9, 3) := by decide +kernel
theorem dX5_putNode_82 : decode cX5_putNode 82 = .ok (.iconst 2, 1) := by decide +kernel
theorem dX5_putNode_83 : decode cX5_putNode 83 = .ok (.iload 5, 2) := by decide +kernel
theorem dX5_putNode_85 : decode cX5_putNode 85 = .ok (.iload_n 1, 1) := by decide +kernel
theorem dX5_putNode_86 : decode cX5_putNode 86 = .ok (.isub, 1) := by decide +kernel
theorem dX5_putNode_87 : decode cX5_putNode 87 = .ok (.imul, 1) := by decide +kernel
theorem dX5_putNode_88 : decode cX5_putNode 88 = .ok (.invokevirtual 167, 3) := by decide +kernel
theorem dX5_putNode_91 : decode cX5_putNode 91 = .ok (.iload 5, 2) := by decide +kernel
theorem dX5_putNode_93 : decode cX5_putNode 93 = .ok (.istore_n 3, 1) := by decide +kernel
theorem dX5_putNode_94 : decode cX5_putNode 94 = .ok (.iinc 4 1, 3) := by decide +kernel
theorem dX5_putNode_97 : decode cX5_putNode 97 = .ok (.goto (-75), 3) := by decide +kernel
theorem dX5_putNode_100 : decode cX5_putNode 100 = .ok (.return_, 1) := by decide +kernel
theorem dX5_quotient_0 : decode cX5_quotient 0 = .ok (.lload_n 2, 1) := by decide +kernel
theorem dX5_quotient_1 : decode cX5_quotient 1 = .ok (.lconst 0, 1) := by decide +kernel
theorem dX5_quotient_2 : decode cX5_quotient 2 = .ok (.lcmp, 1) := by decide +kernel
theorem dX5_quotient_3 : decode cX5_quotient 3 = .ok (.ifCond .le 9, 3) := by decide +kernel
theorem dX5_quotient_6 : decode cX5_quotient 6 = .ok (.lload_n 0, 1) := by decide +kernel
theorem dX5_quotient_7 : decode cX5_quotient 7 = .ok (.lload_n 2, 1) := by decide +kernel
theorem dX5_quotient_8 : decode cX5_quotient 8 = .ok (.ldiv, 1) := by decide +kernel
theorem dX5_quotient_9 : decode cX5_quotient 9 = .ok (.goto 4, 3) := by decide +kernel
theorem dX5_quotient_12 : decode cX5_quotient 12 = .ok (.lconst 0, 1) := by decide +kernel
theorem dX5_quotient_13 : decode cX5_quotient 13 = .ok (.lreturn, 1) := by decide +kernel

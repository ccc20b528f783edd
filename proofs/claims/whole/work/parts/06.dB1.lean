theorem dX4_init_0 : decode cX4_init 0 = .ok (.aload_n 0, 1) := by decide +kernel
theorem dX4_init_1 : decode cX4_init 1 = .ok (.invokespecial 3, 3) := by decide +kernel
theorem dX4_init_4 : decode cX4_init 4 = .ok (.aload_n 0, 1) := by decide +kernel
theorem dX4_init_5 : decode cX4_init 5 = .ok (.sipush 250, 3) := by decide +kernel
theorem dX4_init_8 : decode cX4_init 8 = .ok (.newarray .long, 2) := by decide +kernel
theorem dX4_init_10 : decode cX4_init 10 = .ok (.putfield 9, 3) := by decide +kernel
theorem dX4_init_13 : decode cX4_init 13 = .ok (.aload_n 0, 1) := by decide +kernel
theorem dX4_init_14 : decode cX4_init 14 = .ok (.sipush 250, 3) := by decide +kernel
theorem dX4_init_17 : decode cX4_init 17 = .ok (.newarray .long, 2) := by decide +kernel
theorem dX4_init_19 : decode cX4_init 19 = .ok (.putfield 15, 3) := by decide +kernel
theorem dX4_init_22 : decode cX4_init 22 = .ok (.aload_n 0, 1) := by decide +kernel
theorem dX4_init_23 : decode cX4_init 23 = .ok (.bipush 17, 2) := by decide +kernel
theorem dX4_init_25 : decode cX4_init 25 = .ok (.putfield 18, 3) := by decide +kernel
theorem dX4_init_28 : decode cX4_init 28 = .ok (.aload_n 0, 1) := by decide +kernel
theorem dX4_init_29 : decode cX4_init 29 = .ok (.bipush 20, 2) := by decide +kernel
theorem dX4_init_31 : decode cX4_init 31 = .ok (.putfield 22, 3) := by decide +kernel
theorem dX4_init_34 : decode cX4_init 34 = .ok (.return_, 1) := by decide +kernel
set_option maxRecDepth 20000 in
theorem ggX4_begin_X5_quotient : GoodIn wsX4_begin wsX5_quotient := goodIn_r _ [9] (by decide +kernel) (by decide +kernel)
set_option maxRecDepth 20000 in
theorem gX4_begin_X5_quotient_n27 : GoodIn wsX4_begin (wsX5_quotient) := ggX4_begin_X5_quotient
theorem dX4_begin_0 : decode cX4_begin 0 = .ok (.ldc2_w 25, 3) := by decide +kernel
theorem dX4_begin_3 : decode cX4_begin 3 = .ok (.iload_n 1, 1) := by decide +kernel
theorem dX4_begin_4 : decode cX4_begin 4 = .ok (.i2l, 1) := by decide +kernel
theorem dX4_begin_5 : decode cX4_begin 5 = .ok (.invokestatic 27, 3) := by decide +kernel
theorem dX4_begin_8 : decode cX4_begin 8 = .ok (.lstore_n 2, 1) := by decide +kernel
theorem dX4_begin_9 : decode cX4_begin 9 = .ok (.ldc2_w 25, 3) := by decide +kernel
theorem dX4_begin_12 : decode cX4_begin 12 = .ok (.lload_n 2, 1) := by decide +kernel
theorem dX4_begin_13 : decode cX4_begin 13 = .ok (.iload_n 1, 1) := by decide +kernel
theorem dX4_begin_14 : decode cX4_begin 14 = .ok (.i2l, 1) := by decide +kernel
theorem dX4_begin_15 : decode cX4_begin 15 = .ok (.lmul, 1) := by decide +kernel
theorem dX4_begin_16 : decode cX4_begin 16 = .ok (.lsub, 1) := by decide +kernel
theorem dX4_begin_17 : decode cX4_begin 17 = .ok (.lstore 4, 2) := by decide +kernel
theorem dX4_begin_19 : decode cX4_begin 19 = .ok (.iconst 0, 1) := by decide +kernel
theorem dX4_begin_20 : decode cX4_begin 20 = .ok (.istore 6, 2) := by decide +kernel
theorem dX4_begin_22 : decode cX4_begin 22 = .ok (.iload 6, 2) := by decide +kernel
theorem dX4_begin_24 : decode cX4_begin 24 = .ok (.iload_n 1, 1) := by decide +kernel
theorem dX4_begin_25 : decode cX4_begin 25 = .ok (.if_icmp .ge 32, 3) := by decide +kernel
theorem dX4_begin_28 : decode cX4_begin 28 = .ok (.aload_n 0, 1) := by decide +kernel
theorem dX4_begin_29 : decode cX4_begin 29 = .ok (.getfield 9, 3) := by decide +kernel
theorem dX4_begin_32 : decode cX4_begin 32 = .ok (.iload 6, 2) := by decide +kernel
theorem dX4_begin_34 : decode cX4_begin 34 = .ok (.iload 6, 2) := by decide +kernel
theorem dX4_begin_36 : decode cX4_begin 36 = .ok (.i2l, 1) := by decide +kernel
theorem dX4_begin_37 : decode cX4_begin 37 = .ok (.lload 4, 2) := by decide +kernel
theorem dX4_begin_39 : decode cX4_begin 39 = .ok (.lcmp, 1) := by decide +kernel
theorem dX4_begin_40 : decode cX4_begin 40 = .ok (.ifCond .ge 9, 3) := by decide +kernel
theorem dX4_begin_43 : decode cX4_begin 43 = .ok (.lload_n 2, 1) := by decide +kernel
theorem dX4_begin_44 : decode cX4_begin 44 = .ok (.lconst 1, 1) := by decide +kernel
theorem dX4_begin_45 : decode cX4_begin 45 = .ok (.ladd, 1) := by decide +kernel
theorem dX4_begin_46 : decode cX4_begin 46 = .ok (.goto 4, 3) := by decide +kernel
theorem dX4_begin_49 : decode cX4_begin 49 = .ok (.lload_n 2, 1) := by decide +kernel
theorem dX4_begin_50 : decode cX4_begin 50 = .ok (.lastore, 1) := by decide +kernel
theorem dX4_begin_51 : decode cX4_begin 51 = .ok (.iinc 6 1, 3) := by decide +kernel
theorem dX4_begin_54 : decode cX4_begin 54 = .ok (.goto (-32), 3) := by decide +kernel
theorem dX4_begin_57 : decode cX4_begin 57 = .ok (.aload_n 0, 1) := by decide +kernel
theorem dX4_begin_58 : decode cX4_begin 58 = .ok (.iconst 0, 1) := by decide +kernel
theorem dX4_begin_59 : decode cX4_begin 59 = .ok (.putfield 31, 3) := by decide +kernel
theorem dX4_begin_62 : decode cX4_begin 62 = .ok (.aload_n 0, 1) := by decide +kernel
theorem dX4_begin_63 : decode cX4_begin 63 = .ok (.ldc2_w 34, 3) := by decide +kernel
theorem dX4_begin_66 : decode cX4_begin 66 = .ok (.putfield 36, 3) := by decide +kernel
theorem dX4_begin_69 : decode cX4_begin 69 = .ok (.aload_n 0, 1) := by decide +kernel
theorem dX4_begin_70 : decode cX4_begin 70 = .ok (.ldc2_w 34, 3) := by decide +kernel
theorem dX4_begin_73 : decode cX4_begin 73 = .ok (.putfield 40, 3) := by decide +kernel
theorem dX4_begin_76 : decode cX4_begin 76 = .ok (.return_, 1) := by decide +kernel
theorem dX4_damp_0 : decode cX4_damp 0 = .ok (.iload_n 1, 1) := by decide +kernel
theorem dX4_damp_1 : decode cX4_damp 1 = .ok (.ifCond .lt 14, 3) := by decide +kernel
theorem dX4_damp_4 : decode cX4_damp 4 = .ok (.iload_n 1, 1) := by decide +kernel
theorem dX4_damp_5 : decode cX4_damp 5 = .ok (.iload_n 2, 1) := by decide +kernel
theorem dX4_damp_6 : decode cX4_damp 6 = .ok (.if_icmp .ge 9, 3) := by decide +kernel
theorem dX4_damp_9 : decode cX4_damp 9 = .ok (.iload_n 2, 1) := by decide +kernel
theorem dX4_damp_10 : decode cX4_damp 10 = .ok (.ldc 43, 2) := by decide +kernel
theorem dX4_damp_12 : decode cX4_damp 12 = .ok (.if_icmp .lt 5, 3) := by decide +kernel
theorem dX4_damp_15 : decode cX4_damp 15 = .ok (.iconst 0, 1) := by decide +kernel
theorem dX4_damp_16 : decode cX4_damp 16 = .ok (.ireturn, 1) := by decide +kernel
theorem dX4_damp_17 : decode cX4_damp 17 = .ok (.aload_n 0, 1) := by decide +kernel
theorem dX4_damp_18 : decode cX4_damp 18 = .ok (.iload_n 1, 1) := by decide +kernel
theorem dX4_damp_19 : decode cX4_damp 19 = .ok (.putfield 18, 3) := by decide +kernel
theorem dX4_damp_22 : decode cX4_damp 22 = .ok (.aload_n 0, 1) := by decide +kernel
theorem dX4_damp_23 : decode cX4_damp 23 = .ok (.iload_n 2, 1) := by decide +kernel
theorem dX4_damp_24 : decode cX4_damp 24 = .ok (.putfield 22, 3) := by decide +kernel
theorem dX4_damp_27 : decode cX4_damp 27 = .ok (.iconst 1, 1) := by decide +kernel
theorem dX4_damp_28 : decode cX4_damp 28 = .ok (.ireturn, 1) := by decide +kernel
theorem dX4_areStill_0 : decode cX4_areStill 0 = .ok (.aload_n 0, 1) := by decide +kernel
theorem dX4_areStill_1 : decode cX4_areStill 1 = .ok (.getfield 31, 3) := by decide +kernel
theorem dX4_areStill_4 : decode cX4_areStill 4 = .ok (.ifCond .le 16, 3) := by decide +kernel
theorem dX4_areStill_7 : decode cX4_areStill 7 = .ok (.aload_n 0, 1) := by decide +kernel
theorem dX4_areStill_8 : decode cX4_areStill 8 = .ok (.getfield 36, 3) := by decide +kernel
theorem dX4_areStill_11 : decode cX4_areStill 11 = .ok (.lload_n 1, 1) := by decide +kernel
theorem dX4_areStill_12 : decode cX4_areStill 12 = .ok (.lcmp, 1) := by decide +kernel
theorem dX4_areStill_13 : decode cX4_areStill 13 = .ok (.ifCond .gt 7, 3) := by decide +kernel
theorem dX4_areStill_16 : decode cX4_areStill 16 = .ok (.iconst 1, 1) := by decide +kernel
theorem dX4_areStill_17 : decode cX4_areStill 17 = .ok (.goto 4, 3) := by decide +kernel
theorem dX4_areStill_20 : decode cX4_areStill 20 = .ok (.iconst 0, 1) := by decide +kernel
theorem dX4_areStill_21 : decode cX4_areStill 21 = .ok (.ireturn, 1) := by decide +kernel
set_option maxRecDepth 20000 in
theorem ggX4_step_X4_bareSum : GoodIn wsX4_step wsX4_bareSum := goodIn_r _ [13, 6, 14, 15, 16, 17, 18, 19, 20, 21, 22, 23, 24, 51, 52, 53, 54, 55, 56, 44, 45, 46, 47, 48, 49, 50] (by decide +kernel) (by decide +kernel)
set_option maxRecDepth 20000 in
theorem gX4_step_X4_bareSum : GoodIn wsX4_step (wsV RX4 44 RX4 yX4_bareSum wsX4_bareSum) := goodIn_app (goodIn_of _ (by decide +kernel)) ggX4_step_X4_bareSum
set_option maxRecDepth 20000 in
theorem ggX4_step_X5_quotient : GoodIn wsX4_step wsX5_quotient := goodIn_r _ [27] (by decide +kernel) (by decide +kernel)
set_option maxRecDepth 20000 in
theorem gX4_step_X5_quotient_n27 : GoodIn wsX4_step (wsX5_quotient) := ggX4_step_X5_quotient
set_option maxRecDepth 20000 in
theorem ggX4_step_X4_shareOut : GoodIn wsX4_step wsX4_shareOut := goodIn_r _ [31, 4, 32, 33, 34, 12, 35, 2, 6, 1, 14, 15, 16, 17, 18, 19, 20, 21, 22, 23, 24, 25, 26, 27, 51, 52, 53, 54, 55, 56, 44, 45, 46, 47, 48, 49, 50] (by decide +kernel) (by decide +kernel)
set_option maxRecDepth 20000 in
theorem gX4_step_X4_shareOut : GoodIn wsX4_step (wsV RX4 60 RX4 yX4_shareOut wsX4_shareOut) := goodIn_app (goodIn_of _ (by decide +kernel)) ggX4_step_X4_shareOut
set_option maxRecDepth 20000 in
theorem ggX4_step_X4_distance : GoodIn wsX4_step wsX4_distance := goodIn_r _ [39, 4, 6, 40, 41, 42, 43, 44, 45, 46, 47, 48, 49, 50] (by decide +kernel) (by decide +kernel)
set_option maxRecDepth 20000 in
theorem gX4_step_X4_distance : GoodIn wsX4_step (wsV RX4 64 RX4 yX4_distance wsX4_distance) := goodIn_app (goodIn_of _ (by decide +kernel)) ggX4_step_X4_distance
theorem dX4_step_0 : decode cX4_step 0 = .ok (.aload_n 0, 1) := by decide +kernel
theorem dX4_step_1 : decode cX4_step 1 = .ok (.getfield 22, 3) := by decide +kernel
theorem dX4_step_4 : decode cX4_step 4 = .ok (.aload_n 0, 1) := by decide +kernel
theorem dX4_step_5 : decode cX4_step 5 = .ok (.getfield 18, 3) := by decide +kernel
theorem dX4_step_8 : decode cX4_step 8 = .ok (.isub, 1) := by decide +kernel
theorem dX4_step_9 : decode cX4_step 9 = .ok (.i2l, 1) := by decide +kernel
theorem dX4_step_10 : decode cX4_step 10 = .ok (.ldc2_w 25, 3) := by decide +kernel
theorem dX4_step_13 : decode cX4_step 13 = .ok (.lmul, 1) := by decide +kernel
theorem dX4_step_14 : decode cX4_step 14 = .ok (.aload_n 0, 1) := by decide +kernel
theorem dX4_step_15 : decode cX4_step 15 = .ok (.getfield 18, 3) := by decide +kernel
theorem dX4_step_18 : decode cX4_step 18 = .ok (.i2l, 1) := by decide +kernel
theorem dX4_step_19 : decode cX4_step 19 = .ok (.aload_n 0, 1) := by decide +kernel
theorem dX4_step_20 : decode cX4_step 20 = .ok (.aload_n 1, 1) := by decide +kernel
theorem dX4_step_21 : decode cX4_step 21 = .ok (.invokevirtual 44, 3) := by decide +kernel
theorem dX4_step_24 : decode cX4_step 24 = .ok (.lmul, 1) := by decide +kernel
theorem dX4_step_25 : decode cX4_step 25 = .ok (.ladd, 1) := by decide +kernel
theorem dX4_step_26 : decode cX4_step 26 = .ok (.aload_n 0, 1) := by decide +kernel
theorem dX4_step_27 : decode cX4_step 27 = .ok (.getfield 22, 3) := by decide +kernel
theorem dX4_step_30 : decode cX4_step 30 = .ok (.i2l, 1) := by decide +kernel
theorem dX4_step_31 : decode cX4_step 31 = .ok (.invokestatic 27, 3) := by decide +kernel
theorem dX4_step_34 : decode cX4_step 34 = .ok (.lstore_n 2, 1) := by decide +kernel
theorem dX4_step_35 : decode cX4_step 35 = .ok (.iconst 0, 1) := by decide +kernel
theorem dX4_step_36 : decode cX4_step 36 = .ok (.istore 4, 2) := by decide +kernel
theorem dX4_step_38 : decode cX4_step 38 = .ok (.iload 4, 2) := by decide +kernel
theorem dX4_step_40 : decode cX4_step 40 = .ok (.aload_n 1, 1) := by decide +kernel
theorem dX4_step_41 : decode cX4_step 41 = .ok (.getfield 48, 3) := by decide +kernel
theorem dX4_step_44 : decode cX4_step 44 = .ok (.if_icmp .ge 34, 3) := by decide +kernel
theorem dX4_step_47 : decode cX4_step 47 = .ok (.aload_n 0, 1) := by decide +kernel
theorem dX4_step_48 : decode cX4_step 48 = .ok (.getfield 15, 3) := by decide +kernel
theorem dX4_step_51 : decode cX4_step 51 = .ok (.iload 4, 2) := by decide +kernel
theorem dX4_step_53 : decode cX4_step 53 = .ok (.lload_n 2, 1) := by decide +kernel
theorem dX4_step_54 : decode cX4_step 54 = .ok (.aload_n 1, 1) := by decide +kernel
theorem dX4_step_55 : decode cX4_step 55 = .ok (.getfield 53, 3) := by decide +kernel
theorem dX4_step_58 : decode cX4_step 58 = .ok (.iload 4, 2) := by decide +kernel
theorem dX4_step_60 : decode cX4_step 60 = .ok (.iaload, 1) := by decide +kernel
theorem dX4_step_61 : decode cX4_step 61 = .ok (.i2l, 1) := by decide +kernel
theorem dX4_step_62 : decode cX4_step 62 = .ok (.lmul, 1) := by decide +kernel
theorem dX4_step_63 : decode cX4_step 63 = .ok (.aload_n 1, 1) := by decide +kernel
theorem dX4_step_64 : decode cX4_step 64 = .ok (.getfield 57, 3) := by decide +kernel
theorem dX4_step_67 : decode cX4_step 67 = .ok (.i2l, 1) := by decide +kernel
theorem dX4_step_68 : decode cX4_step 68 = .ok (.invokestatic 27, 3) := by decide +kernel
theorem dX4_step_71 : decode cX4_step 71 = .ok (.lastore, 1) := by decide +kernel
theorem dX4_step_72 : decode cX4_step 72 = .ok (.iinc 4 1, 3) := by decide +kernel
theorem dX4_step_75 : decode cX4_step 75 = .ok (.goto (-37), 3) := by decide +kernel
theorem dX4_step_78 : decode cX4_step 78 = .ok (.iconst 0, 1) := by decide +kernel
theorem dX4_step_79 : decode cX4_step 79 = .ok (.istore 4, 2) := by decide +kernel
theorem dX4_step_81 : decode cX4_step 81 = .ok (.iload 4, 2) := by decide +kernel
theorem dX4_step_83 : decode cX4_step 83 = .ok (.aload_n 1, 1) := by decide +kernel
theorem dX4_step_84 : decode cX4_step 84 = .ok (.getfield 48, 3) := by decide +kernel
theorem dX4_step_87 : decode cX4_step 87 = .ok (.if_icmp .ge 16, 3) := by decide +kernel
theorem dX4_step_90 : decode cX4_step 90 = .ok (.aload_n 0, 1) := by decide +kernel
theorem dX4_step_91 : decode cX4_step 91 = .ok (.aload_n 1, 1) := by decide +kernel
theorem dX4_step_92 : decode cX4_step 92 = .ok (.iload 4, 2) := by decide +kernel
theorem dX4_step_94 : decode cX4_step 94 = .ok (.invokevirtual 60, 3) := by decide +kernel
theorem dX4_step_97 : decode cX4_step 97 = .ok (.iinc 4 1, 3) := by decide +kernel
theorem dX4_step_100 : decode cX4_step 100 = .ok (.goto (-19), 3) := by decide +kernel
theorem dX4_step_103 : decode cX4_step 103 = .ok (.aload_n 0, 1) := by decide +kernel
theorem dX4_step_104 : decode cX4_step 104 = .ok (.aload_n 0, 1) := by decide +kernel
theorem dX4_step_105 : decode cX4_step 105 = .ok (.aload_n 1, 1) := by decide +kernel
theorem dX4_step_106 : decode cX4_step 106 = .ok (.getfield 48, 3) := by decide +kernel
theorem dX4_step_109 : decode cX4_step 109 = .ok (.invokevirtual 64, 3) := by decide +kernel
theorem dX4_step_112 : decode cX4_step 112 = .ok (.putfield 36, 3) := by decide +kernel
theorem dX4_step_115 : decode cX4_step 115 = .ok (.aload_n 0, 1) := by decide +kernel
theorem dX4_step_116 : decode cX4_step 116 = .ok (.getfield 9, 3) := by decide +kernel
theorem dX4_step_119 : decode cX4_step 119 = .ok (.astore 4, 2) := by decide +kernel
theorem dX4_step_121 : decode cX4_step 121 = .ok (.aload_n 0, 1) := by decide +kernel
theorem dX4_step_122 : decode cX4_step 122 = .ok (.aload_n 0, 1) := by decide +kernel
theorem dX4_step_123 : decode cX4_step 123 = .ok (.getfield 15, 3) := by decide +kernel
theorem dX4_step_126 : decode cX4_step 126 = .ok (.putfield 9, 3) := by decide +kernel
theorem dX4_step_129 : decode cX4_step 129 = .ok (.aload_n 0, 1) := by decide +kernel
theorem dX4_step_130 : decode cX4_step 130 = .ok (.aload 4, 2) := by decide +kernel
theorem dX4_step_132 : decode cX4_step 132 = .ok (.putfield 15, 3) := by decide +kernel
theorem dX4_step_135 : decode cX4_step 135 = .ok (.aload_n 0, 1) := by decide +kernel
theorem dX4_step_136 : decode cX4_step 136 = .ok (.dup, 1) := by decide +kernel
theorem dX4_step_137 : decode cX4_step 137 = .ok (.getfield 31, 3) := by decide +kernel
theorem dX4_step_140 : decode cX4_step 140 = .ok (.iconst 1, 1) := by decide +kernel
theorem dX4_step_141 : decode cX4_step 141 = .ok (.iadd, 1) := by decide +kernel
theorem dX4_step_142 : decode cX4_step 142 = .ok (.putfield 31, 3) := by decide +kernel
theorem dX4_step_145 : decode cX4_step 145 = .ok (.aload_n 0, 1) := by decide +kernel
theorem dX4_step_146 : decode cX4_step 146 = .ok (.aload_n 0, 1) := by decide +kernel
theorem dX4_step_147 : decode cX4_step 147 = .ok (.getfield 40, 3) := by decide +kernel
theorem dX4_step_150 : decode cX4_step 150 = .ok (.aload_n 0, 1) := by decide +kernel
theorem dX4_step_151 : decode cX4_step 151 = .ok (.getfield 18, 3) := by decide +kernel
theorem dX4_step_154 : decode cX4_step 154 = .ok (.i2l, 1) := by decide +kernel
theorem dX4_step_155 : decode cX4_step 155 = .ok (.lmul, 1) := by decide +kernel
theorem dX4_step_156 : decode cX4_step 156 = .ok (.aload_n 0, 1) := by decide +kernel
theorem dX4_step_157 : decode cX4_step 157 = .ok (.getfield 22, 3) := by decide +kernel
theorem dX4_step_160 : decode cX4_step 160 = .ok (.i2l, 1) := by decide +kernel
theorem dX4_step_161 : decode cX4_step 161 = .ok (.invokestatic 27, 3) := by decide +kernel
theorem dX4_step_164 : decode cX4_step 164 = .ok (.lconst 1, 1) := by decide +kernel
theorem dX4_step_165 : decode cX4_step 165 = .ok (.ladd, 1) := by decide +kernel
theorem dX4_step_166 : decode cX4_step 166 = .ok (.putfield 40, 3) := by decide +kernel
theorem dX4_step_169 : decode cX4_step 169 = .ok (.return_, 1) := by decide +kernel
set_option maxRecDepth 20000 in
theorem ggX4_share_X2_outOf : GoodIn wsX4_share wsX2_outOf := goodIn_r _ [8, 9, 10, 11, 12, 7, 13, 14, 25, 26, 27, 28, 29, 30] (by decide +kernel) (by decide +kernel)
set_option maxRecDepth 20000 in
theorem gX4_share_X2_outOf : GoodIn wsX4_share (wsV RX4 68 RX2 yX2_outOf wsX2_outOf) := goodIn_app (goodIn_of _ (by decide +kernel)) ggX4_share_X2_outOf
set_option maxRecDepth 20000 in
theorem ggX4_share_X5_quotient : GoodIn wsX4_share wsX5_quotient := goodIn_r _ [17] (by decide +kernel) (by decide +kernel)
set_option maxRecDepth 20000 in
theorem gX4_share_X5_quotient_n27 : GoodIn wsX4_share (wsX5_quotient) := ggX4_share_X5_quotient
theorem dX4_share_0 : decode cX4_share 0 = .ok (.aload_n 0, 1) := by decide +kernel
theorem dX4_share_1 : decode cX4_share 1 = .ok (.getfield 18, 3) := by decide +kernel
theorem dX4_share_4 : decode cX4_share 4 = .ok (.i2l, 1) := by decide +kernel
theorem dX4_share_5 : decode cX4_share 5 = .ok (.aload_n 0, 1) := by decide +kernel
theorem dX4_share_6 : decode cX4_share 6 = .ok (.getfield 9, 3) := by decide +kernel
theorem dX4_share_9 : decode cX4_share 9 = .ok (.iload_n 2, 1) := by decide +kernel
theorem dX4_share_10 : decode cX4_share 10 = .ok (.laload, 1) := by decide +kernel
theorem dX4_share_11 : decode cX4_share 11 = .ok (.lmul, 1) := by decide +kernel
theorem dX4_share_12 : decode cX4_share 12 = .ok (.aload_n 0, 1) := by decide +kernel
theorem dX4_share_13 : decode cX4_share 13 = .ok (.getfield 22, 3) := by decide +kernel
theorem dX4_share_16 : decode cX4_share 16 = .ok (.i2l, 1) := by decide +kernel
theorem dX4_share_17 : decode cX4_share 17 = .ok (.aload_n 1, 1) := by decide +kernel
theorem dX4_share_18 : decode cX4_share 18 = .ok (.iload_n 2, 1) := by decide +kernel
theorem dX4_share_19 : decode cX4_share 19 = .ok (.invokevirtual 68, 3) := by decide +kernel
theorem dX4_share_22 : decode cX4_share 22 = .ok (.i2l, 1) := by decide +kernel
theorem dX4_share_23 : decode cX4_share 23 = .ok (.lmul, 1) := by decide +kernel
theorem dX4_share_24 : decode cX4_share 24 = .ok (.invokestatic 27, 3) := by decide +kernel
theorem dX4_share_27 : decode cX4_share 27 = .ok (.lreturn, 1) := by decide +kernel
theorem dX4_sum_0 : decode cX4_sum 0 = .ok (.lconst 0, 1) := by decide +kernel
theorem dX4_sum_1 : decode cX4_sum 1 = .ok (.lstore_n 2, 1) := by decide +kernel
theorem dX4_sum_2 : decode cX4_sum 2 = .ok (.iconst 0, 1) := by decide +kernel
theorem dX4_sum_3 : decode cX4_sum 3 = .ok (.istore 4, 2) := by decide +kernel
theorem dX4_sum_5 : decode cX4_sum 5 = .ok (.iload 4, 2) := by decide +kernel
theorem dX4_sum_7 : decode cX4_sum 7 = .ok (.aload_n 1, 1) := by decide +kernel
theorem dX4_sum_8 : decode cX4_sum 8 = .ok (.getfield 48, 3) := by decide +kernel
theorem dX4_sum_11 : decode cX4_sum 11 = .ok (.if_icmp .ge 19, 3) := by decide +kernel
theorem dX4_sum_14 : decode cX4_sum 14 = .ok (.lload_n 2, 1) := by decide +kernel
theorem dX4_sum_15 : decode cX4_sum 15 = .ok (.aload_n 0, 1) := by decide +kernel
theorem dX4_sum_16 : decode cX4_sum 16 = .ok (.getfield 9, 3) := by decide +kernel
theorem dX4_sum_19 : decode cX4_sum 19 = .ok (.iload 4, 2) := by decide +kernel
theorem dX4_sum_21 : decode cX4_sum 21 = .ok (.laload, 1) := by decide +kernel
theorem dX4_sum_22 : decode cX4_sum 22 = .ok (.ladd, 1) := by decide +kernel
theorem dX4_sum_23 : decode cX4_sum 23 = .ok (.lstore_n 2, 1) := by decide +kernel
theorem dX4_sum_24 : decode cX4_sum 24 = .ok (.iinc 4 1, 3) := by decide +kernel
theorem dX4_sum_27 : decode cX4_sum 27 = .ok (.goto (-22), 3) := by decide +kernel
theorem dX4_sum_30 : decode cX4_sum 30 = .ok (.lload_n 2, 1) := by decide +kernel
theorem dX4_sum_31 : decode cX4_sum 31 = .ok (.lreturn, 1) := by decide +kernel
set_option maxRecDepth 20000 in
theorem ggX4_bareSum_X2_outOf : GoodIn wsX4_bareSum wsX2_outOf := goodIn_r _ [6, 7, 8, 9, 10, 5, 11, 12, 13, 14, 15, 16, 17, 18] (by decide +kernel) (by decide +kernel)
set_option maxRecDepth 20000 in
theorem gX4_bareSum_X2_outOf : GoodIn wsX4_bareSum (wsV RX4 68 RX2 yX2_outOf wsX2_outOf) := goodIn_app (goodIn_of _ (by decide +kernel)) ggX4_bareSum_X2_outOf
theorem dX4_bareSum_0 : decode cX4_bareSum 0 = .ok (.lconst 0, 1) := by decide +kernel
theorem dX4_bareSum_1 : decode cX4_bareSum 1 = .ok (.lstore_n 2, 1) := by decide +kernel
theorem dX4_bareSum_2 : decode cX4_bareSum 2 = .ok (.iconst 0, 1) := by decide +kernel
theorem dX4_bareSum_3 : decode cX4_bareSum 3 = .ok (.istore 4, 2) := by decide +kernel
theorem dX4_bareSum_5 : decode cX4_bareSum 5 = .ok (.iload 4, 2) := by decide +kernel
theorem dX4_bareSum_7 : decode cX4_bareSum 7 = .ok (.aload_n 1, 1) := by decide +kernel
theorem dX4_bareSum_8 : decode cX4_bareSum 8 = .ok (.getfield 48, 3) := by decide +kernel
theorem dX4_bareSum_11 : decode cX4_bareSum 11 = .ok (.if_icmp .ge 28, 3) := by decide +kernel
theorem dX4_bareSum_14 : decode cX4_bareSum 14 = .ok (.aload_n 1, 1) := by decide +kernel
theorem dX4_bareSum_15 : decode cX4_bareSum 15 = .ok (.iload 4, 2) := by decide +kernel
theorem dX4_bareSum_17 : decode cX4_bareSum 17 = .ok (.invokevirtual 68, 3) := by decide +kernel
theorem dX4_bareSum_20 : decode cX4_bareSum 20 = .ok (.ifCond .ne 13, 3) := by decide +kernel
theorem dX4_bareSum_23 : decode cX4_bareSum 23 = .ok (.lload_n 2, 1) := by decide +kernel
theorem dX4_bareSum_24 : decode cX4_bareSum 24 = .ok (.aload_n 0, 1) := by decide +kernel
theorem dX4_bareSum_25 : decode cX4_bareSum 25 = .ok (.getfield 9, 3) := by decide +kernel
theorem dX4_bareSum_28 : decode cX4_bareSum 28 = .ok (.iload 4, 2) := by decide +kernel
theorem dX4_bareSum_30 : decode cX4_bareSum 30 = .ok (.laload, 1) := by decide +kernel
theorem dX4_bareSum_31 : decode cX4_bareSum 31 = .ok (.ladd, 1) := by decide +kernel
theorem dX4_bareSum_32 : decode cX4_bareSum 32 = .ok (.lstore_n 2, 1) := by decide +kernel
theorem dX4_bareSum_33 : decode cX4_bareSum 33 = .ok (.iinc 4 1, 3) := by decide +kernel
theorem dX4_bareSum_36 : decode cX4_bareSum 36 = .ok (.goto (-31), 3) := by decide +kernel
theorem dX4_bareSum_39 : decode cX4_bareSum 39 = .ok (.lload_n 2, 1) := by decide +kernel
theorem dX4_bareSum_40 : decode cX4_bareSum 40 = .ok (.lreturn, 1) := by decide +kernel
set_option maxRecDepth 20000 in
theorem ggX4_bound_X5_quotient : GoodIn wsX4_bound wsX5_quotient := goodIn_r _ [7] (by decide +kernel) (by decide +kernel)
set_option maxRecDepth 20000 in
theorem gX4_bound_X5_quotient_n27 : GoodIn wsX4_bound (wsX5_quotient) := ggX4_bound_X5_quotient
theorem dX4_bound_0 : decode cX4_bound 0 = .ok (.aload_n 1, 1) := by decide +kernel
theorem dX4_bound_1 : decode cX4_bound 1 = .ok (.getfield 72, 3) := by decide +kernel
theorem dX4_bound_4 : decode cX4_bound 4 = .ok (.i2l, 1) := by decide +kernel
theorem dX4_bound_5 : decode cX4_bound 5 = .ok (.ldc2_w 75, 3) := by decide +kernel
theorem dX4_bound_8 : decode cX4_bound 8 = .ok (.aload_n 1, 1) := by decide +kernel
theorem dX4_bound_9 : decode cX4_bound 9 = .ok (.getfield 48, 3) := by decide +kernel
theorem dX4_bound_12 : decode cX4_bound 12 = .ok (.i2l, 1) := by decide +kernel
theorem dX4_bound_13 : decode cX4_bound 13 = .ok (.lmul, 1) := by decide +kernel
theorem dX4_bound_14 : decode cX4_bound 14 = .ok (.ladd, 1) := by decide +kernel
theorem dX4_bound_15 : decode cX4_bound 15 = .ok (.lstore_n 2, 1) := by decide +kernel
theorem dX4_bound_16 : decode cX4_bound 16 = .ok (.aload_n 0, 1) := by decide +kernel
theorem dX4_bound_17 : decode cX4_bound 17 = .ok (.getfield 40, 3) := by decide +kernel
theorem dX4_bound_20 : decode cX4_bound 20 = .ok (.lload_n 2, 1) := by decide +kernel
theorem dX4_bound_21 : decode cX4_bound 21 = .ok (.aload_n 0, 1) := by decide +kernel
theorem dX4_bound_22 : decode cX4_bound 22 = .ok (.getfield 22, 3) := by decide +kernel
theorem dX4_bound_25 : decode cX4_bound 25 = .ok (.i2l, 1) := by decide +kernel
theorem dX4_bound_26 : decode cX4_bound 26 = .ok (.lmul, 1) := by decide +kernel
theorem dX4_bound_27 : decode cX4_bound 27 = .ok (.aload_n 0, 1) := by decide +kernel
theorem dX4_bound_28 : decode cX4_bound 28 = .ok (.getfield 22, 3) := by decide +kernel
theorem dX4_bound_31 : decode cX4_bound 31 = .ok (.aload_n 0, 1) := by decide +kernel
theorem dX4_bound_32 : decode cX4_bound 32 = .ok (.getfield 18, 3) := by decide +kernel
theorem dX4_bound_35 : decode cX4_bound 35 = .ok (.isub, 1) := by decide +kernel
theorem dX4_bound_36 : decode cX4_bound 36 = .ok (.i2l, 1) := by decide +kernel
theorem dX4_bound_37 : decode cX4_bound 37 = .ok (.invokestatic 27, 3) := by decide +kernel
theorem dX4_bound_40 : decode cX4_bound 40 = .ok (.ladd, 1) := by decide +kernel
theorem dX4_bound_41 : decode cX4_bound 41 = .ok (.lconst 1, 1) := by decide +kernel
theorem dX4_bound_42 : decode cX4_bound 42 = .ok (.ladd, 1) := by decide +kernel
theorem dX4_bound_43 : decode cX4_bound 43 = .ok (.lreturn, 1) := by decide +kernel
set_option maxRecDepth 20000 in
theorem ggX4_shareOut_X4_share : GoodIn wsX4_shareOut wsX4_share := goodIn_r _ [6, 7, 8, 9, 10, 11, 12, 13, 14, 15, 16, 17, 18, 19, 20, 21, 22, 23, 30, 31, 32, 33, 34, 35, 36, 24, 25, 26, 27, 28, 29] (by decide +kernel) (by decide +kernel)
set_option maxRecDepth 20000 in
theorem gX4_shareOut_X4_share : GoodIn wsX4_shareOut (wsV RX4 77 RX4 yX4_share wsX4_share) := goodIn_app (goodIn_of _ (by decide +kernel)) ggX4_shareOut_X4_share
theorem dX4_shareOut_0 : decode cX4_shareOut 0 = .ok (.aload_n 0, 1) := by decide +kernel
theorem dX4_shareOut_1 : decode cX4_shareOut 1 = .ok (.aload_n 1, 1) := by decide +kernel
theorem dX4_shareOut_2 : decode cX4_shareOut 2 = .ok (.iload_n 2, 1) := by decide +kernel
theorem dX4_shareOut_3 : decode cX4_shareOut 3 = .ok (.invokevirtual 77, 3) := by decide +kernel
theorem dX4_shareOut_6 : decode cX4_shareOut 6 = .ok (.lstore_n 3, 1) := by decide +kernel
theorem dX4_shareOut_7 : decode cX4_shareOut 7 = .ok (.aload_n 1, 1) := by decide +kernel
theorem dX4_shareOut_8 : decode cX4_shareOut 8 = .ok (.getfield 81, 3) := by decide +kernel
theorem dX4_shareOut_11 : decode cX4_shareOut 11 = .ok (.iload_n 2, 1) := by decide +kernel
theorem dX4_shareOut_12 : decode cX4_shareOut 12 = .ok (.iconst 1, 1) := by decide +kernel
theorem dX4_shareOut_13 : decode cX4_shareOut 13 = .ok (.iadd, 1) := by decide +kernel
theorem dX4_shareOut_14 : decode cX4_shareOut 14 = .ok (.iaload, 1) := by decide +kernel
theorem dX4_shareOut_15 : decode cX4_shareOut 15 = .ok (.istore 5, 2) := by decide +kernel
theorem dX4_shareOut_17 : decode cX4_shareOut 17 = .ok (.aload_n 1, 1) := by decide +kernel
theorem dX4_shareOut_18 : decode cX4_shareOut 18 = .ok (.getfield 81, 3) := by decide +kernel
theorem dX4_shareOut_21 : decode cX4_shareOut 21 = .ok (.iload_n 2, 1) := by decide +kernel
theorem dX4_shareOut_22 : decode cX4_shareOut 22 = .ok (.iaload, 1) := by decide +kernel
theorem dX4_shareOut_23 : decode cX4_shareOut 23 = .ok (.istore 6, 2) := by decide +kernel
theorem dX4_shareOut_25 : decode cX4_shareOut 25 = .ok (.iload 6, 2) := by decide +kernel
theorem dX4_shareOut_27 : decode cX4_shareOut 27 = .ok (.iload 5, 2) := by decide +kernel
theorem dX4_shareOut_29 : decode cX4_shareOut 29 = .ok (.if_icmp .ge 25, 3) := by decide +kernel
theorem dX4_shareOut_32 : decode cX4_shareOut 32 = .ok (.aload_n 0, 1) := by decide +kernel
theorem dX4_shareOut_33 : decode cX4_shareOut 33 = .ok (.getfield 15, 3) := by decide +kernel
theorem dX4_shareOut_36 : decode cX4_shareOut 36 = .ok (.aload_n 1, 1) := by decide +kernel
theorem dX4_shareOut_37 : decode cX4_shareOut 37 = .ok (.getfield 84, 3) := by decide +kernel
theorem dX4_shareOut_40 : decode cX4_shareOut 40 = .ok (.iload 6, 2) := by decide +kernel
theorem dX4_shareOut_42 : decode cX4_shareOut 42 = .ok (.iaload, 1) := by decide +kernel
theorem dX4_shareOut_43 : decode cX4_shareOut 43 = .ok (.dup2, 1) := by decide +kernel
theorem dX4_shareOut_44 : decode cX4_shareOut 44 = .ok (.laload, 1) := by decide +kernel
theorem dX4_shareOut_45 : decode cX4_shareOut 45 = .ok (.lload_n 3, 1) := by decide +kernel
theorem dX4_shareOut_46 : decode cX4_shareOut 46 = .ok (.ladd, 1) := by decide +kernel
theorem dX4_shareOut_47 : decode cX4_shareOut 47 = .ok (.lastore, 1) := by decide +kernel
theorem dX4_shareOut_48 : decode cX4_shareOut 48 = .ok (.iinc 6 1, 3) := by decide +kernel
theorem dX4_shareOut_51 : decode cX4_shareOut 51 = .ok (.goto (-26), 3) := by decide +kernel
theorem dX4_shareOut_54 : decode cX4_shareOut 54 = .ok (.return_, 1) := by decide +kernel
theorem dX4_distance_0 : decode cX4_distance 0 = .ok (.lconst 0, 1) := by decide +kernel
theorem dX4_distance_1 : decode cX4_distance 1 = .ok (.lstore_n 2, 1) := by decide +kernel
theorem dX4_distance_2 : decode cX4_distance 2 = .ok (.iconst 0, 1) := by decide +kernel
theorem dX4_distance_3 : decode cX4_distance 3 = .ok (.istore 4, 2) := by decide +kernel
theorem dX4_distance_5 : decode cX4_distance 5 = .ok (.iload 4, 2) := by decide +kernel
theorem dX4_distance_7 : decode cX4_distance 7 = .ok (.iload_n 1, 1) := by decide +kernel
theorem dX4_distance_8 : decode cX4_distance 8 = .ok (.if_icmp .ge 30, 3) := by decide +kernel
theorem dX4_distance_11 : decode cX4_distance 11 = .ok (.lload_n 2, 1) := by decide +kernel
theorem dX4_distance_12 : decode cX4_distance 12 = .ok (.aload_n 0, 1) := by decide +kernel
theorem dX4_distance_13 : decode cX4_distance 13 = .ok (.getfield 15, 3) := by decide +kernel
theorem dX4_distance_16 : decode cX4_distance 16 = .ok (.iload 4, 2) := by decide +kernel
theorem dX4_distance_18 : decode cX4_distance 18 = .ok (.laload, 1) := by decide +kernel
theorem dX4_distance_19 : decode cX4_distance 19 = .ok (.aload_n 0, 1) := by decide +kernel
theorem dX4_distance_20 : decode cX4_distance 20 = .ok (.getfield 9, 3) := by decide +kernel
theorem dX4_distance_23 : decode cX4_distance 23 = .ok (.iload 4, 2) := by decide +kernel
theorem dX4_distance_25 : decode cX4_distance 25 = .ok (.laload, 1) := by decide +kernel
theorem dX4_distance_26 : decode cX4_distance 26 = .ok (.lsub, 1) := by decide +kernel
theorem dX4_distance_27 : decode cX4_distance 27 = .ok (.invokestatic 87, 3) := by decide +kernel
theorem dX4_distance_30 : decode cX4_distance 30 = .ok (.ladd, 1) := by decide +kernel
theorem dX4_distance_31 : decode cX4_distance 31 = .ok (.lstore_n 2, 1) := by decide +kernel
theorem dX4_distance_32 : decode cX4_distance 32 = .ok (.iinc 4 1, 3) := by decide +kernel
theorem dX4_distance_35 : decode cX4_distance 35 = .ok (.goto (-30), 3) := by decide +kernel
theorem dX4_distance_38 : decode cX4_distance 38 = .ok (.lload_n 2, 1) := by decide +kernel
theorem dX4_distance_39 : decode cX4_distance 39 = .ok (.lreturn, 1) := by decide +kernel
set_option maxRecDepth 20000 in
theorem ggX5_init_X0_init : GoodIn wsX5_init wsX0_init := goodIn_r _ [27, 28, 2, 3, 29, 30, 31, 32, 33, 34, 35, 80, 81] (by decide +kernel) (by decide +kernel)
set_option maxRecDepth 20000 in
theorem gX5_init_X0_init : GoodIn wsX5_init (wsX0_init) := ggX5_init_X0_init
set_option maxRecDepth 20000 in
theorem ggX5_init_X1_init : GoodIn wsX5_init wsX1_init := goodIn_r _ [37, 38, 2, 3, 39, 40, 41, 42, 43, 88, 89, 90, 91, 92] (by decide +kernel) (by decide +kernel)
set_option maxRecDepth 20000 in
theorem gX5_init_X1_init_n23 : GoodIn wsX5_init (wsX1_init) := ggX5_init_X1_init
set_option maxRecDepth 20000 in
theorem ggX5_init_X4_init : GoodIn wsX5_init wsX4_init := goodIn_r _ [45, 46, 2, 3, 47, 48, 49, 50, 51, 93, 94, 95, 96, 97, 98, 99] (by decide +kernel) (by decide +kernel)
set_option maxRecDepth 20000 in
theorem gX5_init_X4_init_n30 : GoodIn wsX5_init (wsX4_init) := ggX5_init_X4_init
set_option maxRecDepth 20000 in
theorem ggX5_init_X3_init : GoodIn wsX5_init wsX3_init := goodIn_r _ [53, 54, 2, 3, 34, 55, 47, 56, 57, 100, 101, 102] (by decide +kernel) (by decide +kernel)
set_option maxRecDepth 20000 in
theorem gX5_init_X3_init_n37 : GoodIn wsX5_init (wsX3_init) := ggX5_init_X3_init
set_option maxRecDepth 20000 in
theorem ggX5_init_X2_init : GoodIn wsX5_init wsX2_init := goodIn_r _ [60, 61, 2, 3, 34, 62, 63, 64, 65, 66, 67, 103, 104, 105, 106, 107, 108] (by decide +kernel) (by decide +kernel)
set_option maxRecDepth 20000 in
theorem gX5_init_X2_init : GoodIn wsX5_init (wsX2_init) := ggX5_init_X2_init
set_option maxRecDepth 20000 in
theorem ggX5_init_X4_begin : GoodIn wsX5_init wsX4_begin := goodIn_r _ [71, 72, 48, 73, 74, 75, 76, 77, 78, 79, 93, 94, 95, 96, 97, 98, 99] (by decide +kernel) (by decide +kernel)
set_option maxRecDepth 20000 in
theorem gX5_init_X4_begin : GoodIn wsX5_init (wsV RX5 53 RX4 yX4_begin wsX4_begin) := goodIn_app (goodIn_of _ (by decide +kernel)) ggX5_init_X4_begin
theorem dX5_init_0 : decode cX5_init 0 = .ok (.aload_n 0, 1) := by decide +kernel
theorem dX5_init_1 : decode cX5_init 1 = .ok (.invokespecial 3, 3) := by decide +kernel
theorem dX5_init_4 : decode cX5_init 4 = .ok (.aload_n 0, 1) := by decide +kernel
theorem dX5_init_5 : decode cX5_init 5 = .ok (.new 9, 3) := by decide +kernel
theorem dX5_init_8 : decode cX5_init 8 = .ok (.dup, 1) := by decide +kernel
theorem dX5_init_9 : decode cX5_init 9 = .ok (.sipush 2000, 3) := by decide +kernel
theorem dX5_init_12 : decode cX5_init 12 = .ok (.invokespecial 11, 3) := by decide +kernel
theorem dX5_init_15 : decode cX5_init 15 = .ok (.putfield 14, 3) := by decide +kernel
theorem dX5_init_18 : decode cX5_init 18 = .ok (.aload_n 0, 1) := by decide +kernel
theorem dX5_init_19 : decode cX5_init 19 = .ok (.new 9, 3) := by decide +kernel
theorem dX5_init_22 : decode cX5_init 22 = .ok (.dup, 1) := by decide +kernel
theorem dX5_init_23 : decode cX5_init 23 = .ok (.sipush 3502, 3) := by decide +kernel
theorem dX5_init_26 : decode cX5_init 26 = .ok (.invokespecial 11, 3) := by decide +kernel
theorem dX5_init_29 : decode cX5_init 29 = .ok (.putfield 18, 3) := by decide +kernel
theorem dX5_init_32 : decode cX5_init 32 = .ok (.aload_n 0, 1) := by decide +kernel
theorem dX5_init_33 : decode cX5_init 33 = .ok (.new 21, 3) := by decide +kernel
theorem dX5_init_36 : decode cX5_init 36 = .ok (.dup, 1) := by decide +kernel
theorem dX5_init_37 : decode cX5_init 37 = .ok (.invokespecial 23, 3) := by decide +kernel
theorem dX5_init_40 : decode cX5_init 40 = .ok (.putfield 24, 3) := by decide +kernel
theorem dX5_init_43 : decode cX5_init 43 = .ok (.aload_n 0, 1) := by decide +kernel
theorem dX5_init_44 : decode cX5_init 44 = .ok (.new 28, 3) := by decide +kernel
theorem dX5_init_47 : decode cX5_init 47 = .ok (.dup, 1) := by decide +kernel
theorem dX5_init_48 : decode cX5_init 48 = .ok (.invokespecial 30, 3) := by decide +kernel
theorem dX5_init_51 : decode cX5_init 51 = .ok (.putfield 31, 3) := by decide +kernel
theorem dX5_init_54 : decode cX5_init 54 = .ok (.aload_n 0, 1) := by decide +kernel
theorem dX5_init_55 : decode cX5_init 55 = .ok (.new 35, 3) := by decide +kernel
theorem dX5_init_58 : decode cX5_init 58 = .ok (.dup, 1) := by decide +kernel
theorem dX5_init_59 : decode cX5_init 59 = .ok (.invokespecial 37, 3) := by decide +kernel
theorem dX5_init_62 : decode cX5_init 62 = .ok (.putfield 38, 3) := by decide +kernel
theorem dX5_init_65 : decode cX5_init 65 = .ok (.aload_n 0, 1) := by decide +kernel
theorem dX5_init_66 : decode cX5_init 66 = .ok (.new 42, 3) := by decide +kernel
theorem dX5_init_69 : decode cX5_init 69 = .ok (.dup, 1) := by decide +kernel
theorem dX5_init_70 : decode cX5_init 70 = .ok (.invokespecial 44, 3) := by decide +kernel
theorem dX5_init_73 : decode cX5_init 73 = .ok (.putfield 45, 3) := by decide +kernel
theorem dX5_init_76 : decode cX5_init 76 = .ok (.aload_n 0, 1) := by decide +kernel
theorem dX5_init_77 : decode cX5_init 77 = .ok (.getfield 31, 3) := by decide +kernel
theorem dX5_init_80 : decode cX5_init 80 = .ok (.aload_n 0, 1) := by decide +kernel
theorem dX5_init_81 : decode cX5_init 81 = .ok (.getfield 45, 3) := by decide +kernel
theorem dX5_init_84 : decode cX5_init 84 = .ok (.getfield 49, 3) := by decide +kernel
theorem dX5_init_87 : decode cX5_init 87 = .ok (.invokevirtual 53, 3) := by decide +kernel
theorem dX5_init_90 : decode cX5_init 90 = .ok (.return_, 1) := by decide +kernel
set_option maxRecDepth 20000 in
theorem ggX5_feed_X0_putFour : GoodIn wsX5_feed wsX0_putFour := goodIn_r _ [6, 7, 8, 9, 5, 10, 11, 12, 19, 20] (by decide +kernel) (by decide +kernel)
set_option maxRecDepth 20000 in
theorem gX5_feed_X0_putFour : GoodIn wsX5_feed (wsV RX5 59 RX0 yX0_putFour wsX0_putFour) := goodIn_app (goodIn_of _ (by decide +kernel)) ggX5_feed_X0_putFour
theorem dX5_feed_0 : decode cX5_feed 0 = .ok (.aload_n 0, 1) := by decide +kernel
theorem dX5_feed_1 : decode cX5_feed 1 = .ok (.getfield 14, 3) := by decide +kernel
theorem dX5_feed_4 : decode cX5_feed 4 = .ok (.getfield 56, 3) := by decide +kernel
theorem dX5_feed_7 : decode cX5_feed 7 = .ok (.sipush 1980, 3) := by decide +kernel
theorem dX5_feed_10 : decode cX5_feed 10 = .ok (.if_icmp .le 5, 3) := by decide +kernel
theorem dX5_feed_13 : decode cX5_feed 13 = .ok (.iconst (-1), 1) := by decide +kernel
theorem dX5_feed_14 : decode cX5_feed 14 = .ok (.ireturn, 1) := by decide +kernel
theorem dX5_feed_15 : decode cX5_feed 15 = .ok (.aload_n 0, 1) := by decide +kernel
theorem dX5_feed_16 : decode cX5_feed 16 = .ok (.getfield 14, 3) := by decide +kernel
theorem dX5_feed_19 : decode cX5_feed 19 = .ok (.iload_n 1, 1) := by decide +kernel
theorem dX5_feed_20 : decode cX5_feed 20 = .ok (.invokevirtual 59, 3) := by decide +kernel
theorem dX5_feed_23 : decode cX5_feed 23 = .ok (.aload_n 0, 1) := by decide +kernel
theorem dX5_feed_24 : decode cX5_feed 24 = .ok (.getfield 14, 3) := by decide +kernel
theorem dX5_feed_27 : decode cX5_feed 27 = .ok (.iload_n 2, 1) := by decide +kernel
theorem dX5_feed_28 : decode cX5_feed 28 = .ok (.invokevirtual 59, 3) := by decide +kernel
theorem dX5_feed_31 : decode cX5_feed 31 = .ok (.aload_n 0, 1) := by decide +kernel
theorem dX5_feed_32 : decode cX5_feed 32 = .ok (.getfield 14, 3) := by decide +kernel
theorem dX5_feed_35 : decode cX5_feed 35 = .ok (.iload_n 3, 1) := by decide +kernel
theorem dX5_feed_36 : decode cX5_feed 36 = .ok (.invokevirtual 59, 3) := by decide +kernel
theorem dX5_feed_39 : decode cX5_feed 39 = .ok (.aload_n 0, 1) := by decide +kernel
theorem dX5_feed_40 : decode cX5_feed 40 = .ok (.getfield 14, 3) := by decide +kernel
theorem dX5_feed_43 : decode cX5_feed 43 = .ok (.iload 4, 2) := by decide +kernel
theorem dX5_feed_45 : decode cX5_feed 45 = .ok (.invokevirtual 59, 3) := by decide +kernel
theorem dX5_feed_48 : decode cX5_feed 48 = .ok (.aload_n 0, 1) := by decide +kernel
theorem dX5_feed_49 : decode cX5_feed 49 = .ok (.getfield 14, 3) := by decide +kernel
theorem dX5_feed_52 : decode cX5_feed 52 = .ok (.iload 5, 2) := by decide +kernel
theorem dX5_feed_54 : decode cX5_feed 54 = .ok (.invokevirtual 59, 3) := by decide +kernel
theorem dX5_feed_57 : decode cX5_feed 57 = .ok (.aload_n 0, 1) := by decide +kernel
theorem dX5_feed_58 : decode cX5_feed 58 = .ok (.getfield 14, 3) := by decide +kernel
theorem dX5_feed_61 : decode cX5_feed 61 = .ok (.getfield 56, 3) := by decide +kernel
theorem dX5_feed_64 : decode cX5_feed 64 = .ok (.ireturn, 1) := by decide +kernel
theorem dX5_end_0 : decode cX5_end 0 = .ok (.iload_n 1, 1) := by decide +kernel
theorem dX5_end_1 : decode cX5_end 1 = .ok (.ifCond .lt 14, 3) := by decide +kernel
theorem dX5_end_4 : decode cX5_end 4 = .ok (.iload_n 1, 1) := by decide +kernel
theorem dX5_end_5 : decode cX5_end 5 = .ok (.aload_n 0, 1) := by decide +kernel
theorem dX5_end_6 : decode cX5_end 6 = .ok (.getfield 14, 3) := by decide +kernel
theorem dX5_end_9 : decode cX5_end 9 = .ok (.getfield 56, 3) := by decide +kernel
theorem dX5_end_12 : decode cX5_end 12 = .ok (.if_icmp .le 5, 3) := by decide +kernel
theorem dX5_end_15 : decode cX5_end 15 = .ok (.iconst 0, 1) := by decide +kernel
theorem dX5_end_16 : decode cX5_end 16 = .ok (.ireturn, 1) := by decide +kernel
theorem dX5_end_17 : decode cX5_end 17 = .ok (.aload_n 0, 1) := by decide +kernel
theorem dX5_end_18 : decode cX5_end 18 = .ok (.getfield 14, 3) := by decide +kernel
theorem dX5_end_21 : decode cX5_end 21 = .ok (.iload_n 1, 1) := by decide +kernel
theorem dX5_end_22 : decode cX5_end 22 = .ok (.putfield 56, 3) := by decide +kernel
theorem dX5_end_25 : decode cX5_end 25 = .ok (.iconst 1, 1) := by decide +kernel
theorem dX5_end_26 : decode cX5_end 26 = .ok (.ireturn, 1) := by decide +kernel
set_option maxRecDepth 20000 in
theorem ggX5_read_X1_decode : GoodIn wsX5_read wsX1_decode := goodIn_r _ [8, 9, 10, 11, 12, 13, 14, 15, 7, 16, 17, 18, 19, 20, 21, 22, 23, 24, 25, 26, 27, 28, 29, 30, 31, 32, 33, 34, 35, 36, 37, 38, 39, 40, 41, 42, 43, 44, 45, 46, 47, 48, 49, 50, 51, 52, 53, 54, 55, 56, 57, 58, 59, 60, 61, 62, 63, 64, 65, 66, 67, 68, 69, 70, 71, 72, 106, 107, 108, 109, 110, 98, 99, 100, 101, 102, 103, 104, 105] (by decide +kernel) (by decide +kernel)
set_option maxRecDepth 20000 in
theorem gX5_read_X1_decode : GoodIn wsX5_read (wsV RX5 62 RX1 yX1_decode wsX1_decode) := goodIn_app (goodIn_of _ (by decide +kernel)) ggX5_read_X1_decode
set_option maxRecDepth 20000 in
theorem ggX5_read_X5_beginIf : GoodIn wsX5_read wsX5_beginIf := goodIn_r _ [77, 78, 3, 79, 80, 81, 82, 83, 84, 85, 86, 87, 88, 89, 90, 76, 91, 92, 93, 94, 95, 96, 97, 100, 101, 102, 103, 104, 105, 111, 112, 113, 114, 115, 116, 117] (by decide +kernel) (by decide +kernel)
set_option maxRecDepth 20000 in
theorem gX5_read_X5_beginIf : GoodIn wsX5_read (wsV RX5 66 RX5 yX5_beginIf wsX5_beginIf) := goodIn_app (goodIn_of _ (by decide +kernel)) ggX5_read_X5_beginIf
theorem dX5_read_0 : decode cX5_read 0 = .ok (.aload_n 0, 1) := by decide +kernel
theorem dX5_read_1 : decode cX5_read 1 = .ok (.getfield 24, 3) := by decide +kernel
theorem dX5_read_4 : decode cX5_read 4 = .ok (.aload_n 0, 1) := by decide +kernel
theorem dX5_read_5 : decode cX5_read 5 = .ok (.getfield 14, 3) := by decide +kernel
theorem dX5_read_8 : decode cX5_read 8 = .ok (.aconst_null, 1) := by decide +kernel
theorem dX5_read_9 : decode cX5_read 9 = .ok (.invokevirtual 62, 3) := by decide +kernel
theorem dX5_read_12 : decode cX5_read 12 = .ok (.istore_n 1, 1) := by decide +kernel
theorem dX5_read_13 : decode cX5_read 13 = .ok (.iload_n 1, 1) := by decide +kernel
theorem dX5_read_14 : decode cX5_read 14 = .ok (.ifCond .eq 19, 3) := by decide +kernel
theorem dX5_read_17 : decode cX5_read 17 = .ok (.aload_n 0, 1) := by decide +kernel
theorem dX5_read_18 : decode cX5_read 18 = .ok (.getfield 24, 3) := by decide +kernel
theorem dX5_read_21 : decode cX5_read 21 = .ok (.aload_n 0, 1) := by decide +kernel
theorem dX5_read_22 : decode cX5_read 22 = .ok (.getfield 14, 3) := by decide +kernel
theorem dX5_read_25 : decode cX5_read 25 = .ok (.aload_n 0, 1) := by decide +kernel
theorem dX5_read_26 : decode cX5_read 26 = .ok (.getfield 45, 3) := by decide +kernel
theorem dX5_read_29 : decode cX5_read 29 = .ok (.invokevirtual 62, 3) := by decide +kernel
theorem dX5_read_32 : decode cX5_read 32 = .ok (.pop, 1) := by decide +kernel
theorem dX5_read_33 : decode cX5_read 33 = .ok (.aload_n 0, 1) := by decide +kernel
theorem dX5_read_34 : decode cX5_read 34 = .ok (.getfield 14, 3) := by decide +kernel
theorem dX5_read_37 : decode cX5_read 37 = .ok (.iconst 0, 1) := by decide +kernel
theorem dX5_read_38 : decode cX5_read 38 = .ok (.putfield 56, 3) := by decide +kernel
theorem dX5_read_41 : decode cX5_read 41 = .ok (.aload_n 0, 1) := by decide +kernel
theorem dX5_read_42 : decode cX5_read 42 = .ok (.iload_n 1, 1) := by decide +kernel
theorem dX5_read_43 : decode cX5_read 43 = .ok (.invokevirtual 66, 3) := by decide +kernel
theorem dX5_read_46 : decode cX5_read 46 = .ok (.ifCond .eq 13, 3) := by decide +kernel
theorem dX5_read_49 : decode cX5_read 49 = .ok (.aload_n 0, 1) := by decide +kernel
theorem dX5_read_50 : decode cX5_read 50 = .ok (.getfield 45, 3) := by decide +kernel
theorem dX5_read_53 : decode cX5_read 53 = .ok (.getfield 70, 3) := by decide +kernel
theorem dX5_read_56 : decode cX5_read 56 = .ok (.goto 12, 3) := by decide +kernel
theorem dX5_read_59 : decode cX5_read 59 = .ok (.iconst (-1), 1) := by decide +kernel
theorem dX5_read_60 : decode cX5_read 60 = .ok (.aload_n 0, 1) := by decide +kernel
theorem dX5_read_61 : decode cX5_read 61 = .ok (.getfield 24, 3) := by decide +kernel
theorem dX5_read_64 : decode cX5_read 64 = .ok (.getfield 73, 3) := by decide +kernel
theorem dX5_read_67 : decode cX5_read 67 = .ok (.isub, 1) := by decide +kernel
theorem dX5_read_68 : decode cX5_read 68 = .ok (.ireturn, 1) := by decide +kernel
theorem dX5_fault_0 : decode cX5_fault 0 = .ok (.aload_n 0, 1) := by decide +kernel
theorem dX5_fault_1 : decode cX5_fault 1 = .ok (.getfield 24, 3) := by decide +kernel
theorem dX5_fault_4 : decode cX5_fault 4 = .ok (.getfield 76, 3) := by decide +kernel
theorem dX5_fault_7 : decode cX5_fault 7 = .ok (.ireturn, 1) := by decide +kernel
set_option maxRecDepth 20000 in
theorem ggX5_clear_X2_canHave : GoodIn wsX5_clear wsX2_canHave := goodIn_r _ [6] (by decide +kernel) (by decide +kernel)
set_option maxRecDepth 20000 in
theorem gX5_clear_X2_canHave : GoodIn wsX5_clear (va_wsS RX5 79 yX2_canHave wsX2_canHave) := goodIn_app (goodIn_of _ (by decide +kernel)) ggX5_clear_X2_canHave
set_option maxRecDepth 20000 in
theorem ggX5_clear_X2_reset : GoodIn wsX5_clear wsX2_reset := goodIn_r _ [10, 11, 12, 13, 14, 15, 16, 4, 5, 6, 37, 38, 39, 40, 41, 42] (by decide +kernel) (by decide +kernel)
set_option maxRecDepth 20000 in
theorem gX5_clear_X2_reset : GoodIn wsX5_clear (wsV RX5 83 RX2 yX2_reset wsX2_reset) := goodIn_app (goodIn_of _ (by decide +kernel)) ggX5_clear_X2_reset
set_option maxRecDepth 20000 in
theorem ggX5_clear_X4_begin : GoodIn wsX5_clear wsX4_begin := goodIn_r _ [21, 22, 23, 24, 25, 26, 27, 28, 29, 30, 43, 44, 45, 46, 47, 48, 49] (by decide +kernel) (by decide +kernel)
set_option maxRecDepth 20000 in
theorem gX5_clear_X4_begin : GoodIn wsX5_clear (wsV RX5 53 RX4 yX4_begin wsX4_begin) := goodIn_app (goodIn_of _ (by decide +kernel)) ggX5_clear_X4_begin
theorem dX5_clear_0 : decode cX5_clear 0 = .ok (.iload_n 1, 1) := by decide +kernel
theorem dX5_clear_1 : decode cX5_clear 1 = .ok (.invokestatic 79, 3) := by decide +kernel
theorem dX5_clear_4 : decode cX5_clear 4 = .ok (.ifCond .ne 5, 3) := by decide +kernel
theorem dX5_clear_7 : decode cX5_clear 7 = .ok (.iconst 0, 1) := by decide +kernel
theorem dX5_clear_8 : decode cX5_clear 8 = .ok (.ireturn, 1) := by decide +kernel
theorem dX5_clear_9 : decode cX5_clear 9 = .ok (.aload_n 0, 1) := by decide +kernel
theorem dX5_clear_10 : decode cX5_clear 10 = .ok (.getfield 45, 3) := by decide +kernel
theorem dX5_clear_13 : decode cX5_clear 13 = .ok (.iload_n 1, 1) := by decide +kernel
theorem dX5_clear_14 : decode cX5_clear 14 = .ok (.invokevirtual 83, 3) := by decide +kernel
theorem dX5_clear_17 : decode cX5_clear 17 = .ok (.aload_n 0, 1) := by decide +kernel
theorem dX5_clear_18 : decode cX5_clear 18 = .ok (.getfield 31, 3) := by decide +kernel
theorem dX5_clear_21 : decode cX5_clear 21 = .ok (.aload_n 0, 1) := by decide +kernel
theorem dX5_clear_22 : decode cX5_clear 22 = .ok (.getfield 45, 3) := by decide +kernel
theorem dX5_clear_25 : decode cX5_clear 25 = .ok (.getfield 49, 3) := by decide +kernel
theorem dX5_clear_28 : decode cX5_clear 28 = .ok (.invokevirtual 53, 3) := by decide +kernel
theorem dX5_clear_31 : decode cX5_clear 31 = .ok (.iconst 1, 1) := by decide +kernel
theorem dX5_clear_32 : decode cX5_clear 32 = .ok (.ireturn, 1) := by decide +kernel
set_option maxRecDepth 20000 in
theorem ggX5_add_X2_join : GoodIn wsX5_add wsX2_join := goodIn_r _ [6, 7, 8, 9, 10, 11, 12, 13, 14, 15, 5, 16, 17, 18, 19, 20, 21, 22, 23, 24, 25, 26, 27, 28, 29, 30, 56, 57, 58, 59, 60, 61] (by decide +kernel) (by decide +kernel)
set_option maxRecDepth 20000 in
theorem gX5_add_X2_join : GoodIn wsX5_add (wsV RX5 86 RX2 yX2_join wsX2_join) := goodIn_app (goodIn_of _ (by decide +kernel)) ggX5_add_X2_join
set_option maxRecDepth 20000 in
theorem ggX5_add_X5_beginIf : GoodIn wsX5_add wsX5_beginIf := goodIn_r _ [35, 36, 1, 37, 38, 39, 40, 41, 42, 43, 44, 45, 46, 47, 48, 34, 49, 50, 51, 52, 53, 54, 55, 56, 57, 58, 59, 60, 61, 62, 63, 64, 65, 66, 67, 68] (by decide +kernel) (by decide +kernel)
set_option maxRecDepth 20000 in
theorem gX5_add_X5_beginIf : GoodIn wsX5_add (wsV RX5 66 RX5 yX5_beginIf wsX5_beginIf) := goodIn_app (goodIn_of _ (by decide +kernel)) ggX5_add_X5_beginIf
theorem dX5_add_0 : decode cX5_add 0 = .ok (.aload_n 0, 1) := by decide +kernel
theorem dX5_add_1 : decode cX5_add 1 = .ok (.aload_n 0, 1) := by decide +kernel
theorem dX5_add_2 : decode cX5_add 2 = .ok (.getfield 45, 3) := by decide +kernel
theorem dX5_add_5 : decode cX5_add 5 = .ok (.iload_n 1, 1) := by decide +kernel
theorem dX5_add_6 : decode cX5_add 6 = .ok (.iload_n 2, 1) := by decide +kernel
theorem dX5_add_7 : decode cX5_add 7 = .ok (.invokevirtual 86, 3) := by decide +kernel
theorem dX5_add_10 : decode cX5_add 10 = .ok (.invokevirtual 66, 3) := by decide +kernel
theorem dX5_add_13 : decode cX5_add 13 = .ok (.ireturn, 1) := by decide +kernel
set_option maxRecDepth 20000 in
theorem ggX5_cut_X2_part : GoodIn wsX5_cut wsX2_part := goodIn_r _ [6, 7, 8, 9, 10, 11, 12, 13, 14, 15, 5, 16, 17, 18, 19, 20, 21, 22, 23, 24, 25, 26, 27, 28, 29, 30, 56, 57, 58, 59, 60, 61] (by decide +kernel) (by decide +kernel)
set_option maxRecDepth 20000 in
theorem gX5_cut_X2_part : GoodIn wsX5_cut (wsV RX5 90 RX2 yX2_part wsX2_part) := goodIn_app (goodIn_of _ (by decide +kernel)) ggX5_cut_X2_part
set_option maxRecDepth 20000 in
theorem ggX5_cut_X5_beginIf : GoodIn wsX5_cut wsX5_beginIf := goodIn_r _ [35, 36, 1, 37, 38, 39, 40, 41, 42, 43, 44, 45, 46, 47, 48, 34, 49, 50, 51, 52, 53, 54, 55, 56, 57, 58, 59, 60, 61, 62, 63, 64, 65, 66, 67, 68] (by decide +kernel) (by decide +kernel)
set_option maxRecDepth 20000 in
theorem gX5_cut_X5_beginIf : GoodIn wsX5_cut (wsV RX5 66 RX5 yX5_beginIf wsX5_beginIf) := goodIn_app (goodIn_of _ (by decide +kernel)) ggX5_cut_X5_beginIf
theorem dX5_cut_0 : decode cX5_cut 0 = .ok (.aload_n 0, 1) := by decide +kernel
theorem dX5_cut_1 : decode cX5_cut 1 = .ok (.aload_n 0, 1) := by decide +kernel
theorem dX5_cut_2 : decode cX5_cut 2 = .ok (.getfield 45, 3) := by decide +kernel
theorem dX5_cut_5 : decode cX5_cut 5 = .ok (.iload_n 1, 1) := by decide +kernel
theorem dX5_cut_6 : decode cX5_cut 6 = .ok (.iload_n 2, 1) := by decide +kernel
theorem dX5_cut_7 : decode cX5_cut 7 = .ok (.invokevirtual 90, 3) := by decide +kernel
theorem dX5_cut_10 : decode cX5_cut 10 = .ok (.invokevirtual 66, 3) := by decide +kernel
theorem dX5_cut_13 : decode cX5_cut 13 = .ok (.ireturn, 1) := by decide +kernel
set_option maxRecDepth 20000 in
theorem ggX5_has_X2_joins : GoodIn wsX5_has wsX2_joins := goodIn_r _ [6, 7, 8, 9, 10, 11, 5, 12, 13, 14, 15, 16, 17, 24, 25, 26, 27, 28, 29] (by decide +kernel) (by decide +kernel)
set_option maxRecDepth 20000 in
theorem gX5_has_X2_joins : GoodIn wsX5_has (wsV RX5 93 RX2 yX2_joins wsX2_joins) := goodIn_app (goodIn_of _ (by decide +kernel)) ggX5_has_X2_joins
theorem dX5_has_0 : decode cX5_has 0 = .ok (.aload_n 0, 1) := by decide +kernel
theorem dX5_has_1 : decode cX5_has 1 = .ok (.getfield 45, 3) := by decide +kernel
theorem dX5_has_4 : decode cX5_has 4 = .ok (.iload_n 1, 1) := by decide +kernel
theorem dX5_has_5 : decode cX5_has 5 = .ok (.iload_n 2, 1) := by decide +kernel
theorem dX5_has_6 : decode cX5_has 6 = .ok (.invokevirtual 93, 3) := by decide +kernel
theorem dX5_has_9 : decode cX5_has 9 = .ok (.ireturn, 1) := by decide +kernel
set_option maxRecDepth 20000 in
theorem ggX5_edges_X2_isNode : GoodIn wsX5_edges wsX2_isNode := goodIn_r _ [8, 9, 28, 29, 30, 31, 32, 33] (by decide +kernel) (by decide +kernel)
set_option maxRecDepth 20000 in
theorem gX5_edges_X2_isNode : GoodIn wsX5_edges (wsV RX5 96 RX2 yX2_isNode wsX2_isNode) := goodIn_app (goodIn_of _ (by decide +kernel)) ggX5_edges_X2_isNode
set_option maxRecDepth 20000 in
theorem ggX5_edges_X2_outOf : GoodIn wsX5_edges wsX2_outOf := goodIn_r _ [13, 14, 15, 5, 6, 7, 8, 9, 28, 29, 30, 31, 32, 33] (by decide +kernel) (by decide +kernel)
set_option maxRecDepth 20000 in
theorem gX5_edges_X2_outOf : GoodIn wsX5_edges (wsV RX5 102 RX2 yX2_outOf wsX2_outOf) := goodIn_app (goodIn_of _ (by decide +kernel)) ggX5_edges_X2_outOf
set_option maxRecDepth 20000 in
theorem ggX5_edges_X2_into : GoodIn wsX5_edges wsX2_into := goodIn_r _ [19, 20, 21, 28, 29, 30, 31, 32, 33] (by decide +kernel) (by decide +kernel)
set_option maxRecDepth 20000 in
theorem gX5_edges_X2_into : GoodIn wsX5_edges (wsV RX5 106 RX2 yX2_into wsX2_into) := goodIn_app (goodIn_of _ (by decide +kernel)) ggX5_edges_X2_into
theorem dX5_edges_0 : decode cX5_edges 0 = .ok (.aload_n 0, 1) := by decide +kernel
theorem dX5_edges_1 : decode cX5_edges 1 = .ok (.getfield 45, 3) := by decide +kernel
theorem dX5_edges_4 : decode cX5_edges 4 = .ok (.iload_n 1, 1) := by decide +kernel
theorem dX5_edges_5 : decode cX5_edges 5 = .ok (.invokevirtual 96, 3) := by decide +kernel
theorem dX5_edges_8 : decode cX5_edges 8 = .ok (.ifCond .eq 12, 3) := by decide +kernel
theorem dX5_edges_11 : decode cX5_edges 11 = .ok (.iload_n 2, 1) := by decide +kernel
theorem dX5_edges_12 : decode cX5_edges 12 = .ok (.ifCond .eq 16, 3) := by decide +kernel
theorem dX5_edges_15 : decode cX5_edges 15 = .ok (.iload_n 2, 1) := by decide +kernel
theorem dX5_edges_16 : decode cX5_edges 16 = .ok (.iconst 1, 1) := by decide +kernel
theorem dX5_edges_17 : decode cX5_edges 17 = .ok (.if_icmp .eq 11, 3) := by decide +kernel
theorem dX5_edges_20 : decode cX5_edges 20 = .ok (.new 99, 3) := by decide +kernel
theorem dX5_edges_23 : decode cX5_edges 23 = .ok (.dup, 1) := by decide +kernel
theorem dX5_edges_24 : decode cX5_edges 24 = .ok (.invokespecial 101, 3) := by decide +kernel
theorem dX5_edges_27 : decode cX5_edges 27 = .ok (.athrow, 1) := by decide +kernel
theorem dX5_edges_28 : decode cX5_edges 28 = .ok (.iload_n 2, 1) := by decide +kernel
theorem dX5_edges_29 : decode cX5_edges 29 = .ok (.ifCond .ne 14, 3) := by decide +kernel
theorem dX5_edges_32 : decode cX5_edges 32 = .ok (.aload_n 0, 1) := by decide +kernel
theorem dX5_edges_33 : decode cX5_edges 33 = .ok (.getfield 45, 3) := by decide +kernel
theorem dX5_edges_36 : decode cX5_edges 36 = .ok (.iload_n 1, 1) := by decide +kernel
theorem dX5_edges_37 : decode cX5_edges 37 = .ok (.invokevirtual 102, 3) := by decide +kernel
theorem dX5_edges_40 : decode cX5_edges 40 = .ok (.goto 11, 3) := by decide +kernel
theorem dX5_edges_43 : decode cX5_edges 43 = .ok (.aload_n 0, 1) := by decide +kernel
theorem dX5_edges_44 : decode cX5_edges 44 = .ok (.getfield 45, 3) := by decide +kernel
theorem dX5_edges_47 : decode cX5_edges 47 = .ok (.iload_n 1, 1) := by decide +kernel
theorem dX5_edges_48 : decode cX5_edges 48 = .ok (.invokevirtual 106, 3) := by decide +kernel
theorem dX5_edges_51 : decode cX5_edges 51 = .ok (.ireturn, 1) := by decide +kernel
set_option maxRecDepth 20000 in
theorem ggX5_other_X2_target : GoodIn wsX5_other wsX2_target := goodIn_r _ [6, 7, 8, 9, 10, 11, 5, 12, 13, 14, 15, 16, 17, 36, 37, 38, 39, 40, 41] (by decide +kernel) (by decide +kernel)
set_option maxRecDepth 20000 in
theorem gX5_other_X2_target : GoodIn wsX5_other (wsV RX5 109 RX2 yX2_target wsX2_target) := goodIn_app (goodIn_of _ (by decide +kernel)) ggX5_other_X2_target
set_option maxRecDepth 20000 in
theorem ggX5_other_X2_source : GoodIn wsX5_other wsX2_source := goodIn_r _ [21, 17, 22, 23, 24, 5, 25, 8, 7, 13, 14, 15, 16, 26, 27, 28, 29, 36, 37, 38, 39, 40, 41] (by decide +kernel) (by decide +kernel)
set_option maxRecDepth 20000 in
theorem gX5_other_X2_source : GoodIn wsX5_other (wsV RX5 113 RX2 yX2_source wsX2_source) := goodIn_app (goodIn_of _ (by decide +kernel)) ggX5_other_X2_source
theorem dX5_other_0 : decode cX5_other 0 = .ok (.iload_n 2, 1) := by decide +kernel
theorem dX5_other_1 : decode cX5_other 1 = .ok (.ifCond .ne 13, 3) := by decide +kernel
theorem dX5_other_4 : decode cX5_other 4 = .ok (.aload_n 0, 1) := by decide +kernel
theorem dX5_other_5 : decode cX5_other 5 = .ok (.getfield 45, 3) := by decide +kernel
theorem dX5_other_8 : decode cX5_other 8 = .ok (.iload_n 1, 1) := by decide +kernel
theorem dX5_other_9 : decode cX5_other 9 = .ok (.iload_n 3, 1) := by decide +kernel
theorem dX5_other_10 : decode cX5_other 10 = .ok (.invokevirtual 109, 3) := by decide +kernel
theorem dX5_other_13 : decode cX5_other 13 = .ok (.ireturn, 1) := by decide +kernel
theorem dX5_other_14 : decode cX5_other 14 = .ok (.iload_n 2, 1) := by decide +kernel
theorem dX5_other_15 : decode cX5_other 15 = .ok (.iconst 1, 1) := by decide +kernel
theorem dX5_other_16 : decode cX5_other 16 = .ok (.if_icmp .ne 15, 3) := by decide +kernel
theorem dX5_other_19 : decode cX5_other 19 = .ok (.aload_n 0, 1) := by decide +kernel
theorem dX5_other_20 : decode cX5_other 20 = .ok (.getfield 45, 3) := by decide +kernel
theorem dX5_other_23 : decode cX5_other 23 = .ok (.iload_n 1, 1) := by decide +kernel
theorem dX5_other_24 : decode cX5_other 24 = .ok (.iload_n 3, 1) := by decide +kernel
theorem dX5_other_25 : decode cX5_other 25 = .ok (.invokevirtual 113, 3) := by decide +kernel
theorem dX5_other_28 : decode cX5_other 28 = .ok (.goto 4, 3) := by decide +kernel
theorem dX5_other_31 : decode cX5_other 31 = .ok (.iconst (-1), 1) := by decide +kernel
theorem dX5_other_32 : decode cX5_other 32 = .ok (.ireturn, 1) := by decide +kernel
set_option maxRecDepth 20000 in
theorem ggX5_weight_X2_weigh : GoodIn wsX5_weight wsX2_weigh := goodIn_r _ [6, 7, 8, 9, 10, 11, 5, 12, 13, 39, 40, 41, 42, 43, 44] (by decide +kernel) (by decide +kernel)
set_option maxRecDepth 20000 in
theorem gX5_weight_X2_weigh : GoodIn wsX5_weight (wsV RX5 116 RX2 yX2_weigh wsX2_weigh) := goodIn_app (goodIn_of _ (by decide +kernel)) ggX5_weight_X2_weigh
set_option maxRecDepth 20000 in
theorem ggX5_weight_X5_beginIf : GoodIn wsX5_weight wsX5_beginIf := goodIn_r _ [18, 19, 1, 20, 21, 22, 23, 24, 25, 26, 27, 28, 29, 30, 31, 17, 32, 33, 34, 35, 36, 37, 38, 39, 40, 41, 42, 43, 44, 45, 46, 47, 48, 49, 50, 51] (by decide +kernel) (by decide +kernel)
set_option maxRecDepth 20000 in
theorem gX5_weight_X5_beginIf : GoodIn wsX5_weight (wsV RX5 66 RX5 yX5_beginIf wsX5_beginIf) := goodIn_app (goodIn_of _ (by decide +kernel)) ggX5_weight_X5_beginIf
theorem dX5_weight_0 : decode cX5_weight 0 = .ok (.aload_n 0, 1) := by decide +kernel
theorem dX5_weight_1 : decode cX5_weight 1 = .ok (.aload_n 0, 1) := by decide +kernel
theorem dX5_weight_2 : decode cX5_weight 2 = .ok (.getfield 45, 3) := by decide +kernel
theorem dX5_weight_5 : decode cX5_weight 5 = .ok (.iload_n 1, 1) := by decide +kernel
theorem dX5_weight_6 : decode cX5_weight 6 = .ok (.iload_n 2, 1) := by decide +kernel
theorem dX5_weight_7 : decode cX5_weight 7 = .ok (.invokevirtual 116, 3) := by decide +kernel
theorem dX5_weight_10 : decode cX5_weight 10 = .ok (.invokevirtual 66, 3) := by decide +kernel
theorem dX5_weight_13 : decode cX5_weight 13 = .ok (.ireturn, 1) := by decide +kernel
set_option maxRecDepth 20000 in
theorem ggX5_damping_X4_damp : GoodIn wsX5_damping wsX4_damp := goodIn_r _ [6, 7, 8, 9, 34, 35, 36, 37, 38, 39, 40] (by decide +kernel) (by decide +kernel)
set_option maxRecDepth 20000 in
theorem gX5_damping_X4_damp : GoodIn wsX5_damping (wsV RX5 119 RX4 yX4_damp wsX4_damp) := goodIn_app (goodIn_of _ (by decide +kernel)) ggX5_damping_X4_damp
set_option maxRecDepth 20000 in
theorem ggX5_damping_X5_beginIf : GoodIn wsX5_damping wsX5_beginIf := goodIn_r _ [14, 1, 15, 16, 17, 18, 5, 19, 20, 21, 22, 23, 24, 25, 26, 13, 27, 28, 29, 30, 31, 32, 33, 41, 42, 43, 44, 45, 46, 34, 35, 36, 37, 38, 39, 40] (by decide +kernel) (by decide +kernel)
set_option maxRecDepth 20000 in
theorem gX5_damping_X5_beginIf : GoodIn wsX5_damping (wsV RX5 66 RX5 yX5_beginIf wsX5_beginIf) := goodIn_app (goodIn_of _ (by decide +kernel)) ggX5_damping_X5_beginIf
theorem dX5_damping_0 : decode cX5_damping 0 = .ok (.aload_n 0, 1) := by decide +kernel
theorem dX5_damping_1 : decode cX5_damping 1 = .ok (.aload_n 0, 1) := by decide +kernel
theorem dX5_damping_2 : decode cX5_damping 2 = .ok (.getfield 31, 3) := by decide +kernel
theorem dX5_damping_5 : decode cX5_damping 5 = .ok (.iload_n 1, 1) := by decide +kernel
theorem dX5_damping_6 : decode cX5_damping 6 = .ok (.iload_n 2, 1) := by decide +kernel
theorem dX5_damping_7 : decode cX5_damping 7 = .ok (.invokevirtual 119, 3) := by decide +kernel
theorem dX5_damping_10 : decode cX5_damping 10 = .ok (.invokevirtual 66, 3) := by decide +kernel
theorem dX5_damping_13 : decode cX5_damping 13 = .ok (.ireturn, 1) := by decide +kernel
set_option maxRecDepth 20000 in
theorem ggX5_run_X4_areStill : GoodIn wsX5_run wsX4_areStill := goodIn_r _ [9, 10, 11, 62, 63, 64, 65, 66, 67, 68] (by decide +kernel) (by decide +kernel)
set_option maxRecDepth 20000 in
theorem gX5_run_X4_areStill : GoodIn wsX5_run (wsV RX5 125 RX4 yX4_areStill wsX4_areStill) := goodIn_app (goodIn_of _ (by decide +kernel)) ggX5_run_X4_areStill
set_option maxRecDepth 20000 in
theorem ggX5_run_X4_step : GoodIn wsX5_run wsX4_step := goodIn_r _ [15, 16, 17, 18, 19, 11, 20, 10, 21, 22, 23, 24, 8, 25, 26, 27, 28, 29, 30, 31, 32, 33, 34, 35, 36, 37, 38, 39, 40, 41, 42, 43, 44, 45, 46, 47, 48, 49, 50, 51, 52, 53, 54, 55, 62, 63, 64, 65, 66, 67, 68, 69, 70, 71, 72, 73, 74] (by decide +kernel) (by decide +kernel)
set_option maxRecDepth 20000 in
theorem gX5_run_X4_step : GoodIn wsX5_run (wsV RX5 129 RX4 yX4_step wsX4_step) := goodIn_app (goodIn_of _ (by decide +kernel)) ggX5_run_X4_step
theorem dX5_run_0 : decode cX5_run 0 = .ok (.iload_n 1, 1) := by decide +kernel
theorem dX5_run_1 : decode cX5_run 1 = .ok (.ifCond .lt 15, 3) := by decide +kernel
theorem dX5_run_4 : decode cX5_run 4 = .ok (.iload_n 1, 1) := by decide +kernel
theorem dX5_run_5 : decode cX5_run 5 = .ok (.bipush 100, 2) := by decide +kernel
theorem dX5_run_7 : decode cX5_run 7 = .ok (.if_icmp .gt 9, 3) := by decide +kernel
theorem dX5_run_10 : decode cX5_run 10 = .ok (.lload_n 2, 1) := by decide +kernel
theorem dX5_run_11 : decode cX5_run 11 = .ok (.lconst 0, 1) := by decide +kernel
theorem dX5_run_12 : decode cX5_run 12 = .ok (.lcmp, 1) := by decide +kernel
theorem dX5_run_13 : decode cX5_run 13 = .ok (.ifCond .ge 11, 3) := by decide +kernel
theorem dX5_run_16 : decode cX5_run 16 = .ok (.new 122, 3) := by decide +kernel
theorem dX5_run_19 : decode cX5_run 19 = .ok (.dup, 1) := by decide +kernel
theorem dX5_run_20 : decode cX5_run 20 = .ok (.invokespecial 124, 3) := by decide +kernel
theorem dX5_run_23 : decode cX5_run 23 = .ok (.athrow, 1) := by decide +kernel
theorem dX5_run_24 : decode cX5_run 24 = .ok (.iconst 0, 1) := by decide +kernel
theorem dX5_run_25 : decode cX5_run 25 = .ok (.istore 4, 2) := by decide +kernel
theorem dX5_run_27 : decode cX5_run 27 = .ok (.iload 4, 2) := by decide +kernel
theorem dX5_run_29 : decode cX5_run 29 = .ok (.iload_n 1, 1) := by decide +kernel
theorem dX5_run_30 : decode cX5_run 30 = .ok (.if_icmp .ge 31, 3) := by decide +kernel
theorem dX5_run_33 : decode cX5_run 33 = .ok (.aload_n 0, 1) := by decide +kernel
theorem dX5_run_34 : decode cX5_run 34 = .ok (.getfield 31, 3) := by decide +kernel
theorem dX5_run_37 : decode cX5_run 37 = .ok (.lload_n 2, 1) := by decide +kernel
theorem dX5_run_38 : decode cX5_run 38 = .ok (.invokevirtual 125, 3) := by decide +kernel
theorem dX5_run_41 : decode cX5_run 41 = .ok (.ifCond .ne 20, 3) := by decide +kernel
theorem dX5_run_44 : decode cX5_run 44 = .ok (.aload_n 0, 1) := by decide +kernel
theorem dX5_run_45 : decode cX5_run 45 = .ok (.getfield 31, 3) := by decide +kernel
theorem dX5_run_48 : decode cX5_run 48 = .ok (.aload_n 0, 1) := by decide +kernel
theorem dX5_run_49 : decode cX5_run 49 = .ok (.getfield 45, 3) := by decide +kernel
theorem dX5_run_52 : decode cX5_run 52 = .ok (.invokevirtual 129, 3) := by decide +kernel
theorem dX5_run_55 : decode cX5_run 55 = .ok (.iinc 4 1, 3) := by decide +kernel
theorem dX5_run_58 : decode cX5_run 58 = .ok (.goto (-31), 3) := by decide +kernel
theorem dX5_run_61 : decode cX5_run 61 = .ok (.iload 4, 2) := by decide +kernel
theorem dX5_run_63 : decode cX5_run 63 = .ok (.ireturn, 1) := by decide +kernel
set_option maxRecDepth 20000 in
theorem ggX5_again_X4_begin : GoodIn wsX5_again wsX4_begin := goodIn_r _ [7, 8, 9, 10, 11, 12, 13, 14, 15, 16, 29, 30, 31, 32, 33, 34, 35] (by decide +kernel) (by decide +kernel)
set_option maxRecDepth 20000 in
theorem gX5_again_X4_begin : GoodIn wsX5_again (wsV RX5 53 RX4 yX4_begin wsX4_begin) := goodIn_app (goodIn_of _ (by decide +kernel)) ggX5_again_X4_begin
theorem dX5_again_0 : decode cX5_again 0 = .ok (.aload_n 0, 1) := by decide +kernel
theorem dX5_again_1 : decode cX5_again 1 = .ok (.getfield 31, 3) := by decide +kernel
theorem dX5_again_4 : decode cX5_again 4 = .ok (.aload_n 0, 1) := by decide +kernel
theorem dX5_again_5 : decode cX5_again 5 = .ok (.getfield 45, 3) := by decide +kernel
theorem dX5_again_8 : decode cX5_again 8 = .ok (.getfield 49, 3) := by decide +kernel
theorem dX5_again_11 : decode cX5_again 11 = .ok (.invokevirtual 53, 3) := by decide +kernel
theorem dX5_again_14 : decode cX5_again 14 = .ok (.return_, 1) := by decide +kernel
set_option maxRecDepth 20000 in
theorem ggX5_rank_X2_isNode : GoodIn wsX5_rank wsX2_isNode := goodIn_r _ [9, 10, 24, 25, 26, 27, 28, 29] (by decide +kernel) (by decide +kernel)
set_option maxRecDepth 20000 in
theorem gX5_rank_X2_isNode : GoodIn wsX5_rank (wsV RX5 96 RX2 yX2_isNode wsX2_isNode) := goodIn_app (goodIn_of _ (by decide +kernel)) ggX5_rank_X2_isNode
theorem dX5_rank_0 : decode cX5_rank 0 = .ok (.aload_n 0, 1) := by decide +kernel
theorem dX5_rank_1 : decode cX5_rank 1 = .ok (.getfield 45, 3) := by decide +kernel
theorem dX5_rank_4 : decode cX5_rank 4 = .ok (.iload_n 1, 1) := by decide +kernel
theorem dX5_rank_5 : decode cX5_rank 5 = .ok (.invokevirtual 96, 3) := by decide +kernel
theorem dX5_rank_8 : decode cX5_rank 8 = .ok (.ifCond .ne 11, 3) := by decide +kernel
theorem dX5_rank_11 : decode cX5_rank 11 = .ok (.new 99, 3) := by decide +kernel
theorem dX5_rank_14 : decode cX5_rank 14 = .ok (.dup, 1) := by decide +kernel
theorem dX5_rank_15 : decode cX5_rank 15 = .ok (.invokespecial 101, 3) := by decide +kernel
theorem dX5_rank_18 : decode cX5_rank 18 = .ok (.athrow, 1) := by decide +kernel
theorem dX5_rank_19 : decode cX5_rank 19 = .ok (.aload_n 0, 1) := by decide +kernel
theorem dX5_rank_20 : decode cX5_rank 20 = .ok (.getfield 31, 3) := by decide +kernel
theorem dX5_rank_23 : decode cX5_rank 23 = .ok (.getfield 133, 3) := by decide +kernel
theorem dX5_rank_26 : decode cX5_rank 26 = .ok (.iload_n 1, 1) := by decide +kernel
theorem dX5_rank_27 : decode cX5_rank 27 = .ok (.laload, 1) := by decide +kernel
theorem dX5_rank_28 : decode cX5_rank 28 = .ok (.lreturn, 1) := by decide +kernel
set_option maxRecDepth 20000 in
theorem ggX5_look_X4_sum : GoodIn wsX5_look wsX4_sum := goodIn_r _ [8, 9, 49, 50, 51, 52, 53, 54, 42, 43, 44, 45, 46, 47, 48] (by decide +kernel) (by decide +kernel)
set_option maxRecDepth 20000 in
theorem gX5_look_X4_sum : GoodIn wsX5_look (wsV RX5 137 RX4 yX4_sum wsX4_sum) := goodIn_app (goodIn_of _ (by decide +kernel)) ggX5_look_X4_sum
set_option maxRecDepth 20000 in
theorem ggX5_look_X4_bound : GoodIn wsX5_look wsX4_bound := goodIn_r _ [13, 14, 15, 16, 17, 18, 19, 20, 49, 50, 51, 52, 53, 54, 42, 43, 44, 45, 46, 47, 48] (by decide +kernel) (by decide +kernel)
set_option maxRecDepth 20000 in
theorem gX5_look_X4_bound : GoodIn wsX5_look (wsV RX5 145 RX4 yX4_bound wsX4_bound) := goodIn_app (goodIn_of _ (by decide +kernel)) ggX5_look_X4_bound
set_option maxRecDepth 20000 in
theorem ggX5_look_X4_bareSum : GoodIn wsX5_look wsX4_bareSum := goodIn_r _ [24, 9, 25, 26, 27, 28, 29, 30, 31, 32, 33, 34, 35, 49, 50, 51, 52, 53, 54, 42, 43, 44, 45, 46, 47, 48] (by decide +kernel) (by decide +kernel)
set_option maxRecDepth 20000 in
theorem gX5_look_X4_bareSum : GoodIn wsX5_look (wsV RX5 151 RX4 yX4_bareSum wsX4_bareSum) := goodIn_app (goodIn_of _ (by decide +kernel)) ggX5_look_X4_bareSum
theorem dX5_look_0 : decode cX5_look 0 = .ok (.iload_n 1, 1) := by decide +kernel
theorem dX5_look_1 : decode cX5_look 1 = .ok (.tableswitch 88 0 4 #[35, 47, 55, 67, 76], 35) := by decide +kernel
theorem dX5_look_36 : decode cX5_look 36 = .ok (.aload_n 0, 1) := by decide +kernel
theorem dX5_look_37 : decode cX5_look 37 = .ok (.getfield 31, 3) := by decide +kernel
theorem dX5_look_40 : decode cX5_look 40 = .ok (.aload_n 0, 1) := by decide +kernel
theorem dX5_look_41 : decode cX5_look 41 = .ok (.getfield 45, 3) := by decide +kernel
theorem dX5_look_44 : decode cX5_look 44 = .ok (.invokevirtual 137, 3) := by decide +kernel
theorem dX5_look_47 : decode cX5_look 47 = .ok (.lreturn, 1) := by decide +kernel
theorem dX5_look_48 : decode cX5_look 48 = .ok (.aload_n 0, 1) := by decide +kernel
theorem dX5_look_49 : decode cX5_look 49 = .ok (.getfield 31, 3) := by decide +kernel
theorem dX5_look_52 : decode cX5_look 52 = .ok (.getfield 141, 3) := by decide +kernel
theorem dX5_look_55 : decode cX5_look 55 = .ok (.lreturn, 1) := by decide +kernel
theorem dX5_look_56 : decode cX5_look 56 = .ok (.aload_n 0, 1) := by decide +kernel
theorem dX5_look_57 : decode cX5_look 57 = .ok (.getfield 31, 3) := by decide +kernel
theorem dX5_look_60 : decode cX5_look 60 = .ok (.aload_n 0, 1) := by decide +kernel
theorem dX5_look_61 : decode cX5_look 61 = .ok (.getfield 45, 3) := by decide +kernel
theorem dX5_look_64 : decode cX5_look 64 = .ok (.invokevirtual 145, 3) := by decide +kernel
theorem dX5_look_67 : decode cX5_look 67 = .ok (.lreturn, 1) := by decide +kernel
theorem dX5_look_68 : decode cX5_look 68 = .ok (.aload_n 0, 1) := by decide +kernel
theorem dX5_look_69 : decode cX5_look 69 = .ok (.getfield 31, 3) := by decide +kernel
theorem dX5_look_72 : decode cX5_look 72 = .ok (.getfield 148, 3) := by decide +kernel
theorem dX5_look_75 : decode cX5_look 75 = .ok (.i2l, 1) := by decide +kernel
theorem dX5_look_76 : decode cX5_look 76 = .ok (.lreturn, 1) := by decide +kernel
theorem dX5_look_77 : decode cX5_look 77 = .ok (.aload_n 0, 1) := by decide +kernel
theorem dX5_look_78 : decode cX5_look 78 = .ok (.getfield 31, 3) := by decide +kernel
theorem dX5_look_81 : decode cX5_look 81 = .ok (.aload_n 0, 1) := by decide +kernel
theorem dX5_look_82 : decode cX5_look 82 = .ok (.getfield 45, 3) := by decide +kernel
theorem dX5_look_85 : decode cX5_look 85 = .ok (.invokevirtual 151, 3) := by decide +kernel
theorem dX5_look_88 : decode cX5_look 88 = .ok (.lreturn, 1) := by decide +kernel
theorem dX5_look_89 : decode cX5_look 89 = .ok (.ldc2_w 154, 3) := by decide +kernel
theorem dX5_look_92 : decode cX5_look 92 = .ok (.lreturn, 1) := by decide +kernel
set_option maxRecDepth 20000 in
theorem ggX5_top_X3_place : GoodIn wsX5_top wsX3_place := goodIn_r _ [8, 9, 10, 11, 22, 23, 24] (by decide +kernel) (by decide +kernel)
set_option maxRecDepth 20000 in
theorem gX5_top_X3_place : GoodIn wsX5_top (wsV RX5 157 RX3 yX3_place wsX3_place) := goodIn_app (goodIn_of _ (by decide +kernel)) ggX5_top_X3_place
set_option maxRecDepth 20000 in
theorem ggX5_top_X3_node : GoodIn wsX5_top wsX3_node := goodIn_r _ [15, 9, 11, 22, 23, 24] (by decide +kernel) (by decide +kernel)
set_option maxRecDepth 20000 in
theorem gX5_top_X3_node : GoodIn wsX5_top (wsV RX5 160 RX3 yX3_node wsX3_node) := goodIn_app (goodIn_of _ (by decide +kernel)) ggX5_top_X3_node
theorem dX5_top_0 : decode cX5_top 0 = .ok (.aload_n 0, 1) := by decide +kernel
theorem dX5_top_1 : decode cX5_top 1 = .ok (.getfield 38, 3) := by decide +kernel
theorem dX5_top_4 : decode cX5_top 4 = .ok (.iconst 0, 1) := by decide +kernel
theorem dX5_top_5 : decode cX5_top 5 = .ok (.putfield 156, 3) := by decide +kernel
theorem dX5_top_8 : decode cX5_top 8 = .ok (.iconst 0, 1) := by decide +kernel
theorem dX5_top_9 : decode cX5_top 9 = .ok (.istore_n 2, 1) := by decide +kernel
theorem dX5_top_10 : decode cX5_top 10 = .ok (.iload_n 2, 1) := by decide +kernel
theorem dX5_top_11 : decode cX5_top 11 = .ok (.aload_n 0, 1) := by decide +kernel
theorem dX5_top_12 : decode cX5_top 12 = .ok (.getfield 45, 3) := by decide +kernel
theorem dX5_top_15 : decode cX5_top 15 = .ok (.getfield 49, 3) := by decide +kernel
theorem dX5_top_18 : decode cX5_top 18 = .ok (.if_icmp .ge 26, 3) := by decide +kernel
theorem dX5_top_21 : decode cX5_top 21 = .ok (.aload_n 0, 1) := by decide +kernel
theorem dX5_top_22 : decode cX5_top 22 = .ok (.getfield 38, 3) := by decide +kernel
theorem dX5_top_25 : decode cX5_top 25 = .ok (.iload_n 2, 1) := by decide +kernel
theorem dX5_top_26 : decode cX5_top 26 = .ok (.aload_n 0, 1) := by decide +kernel
theorem dX5_top_27 : decode cX5_top 27 = .ok (.getfield 31, 3) := by decide +kernel
theorem dX5_top_30 : decode cX5_top 30 = .ok (.getfield 133, 3) := by decide +kernel
theorem dX5_top_33 : decode cX5_top 33 = .ok (.iload_n 2, 1) := by decide +kernel
theorem dX5_top_34 : decode cX5_top 34 = .ok (.laload, 1) := by decide +kernel
theorem dX5_top_35 : decode cX5_top 35 = .ok (.invokevirtual 157, 3) := by decide +kernel
theorem dX5_top_38 : decode cX5_top 38 = .ok (.iinc 2 1, 3) := by decide +kernel
theorem dX5_top_41 : decode cX5_top 41 = .ok (.goto (-31), 3) := by decide +kernel
theorem dX5_top_44 : decode cX5_top 44 = .ok (.aload_n 0, 1) := by decide +kernel
theorem dX5_top_45 : decode cX5_top 45 = .ok (.getfield 38, 3) := by decide +kernel
theorem dX5_top_48 : decode cX5_top 48 = .ok (.iload_n 1, 1) := by decide +kernel
theorem dX5_top_49 : decode cX5_top 49 = .ok (.invokevirtual 160, 3) := by decide +kernel
theorem dX5_top_52 : decode cX5_top 52 = .ok (.ireturn, 1) := by decide +kernel
set_option maxRecDepth 20000 in
theorem ggX5_gives_X2_joins : GoodIn wsX5_gives wsX2_joins := goodIn_r _ [8, 9, 10, 11, 12, 13, 7, 14, 15, 16, 17, 18, 19, 41, 42, 43, 44, 45, 46] (by decide +kernel) (by decide +kernel)
set_option maxRecDepth 20000 in
theorem gX5_gives_X2_joins : GoodIn wsX5_gives (wsV RX5 93 RX2 yX2_joins wsX2_joins) := goodIn_app (goodIn_of _ (by decide +kernel)) ggX5_gives_X2_joins
set_option maxRecDepth 20000 in
theorem ggX5_gives_X4_share : GoodIn wsX5_gives wsX4_share := goodIn_r _ [24, 25, 26, 27, 28, 29, 30, 7, 31, 9, 11, 12, 13, 14, 15, 32, 33, 34, 47, 48, 49, 50, 51, 52, 53, 41, 42, 43, 44, 45, 46] (by decide +kernel) (by decide +kernel)
set_option maxRecDepth 20000 in
theorem gX5_gives_X4_share : GoodIn wsX5_gives (wsV RX5 163 RX4 yX4_share wsX4_share) := goodIn_app (goodIn_of _ (by decide +kernel)) ggX5_gives_X4_share
theorem dX5_gives_0 : decode cX5_gives 0 = .ok (.aload_n 0, 1) := by decide +kernel
theorem dX5_gives_1 : decode cX5_gives 1 = .ok (.getfield 45, 3) := by decide +kernel
theorem dX5_gives_4 : decode cX5_gives 4 = .ok (.iload_n 1, 1) := by decide +kernel
theorem dX5_gives_5 : decode cX5_gives 5 = .ok (.iload_n 2, 1) := by decide +kernel
theorem dX5_gives_6 : decode cX5_gives 6 = .ok (.invokevirtual 93, 3) := by decide +kernel
theorem dX5_gives_9 : decode cX5_gives 9 = .ok (.ifCond .eq 18, 3) := by decide +kernel
theorem dX5_gives_12 : decode cX5_gives 12 = .ok (.aload_n 0, 1) := by decide +kernel
theorem dX5_gives_13 : decode cX5_gives 13 = .ok (.getfield 31, 3) := by decide +kernel
theorem dX5_gives_16 : decode cX5_gives 16 = .ok (.aload_n 0, 1) := by decide +kernel
theorem dX5_gives_17 : decode cX5_gives 17 = .ok (.getfield 45, 3) := by decide +kernel
theorem dX5_gives_20 : decode cX5_gives 20 = .ok (.iload_n 1, 1) := by decide +kernel
theorem dX5_gives_21 : decode cX5_gives 21 = .ok (.invokevirtual 163, 3) := by decide +kernel
theorem dX5_gives_24 : decode cX5_gives 24 = .ok (.goto 6, 3) := by decide +kernel
theorem dX5_gives_27 : decode cX5_gives 27 = .ok (.ldc2_w 154, 3) := by decide +kernel
theorem dX5_gives_30 : decode cX5_gives 30 = .ok (.lreturn, 1) := by decide +kernel
set_option maxRecDepth 20000 in
theorem ggX5_giver_X2_joins : GoodIn wsX5_giver wsX2_joins := goodIn_r _ [8, 9, 10, 11, 12, 13, 7, 14, 15, 16, 17, 18, 19, 56, 57, 58, 59, 60, 61] (by decide +kernel) (by decide +kernel)
set_option maxRecDepth 20000 in
theorem gX5_giver_X2_joins : GoodIn wsX5_giver (wsV RX5 93 RX2 yX2_joins wsX2_joins) := goodIn_app (goodIn_of _ (by decide +kernel)) ggX5_giver_X2_joins
set_option maxRecDepth 20000 in
theorem ggX5_giver_X4_share : GoodIn wsX5_giver wsX4_share := goodIn_r _ [24, 25, 26, 27, 28, 29, 30, 7, 31, 9, 11, 12, 13, 14, 15, 32, 33, 34, 62, 63, 64, 65, 66, 67, 68, 56, 57, 58, 59, 60, 61] (by decide +kernel) (by decide +kernel)
set_option maxRecDepth 20000 in
theorem gX5_giver_X4_share : GoodIn wsX5_giver (wsV RX5 163 RX4 yX4_share wsX4_share) := goodIn_app (goodIn_of _ (by decide +kernel)) ggX5_giver_X4_share
set_option maxRecDepth 20000 in
theorem ggX5_giver_X3_place : GoodIn wsX5_giver wsX3_place := goodIn_r _ [39, 40, 41, 42, 53, 54, 55] (by decide +kernel) (by decide +kernel)
set_option maxRecDepth 20000 in
theorem gX5_giver_X3_place : GoodIn wsX5_giver (wsV RX5 157 RX3 yX3_place wsX3_place) := goodIn_app (goodIn_of _ (by decide +kernel)) ggX5_giver_X3_place
set_option maxRecDepth 20000 in
theorem ggX5_giver_X3_node : GoodIn wsX5_giver wsX3_node := goodIn_r _ [46, 40, 42, 53, 54, 55] (by decide +kernel) (by decide +kernel)
set_option maxRecDepth 20000 in
theorem gX5_giver_X3_node : GoodIn wsX5_giver (wsV RX5 160 RX3 yX3_node wsX3_node) := goodIn_app (goodIn_of _ (by decide +kernel)) ggX5_giver_X3_node
theorem dX5_giver_0 : decode cX5_giver 0 = .ok (.aload_n 0, 1) := by decide +kernel
theorem dX5_giver_1 : decode cX5_giver 1 = .ok (.getfield 38, 3) := by decide +kernel
theorem dX5_giver_4 : decode cX5_giver 4 = .ok (.iconst 0, 1) := by decide +kernel
theorem dX5_giver_5 : decode cX5_giver 5 = .ok (.putfield 156, 3) := by decide +kernel
theorem dX5_giver_8 : decode cX5_giver 8 = .ok (.iconst 0, 1) := by decide +kernel
theorem dX5_giver_9 : decode cX5_giver 9 = .ok (.istore_n 3, 1) := by decide +kernel
theorem dX5_giver_10 : decode cX5_giver 10 = .ok (.iload_n 3, 1) := by decide +kernel
theorem dX5_giver_11 : decode cX5_giver 11 = .ok (.aload_n 0, 1) := by decide +kernel
theorem dX5_giver_12 : decode cX5_giver 12 = .ok (.getfield 45, 3) := by decide +kernel
theorem dX5_giver_15 : decode cX5_giver 15 = .ok (.getfield 49, 3) := by decide +kernel
theorem dX5_giver_18 : decode cX5_giver 18 = .ok (.if_icmp .ge 41, 3) := by decide +kernel
theorem dX5_giver_21 : decode cX5_giver 21 = .ok (.aload_n 0, 1) := by decide +kernel
theorem dX5_giver_22 : decode cX5_giver 22 = .ok (.getfield 45, 3) := by decide +kernel
theorem dX5_giver_25 : decode cX5_giver 25 = .ok (.iload_n 3, 1) := by decide +kernel
theorem dX5_giver_26 : decode cX5_giver 26 = .ok (.iload_n 1, 1) := by decide +kernel
theorem dX5_giver_27 : decode cX5_giver 27 = .ok (.invokevirtual 93, 3) := by decide +kernel
theorem dX5_giver_30 : decode cX5_giver 30 = .ok (.ifCond .eq 23, 3) := by decide +kernel
theorem dX5_giver_33 : decode cX5_giver 33 = .ok (.aload_n 0, 1) := by decide +kernel
theorem dX5_giver_34 : decode cX5_giver 34 = .ok (.getfield 38, 3) := by decide +kernel
theorem dX5_giver_37 : decode cX5_giver 37 = .ok (.iload_n 3, 1) := by decide +kernel
theorem dX5_giver_38 : decode cX5_giver 38 = .ok (.aload_n 0, 1) := by decide +kernel
theorem dX5_giver_39 : decode cX5_giver 39 = .ok (.getfield 31, 3) := by decide +kernel
theorem dX5_giver_42 : decode cX5_giver 42 = .ok (.aload_n 0, 1) := by decide +kernel
theorem dX5_giver_43 : decode cX5_giver 43 = .ok (.getfield 45, 3) := by decide +kernel
theorem dX5_giver_46 : decode cX5_giver 46 = .ok (.iload_n 3, 1) := by decide +kernel
theorem dX5_giver_47 : decode cX5_giver 47 = .ok (.invokevirtual 163, 3) := by decide +kernel
theorem dX5_giver_50 : decode cX5_giver 50 = .ok (.invokevirtual 157, 3) := by decide +kernel
theorem dX5_giver_53 : decode cX5_giver 53 = .ok (.iinc 3 1, 3) := by decide +kernel
theorem dX5_giver_56 : decode cX5_giver 56 = .ok (.goto (-46), 3) := by decide +kernel
theorem dX5_giver_59 : decode cX5_giver 59 = .ok (.aload_n 0, 1) := by decide +kernel
theorem dX5_giver_60 : decode cX5_giver 60 = .ok (.getfield 38, 3) := by decide +kernel
theorem dX5_giver_63 : decode cX5_giver 63 = .ok (.iload_n 2, 1) := by decide +kernel
theorem dX5_giver_64 : decode cX5_giver 64 = .ok (.invokevirtual 160, 3) := by decide +kernel
theorem dX5_giver_67 : decode cX5_giver 67 = .ok (.ireturn, 1) := by decide +kernel
set_option maxRecDepth 20000 in
theorem ggX5_write_X0_putUnsigned : GoodIn wsX5_write wsX0_putUnsigned := goodIn_r _ [7, 8, 9, 10, 6, 11, 12, 13, 42, 43] (by decide +kernel) (by decide +kernel)
set_option maxRecDepth 20000 in
theorem gX5_write_X0_putUnsigned : GoodIn wsX5_write (wsV RX5 167 RX0 yX0_putUnsigned wsX0_putUnsigned) := goodIn_app (goodIn_of _ (by decide +kernel)) ggX5_write_X0_putUnsigned
set_option maxRecDepth 20000 in
theorem ggX5_write_X5_putNode : GoodIn wsX5_write wsX5_putNode := goodIn_r _ [18, 2, 1, 19, 20, 21, 22, 23, 24, 25, 26, 27, 28, 29, 3, 4, 5, 6, 7, 8, 9, 10, 11, 12, 13, 30, 31, 32, 33, 34, 35, 36, 37, 38, 39, 40, 41, 44, 45, 46, 47, 48, 49, 42, 43] (by decide +kernel) (by decide +kernel)
set_option maxRecDepth 20000 in
theorem gX5_write_X5_putNode : GoodIn wsX5_write (wsV RX5 170 RX5 yX5_putNode wsX5_putNode) := goodIn_app (goodIn_of _ (by decide +kernel)) ggX5_write_X5_putNode
theorem dX5_write_0 : decode cX5_write 0 = .ok (.aload_n 0, 1) := by decide +kernel
theorem dX5_write_1 : decode cX5_write 1 = .ok (.getfield 18, 3) := by decide +kernel
theorem dX5_write_4 : decode cX5_write 4 = .ok (.iconst 0, 1) := by decide +kernel
theorem dX5_write_5 : decode cX5_write 5 = .ok (.putfield 56, 3) := by decide +kernel
theorem dX5_write_8 : decode cX5_write 8 = .ok (.aload_n 0, 1) := by decide +kernel
theorem dX5_write_9 : decode cX5_write 9 = .ok (.getfield 18, 3) := by decide +kernel
theorem dX5_write_12 : decode cX5_write 12 = .ok (.aload_n 0, 1) := by decide +kernel
theorem dX5_write_13 : decode cX5_write 13 = .ok (.getfield 45, 3) := by decide +kernel
theorem dX5_write_16 : decode cX5_write 16 = .ok (.getfield 49, 3) := by decide +kernel
theorem dX5_write_19 : decode cX5_write 19 = .ok (.invokevirtual 167, 3) := by decide +kernel
theorem dX5_write_22 : decode cX5_write 22 = .ok (.iconst 0, 1) := by decide +kernel
theorem dX5_write_23 : decode cX5_write 23 = .ok (.istore_n 1, 1) := by decide +kernel
theorem dX5_write_24 : decode cX5_write 24 = .ok (.iload_n 1, 1) := by decide +kernel
theorem dX5_write_25 : decode cX5_write 25 = .ok (.aload_n 0, 1) := by decide +kernel
theorem dX5_write_26 : decode cX5_write 26 = .ok (.getfield 45, 3) := by decide +kernel
theorem dX5_write_29 : decode cX5_write 29 = .ok (.getfield 49, 3) := by decide +kernel
theorem dX5_write_32 : decode cX5_write 32 = .ok (.if_icmp .ge 14, 3) := by decide +kernel
theorem dX5_write_35 : decode cX5_write 35 = .ok (.aload_n 0, 1) := by decide +kernel
theorem dX5_write_36 : decode cX5_write 36 = .ok (.iload_n 1, 1) := by decide +kernel
theorem dX5_write_37 : decode cX5_write 37 = .ok (.invokevirtual 170, 3) := by decide +kernel
theorem dX5_write_40 : decode cX5_write 40 = .ok (.iinc 1 1, 3) := by decide +kernel
theorem dX5_write_43 : decode cX5_write 43 = .ok (.goto (-19), 3) := by decide +kernel
theorem dX5_write_46 : decode cX5_write 46 = .ok (.aload_n 0, 1) := by decide +kernel
theorem dX5_write_47 : decode cX5_write 47 = .ok (.getfield 18, 3) := by decide +kernel
theorem dX5_write_50 : decode cX5_write 50 = .ok (.getfield 56, 3) := by decide +kernel
theorem dX5_write_53 : decode cX5_write 53 = .ok (.ireturn, 1) := by decide +kernel
theorem dX5_octet_0 : decode cX5_octet 0 = .ok (.iload_n 1, 1) := by decide +kernel
theorem dX5_octet_1 : decode cX5_octet 1 = .ok (.ifCond .lt 14, 3) := by decide +kernel
theorem dX5_octet_4 : decode cX5_octet 4 = .ok (.iload_n 1, 1) := by decide +kernel
theorem dX5_octet_5 : decode cX5_octet 5 = .ok (.aload_n 0, 1) := by decide +kernel
theorem dX5_octet_6 : decode cX5_octet 6 = .ok (.getfield 18, 3) := by decide +kernel
theorem dX5_octet_9 : decode cX5_octet 9 = .ok (.getfield 56, 3) := by decide +kernel
theorem dX5_octet_12 : decode cX5_octet 12 = .ok (.if_icmp .lt 11, 3) := by decide +kernel
theorem dX5_octet_15 : decode cX5_octet 15 = .ok (.new 99, 3) := by decide +kernel
theorem dX5_octet_18 : decode cX5_octet 18 = .ok (.dup, 1) := by decide +kernel
theorem dX5_octet_19 : decode cX5_octet 19 = .ok (.invokespecial 101, 3) := by decide +kernel
theorem dX5_octet_22 : decode cX5_octet 22 = .ok (.athrow, 1) := by decide +kernel
theorem dX5_octet_23 : decode cX5_octet 23 = .ok (.aload_n 0, 1) := by decide +kernel
theorem dX5_octet_24 : decode cX5_octet 24 = .ok (.getfield 18, 3) := by decide +kernel
theorem dX5_octet_27 : decode cX5_octet 27 = .ok (.getfield 173, 3) := by decide +kernel
theorem dX5_octet_30 : decode cX5_octet 30 = .ok (.iload_n 1, 1) := by decide +kernel
theorem dX5_octet_31 : decode cX5_octet 31 = .ok (.iaload, 1) := by decide +kernel
theorem dX5_octet_32 : decode cX5_octet 32 = .ok (.ireturn, 1) := by decide +kernel
set_option maxRecDepth 20000 in
theorem ggX5_count_X2_bareNodes : GoodIn wsX5_count wsX2_bareNodes := goodIn_r _ [9, 10, 11, 12, 13, 8, 14, 15, 16, 17, 18, 19, 26, 27, 28, 29, 30, 31] (by decide +kernel) (by decide +kernel)
set_option maxRecDepth 20000 in
theorem gX5_count_X2_bareNodes : GoodIn wsX5_count (wsV RX5 177 RX2 yX2_bareNodes wsX2_bareNodes) := goodIn_app (goodIn_of _ (by decide +kernel)) ggX5_count_X2_bareNodes
theorem dX5_count_0 : decode cX5_count 0 = .ok (.iload_n 1, 1) := by decide +kernel
theorem dX5_count_1 : decode cX5_count 1 = .ok (.tableswitch 111 0 7 #[47, 55, 63, 71, 79, 87, 95, 103], 47) := by decide +kernel
theorem dX5_count_48 : decode cX5_count 48 = .ok (.aload_n 0, 1) := by decide +kernel
theorem dX5_count_49 : decode cX5_count 49 = .ok (.getfield 45, 3) := by decide +kernel
theorem dX5_count_52 : decode cX5_count 52 = .ok (.getfield 49, 3) := by decide +kernel
theorem dX5_count_55 : decode cX5_count 55 = .ok (.ireturn, 1) := by decide +kernel
theorem dX5_count_56 : decode cX5_count 56 = .ok (.aload_n 0, 1) := by decide +kernel
theorem dX5_count_57 : decode cX5_count 57 = .ok (.getfield 45, 3) := by decide +kernel
theorem dX5_count_60 : decode cX5_count 60 = .ok (.getfield 70, 3) := by decide +kernel
theorem dX5_count_63 : decode cX5_count 63 = .ok (.ireturn, 1) := by decide +kernel
theorem dX5_count_64 : decode cX5_count 64 = .ok (.aload_n 0, 1) := by decide +kernel
theorem dX5_count_65 : decode cX5_count 65 = .ok (.getfield 45, 3) := by decide +kernel
theorem dX5_count_68 : decode cX5_count 68 = .ok (.invokevirtual 177, 3) := by decide +kernel
theorem dX5_count_71 : decode cX5_count 71 = .ok (.ireturn, 1) := by decide +kernel
theorem dX5_count_72 : decode cX5_count 72 = .ok (.aload_n 0, 1) := by decide +kernel
theorem dX5_count_73 : decode cX5_count 73 = .ok (.getfield 45, 3) := by decide +kernel
theorem dX5_count_76 : decode cX5_count 76 = .ok (.getfield 181, 3) := by decide +kernel
theorem dX5_count_79 : decode cX5_count 79 = .ok (.ireturn, 1) := by decide +kernel
theorem dX5_count_80 : decode cX5_count 80 = .ok (.aload_n 0, 1) := by decide +kernel
theorem dX5_count_81 : decode cX5_count 81 = .ok (.getfield 14, 3) := by decide +kernel
theorem dX5_count_84 : decode cX5_count 84 = .ok (.getfield 56, 3) := by decide +kernel
theorem dX5_count_87 : decode cX5_count 87 = .ok (.ireturn, 1) := by decide +kernel
theorem dX5_count_88 : decode cX5_count 88 = .ok (.aload_n 0, 1) := by decide +kernel
theorem dX5_count_89 : decode cX5_count 89 = .ok (.getfield 18, 3) := by decide +kernel
theorem dX5_count_92 : decode cX5_count 92 = .ok (.getfield 56, 3) := by decide +kernel
theorem dX5_count_95 : decode cX5_count 95 = .ok (.ireturn, 1) := by decide +kernel
theorem dX5_count_96 : decode cX5_count 96 = .ok (.aload_n 0, 1) := by decide +kernel
theorem dX5_count_97 : decode cX5_count 97 = .ok (.getfield 31, 3) := by decide +kernel
theorem dX5_count_100 : decode cX5_count 100 = .ok (.getfield 184, 3) := by decide +kernel
theorem dX5_count_103 : decode cX5_count 103 = .ok (.ireturn, 1) := by decide +kernel
theorem dX5_count_104 : decode cX5_count 104 = .ok (.aload_n 0, 1) := by decide +kernel
theorem dX5_count_105 : decode cX5_count 105 = .ok (.getfield 31, 3) := by decide +kernel
theorem dX5_count_108 : decode cX5_count 108 = .ok (.getfield 187, 3) := by decide +kernel

theorem dX6_thrown_0 : decode cX6_thrown 0 = .ok (.aload_n 0, 1) := by decide +kernel
theorem dX6_thrown_1 : decode cX6_thrown 1 = .ok (.getfield 1, 3) := by decide +kernel
theorem dX6_thrown_4 : decode cX6_thrown 4 = .ok (.ireturn, 1) := by decide +kernel
theorem dX6_throwsIf_0 : decode cX6_throwsIf 0 = .ok (.aload_n 0, 1) := by decide +kernel
theorem dX6_throwsIf_1 : decode cX6_throwsIf 1 = .ok (.iload_n 1, 1) := by decide +kernel
theorem dX6_throwsIf_2 : decode cX6_throwsIf 2 = .ok (.ifCond .eq 7, 3) := by decide +kernel
theorem dX6_throwsIf_5 : decode cX6_throwsIf 5 = .ok (.iconst 1, 1) := by decide +kernel
theorem dX6_throwsIf_6 : decode cX6_throwsIf 6 = .ok (.goto 4, 3) := by decide +kernel
theorem dX6_throwsIf_9 : decode cX6_throwsIf 9 = .ok (.iconst 0, 1) := by decide +kernel
theorem dX6_throwsIf_10 : decode cX6_throwsIf 10 = .ok (.putfield 1, 3) := by decide +kernel
theorem dX6_throwsIf_13 : decode cX6_throwsIf 13 = .ok (.iload_n 1, 1) := by decide +kernel
theorem dX6_throwsIf_14 : decode cX6_throwsIf 14 = .ok (.ireturn, 1) := by decide +kernel
set_option maxRecDepth 20000 in
theorem ggX6_init_X6_begin : GoodIn wsX6_init wsX6_begin := goodIn_r _ [23, 13, 11, 24, 25, 26, 27, 28, 29, 30, 31, 32, 33, 34, 35, 36, 37, 38, 39, 40, 41, 42, 43, 44, 45, 46, 47, 48, 49, 50, 51, 52] (by decide +kernel) (by decide +kernel)
set_option maxRecDepth 20000 in
theorem gX6_init_X6_begin : GoodIn wsX6_init (wsV RX6 48 RX6 yX6_begin wsX6_begin) := goodIn_app (goodIn_of _ (by decide +kernel)) ggX6_init_X6_begin
theorem dX6_init_0 : decode cX6_init 0 = .ok (.aload_n 0, 1) := by decide +kernel
theorem dX6_init_1 : decode cX6_init 1 = .ok (.invokespecial 7, 3) := by decide +kernel
theorem dX6_init_4 : decode cX6_init 4 = .ok (.aload_n 0, 1) := by decide +kernel
theorem dX6_init_5 : decode cX6_init 5 = .ok (.ldc 13, 2) := by decide +kernel
theorem dX6_init_7 : decode cX6_init 7 = .ok (.newarray .boolean, 2) := by decide +kernel
theorem dX6_init_9 : decode cX6_init 9 = .ok (.putfield 14, 3) := by decide +kernel
theorem dX6_init_12 : decode cX6_init 12 = .ok (.aload_n 0, 1) := by decide +kernel
theorem dX6_init_13 : decode cX6_init 13 = .ok (.ldc 13, 2) := by decide +kernel
theorem dX6_init_15 : decode cX6_init 15 = .ok (.newarray .boolean, 2) := by decide +kernel
theorem dX6_init_17 : decode cX6_init 17 = .ok (.putfield 18, 3) := by decide +kernel
theorem dX6_init_20 : decode cX6_init 20 = .ok (.aload_n 0, 1) := by decide +kernel
theorem dX6_init_21 : decode cX6_init 21 = .ok (.sipush 250, 3) := by decide +kernel
theorem dX6_init_24 : decode cX6_init 24 = .ok (.newarray .int, 2) := by decide +kernel
theorem dX6_init_26 : decode cX6_init 26 = .ok (.putfield 21, 3) := by decide +kernel
theorem dX6_init_29 : decode cX6_init 29 = .ok (.aload_n 0, 1) := by decide +kernel
theorem dX6_init_30 : decode cX6_init 30 = .ok (.sipush 250, 3) := by decide +kernel
theorem dX6_init_33 : decode cX6_init 33 = .ok (.newarray .long, 2) := by decide +kernel
theorem dX6_init_35 : decode cX6_init 35 = .ok (.putfield 25, 3) := by decide +kernel
theorem dX6_init_38 : decode cX6_init 38 = .ok (.aload_n 0, 1) := by decide +kernel
theorem dX6_init_39 : decode cX6_init 39 = .ok (.sipush 250, 3) := by decide +kernel
theorem dX6_init_42 : decode cX6_init 42 = .ok (.newarray .long, 2) := by decide +kernel
theorem dX6_init_44 : decode cX6_init 44 = .ok (.putfield 29, 3) := by decide +kernel
theorem dX6_init_47 : decode cX6_init 47 = .ok (.aload_n 0, 1) := by decide +kernel
theorem dX6_init_48 : decode cX6_init 48 = .ok (.iconst 1, 1) := by decide +kernel
theorem dX6_init_49 : decode cX6_init 49 = .ok (.putfield 32, 3) := by decide +kernel
theorem dX6_init_52 : decode cX6_init 52 = .ok (.aload_n 0, 1) := by decide +kernel
theorem dX6_init_53 : decode cX6_init 53 = .ok (.bipush 17, 2) := by decide +kernel
theorem dX6_init_55 : decode cX6_init 55 = .ok (.putfield 35, 3) := by decide +kernel
theorem dX6_init_58 : decode cX6_init 58 = .ok (.aload_n 0, 1) := by decide +kernel
theorem dX6_init_59 : decode cX6_init 59 = .ok (.bipush 20, 2) := by decide +kernel
theorem dX6_init_61 : decode cX6_init 61 = .ok (.putfield 38, 3) := by decide +kernel
theorem dX6_init_64 : decode cX6_init 64 = .ok (.aload_n 0, 1) := by decide +kernel
theorem dX6_init_65 : decode cX6_init 65 = .ok (.sipush 2000, 3) := by decide +kernel
theorem dX6_init_68 : decode cX6_init 68 = .ok (.newarray .byte, 2) := by decide +kernel
theorem dX6_init_70 : decode cX6_init 70 = .ok (.putfield 41, 3) := by decide +kernel
theorem dX6_init_73 : decode cX6_init 73 = .ok (.aload_n 0, 1) := by decide +kernel
theorem dX6_init_74 : decode cX6_init 74 = .ok (.sipush 6000, 3) := by decide +kernel
theorem dX6_init_77 : decode cX6_init 77 = .ok (.newarray .byte, 2) := by decide +kernel
theorem dX6_init_79 : decode cX6_init 79 = .ok (.putfield 45, 3) := by decide +kernel
theorem dX6_init_82 : decode cX6_init 82 = .ok (.aload_n 0, 1) := by decide +kernel
theorem dX6_init_83 : decode cX6_init 83 = .ok (.getfield 21, 3) := by decide +kernel
theorem dX6_init_86 : decode cX6_init 86 = .ok (.iconst 0, 1) := by decide +kernel
theorem dX6_init_87 : decode cX6_init 87 = .ok (.iconst 1, 1) := by decide +kernel
theorem dX6_init_88 : decode cX6_init 88 = .ok (.iastore, 1) := by decide +kernel
theorem dX6_init_89 : decode cX6_init 89 = .ok (.aload_n 0, 1) := by decide +kernel
theorem dX6_init_90 : decode cX6_init 90 = .ok (.invokevirtual 48, 3) := by decide +kernel
theorem dX6_init_93 : decode cX6_init 93 = .ok (.return_, 1) := by decide +kernel
theorem dX6_begin_0 : decode cX6_begin 0 = .ok (.iconst 0, 1) := by decide +kernel
theorem dX6_begin_1 : decode cX6_begin 1 = .ok (.istore_n 1, 1) := by decide +kernel
theorem dX6_begin_2 : decode cX6_begin 2 = .ok (.iload_n 1, 1) := by decide +kernel
theorem dX6_begin_3 : decode cX6_begin 3 = .ok (.aload_n 0, 1) := by decide +kernel
theorem dX6_begin_4 : decode cX6_begin 4 = .ok (.getfield 32, 3) := by decide +kernel
theorem dX6_begin_7 : decode cX6_begin 7 = .ok (.if_icmp .ge 45, 3) := by decide +kernel
theorem dX6_begin_10 : decode cX6_begin 10 = .ok (.aload_n 0, 1) := by decide +kernel
theorem dX6_begin_11 : decode cX6_begin 11 = .ok (.getfield 25, 3) := by decide +kernel
theorem dX6_begin_14 : decode cX6_begin 14 = .ok (.iload_n 1, 1) := by decide +kernel
theorem dX6_begin_15 : decode cX6_begin 15 = .ok (.ldc2_w 51, 3) := by decide +kernel
theorem dX6_begin_18 : decode cX6_begin 18 = .ok (.aload_n 0, 1) := by decide +kernel
theorem dX6_begin_19 : decode cX6_begin 19 = .ok (.getfield 32, 3) := by decide +kernel
theorem dX6_begin_22 : decode cX6_begin 22 = .ok (.i2l, 1) := by decide +kernel
theorem dX6_begin_23 : decode cX6_begin 23 = .ok (.ldiv, 1) := by decide +kernel
theorem dX6_begin_24 : decode cX6_begin 24 = .ok (.iload_n 1, 1) := by decide +kernel
theorem dX6_begin_25 : decode cX6_begin 25 = .ok (.i2l, 1) := by decide +kernel
theorem dX6_begin_26 : decode cX6_begin 26 = .ok (.ldc2_w 51, 3) := by decide +kernel
theorem dX6_begin_29 : decode cX6_begin 29 = .ok (.aload_n 0, 1) := by decide +kernel
theorem dX6_begin_30 : decode cX6_begin 30 = .ok (.getfield 32, 3) := by decide +kernel
theorem dX6_begin_33 : decode cX6_begin 33 = .ok (.i2l, 1) := by decide +kernel
theorem dX6_begin_34 : decode cX6_begin 34 = .ok (.lrem, 1) := by decide +kernel
theorem dX6_begin_35 : decode cX6_begin 35 = .ok (.lcmp, 1) := by decide +kernel
theorem dX6_begin_36 : decode cX6_begin 36 = .ok (.ifCond .ge 7, 3) := by decide +kernel
theorem dX6_begin_39 : decode cX6_begin 39 = .ok (.lconst 1, 1) := by decide +kernel
theorem dX6_begin_40 : decode cX6_begin 40 = .ok (.goto 4, 3) := by decide +kernel
theorem dX6_begin_43 : decode cX6_begin 43 = .ok (.lconst 0, 1) := by decide +kernel
theorem dX6_begin_44 : decode cX6_begin 44 = .ok (.ladd, 1) := by decide +kernel
theorem dX6_begin_45 : decode cX6_begin 45 = .ok (.lastore, 1) := by decide +kernel
theorem dX6_begin_46 : decode cX6_begin 46 = .ok (.iinc 1 1, 3) := by decide +kernel
theorem dX6_begin_49 : decode cX6_begin 49 = .ok (.goto (-47), 3) := by decide +kernel
theorem dX6_begin_52 : decode cX6_begin 52 = .ok (.aload_n 0, 1) := by decide +kernel
theorem dX6_begin_53 : decode cX6_begin 53 = .ok (.iconst 0, 1) := by decide +kernel
theorem dX6_begin_54 : decode cX6_begin 54 = .ok (.putfield 53, 3) := by decide +kernel
theorem dX6_begin_57 : decode cX6_begin 57 = .ok (.aload_n 0, 1) := by decide +kernel
theorem dX6_begin_58 : decode cX6_begin 58 = .ok (.ldc2_w 56, 3) := by decide +kernel
theorem dX6_begin_61 : decode cX6_begin 61 = .ok (.putfield 58, 3) := by decide +kernel
theorem dX6_begin_64 : decode cX6_begin 64 = .ok (.aload_n 0, 1) := by decide +kernel
theorem dX6_begin_65 : decode cX6_begin 65 = .ok (.ldc2_w 56, 3) := by decide +kernel
theorem dX6_begin_68 : decode cX6_begin 68 = .ok (.putfield 62, 3) := by decide +kernel
theorem dX6_begin_71 : decode cX6_begin 71 = .ok (.return_, 1) := by decide +kernel
theorem dX6_no_0 : decode cX6_no 0 = .ok (.iload_n 1, 1) := by decide +kernel
theorem dX6_no_1 : decode cX6_no 1 = .ok (.ifCond .lt 11, 3) := by decide +kernel
theorem dX6_no_4 : decode cX6_no 4 = .ok (.iload_n 1, 1) := by decide +kernel
theorem dX6_no_5 : decode cX6_no 5 = .ok (.aload_n 0, 1) := by decide +kernel
theorem dX6_no_6 : decode cX6_no 6 = .ok (.getfield 32, 3) := by decide +kernel
theorem dX6_no_9 : decode cX6_no 9 = .ok (.if_icmp .lt 7, 3) := by decide +kernel
theorem dX6_no_12 : decode cX6_no 12 = .ok (.iconst 1, 1) := by decide +kernel
theorem dX6_no_13 : decode cX6_no 13 = .ok (.goto 4, 3) := by decide +kernel
theorem dX6_no_16 : decode cX6_no 16 = .ok (.iconst 0, 1) := by decide +kernel
theorem dX6_no_17 : decode cX6_no 17 = .ok (.ireturn, 1) := by decide +kernel
theorem dX6_goes_0 : decode cX6_goes 0 = .ok (.aload_n 0, 1) := by decide +kernel
theorem dX6_goes_1 : decode cX6_goes 1 = .ok (.getfield 14, 3) := by decide +kernel
theorem dX6_goes_4 : decode cX6_goes 4 = .ok (.sipush 250, 3) := by decide +kernel
theorem dX6_goes_7 : decode cX6_goes 7 = .ok (.iload_n 1, 1) := by decide +kernel
theorem dX6_goes_8 : decode cX6_goes 8 = .ok (.imul, 1) := by decide +kernel
theorem dX6_goes_9 : decode cX6_goes 9 = .ok (.iload_n 2, 1) := by decide +kernel
theorem dX6_goes_10 : decode cX6_goes 10 = .ok (.iadd, 1) := by decide +kernel
theorem dX6_goes_11 : decode cX6_goes 11 = .ok (.baload, 1) := by decide +kernel
theorem dX6_goes_12 : decode cX6_goes 12 = .ok (.ireturn, 1) := by decide +kernel
set_option maxRecDepth 20000 in
theorem ggX6_feed_X6_four : GoodIn wsX6_feed wsX6_four := goodIn_r _ [7, 8, 2, 9, 10, 11, 12, 13, 14, 15, 16, 17, 18, 19, 20, 21, 22, 23, 24, 25, 26, 27, 28, 29, 30, 31, 32] (by decide +kernel) (by decide +kernel)
set_option maxRecDepth 20000 in
theorem gX6_feed_X6_four : GoodIn wsX6_feed (wsV RX6 68 RX6 yX6_four wsX6_four) := goodIn_app (goodIn_of _ (by decide +kernel)) ggX6_feed_X6_four
theorem dX6_feed_0 : decode cX6_feed 0 = .ok (.aload_n 0, 1) := by decide +kernel
theorem dX6_feed_1 : decode cX6_feed 1 = .ok (.iconst 0, 1) := by decide +kernel
theorem dX6_feed_2 : decode cX6_feed 2 = .ok (.putfield 1, 3) := by decide +kernel
theorem dX6_feed_5 : decode cX6_feed 5 = .ok (.aload_n 0, 1) := by decide +kernel
theorem dX6_feed_6 : decode cX6_feed 6 = .ok (.getfield 65, 3) := by decide +kernel
theorem dX6_feed_9 : decode cX6_feed 9 = .ok (.bipush 20, 2) := by decide +kernel
theorem dX6_feed_11 : decode cX6_feed 11 = .ok (.iadd, 1) := by decide +kernel
theorem dX6_feed_12 : decode cX6_feed 12 = .ok (.sipush 2000, 3) := by decide +kernel
theorem dX6_feed_15 : decode cX6_feed 15 = .ok (.if_icmp .le 5, 3) := by decide +kernel
theorem dX6_feed_18 : decode cX6_feed 18 = .ok (.iconst (-1), 1) := by decide +kernel
theorem dX6_feed_19 : decode cX6_feed 19 = .ok (.ireturn, 1) := by decide +kernel
theorem dX6_feed_20 : decode cX6_feed 20 = .ok (.aload_n 0, 1) := by decide +kernel
theorem dX6_feed_21 : decode cX6_feed 21 = .ok (.iload_n 1, 1) := by decide +kernel
theorem dX6_feed_22 : decode cX6_feed 22 = .ok (.invokevirtual 68, 3) := by decide +kernel
theorem dX6_feed_25 : decode cX6_feed 25 = .ok (.aload_n 0, 1) := by decide +kernel
theorem dX6_feed_26 : decode cX6_feed 26 = .ok (.iload_n 2, 1) := by decide +kernel
theorem dX6_feed_27 : decode cX6_feed 27 = .ok (.invokevirtual 68, 3) := by decide +kernel
theorem dX6_feed_30 : decode cX6_feed 30 = .ok (.aload_n 0, 1) := by decide +kernel
theorem dX6_feed_31 : decode cX6_feed 31 = .ok (.iload_n 3, 1) := by decide +kernel
theorem dX6_feed_32 : decode cX6_feed 32 = .ok (.invokevirtual 68, 3) := by decide +kernel
theorem dX6_feed_35 : decode cX6_feed 35 = .ok (.aload_n 0, 1) := by decide +kernel
theorem dX6_feed_36 : decode cX6_feed 36 = .ok (.iload 4, 2) := by decide +kernel
theorem dX6_feed_38 : decode cX6_feed 38 = .ok (.invokevirtual 68, 3) := by decide +kernel
theorem dX6_feed_41 : decode cX6_feed 41 = .ok (.aload_n 0, 1) := by decide +kernel
theorem dX6_feed_42 : decode cX6_feed 42 = .ok (.iload 5, 2) := by decide +kernel
theorem dX6_feed_44 : decode cX6_feed 44 = .ok (.invokevirtual 68, 3) := by decide +kernel
theorem dX6_feed_47 : decode cX6_feed 47 = .ok (.aload_n 0, 1) := by decide +kernel
theorem dX6_feed_48 : decode cX6_feed 48 = .ok (.getfield 65, 3) := by decide +kernel
theorem dX6_feed_51 : decode cX6_feed 51 = .ok (.ireturn, 1) := by decide +kernel
theorem dX6_four_0 : decode cX6_four 0 = .ok (.bipush 24, 2) := by decide +kernel
theorem dX6_four_2 : decode cX6_four 2 = .ok (.istore_n 2, 1) := by decide +kernel
theorem dX6_four_3 : decode cX6_four 3 = .ok (.iload_n 2, 1) := by decide +kernel
theorem dX6_four_4 : decode cX6_four 4 = .ok (.ifCond .lt 32, 3) := by decide +kernel
theorem dX6_four_7 : decode cX6_four 7 = .ok (.aload_n 0, 1) := by decide +kernel
theorem dX6_four_8 : decode cX6_four 8 = .ok (.getfield 41, 3) := by decide +kernel
theorem dX6_four_11 : decode cX6_four 11 = .ok (.aload_n 0, 1) := by decide +kernel
theorem dX6_four_12 : decode cX6_four 12 = .ok (.getfield 65, 3) := by decide +kernel
theorem dX6_four_15 : decode cX6_four 15 = .ok (.iload_n 1, 1) := by decide +kernel
theorem dX6_four_16 : decode cX6_four 16 = .ok (.iload_n 2, 1) := by decide +kernel
theorem dX6_four_17 : decode cX6_four 17 = .ok (.ishr, 1) := by decide +kernel
theorem dX6_four_18 : decode cX6_four 18 = .ok (.i2b, 1) := by decide +kernel
theorem dX6_four_19 : decode cX6_four 19 = .ok (.bastore, 1) := by decide +kernel
theorem dX6_four_20 : decode cX6_four 20 = .ok (.aload_n 0, 1) := by decide +kernel
theorem dX6_four_21 : decode cX6_four 21 = .ok (.dup, 1) := by decide +kernel
theorem dX6_four_22 : decode cX6_four 22 = .ok (.getfield 65, 3) := by decide +kernel
theorem dX6_four_25 : decode cX6_four 25 = .ok (.iconst 1, 1) := by decide +kernel
theorem dX6_four_26 : decode cX6_four 26 = .ok (.iadd, 1) := by decide +kernel
theorem dX6_four_27 : decode cX6_four 27 = .ok (.putfield 65, 3) := by decide +kernel
theorem dX6_four_30 : decode cX6_four 30 = .ok (.iinc 2 (-8), 3) := by decide +kernel
theorem dX6_four_33 : decode cX6_four 33 = .ok (.goto (-30), 3) := by decide +kernel
theorem dX6_four_36 : decode cX6_four 36 = .ok (.return_, 1) := by decide +kernel
theorem dX6_end_0 : decode cX6_end 0 = .ok (.aload_n 0, 1) := by decide +kernel
theorem dX6_end_1 : decode cX6_end 1 = .ok (.iconst 0, 1) := by decide +kernel
theorem dX6_end_2 : decode cX6_end 2 = .ok (.putfield 1, 3) := by decide +kernel
theorem dX6_end_5 : decode cX6_end 5 = .ok (.iload_n 1, 1) := by decide +kernel
theorem dX6_end_6 : decode cX6_end 6 = .ok (.ifCond .lt 11, 3) := by decide +kernel
theorem dX6_end_9 : decode cX6_end 9 = .ok (.iload_n 1, 1) := by decide +kernel
theorem dX6_end_10 : decode cX6_end 10 = .ok (.aload_n 0, 1) := by decide +kernel
theorem dX6_end_11 : decode cX6_end 11 = .ok (.getfield 65, 3) := by decide +kernel
theorem dX6_end_14 : decode cX6_end 14 = .ok (.if_icmp .le 5, 3) := by decide +kernel
theorem dX6_end_17 : decode cX6_end 17 = .ok (.iconst 0, 1) := by decide +kernel
theorem dX6_end_18 : decode cX6_end 18 = .ok (.ireturn, 1) := by decide +kernel
theorem dX6_end_19 : decode cX6_end 19 = .ok (.aload_n 0, 1) := by decide +kernel
theorem dX6_end_20 : decode cX6_end 20 = .ok (.iload_n 1, 1) := by decide +kernel
theorem dX6_end_21 : decode cX6_end 21 = .ok (.putfield 65, 3) := by decide +kernel
theorem dX6_end_24 : decode cX6_end 24 = .ok (.iconst 1, 1) := by decide +kernel
theorem dX6_end_25 : decode cX6_end 25 = .ok (.ireturn, 1) := by decide +kernel
theorem dX6_wrong_0 : decode cX6_wrong 0 = .ok (.aload_n 0, 1) := by decide +kernel
theorem dX6_wrong_1 : decode cX6_wrong 1 = .ok (.iload_n 1, 1) := by decide +kernel
theorem dX6_wrong_2 : decode cX6_wrong 2 = .ok (.putfield 72, 3) := by decide +kernel
theorem dX6_wrong_5 : decode cX6_wrong 5 = .ok (.aload_n 0, 1) := by decide +kernel
theorem dX6_wrong_6 : decode cX6_wrong 6 = .ok (.iload_n 2, 1) := by decide +kernel
theorem dX6_wrong_7 : decode cX6_wrong 7 = .ok (.putfield 75, 3) := by decide +kernel
theorem dX6_wrong_10 : decode cX6_wrong 10 = .ok (.iconst 0, 1) := by decide +kernel
theorem dX6_wrong_11 : decode cX6_wrong 11 = .ok (.ireturn, 1) := by decide +kernel
set_option maxRecDepth 20000 in
theorem ggX6_reads_X6_wrong : GoodIn wsX6_reads wsX6_wrong := goodIn_r _ [11, 12, 13, 14, 15, 16, 17, 18, 19, 20, 21, 22, 23, 24, 25, 26, 27, 28, 29, 30, 31, 32, 33, 34, 35, 36, 37] (by decide +kernel) (by decide +kernel)
set_option maxRecDepth 20000 in
theorem gX6_reads_X6_wrong : GoodIn wsX6_reads (wsV RX6 90 RX6 yX6_wrong wsX6_wrong) := goodIn_app (goodIn_of _ (by decide +kernel)) ggX6_reads_X6_wrong
theorem dX6_reads_0 : decode cX6_reads 0 = .ok (.aload_n 0, 1) := by decide +kernel
theorem dX6_reads_1 : decode cX6_reads 1 = .ok (.aload_n 0, 1) := by decide +kernel
theorem dX6_reads_2 : decode cX6_reads 2 = .ok (.getfield 78, 3) := by decide +kernel
theorem dX6_reads_5 : decode cX6_reads 5 = .ok (.putfield 81, 3) := by decide +kernel
theorem dX6_reads_8 : decode cX6_reads 8 = .ok (.aload_n 0, 1) := by decide +kernel
theorem dX6_reads_9 : decode cX6_reads 9 = .ok (.iconst 0, 1) := by decide +kernel
theorem dX6_reads_10 : decode cX6_reads 10 = .ok (.putfield 84, 3) := by decide +kernel
theorem dX6_reads_13 : decode cX6_reads 13 = .ok (.iconst 0, 1) := by decide +kernel
theorem dX6_reads_14 : decode cX6_reads 14 = .ok (.istore_n 1, 1) := by decide +kernel
theorem dX6_reads_15 : decode cX6_reads 15 = .ok (.iload_n 1, 1) := by decide +kernel
theorem dX6_reads_16 : decode cX6_reads 16 = .ok (.iconst 3, 1) := by decide +kernel
theorem dX6_reads_17 : decode cX6_reads 17 = .ok (.if_icmp .ge 114, 3) := by decide +kernel
theorem dX6_reads_20 : decode cX6_reads 20 = .ok (.aload_n 0, 1) := by decide +kernel
theorem dX6_reads_21 : decode cX6_reads 21 = .ok (.getfield 78, 3) := by decide +kernel
theorem dX6_reads_24 : decode cX6_reads 24 = .ok (.aload_n 0, 1) := by decide +kernel
theorem dX6_reads_25 : decode cX6_reads 25 = .ok (.getfield 87, 3) := by decide +kernel
theorem dX6_reads_28 : decode cX6_reads 28 = .ok (.if_icmp .ne 13, 3) := by decide +kernel
theorem dX6_reads_31 : decode cX6_reads 31 = .ok (.aload_n 0, 1) := by decide +kernel
theorem dX6_reads_32 : decode cX6_reads 32 = .ok (.iconst 1, 1) := by decide +kernel
theorem dX6_reads_33 : decode cX6_reads 33 = .ok (.aload_n 0, 1) := by decide +kernel
theorem dX6_reads_34 : decode cX6_reads 34 = .ok (.getfield 87, 3) := by decide +kernel
theorem dX6_reads_37 : decode cX6_reads 37 = .ok (.invokevirtual 90, 3) := by decide +kernel
theorem dX6_reads_40 : decode cX6_reads 40 = .ok (.ireturn, 1) := by decide +kernel
theorem dX6_reads_41 : decode cX6_reads 41 = .ok (.aload_n 0, 1) := by decide +kernel
theorem dX6_reads_42 : decode cX6_reads 42 = .ok (.getfield 41, 3) := by decide +kernel
theorem dX6_reads_45 : decode cX6_reads 45 = .ok (.aload_n 0, 1) := by decide +kernel
theorem dX6_reads_46 : decode cX6_reads 46 = .ok (.getfield 78, 3) := by decide +kernel
theorem dX6_reads_49 : decode cX6_reads 49 = .ok (.baload, 1) := by decide +kernel
theorem dX6_reads_50 : decode cX6_reads 50 = .ok (.sipush 255, 3) := by decide +kernel
theorem dX6_reads_53 : decode cX6_reads 53 = .ok (.iand, 1) := by decide +kernel
theorem dX6_reads_54 : decode cX6_reads 54 = .ok (.istore_n 2, 1) := by decide +kernel
theorem dX6_reads_55 : decode cX6_reads 55 = .ok (.aload_n 0, 1) := by decide +kernel
theorem dX6_reads_56 : decode cX6_reads 56 = .ok (.dup, 1) := by decide +kernel
theorem dX6_reads_57 : decode cX6_reads 57 = .ok (.getfield 78, 3) := by decide +kernel
theorem dX6_reads_60 : decode cX6_reads 60 = .ok (.iconst 1, 1) := by decide +kernel
theorem dX6_reads_61 : decode cX6_reads 61 = .ok (.iadd, 1) := by decide +kernel
theorem dX6_reads_62 : decode cX6_reads 62 = .ok (.putfield 78, 3) := by decide +kernel
theorem dX6_reads_65 : decode cX6_reads 65 = .ok (.aload_n 0, 1) := by decide +kernel
theorem dX6_reads_66 : decode cX6_reads 66 = .ok (.dup, 1) := by decide +kernel
theorem dX6_reads_67 : decode cX6_reads 67 = .ok (.getfield 84, 3) := by decide +kernel
theorem dX6_reads_70 : decode cX6_reads 70 = .ok (.iload_n 2, 1) := by decide +kernel
theorem dX6_reads_71 : decode cX6_reads 71 = .ok (.bipush 127, 2) := by decide +kernel
theorem dX6_reads_73 : decode cX6_reads 73 = .ok (.iand, 1) := by decide +kernel
theorem dX6_reads_74 : decode cX6_reads 74 = .ok (.bipush 7, 2) := by decide +kernel
theorem dX6_reads_76 : decode cX6_reads 76 = .ok (.iload_n 1, 1) := by decide +kernel
theorem dX6_reads_77 : decode cX6_reads 77 = .ok (.imul, 1) := by decide +kernel
theorem dX6_reads_78 : decode cX6_reads 78 = .ok (.ishl, 1) := by decide +kernel
theorem dX6_reads_79 : decode cX6_reads 79 = .ok (.ior, 1) := by decide +kernel
theorem dX6_reads_80 : decode cX6_reads 80 = .ok (.putfield 84, 3) := by decide +kernel
theorem dX6_reads_83 : decode cX6_reads 83 = .ok (.iload_n 2, 1) := by decide +kernel
theorem dX6_reads_84 : decode cX6_reads 84 = .ok (.sipush 128, 3) := by decide +kernel
theorem dX6_reads_87 : decode cX6_reads 87 = .ok (.if_icmp .ge 38, 3) := by decide +kernel
theorem dX6_reads_90 : decode cX6_reads 90 = .ok (.iload_n 2, 1) := by decide +kernel
theorem dX6_reads_91 : decode cX6_reads 91 = .ok (.ifCond .gt 7, 3) := by decide +kernel
theorem dX6_reads_94 : decode cX6_reads 94 = .ok (.iload_n 1, 1) := by decide +kernel
theorem dX6_reads_95 : decode cX6_reads 95 = .ok (.ifCond .ne 12, 3) := by decide +kernel
theorem dX6_reads_98 : decode cX6_reads 98 = .ok (.aload_n 0, 1) := by decide +kernel
theorem dX6_reads_99 : decode cX6_reads 99 = .ok (.getfield 84, 3) := by decide +kernel
theorem dX6_reads_102 : decode cX6_reads 102 = .ok (.ldc 94, 2) := by decide +kernel
theorem dX6_reads_104 : decode cX6_reads 104 = .ok (.if_icmp .lt 15, 3) := by decide +kernel
theorem dX6_reads_107 : decode cX6_reads 107 = .ok (.aload_n 0, 1) := by decide +kernel
theorem dX6_reads_108 : decode cX6_reads 108 = .ok (.iconst 2, 1) := by decide +kernel
theorem dX6_reads_109 : decode cX6_reads 109 = .ok (.aload_n 0, 1) := by decide +kernel
theorem dX6_reads_110 : decode cX6_reads 110 = .ok (.getfield 81, 3) := by decide +kernel
theorem dX6_reads_113 : decode cX6_reads 113 = .ok (.invokevirtual 90, 3) := by decide +kernel
theorem dX6_reads_116 : decode cX6_reads 116 = .ok (.ifCond .eq 7, 3) := by decide +kernel
theorem dX6_reads_119 : decode cX6_reads 119 = .ok (.iconst 1, 1) := by decide +kernel
theorem dX6_reads_120 : decode cX6_reads 120 = .ok (.goto 4, 3) := by decide +kernel
theorem dX6_reads_123 : decode cX6_reads 123 = .ok (.iconst 0, 1) := by decide +kernel
theorem dX6_reads_124 : decode cX6_reads 124 = .ok (.ireturn, 1) := by decide +kernel
theorem dX6_reads_125 : decode cX6_reads 125 = .ok (.iinc 1 1, 3) := by decide +kernel
theorem dX6_reads_128 : decode cX6_reads 128 = .ok (.goto (-113), 3) := by decide +kernel
theorem dX6_reads_131 : decode cX6_reads 131 = .ok (.aload_n 0, 1) := by decide +kernel
theorem dX6_reads_132 : decode cX6_reads 132 = .ok (.iconst 2, 1) := by decide +kernel
theorem dX6_reads_133 : decode cX6_reads 133 = .ok (.aload_n 0, 1) := by decide +kernel
theorem dX6_reads_134 : decode cX6_reads 134 = .ok (.getfield 81, 3) := by decide +kernel
theorem dX6_reads_137 : decode cX6_reads 137 = .ok (.invokevirtual 90, 3) := by decide +kernel
theorem dX6_reads_140 : decode cX6_reads 140 = .ok (.ireturn, 1) := by decide +kernel
set_option maxRecDepth 20000 in
theorem ggX6_read_X6_graph : GoodIn wsX6_read wsX6_graph := goodIn_r _ [18, 19, 20, 9, 7, 4, 3, 21, 22, 23, 17, 24, 25, 26, 27, 28, 29, 30, 5, 8, 31, 32, 33, 34, 45, 46, 47, 48, 49, 50, 51, 52, 53, 54, 55, 56, 57, 58, 59, 60, 61, 62, 63, 64, 65, 66, 67, 68] (by decide +kernel) (by decide +kernel)
set_option maxRecDepth 20000 in
theorem gX6_read_X6_graph : GoodIn wsX6_read (wsV RX6 95 RX6 yX6_graph wsX6_graph) := goodIn_app (goodIn_of _ (by decide +kernel)) ggX6_read_X6_graph
set_option maxRecDepth 20000 in
theorem ggX6_read_X6_begin : GoodIn wsX6_read wsX6_begin := goodIn_r _ [38, 10, 39, 40, 41, 42, 43, 44, 45, 46, 47, 48, 49, 50, 51, 52, 53, 54, 55, 56, 57, 58, 59, 60, 61, 62, 63, 64, 65, 66, 67, 68] (by decide +kernel) (by decide +kernel)
set_option maxRecDepth 20000 in
theorem gX6_read_X6_begin : GoodIn wsX6_read (wsV RX6 48 RX6 yX6_begin wsX6_begin) := goodIn_app (goodIn_of _ (by decide +kernel)) ggX6_read_X6_begin
theorem dX6_read_0 : decode cX6_read 0 = .ok (.aload_n 0, 1) := by decide +kernel
theorem dX6_read_1 : decode cX6_read 1 = .ok (.iconst 0, 1) := by decide +kernel
theorem dX6_read_2 : decode cX6_read 2 = .ok (.putfield 1, 3) := by decide +kernel
theorem dX6_read_5 : decode cX6_read 5 = .ok (.aload_n 0, 1) := by decide +kernel
theorem dX6_read_6 : decode cX6_read 6 = .ok (.aload_n 0, 1) := by decide +kernel
theorem dX6_read_7 : decode cX6_read 7 = .ok (.getfield 65, 3) := by decide +kernel
theorem dX6_read_10 : decode cX6_read 10 = .ok (.putfield 87, 3) := by decide +kernel
theorem dX6_read_13 : decode cX6_read 13 = .ok (.aload_n 0, 1) := by decide +kernel
theorem dX6_read_14 : decode cX6_read 14 = .ok (.iconst 0, 1) := by decide +kernel
theorem dX6_read_15 : decode cX6_read 15 = .ok (.putfield 65, 3) := by decide +kernel
theorem dX6_read_18 : decode cX6_read 18 = .ok (.aload_n 0, 1) := by decide +kernel
theorem dX6_read_19 : decode cX6_read 19 = .ok (.iconst 0, 1) := by decide +kernel
theorem dX6_read_20 : decode cX6_read 20 = .ok (.putfield 78, 3) := by decide +kernel
theorem dX6_read_23 : decode cX6_read 23 = .ok (.aload_n 0, 1) := by decide +kernel
theorem dX6_read_24 : decode cX6_read 24 = .ok (.iconst 0, 1) := by decide +kernel
theorem dX6_read_25 : decode cX6_read 25 = .ok (.putfield 72, 3) := by decide +kernel
theorem dX6_read_28 : decode cX6_read 28 = .ok (.iconst 0, 1) := by decide +kernel
theorem dX6_read_29 : decode cX6_read 29 = .ok (.istore_n 1, 1) := by decide +kernel
theorem dX6_read_30 : decode cX6_read 30 = .ok (.iload_n 1, 1) := by decide +kernel
theorem dX6_read_31 : decode cX6_read 31 = .ok (.ldc 13, 2) := by decide +kernel
theorem dX6_read_33 : decode cX6_read 33 = .ok (.if_icmp .ge 16, 3) := by decide +kernel
theorem dX6_read_36 : decode cX6_read 36 = .ok (.aload_n 0, 1) := by decide +kernel
theorem dX6_read_37 : decode cX6_read 37 = .ok (.getfield 18, 3) := by decide +kernel
theorem dX6_read_40 : decode cX6_read 40 = .ok (.iload_n 1, 1) := by decide +kernel
theorem dX6_read_41 : decode cX6_read 41 = .ok (.iconst 0, 1) := by decide +kernel
theorem dX6_read_42 : decode cX6_read 42 = .ok (.bastore, 1) := by decide +kernel
theorem dX6_read_43 : decode cX6_read 43 = .ok (.iinc 1 1, 3) := by decide +kernel
theorem dX6_read_46 : decode cX6_read 46 = .ok (.goto (-16), 3) := by decide +kernel
theorem dX6_read_49 : decode cX6_read 49 = .ok (.aload_n 0, 1) := by decide +kernel
theorem dX6_read_50 : decode cX6_read 50 = .ok (.invokevirtual 95, 3) := by decide +kernel
theorem dX6_read_53 : decode cX6_read 53 = .ok (.istore_n 1, 1) := by decide +kernel
theorem dX6_read_54 : decode cX6_read 54 = .ok (.iload_n 1, 1) := by decide +kernel
theorem dX6_read_55 : decode cX6_read 55 = .ok (.ifCond .ge 10, 3) := by decide +kernel
theorem dX6_read_58 : decode cX6_read 58 = .ok (.iconst (-1), 1) := by decide +kernel
theorem dX6_read_59 : decode cX6_read 59 = .ok (.aload_n 0, 1) := by decide +kernel
theorem dX6_read_60 : decode cX6_read 60 = .ok (.getfield 75, 3) := by decide +kernel
theorem dX6_read_63 : decode cX6_read 63 = .ok (.isub, 1) := by decide +kernel
theorem dX6_read_64 : decode cX6_read 64 = .ok (.ireturn, 1) := by decide +kernel
theorem dX6_read_65 : decode cX6_read 65 = .ok (.aload_n 0, 1) := by decide +kernel
theorem dX6_read_66 : decode cX6_read 66 = .ok (.aload_n 0, 1) := by decide +kernel
theorem dX6_read_67 : decode cX6_read 67 = .ok (.getfield 99, 3) := by decide +kernel
theorem dX6_read_70 : decode cX6_read 70 = .ok (.putfield 32, 3) := by decide +kernel
theorem dX6_read_73 : decode cX6_read 73 = .ok (.aload_n 0, 1) := by decide +kernel
theorem dX6_read_74 : decode cX6_read 74 = .ok (.iload_n 1, 1) := by decide +kernel
theorem dX6_read_75 : decode cX6_read 75 = .ok (.putfield 102, 3) := by decide +kernel
theorem dX6_read_78 : decode cX6_read 78 = .ok (.iconst 0, 1) := by decide +kernel
theorem dX6_read_79 : decode cX6_read 79 = .ok (.istore_n 2, 1) := by decide +kernel
theorem dX6_read_80 : decode cX6_read 80 = .ok (.iload_n 2, 1) := by decide +kernel
theorem dX6_read_81 : decode cX6_read 81 = .ok (.ldc 13, 2) := by decide +kernel
theorem dX6_read_83 : decode cX6_read 83 = .ok (.if_icmp .ge 21, 3) := by decide +kernel
theorem dX6_read_86 : decode cX6_read 86 = .ok (.aload_n 0, 1) := by decide +kernel
theorem dX6_read_87 : decode cX6_read 87 = .ok (.getfield 14, 3) := by decide +kernel
theorem dX6_read_90 : decode cX6_read 90 = .ok (.iload_n 2, 1) := by decide +kernel
theorem dX6_read_91 : decode cX6_read 91 = .ok (.aload_n 0, 1) := by decide +kernel
theorem dX6_read_92 : decode cX6_read 92 = .ok (.getfield 18, 3) := by decide +kernel
theorem dX6_read_95 : decode cX6_read 95 = .ok (.iload_n 2, 1) := by decide +kernel
theorem dX6_read_96 : decode cX6_read 96 = .ok (.baload, 1) := by decide +kernel
theorem dX6_read_97 : decode cX6_read 97 = .ok (.bastore, 1) := by decide +kernel
theorem dX6_read_98 : decode cX6_read 98 = .ok (.iinc 2 1, 3) := by decide +kernel
theorem dX6_read_101 : decode cX6_read 101 = .ok (.goto (-21), 3) := by decide +kernel
theorem dX6_read_104 : decode cX6_read 104 = .ok (.iconst 0, 1) := by decide +kernel
theorem dX6_read_105 : decode cX6_read 105 = .ok (.istore_n 2, 1) := by decide +kernel
theorem dX6_read_106 : decode cX6_read 106 = .ok (.iload_n 2, 1) := by decide +kernel
theorem dX6_read_107 : decode cX6_read 107 = .ok (.aload_n 0, 1) := by decide +kernel
theorem dX6_read_108 : decode cX6_read 108 = .ok (.getfield 32, 3) := by decide +kernel
theorem dX6_read_111 : decode cX6_read 111 = .ok (.if_icmp .ge 16, 3) := by decide +kernel
theorem dX6_read_114 : decode cX6_read 114 = .ok (.aload_n 0, 1) := by decide +kernel
theorem dX6_read_115 : decode cX6_read 115 = .ok (.getfield 21, 3) := by decide +kernel
theorem dX6_read_118 : decode cX6_read 118 = .ok (.iload_n 2, 1) := by decide +kernel
theorem dX6_read_119 : decode cX6_read 119 = .ok (.iconst 1, 1) := by decide +kernel
theorem dX6_read_120 : decode cX6_read 120 = .ok (.iastore, 1) := by decide +kernel
theorem dX6_read_121 : decode cX6_read 121 = .ok (.iinc 2 1, 3) := by decide +kernel
theorem dX6_read_124 : decode cX6_read 124 = .ok (.goto (-18), 3) := by decide +kernel
theorem dX6_read_127 : decode cX6_read 127 = .ok (.aload_n 0, 1) := by decide +kernel
theorem dX6_read_128 : decode cX6_read 128 = .ok (.invokevirtual 48, 3) := by decide +kernel
theorem dX6_read_131 : decode cX6_read 131 = .ok (.aload_n 0, 1) := by decide +kernel
theorem dX6_read_132 : decode cX6_read 132 = .ok (.getfield 102, 3) := by decide +kernel
theorem dX6_read_135 : decode cX6_read 135 = .ok (.ireturn, 1) := by decide +kernel
set_option maxRecDepth 20000 in
theorem ggX6_bad_X6_wrong : GoodIn wsX6_bad wsX6_wrong := goodIn_r _ [5, 6, 7, 8, 9, 10, 11, 12, 13, 14, 15, 16, 17, 18, 19, 20, 21, 22, 23, 24, 25, 26, 27, 28, 29, 30, 31] (by decide +kernel) (by decide +kernel)
set_option maxRecDepth 20000 in
theorem gX6_bad_X6_wrong : GoodIn wsX6_bad (wsV RX6 90 RX6 yX6_wrong wsX6_wrong) := goodIn_app (goodIn_of _ (by decide +kernel)) ggX6_bad_X6_wrong
theorem dX6_bad_0 : decode cX6_bad 0 = .ok (.aload_n 0, 1) := by decide +kernel
theorem dX6_bad_1 : decode cX6_bad 1 = .ok (.iload_n 1, 1) := by decide +kernel
theorem dX6_bad_2 : decode cX6_bad 2 = .ok (.iload_n 2, 1) := by decide +kernel
theorem dX6_bad_3 : decode cX6_bad 3 = .ok (.invokevirtual 90, 3) := by decide +kernel
theorem dX6_bad_6 : decode cX6_bad 6 = .ok (.pop, 1) := by decide +kernel
theorem dX6_bad_7 : decode cX6_bad 7 = .ok (.iconst (-1), 1) := by decide +kernel
theorem dX6_bad_8 : decode cX6_bad 8 = .ok (.ireturn, 1) := by decide +kernel
set_option maxRecDepth 20000 in
theorem ggX6_graph_X6_reads : GoodIn wsX6_graph wsX6_reads := goodIn_r _ [11, 5, 2, 1, 6, 12, 13, 14, 15, 16, 10, 17, 18, 19, 24, 25, 26, 27, 28, 29, 30, 31, 32, 33, 34, 35, 36, 37, 38, 39, 40, 41, 42, 43, 44, 45, 46, 47] (by decide +kernel) (by decide +kernel)
set_option maxRecDepth 20000 in
theorem gX6_graph_X6_reads : GoodIn wsX6_graph (wsV RX6 105 RX6 yX6_reads wsX6_reads) := goodIn_app (goodIn_of _ (by decide +kernel)) ggX6_graph_X6_reads
set_option maxRecDepth 20000 in
theorem ggX6_graph_X6_bad : GoodIn wsX6_graph wsX6_bad := goodIn_r _ [23, 14, 15, 16, 10, 17, 18, 19, 24, 25, 26, 27, 28, 29, 30, 31, 32, 33, 34, 35, 36, 37, 38, 39, 40, 41, 42, 43, 44, 45, 46, 47] (by decide +kernel) (by decide +kernel)
set_option maxRecDepth 20000 in
theorem gX6_graph_X6_bad : GoodIn wsX6_graph (wsV RX6 109 RX6 yX6_bad wsX6_bad) := goodIn_app (goodIn_of _ (by decide +kernel)) ggX6_graph_X6_bad
theorem dX6_graph_0 : decode cX6_graph 0 = .ok (.aload_n 0, 1) := by decide +kernel
theorem dX6_graph_1 : decode cX6_graph 1 = .ok (.invokevirtual 105, 3) := by decide +kernel
theorem dX6_graph_4 : decode cX6_graph 4 = .ok (.ifCond .ne 5, 3) := by decide +kernel
theorem dX6_graph_7 : decode cX6_graph 7 = .ok (.iconst (-1), 1) := by decide +kernel
theorem dX6_graph_8 : decode cX6_graph 8 = .ok (.ireturn, 1) := by decide +kernel
theorem dX6_graph_9 : decode cX6_graph 9 = .ok (.aload_n 0, 1) := by decide +kernel
theorem dX6_graph_10 : decode cX6_graph 10 = .ok (.getfield 84, 3) := by decide +kernel
theorem dX6_graph_13 : decode cX6_graph 13 = .ok (.ifCond .eq 13, 3) := by decide +kernel
theorem dX6_graph_16 : decode cX6_graph 16 = .ok (.aload_n 0, 1) := by decide +kernel
theorem dX6_graph_17 : decode cX6_graph 17 = .ok (.getfield 84, 3) := by decide +kernel
theorem dX6_graph_20 : decode cX6_graph 20 = .ok (.sipush 250, 3) := by decide +kernel
theorem dX6_graph_23 : decode cX6_graph 23 = .ok (.if_icmp .le 13, 3) := by decide +kernel
theorem dX6_graph_26 : decode cX6_graph 26 = .ok (.aload_n 0, 1) := by decide +kernel
theorem dX6_graph_27 : decode cX6_graph 27 = .ok (.iconst 3, 1) := by decide +kernel
theorem dX6_graph_28 : decode cX6_graph 28 = .ok (.aload_n 0, 1) := by decide +kernel
theorem dX6_graph_29 : decode cX6_graph 29 = .ok (.getfield 81, 3) := by decide +kernel
theorem dX6_graph_32 : decode cX6_graph 32 = .ok (.invokevirtual 109, 3) := by decide +kernel
theorem dX6_graph_35 : decode cX6_graph 35 = .ok (.ireturn, 1) := by decide +kernel
theorem dX6_graph_36 : decode cX6_graph 36 = .ok (.aload_n 0, 1) := by decide +kernel
theorem dX6_graph_37 : decode cX6_graph 37 = .ok (.getfield 84, 3) := by decide +kernel
theorem dX6_graph_40 : decode cX6_graph 40 = .ok (.istore_n 1, 1) := by decide +kernel
theorem dX6_graph_41 : decode cX6_graph 41 = .ok (.aload_n 0, 1) := by decide +kernel
theorem dX6_graph_42 : decode cX6_graph 42 = .ok (.iload_n 1, 1) := by decide +kernel
theorem dX6_graph_43 : decode cX6_graph 43 = .ok (.putfield 99, 3) := by decide +kernel
theorem dX6_graph_46 : decode cX6_graph 46 = .ok (.iconst 0, 1) := by decide +kernel
theorem dX6_graph_47 : decode cX6_graph 47 = .ok (.istore_n 2, 1) := by decide +kernel
theorem dX6_graph_48 : decode cX6_graph 48 = .ok (.iconst 0, 1) := by decide +kernel
theorem dX6_graph_49 : decode cX6_graph 49 = .ok (.istore_n 3, 1) := by decide +kernel
theorem dX6_graph_50 : decode cX6_graph 50 = .ok (.iload_n 3, 1) := by decide +kernel
theorem dX6_graph_51 : decode cX6_graph 51 = .ok (.iload_n 1, 1) := by decide +kernel
theorem dX6_graph_52 : decode cX6_graph 52 = .ok (.if_icmp .ge 173, 3) := by decide +kernel
theorem dX6_graph_55 : decode cX6_graph 55 = .ok (.aload_n 0, 1) := by decide +kernel
theorem dX6_graph_56 : decode cX6_graph 56 = .ok (.invokevirtual 105, 3) := by decide +kernel
theorem dX6_graph_59 : decode cX6_graph 59 = .ok (.ifCond .ne 5, 3) := by decide +kernel
theorem dX6_graph_62 : decode cX6_graph 62 = .ok (.iconst (-1), 1) := by decide +kernel
theorem dX6_graph_63 : decode cX6_graph 63 = .ok (.ireturn, 1) := by decide +kernel
theorem dX6_graph_64 : decode cX6_graph 64 = .ok (.aload_n 0, 1) := by decide +kernel
theorem dX6_graph_65 : decode cX6_graph 65 = .ok (.getfield 84, 3) := by decide +kernel
theorem dX6_graph_68 : decode cX6_graph 68 = .ok (.iload_n 1, 1) := by decide +kernel
theorem dX6_graph_69 : decode cX6_graph 69 = .ok (.if_icmp .gt 15, 3) := by decide +kernel
theorem dX6_graph_72 : decode cX6_graph 72 = .ok (.iload_n 2, 1) := by decide +kernel
theorem dX6_graph_73 : decode cX6_graph 73 = .ok (.aload_n 0, 1) := by decide +kernel
theorem dX6_graph_74 : decode cX6_graph 74 = .ok (.getfield 84, 3) := by decide +kernel
theorem dX6_graph_77 : decode cX6_graph 77 = .ok (.iadd, 1) := by decide +kernel
theorem dX6_graph_78 : decode cX6_graph 78 = .ok (.sipush 2500, 3) := by decide +kernel
theorem dX6_graph_81 : decode cX6_graph 81 = .ok (.if_icmp .le 13, 3) := by decide +kernel
theorem dX6_graph_84 : decode cX6_graph 84 = .ok (.aload_n 0, 1) := by decide +kernel
theorem dX6_graph_85 : decode cX6_graph 85 = .ok (.iconst 3, 1) := by decide +kernel
theorem dX6_graph_86 : decode cX6_graph 86 = .ok (.aload_n 0, 1) := by decide +kernel
theorem dX6_graph_87 : decode cX6_graph 87 = .ok (.getfield 81, 3) := by decide +kernel
theorem dX6_graph_90 : decode cX6_graph 90 = .ok (.invokevirtual 109, 3) := by decide +kernel
theorem dX6_graph_93 : decode cX6_graph 93 = .ok (.ireturn, 1) := by decide +kernel
theorem dX6_graph_94 : decode cX6_graph 94 = .ok (.aload_n 0, 1) := by decide +kernel
theorem dX6_graph_95 : decode cX6_graph 95 = .ok (.getfield 84, 3) := by decide +kernel
theorem dX6_graph_98 : decode cX6_graph 98 = .ok (.istore 4, 2) := by decide +kernel
theorem dX6_graph_100 : decode cX6_graph 100 = .ok (.iload_n 2, 1) := by decide +kernel
theorem dX6_graph_101 : decode cX6_graph 101 = .ok (.iload 4, 2) := by decide +kernel
theorem dX6_graph_103 : decode cX6_graph 103 = .ok (.iadd, 1) := by decide +kernel
theorem dX6_graph_104 : decode cX6_graph 104 = .ok (.istore_n 2, 1) := by decide +kernel
theorem dX6_graph_105 : decode cX6_graph 105 = .ok (.iconst 0, 1) := by decide +kernel
theorem dX6_graph_106 : decode cX6_graph 106 = .ok (.istore 5, 2) := by decide +kernel
theorem dX6_graph_108 : decode cX6_graph 108 = .ok (.iconst 0, 1) := by decide +kernel
theorem dX6_graph_109 : decode cX6_graph 109 = .ok (.istore 6, 2) := by decide +kernel
theorem dX6_graph_111 : decode cX6_graph 111 = .ok (.iload 6, 2) := by decide +kernel
theorem dX6_graph_113 : decode cX6_graph 113 = .ok (.iload 4, 2) := by decide +kernel
theorem dX6_graph_115 : decode cX6_graph 115 = .ok (.if_icmp .ge 104, 3) := by decide +kernel
theorem dX6_graph_118 : decode cX6_graph 118 = .ok (.aload_n 0, 1) := by decide +kernel
theorem dX6_graph_119 : decode cX6_graph 119 = .ok (.invokevirtual 105, 3) := by decide +kernel
theorem dX6_graph_122 : decode cX6_graph 122 = .ok (.ifCond .ne 5, 3) := by decide +kernel
theorem dX6_graph_125 : decode cX6_graph 125 = .ok (.iconst (-1), 1) := by decide +kernel
theorem dX6_graph_126 : decode cX6_graph 126 = .ok (.ireturn, 1) := by decide +kernel
theorem dX6_graph_127 : decode cX6_graph 127 = .ok (.iload 6, 2) := by decide +kernel
theorem dX6_graph_129 : decode cX6_graph 129 = .ok (.ifCond .le 17, 3) := by decide +kernel
theorem dX6_graph_132 : decode cX6_graph 132 = .ok (.iload 5, 2) := by decide +kernel
theorem dX6_graph_134 : decode cX6_graph 134 = .ok (.aload_n 0, 1) := by decide +kernel
theorem dX6_graph_135 : decode cX6_graph 135 = .ok (.getfield 84, 3) := by decide +kernel
theorem dX6_graph_138 : decode cX6_graph 138 = .ok (.iadd, 1) := by decide +kernel
theorem dX6_graph_139 : decode cX6_graph 139 = .ok (.iconst 1, 1) := by decide +kernel
theorem dX6_graph_140 : decode cX6_graph 140 = .ok (.iadd, 1) := by decide +kernel
theorem dX6_graph_141 : decode cX6_graph 141 = .ok (.istore 5, 2) := by decide +kernel
theorem dX6_graph_143 : decode cX6_graph 143 = .ok (.goto 35, 3) := by decide +kernel
theorem dX6_graph_146 : decode cX6_graph 146 = .ok (.aload_n 0, 1) := by decide +kernel
theorem dX6_graph_147 : decode cX6_graph 147 = .ok (.getfield 84, 3) := by decide +kernel
theorem dX6_graph_150 : decode cX6_graph 150 = .ok (.iconst 2, 1) := by decide +kernel
theorem dX6_graph_151 : decode cX6_graph 151 = .ok (.irem, 1) := by decide +kernel
theorem dX6_graph_152 : decode cX6_graph 152 = .ok (.ifCond .ne 14, 3) := by decide +kernel
theorem dX6_graph_155 : decode cX6_graph 155 = .ok (.iload_n 3, 1) := by decide +kernel
theorem dX6_graph_156 : decode cX6_graph 156 = .ok (.aload_n 0, 1) := by decide +kernel
theorem dX6_graph_157 : decode cX6_graph 157 = .ok (.getfield 84, 3) := by decide +kernel
theorem dX6_graph_160 : decode cX6_graph 160 = .ok (.iconst 2, 1) := by decide +kernel
theorem dX6_graph_161 : decode cX6_graph 161 = .ok (.idiv, 1) := by decide +kernel
theorem dX6_graph_162 : decode cX6_graph 162 = .ok (.iadd, 1) := by decide +kernel
theorem dX6_graph_163 : decode cX6_graph 163 = .ok (.goto 13, 3) := by decide +kernel
theorem dX6_graph_166 : decode cX6_graph 166 = .ok (.iload_n 3, 1) := by decide +kernel
theorem dX6_graph_167 : decode cX6_graph 167 = .ok (.aload_n 0, 1) := by decide +kernel
theorem dX6_graph_168 : decode cX6_graph 168 = .ok (.getfield 84, 3) := by decide +kernel
theorem dX6_graph_171 : decode cX6_graph 171 = .ok (.iconst 1, 1) := by decide +kernel
theorem dX6_graph_172 : decode cX6_graph 172 = .ok (.iadd, 1) := by decide +kernel
theorem dX6_graph_173 : decode cX6_graph 173 = .ok (.iconst 2, 1) := by decide +kernel
theorem dX6_graph_174 : decode cX6_graph 174 = .ok (.idiv, 1) := by decide +kernel
theorem dX6_graph_175 : decode cX6_graph 175 = .ok (.isub, 1) := by decide +kernel
theorem dX6_graph_176 : decode cX6_graph 176 = .ok (.istore 5, 2) := by decide +kernel
theorem dX6_graph_178 : decode cX6_graph 178 = .ok (.iload 5, 2) := by decide +kernel
theorem dX6_graph_180 : decode cX6_graph 180 = .ok (.ifCond .lt 9, 3) := by decide +kernel
theorem dX6_graph_183 : decode cX6_graph 183 = .ok (.iload 5, 2) := by decide +kernel
theorem dX6_graph_185 : decode cX6_graph 185 = .ok (.iload_n 1, 1) := by decide +kernel
theorem dX6_graph_186 : decode cX6_graph 186 = .ok (.if_icmp .lt 13, 3) := by decide +kernel
theorem dX6_graph_189 : decode cX6_graph 189 = .ok (.aload_n 0, 1) := by decide +kernel
theorem dX6_graph_190 : decode cX6_graph 190 = .ok (.iconst 3, 1) := by decide +kernel
theorem dX6_graph_191 : decode cX6_graph 191 = .ok (.aload_n 0, 1) := by decide +kernel
theorem dX6_graph_192 : decode cX6_graph 192 = .ok (.getfield 81, 3) := by decide +kernel
theorem dX6_graph_195 : decode cX6_graph 195 = .ok (.invokevirtual 109, 3) := by decide +kernel
theorem dX6_graph_198 : decode cX6_graph 198 = .ok (.ireturn, 1) := by decide +kernel
theorem dX6_graph_199 : decode cX6_graph 199 = .ok (.aload_n 0, 1) := by decide +kernel
theorem dX6_graph_200 : decode cX6_graph 200 = .ok (.getfield 18, 3) := by decide +kernel
theorem dX6_graph_203 : decode cX6_graph 203 = .ok (.sipush 250, 3) := by decide +kernel
theorem dX6_graph_206 : decode cX6_graph 206 = .ok (.iload_n 3, 1) := by decide +kernel
theorem dX6_graph_207 : decode cX6_graph 207 = .ok (.imul, 1) := by decide +kernel
theorem dX6_graph_208 : decode cX6_graph 208 = .ok (.iload 5, 2) := by decide +kernel
theorem dX6_graph_210 : decode cX6_graph 210 = .ok (.iadd, 1) := by decide +kernel
theorem dX6_graph_211 : decode cX6_graph 211 = .ok (.iconst 1, 1) := by decide +kernel
theorem dX6_graph_212 : decode cX6_graph 212 = .ok (.bastore, 1) := by decide +kernel
theorem dX6_graph_213 : decode cX6_graph 213 = .ok (.iinc 6 1, 3) := by decide +kernel
theorem dX6_graph_216 : decode cX6_graph 216 = .ok (.goto (-105), 3) := by decide +kernel
theorem dX6_graph_219 : decode cX6_graph 219 = .ok (.iinc 3 1, 3) := by decide +kernel
theorem dX6_graph_222 : decode cX6_graph 222 = .ok (.goto (-172), 3) := by decide +kernel
theorem dX6_graph_225 : decode cX6_graph 225 = .ok (.aload_n 0, 1) := by decide +kernel
theorem dX6_graph_226 : decode cX6_graph 226 = .ok (.getfield 78, 3) := by decide +kernel
theorem dX6_graph_229 : decode cX6_graph 229 = .ok (.aload_n 0, 1) := by decide +kernel
theorem dX6_graph_230 : decode cX6_graph 230 = .ok (.getfield 87, 3) := by decide +kernel
theorem dX6_graph_233 : decode cX6_graph 233 = .ok (.if_icmp .ge 15, 3) := by decide +kernel
theorem dX6_graph_236 : decode cX6_graph 236 = .ok (.aload_n 0, 1) := by decide +kernel
theorem dX6_graph_237 : decode cX6_graph 237 = .ok (.iconst 4, 1) := by decide +kernel
theorem dX6_graph_238 : decode cX6_graph 238 = .ok (.aload_n 0, 1) := by decide +kernel
theorem dX6_graph_239 : decode cX6_graph 239 = .ok (.getfield 78, 3) := by decide +kernel
theorem dX6_graph_242 : decode cX6_graph 242 = .ok (.invokevirtual 109, 3) := by decide +kernel
theorem dX6_graph_245 : decode cX6_graph 245 = .ok (.goto 4, 3) := by decide +kernel
theorem dX6_graph_248 : decode cX6_graph 248 = .ok (.iload_n 2, 1) := by decide +kernel
theorem dX6_graph_249 : decode cX6_graph 249 = .ok (.ireturn, 1) := by decide +kernel
theorem dX6_fault_0 : decode cX6_fault 0 = .ok (.aload_n 0, 1) := by decide +kernel
theorem dX6_fault_1 : decode cX6_fault 1 = .ok (.iconst 0, 1) := by decide +kernel
theorem dX6_fault_2 : decode cX6_fault 2 = .ok (.putfield 1, 3) := by decide +kernel
theorem dX6_fault_5 : decode cX6_fault 5 = .ok (.aload_n 0, 1) := by decide +kernel
theorem dX6_fault_6 : decode cX6_fault 6 = .ok (.getfield 72, 3) := by decide +kernel
theorem dX6_fault_9 : decode cX6_fault 9 = .ok (.ireturn, 1) := by decide +kernel
set_option maxRecDepth 20000 in
theorem ggX6_clear_X6_begin : GoodIn wsX6_clear wsX6_begin := goodIn_r _ [11, 2, 12, 13, 14, 15, 16, 17, 18, 19, 20, 21, 22, 23, 24, 25, 26, 27, 28, 29, 30, 31, 32, 33, 34, 35, 36, 37, 38, 39, 40, 41] (by decide +kernel) (by decide +kernel)
set_option maxRecDepth 20000 in
theorem gX6_clear_X6_begin : GoodIn wsX6_clear (wsV RX6 48 RX6 yX6_begin wsX6_begin) := goodIn_app (goodIn_of _ (by decide +kernel)) ggX6_clear_X6_begin
theorem dX6_clear_0 : decode cX6_clear 0 = .ok (.aload_n 0, 1) := by decide +kernel
theorem dX6_clear_1 : decode cX6_clear 1 = .ok (.iconst 0, 1) := by decide +kernel
theorem dX6_clear_2 : decode cX6_clear 2 = .ok (.putfield 1, 3) := by decide +kernel
theorem dX6_clear_5 : decode cX6_clear 5 = .ok (.iload_n 1, 1) := by decide +kernel
theorem dX6_clear_6 : decode cX6_clear 6 = .ok (.iconst 1, 1) := by decide +kernel
theorem dX6_clear_7 : decode cX6_clear 7 = .ok (.if_icmp .lt 10, 3) := by decide +kernel
theorem dX6_clear_10 : decode cX6_clear 10 = .ok (.iload_n 1, 1) := by decide +kernel
theorem dX6_clear_11 : decode cX6_clear 11 = .ok (.sipush 250, 3) := by decide +kernel
theorem dX6_clear_14 : decode cX6_clear 14 = .ok (.if_icmp .le 5, 3) := by decide +kernel
theorem dX6_clear_17 : decode cX6_clear 17 = .ok (.iconst 0, 1) := by decide +kernel
theorem dX6_clear_18 : decode cX6_clear 18 = .ok (.ireturn, 1) := by decide +kernel
theorem dX6_clear_19 : decode cX6_clear 19 = .ok (.aload_n 0, 1) := by decide +kernel
theorem dX6_clear_20 : decode cX6_clear 20 = .ok (.iload_n 1, 1) := by decide +kernel
theorem dX6_clear_21 : decode cX6_clear 21 = .ok (.putfield 32, 3) := by decide +kernel
theorem dX6_clear_24 : decode cX6_clear 24 = .ok (.aload_n 0, 1) := by decide +kernel
theorem dX6_clear_25 : decode cX6_clear 25 = .ok (.iconst 0, 1) := by decide +kernel
theorem dX6_clear_26 : decode cX6_clear 26 = .ok (.putfield 102, 3) := by decide +kernel
theorem dX6_clear_29 : decode cX6_clear 29 = .ok (.iconst 0, 1) := by decide +kernel
theorem dX6_clear_30 : decode cX6_clear 30 = .ok (.istore_n 2, 1) := by decide +kernel
theorem dX6_clear_31 : decode cX6_clear 31 = .ok (.iload_n 2, 1) := by decide +kernel
theorem dX6_clear_32 : decode cX6_clear 32 = .ok (.ldc 13, 2) := by decide +kernel
theorem dX6_clear_34 : decode cX6_clear 34 = .ok (.if_icmp .ge 16, 3) := by decide +kernel
theorem dX6_clear_37 : decode cX6_clear 37 = .ok (.aload_n 0, 1) := by decide +kernel
theorem dX6_clear_38 : decode cX6_clear 38 = .ok (.getfield 14, 3) := by decide +kernel
theorem dX6_clear_41 : decode cX6_clear 41 = .ok (.iload_n 2, 1) := by decide +kernel
theorem dX6_clear_42 : decode cX6_clear 42 = .ok (.iconst 0, 1) := by decide +kernel
theorem dX6_clear_43 : decode cX6_clear 43 = .ok (.bastore, 1) := by decide +kernel
theorem dX6_clear_44 : decode cX6_clear 44 = .ok (.iinc 2 1, 3) := by decide +kernel
theorem dX6_clear_47 : decode cX6_clear 47 = .ok (.goto (-16), 3) := by decide +kernel
theorem dX6_clear_50 : decode cX6_clear 50 = .ok (.iconst 0, 1) := by decide +kernel
theorem dX6_clear_51 : decode cX6_clear 51 = .ok (.istore_n 2, 1) := by decide +kernel
theorem dX6_clear_52 : decode cX6_clear 52 = .ok (.iload_n 2, 1) := by decide +kernel
theorem dX6_clear_53 : decode cX6_clear 53 = .ok (.iload_n 1, 1) := by decide +kernel
theorem dX6_clear_54 : decode cX6_clear 54 = .ok (.if_icmp .ge 16, 3) := by decide +kernel
theorem dX6_clear_57 : decode cX6_clear 57 = .ok (.aload_n 0, 1) := by decide +kernel
theorem dX6_clear_58 : decode cX6_clear 58 = .ok (.getfield 21, 3) := by decide +kernel
theorem dX6_clear_61 : decode cX6_clear 61 = .ok (.iload_n 2, 1) := by decide +kernel
theorem dX6_clear_62 : decode cX6_clear 62 = .ok (.iconst 1, 1) := by decide +kernel
theorem dX6_clear_63 : decode cX6_clear 63 = .ok (.iastore, 1) := by decide +kernel
theorem dX6_clear_64 : decode cX6_clear 64 = .ok (.iinc 2 1, 3) := by decide +kernel
theorem dX6_clear_67 : decode cX6_clear 67 = .ok (.goto (-15), 3) := by decide +kernel
theorem dX6_clear_70 : decode cX6_clear 70 = .ok (.aload_n 0, 1) := by decide +kernel
theorem dX6_clear_71 : decode cX6_clear 71 = .ok (.invokevirtual 48, 3) := by decide +kernel
theorem dX6_clear_74 : decode cX6_clear 74 = .ok (.iconst 1, 1) := by decide +kernel
theorem dX6_clear_75 : decode cX6_clear 75 = .ok (.ireturn, 1) := by decide +kernel
set_option maxRecDepth 20000 in
theorem ggX6_add_X6_no : GoodIn wsX6_add wsX6_no := goodIn_r _ [8, 9, 24, 25, 26, 27, 28, 29, 30, 31, 32, 33, 34, 35, 36, 37, 38, 39, 40, 41, 42, 43, 44, 45, 46, 47] (by decide +kernel) (by decide +kernel)
set_option maxRecDepth 20000 in
theorem gX6_add_X6_no : GoodIn wsX6_add (wsV RX6 113 RX6 yX6_no wsX6_no) := goodIn_app (goodIn_of _ (by decide +kernel)) ggX6_add_X6_no
set_option maxRecDepth 20000 in
theorem ggX6_add_X6_goes : GoodIn wsX6_add wsX6_goes := goodIn_r _ [13, 3, 24, 25, 26, 27, 28, 29, 30, 31, 32, 33, 34, 35, 36, 37, 38, 39, 40, 41, 42, 43, 44, 45, 46, 47] (by decide +kernel) (by decide +kernel)
set_option maxRecDepth 20000 in
theorem gX6_add_X6_goes : GoodIn wsX6_add (wsV RX6 117 RX6 yX6_goes wsX6_goes) := goodIn_app (goodIn_of _ (by decide +kernel)) ggX6_add_X6_goes
set_option maxRecDepth 20000 in
theorem ggX6_add_X6_begin : GoodIn wsX6_add wsX6_begin := goodIn_r _ [17, 9, 18, 19, 20, 21, 22, 23, 24, 25, 26, 27, 28, 29, 30, 31, 32, 33, 34, 35, 36, 37, 38, 39, 40, 41, 42, 43, 44, 45, 46, 47] (by decide +kernel) (by decide +kernel)
set_option maxRecDepth 20000 in
theorem gX6_add_X6_begin : GoodIn wsX6_add (wsV RX6 48 RX6 yX6_begin wsX6_begin) := goodIn_app (goodIn_of _ (by decide +kernel)) ggX6_add_X6_begin
theorem dX6_add_0 : decode cX6_add 0 = .ok (.aload_n 0, 1) := by decide +kernel
theorem dX6_add_1 : decode cX6_add 1 = .ok (.iconst 0, 1) := by decide +kernel
theorem dX6_add_2 : decode cX6_add 2 = .ok (.putfield 1, 3) := by decide +kernel
theorem dX6_add_5 : decode cX6_add 5 = .ok (.aload_n 0, 1) := by decide +kernel
theorem dX6_add_6 : decode cX6_add 6 = .ok (.iload_n 1, 1) := by decide +kernel
theorem dX6_add_7 : decode cX6_add 7 = .ok (.invokevirtual 113, 3) := by decide +kernel
theorem dX6_add_10 : decode cX6_add 10 = .ok (.ifCond .ne 30, 3) := by decide +kernel
theorem dX6_add_13 : decode cX6_add 13 = .ok (.aload_n 0, 1) := by decide +kernel
theorem dX6_add_14 : decode cX6_add 14 = .ok (.iload_n 2, 1) := by decide +kernel
theorem dX6_add_15 : decode cX6_add 15 = .ok (.invokevirtual 113, 3) := by decide +kernel
theorem dX6_add_18 : decode cX6_add 18 = .ok (.ifCond .ne 22, 3) := by decide +kernel
theorem dX6_add_21 : decode cX6_add 21 = .ok (.aload_n 0, 1) := by decide +kernel
theorem dX6_add_22 : decode cX6_add 22 = .ok (.iload_n 1, 1) := by decide +kernel
theorem dX6_add_23 : decode cX6_add 23 = .ok (.iload_n 2, 1) := by decide +kernel
theorem dX6_add_24 : decode cX6_add 24 = .ok (.invokevirtual 117, 3) := by decide +kernel
theorem dX6_add_27 : decode cX6_add 27 = .ok (.ifCond .ne 13, 3) := by decide +kernel
theorem dX6_add_30 : decode cX6_add 30 = .ok (.aload_n 0, 1) := by decide +kernel
theorem dX6_add_31 : decode cX6_add 31 = .ok (.getfield 102, 3) := by decide +kernel
theorem dX6_add_34 : decode cX6_add 34 = .ok (.sipush 2500, 3) := by decide +kernel
theorem dX6_add_37 : decode cX6_add 37 = .ok (.if_icmp .ne 5, 3) := by decide +kernel
theorem dX6_add_40 : decode cX6_add 40 = .ok (.iconst 0, 1) := by decide +kernel
theorem dX6_add_41 : decode cX6_add 41 = .ok (.ireturn, 1) := by decide +kernel
theorem dX6_add_42 : decode cX6_add 42 = .ok (.aload_n 0, 1) := by decide +kernel
theorem dX6_add_43 : decode cX6_add 43 = .ok (.getfield 14, 3) := by decide +kernel
theorem dX6_add_46 : decode cX6_add 46 = .ok (.sipush 250, 3) := by decide +kernel
theorem dX6_add_49 : decode cX6_add 49 = .ok (.iload_n 1, 1) := by decide +kernel
theorem dX6_add_50 : decode cX6_add 50 = .ok (.imul, 1) := by decide +kernel
theorem dX6_add_51 : decode cX6_add 51 = .ok (.iload_n 2, 1) := by decide +kernel
theorem dX6_add_52 : decode cX6_add 52 = .ok (.iadd, 1) := by decide +kernel
theorem dX6_add_53 : decode cX6_add 53 = .ok (.iconst 1, 1) := by decide +kernel
theorem dX6_add_54 : decode cX6_add 54 = .ok (.bastore, 1) := by decide +kernel
theorem dX6_add_55 : decode cX6_add 55 = .ok (.aload_n 0, 1) := by decide +kernel
theorem dX6_add_56 : decode cX6_add 56 = .ok (.dup, 1) := by decide +kernel
theorem dX6_add_57 : decode cX6_add 57 = .ok (.getfield 102, 3) := by decide +kernel
theorem dX6_add_60 : decode cX6_add 60 = .ok (.iconst 1, 1) := by decide +kernel
theorem dX6_add_61 : decode cX6_add 61 = .ok (.iadd, 1) := by decide +kernel
theorem dX6_add_62 : decode cX6_add 62 = .ok (.putfield 102, 3) := by decide +kernel
theorem dX6_add_65 : decode cX6_add 65 = .ok (.aload_n 0, 1) := by decide +kernel
theorem dX6_add_66 : decode cX6_add 66 = .ok (.invokevirtual 48, 3) := by decide +kernel
theorem dX6_add_69 : decode cX6_add 69 = .ok (.iconst 1, 1) := by decide +kernel
theorem dX6_add_70 : decode cX6_add 70 = .ok (.ireturn, 1) := by decide +kernel
set_option maxRecDepth 20000 in
theorem ggX6_cut_X6_no : GoodIn wsX6_cut wsX6_no := goodIn_r _ [8, 9, 24, 25, 26, 27, 28, 29, 30, 31, 32, 33, 34, 35, 36, 37, 38, 39, 40, 41, 42, 43, 44, 45, 46, 47] (by decide +kernel) (by decide +kernel)
set_option maxRecDepth 20000 in
theorem gX6_cut_X6_no : GoodIn wsX6_cut (wsV RX6 113 RX6 yX6_no wsX6_no) := goodIn_app (goodIn_of _ (by decide +kernel)) ggX6_cut_X6_no
set_option maxRecDepth 20000 in
theorem ggX6_cut_X6_goes : GoodIn wsX6_cut wsX6_goes := goodIn_r _ [13, 2, 24, 25, 26, 27, 28, 29, 30, 31, 32, 33, 34, 35, 36, 37, 38, 39, 40, 41, 42, 43, 44, 45, 46, 47] (by decide +kernel) (by decide +kernel)
set_option maxRecDepth 20000 in
theorem gX6_cut_X6_goes : GoodIn wsX6_cut (wsV RX6 117 RX6 yX6_goes wsX6_goes) := goodIn_app (goodIn_of _ (by decide +kernel)) ggX6_cut_X6_goes
set_option maxRecDepth 20000 in
theorem ggX6_cut_X6_begin : GoodIn wsX6_cut wsX6_begin := goodIn_r _ [17, 9, 18, 19, 20, 21, 22, 23, 24, 25, 26, 27, 28, 29, 30, 31, 32, 33, 34, 35, 36, 37, 38, 39, 40, 41, 42, 43, 44, 45, 46, 47] (by decide +kernel) (by decide +kernel)
set_option maxRecDepth 20000 in
theorem gX6_cut_X6_begin : GoodIn wsX6_cut (wsV RX6 48 RX6 yX6_begin wsX6_begin) := goodIn_app (goodIn_of _ (by decide +kernel)) ggX6_cut_X6_begin
theorem dX6_cut_0 : decode cX6_cut 0 = .ok (.aload_n 0, 1) := by decide +kernel
theorem dX6_cut_1 : decode cX6_cut 1 = .ok (.iconst 0, 1) := by decide +kernel
theorem dX6_cut_2 : decode cX6_cut 2 = .ok (.putfield 1, 3) := by decide +kernel
theorem dX6_cut_5 : decode cX6_cut 5 = .ok (.aload_n 0, 1) := by decide +kernel
theorem dX6_cut_6 : decode cX6_cut 6 = .ok (.iload_n 1, 1) := by decide +kernel
theorem dX6_cut_7 : decode cX6_cut 7 = .ok (.invokevirtual 113, 3) := by decide +kernel
theorem dX6_cut_10 : decode cX6_cut 10 = .ok (.ifCond .ne 20, 3) := by decide +kernel
theorem dX6_cut_13 : decode cX6_cut 13 = .ok (.aload_n 0, 1) := by decide +kernel
theorem dX6_cut_14 : decode cX6_cut 14 = .ok (.iload_n 2, 1) := by decide +kernel
theorem dX6_cut_15 : decode cX6_cut 15 = .ok (.invokevirtual 113, 3) := by decide +kernel
theorem dX6_cut_18 : decode cX6_cut 18 = .ok (.ifCond .ne 12, 3) := by decide +kernel
theorem dX6_cut_21 : decode cX6_cut 21 = .ok (.aload_n 0, 1) := by decide +kernel
theorem dX6_cut_22 : decode cX6_cut 22 = .ok (.iload_n 1, 1) := by decide +kernel
theorem dX6_cut_23 : decode cX6_cut 23 = .ok (.iload_n 2, 1) := by decide +kernel
theorem dX6_cut_24 : decode cX6_cut 24 = .ok (.invokevirtual 117, 3) := by decide +kernel
theorem dX6_cut_27 : decode cX6_cut 27 = .ok (.ifCond .ne 5, 3) := by decide +kernel
theorem dX6_cut_30 : decode cX6_cut 30 = .ok (.iconst 0, 1) := by decide +kernel
theorem dX6_cut_31 : decode cX6_cut 31 = .ok (.ireturn, 1) := by decide +kernel
theorem dX6_cut_32 : decode cX6_cut 32 = .ok (.aload_n 0, 1) := by decide +kernel
theorem dX6_cut_33 : decode cX6_cut 33 = .ok (.getfield 14, 3) := by decide +kernel
theorem dX6_cut_36 : decode cX6_cut 36 = .ok (.sipush 250, 3) := by decide +kernel
theorem dX6_cut_39 : decode cX6_cut 39 = .ok (.iload_n 1, 1) := by decide +kernel
theorem dX6_cut_40 : decode cX6_cut 40 = .ok (.imul, 1) := by decide +kernel
theorem dX6_cut_41 : decode cX6_cut 41 = .ok (.iload_n 2, 1) := by decide +kernel
theorem dX6_cut_42 : decode cX6_cut 42 = .ok (.iadd, 1) := by decide +kernel
theorem dX6_cut_43 : decode cX6_cut 43 = .ok (.iconst 0, 1) := by decide +kernel
theorem dX6_cut_44 : decode cX6_cut 44 = .ok (.bastore, 1) := by decide +kernel
theorem dX6_cut_45 : decode cX6_cut 45 = .ok (.aload_n 0, 1) := by decide +kernel
theorem dX6_cut_46 : decode cX6_cut 46 = .ok (.dup, 1) := by decide +kernel
theorem dX6_cut_47 : decode cX6_cut 47 = .ok (.getfield 102, 3) := by decide +kernel
theorem dX6_cut_50 : decode cX6_cut 50 = .ok (.iconst 1, 1) := by decide +kernel
theorem dX6_cut_51 : decode cX6_cut 51 = .ok (.isub, 1) := by decide +kernel
theorem dX6_cut_52 : decode cX6_cut 52 = .ok (.putfield 102, 3) := by decide +kernel
theorem dX6_cut_55 : decode cX6_cut 55 = .ok (.aload_n 0, 1) := by decide +kernel
theorem dX6_cut_56 : decode cX6_cut 56 = .ok (.invokevirtual 48, 3) := by decide +kernel
theorem dX6_cut_59 : decode cX6_cut 59 = .ok (.iconst 1, 1) := by decide +kernel
theorem dX6_cut_60 : decode cX6_cut 60 = .ok (.ireturn, 1) := by decide +kernel
set_option maxRecDepth 20000 in
theorem ggX6_has_X6_no : GoodIn wsX6_has wsX6_no := goodIn_r _ [6, 7, 13, 14, 15, 16, 17, 18, 19, 20, 21, 22, 23, 24, 25, 26, 27, 28, 29, 30, 31, 32, 33, 34, 35, 36] (by decide +kernel) (by decide +kernel)
set_option maxRecDepth 20000 in
theorem gX6_has_X6_no : GoodIn wsX6_has (wsV RX6 113 RX6 yX6_no wsX6_no) := goodIn_app (goodIn_of _ (by decide +kernel)) ggX6_has_X6_no
set_option maxRecDepth 20000 in
theorem ggX6_has_X6_goes : GoodIn wsX6_has wsX6_goes := goodIn_r _ [11, 12, 13, 14, 15, 16, 17, 18, 19, 20, 21, 22, 23, 24, 25, 26, 27, 28, 29, 30, 31, 32, 33, 34, 35, 36] (by decide +kernel) (by decide +kernel)
set_option maxRecDepth 20000 in
theorem gX6_has_X6_goes : GoodIn wsX6_has (wsV RX6 117 RX6 yX6_goes wsX6_goes) := goodIn_app (goodIn_of _ (by decide +kernel)) ggX6_has_X6_goes
theorem dX6_has_0 : decode cX6_has 0 = .ok (.aload_n 0, 1) := by decide +kernel
theorem dX6_has_1 : decode cX6_has 1 = .ok (.iconst 0, 1) := by decide +kernel
theorem dX6_has_2 : decode cX6_has 2 = .ok (.putfield 1, 3) := by decide +kernel
theorem dX6_has_5 : decode cX6_has 5 = .ok (.aload_n 0, 1) := by decide +kernel
theorem dX6_has_6 : decode cX6_has 6 = .ok (.iload_n 1, 1) := by decide +kernel
theorem dX6_has_7 : decode cX6_has 7 = .ok (.invokevirtual 113, 3) := by decide +kernel
theorem dX6_has_10 : decode cX6_has 10 = .ok (.ifCond .ne 24, 3) := by decide +kernel
theorem dX6_has_13 : decode cX6_has 13 = .ok (.aload_n 0, 1) := by decide +kernel
theorem dX6_has_14 : decode cX6_has 14 = .ok (.iload_n 2, 1) := by decide +kernel
theorem dX6_has_15 : decode cX6_has 15 = .ok (.invokevirtual 113, 3) := by decide +kernel
theorem dX6_has_18 : decode cX6_has 18 = .ok (.ifCond .ne 16, 3) := by decide +kernel
theorem dX6_has_21 : decode cX6_has 21 = .ok (.aload_n 0, 1) := by decide +kernel
theorem dX6_has_22 : decode cX6_has 22 = .ok (.iload_n 1, 1) := by decide +kernel
theorem dX6_has_23 : decode cX6_has 23 = .ok (.iload_n 2, 1) := by decide +kernel
theorem dX6_has_24 : decode cX6_has 24 = .ok (.invokevirtual 117, 3) := by decide +kernel
theorem dX6_has_27 : decode cX6_has 27 = .ok (.ifCond .eq 7, 3) := by decide +kernel
theorem dX6_has_30 : decode cX6_has 30 = .ok (.iconst 1, 1) := by decide +kernel
theorem dX6_has_31 : decode cX6_has 31 = .ok (.goto 4, 3) := by decide +kernel
theorem dX6_has_34 : decode cX6_has 34 = .ok (.iconst 0, 1) := by decide +kernel
theorem dX6_has_35 : decode cX6_has 35 = .ok (.ireturn, 1) := by decide +kernel
set_option maxRecDepth 20000 in
theorem ggX6_many_X6_goes : GoodIn wsX6_many wsX6_goes := goodIn_r _ [6, 7, 8, 9, 10, 11, 12, 13, 14, 15, 16, 17, 18, 19, 20, 21, 22, 23, 24, 25, 26, 27, 28, 29, 30, 31] (by decide +kernel) (by decide +kernel)
set_option maxRecDepth 20000 in
theorem gX6_many_X6_goes : GoodIn wsX6_many (wsV RX6 117 RX6 yX6_goes wsX6_goes) := goodIn_app (goodIn_of _ (by decide +kernel)) ggX6_many_X6_goes
theorem dX6_many_0 : decode cX6_many 0 = .ok (.iconst 0, 1) := by decide +kernel
theorem dX6_many_1 : decode cX6_many 1 = .ok (.istore_n 3, 1) := by decide +kernel
theorem dX6_many_2 : decode cX6_many 2 = .ok (.iconst 0, 1) := by decide +kernel
theorem dX6_many_3 : decode cX6_many 3 = .ok (.istore 4, 2) := by decide +kernel
theorem dX6_many_5 : decode cX6_many 5 = .ok (.iload 4, 2) := by decide +kernel
theorem dX6_many_7 : decode cX6_many 7 = .ok (.aload_n 0, 1) := by decide +kernel
theorem dX6_many_8 : decode cX6_many 8 = .ok (.getfield 32, 3) := by decide +kernel
theorem dX6_many_11 : decode cX6_many 11 = .ok (.if_icmp .ge 44, 3) := by decide +kernel
theorem dX6_many_14 : decode cX6_many 14 = .ok (.iload_n 3, 1) := by decide +kernel
theorem dX6_many_15 : decode cX6_many 15 = .ok (.iload_n 2, 1) := by decide +kernel
theorem dX6_many_16 : decode cX6_many 16 = .ok (.ifCond .ne 16, 3) := by decide +kernel
theorem dX6_many_19 : decode cX6_many 19 = .ok (.aload_n 0, 1) := by decide +kernel
theorem dX6_many_20 : decode cX6_many 20 = .ok (.iload_n 1, 1) := by decide +kernel
theorem dX6_many_21 : decode cX6_many 21 = .ok (.iload 4, 2) := by decide +kernel
theorem dX6_many_23 : decode cX6_many 23 = .ok (.invokevirtual 117, 3) := by decide +kernel
theorem dX6_many_26 : decode cX6_many 26 = .ok (.ifCond .eq 20, 3) := by decide +kernel
theorem dX6_many_29 : decode cX6_many 29 = .ok (.goto 13, 3) := by decide +kernel
theorem dX6_many_32 : decode cX6_many 32 = .ok (.aload_n 0, 1) := by decide +kernel
theorem dX6_many_33 : decode cX6_many 33 = .ok (.iload 4, 2) := by decide +kernel
theorem dX6_many_35 : decode cX6_many 35 = .ok (.iload_n 1, 1) := by decide +kernel
theorem dX6_many_36 : decode cX6_many 36 = .ok (.invokevirtual 117, 3) := by decide +kernel
theorem dX6_many_39 : decode cX6_many 39 = .ok (.ifCond .eq 7, 3) := by decide +kernel
theorem dX6_many_42 : decode cX6_many 42 = .ok (.iconst 1, 1) := by decide +kernel
theorem dX6_many_43 : decode cX6_many 43 = .ok (.goto 4, 3) := by decide +kernel
theorem dX6_many_46 : decode cX6_many 46 = .ok (.iconst 0, 1) := by decide +kernel
theorem dX6_many_47 : decode cX6_many 47 = .ok (.iadd, 1) := by decide +kernel
theorem dX6_many_48 : decode cX6_many 48 = .ok (.istore_n 3, 1) := by decide +kernel
theorem dX6_many_49 : decode cX6_many 49 = .ok (.iinc 4 1, 3) := by decide +kernel
theorem dX6_many_52 : decode cX6_many 52 = .ok (.goto (-47), 3) := by decide +kernel
theorem dX6_many_55 : decode cX6_many 55 = .ok (.iload_n 3, 1) := by decide +kernel
theorem dX6_many_56 : decode cX6_many 56 = .ok (.ireturn, 1) := by decide +kernel
set_option maxRecDepth 20000 in
theorem ggX6_edges_X6_no : GoodIn wsX6_edges wsX6_no := goodIn_r _ [5, 6, 21, 22, 23, 24, 25, 26, 27, 28, 29, 30, 31, 32, 33, 34, 35, 36, 37, 38, 39, 40, 41, 42, 43, 44] (by decide +kernel) (by decide +kernel)
set_option maxRecDepth 20000 in
theorem gX6_edges_X6_no : GoodIn wsX6_edges (wsV RX6 113 RX6 yX6_no wsX6_no) := goodIn_app (goodIn_of _ (by decide +kernel)) ggX6_edges_X6_no
set_option maxRecDepth 20000 in
theorem ggX6_edges_X6_throwsIf : GoodIn wsX6_edges wsX6_throwsIf := goodIn_r _ [10, 11, 21, 22, 23, 24, 25, 26, 27, 28, 29, 30, 31, 32, 33, 34, 35, 36, 37, 38, 39, 40, 41, 42, 43, 44] (by decide +kernel) (by decide +kernel)
set_option maxRecDepth 20000 in
theorem gX6_edges_X6_throwsIf : GoodIn wsX6_edges (wsV RX6 120 RX6 yX6_throwsIf wsX6_throwsIf) := goodIn_app (goodIn_of _ (by decide +kernel)) ggX6_edges_X6_throwsIf
set_option maxRecDepth 20000 in
theorem ggX6_edges_X6_many : GoodIn wsX6_edges wsX6_many := goodIn_r _ [15, 6, 16, 17, 18, 4, 19, 20, 21, 22, 23, 24, 25, 26, 27, 28, 29, 30, 31, 32, 33, 34, 35, 36, 37, 38, 39, 40, 41, 42, 43, 44] (by decide +kernel) (by decide +kernel)
set_option maxRecDepth 20000 in
theorem gX6_edges_X6_many : GoodIn wsX6_edges (wsV RX6 124 RX6 yX6_many wsX6_many) := goodIn_app (goodIn_of _ (by decide +kernel)) ggX6_edges_X6_many
theorem dX6_edges_0 : decode cX6_edges 0 = .ok (.aload_n 0, 1) := by decide +kernel
theorem dX6_edges_1 : decode cX6_edges 1 = .ok (.aload_n 0, 1) := by decide +kernel
theorem dX6_edges_2 : decode cX6_edges 2 = .ok (.iload_n 1, 1) := by decide +kernel
theorem dX6_edges_3 : decode cX6_edges 3 = .ok (.invokevirtual 113, 3) := by decide +kernel
theorem dX6_edges_6 : decode cX6_edges 6 = .ok (.ifCond .ne 12, 3) := by decide +kernel
theorem dX6_edges_9 : decode cX6_edges 9 = .ok (.iload_n 2, 1) := by decide +kernel
theorem dX6_edges_10 : decode cX6_edges 10 = .ok (.ifCond .lt 8, 3) := by decide +kernel
theorem dX6_edges_13 : decode cX6_edges 13 = .ok (.iload_n 2, 1) := by decide +kernel
theorem dX6_edges_14 : decode cX6_edges 14 = .ok (.iconst 1, 1) := by decide +kernel
theorem dX6_edges_15 : decode cX6_edges 15 = .ok (.if_icmp .le 7, 3) := by decide +kernel
theorem dX6_edges_18 : decode cX6_edges 18 = .ok (.iconst 1, 1) := by decide +kernel
theorem dX6_edges_19 : decode cX6_edges 19 = .ok (.goto 4, 3) := by decide +kernel
theorem dX6_edges_22 : decode cX6_edges 22 = .ok (.iconst 0, 1) := by decide +kernel
theorem dX6_edges_23 : decode cX6_edges 23 = .ok (.invokevirtual 120, 3) := by decide +kernel
theorem dX6_edges_26 : decode cX6_edges 26 = .ok (.ifCond .eq 5, 3) := by decide +kernel
theorem dX6_edges_29 : decode cX6_edges 29 = .ok (.iconst 0, 1) := by decide +kernel
theorem dX6_edges_30 : decode cX6_edges 30 = .ok (.ireturn, 1) := by decide +kernel
theorem dX6_edges_31 : decode cX6_edges 31 = .ok (.aload_n 0, 1) := by decide +kernel
theorem dX6_edges_32 : decode cX6_edges 32 = .ok (.iload_n 1, 1) := by decide +kernel
theorem dX6_edges_33 : decode cX6_edges 33 = .ok (.iload_n 2, 1) := by decide +kernel
theorem dX6_edges_34 : decode cX6_edges 34 = .ok (.invokevirtual 124, 3) := by decide +kernel
theorem dX6_edges_37 : decode cX6_edges 37 = .ok (.ireturn, 1) := by decide +kernel
set_option maxRecDepth 20000 in
theorem ggX6_other_X6_no : GoodIn wsX6_other wsX6_no := goodIn_r _ [7, 2, 13, 14, 15, 16, 17, 18, 19, 20, 21, 22, 23, 24, 25, 26, 27, 28, 29, 30, 31, 32, 33, 34, 35, 36] (by decide +kernel) (by decide +kernel)
set_option maxRecDepth 20000 in
theorem gX6_other_X6_no : GoodIn wsX6_other (wsV RX6 113 RX6 yX6_no wsX6_no) := goodIn_app (goodIn_of _ (by decide +kernel)) ggX6_other_X6_no
set_option maxRecDepth 20000 in
theorem ggX6_other_X6_goes : GoodIn wsX6_other wsX6_goes := goodIn_r _ [11, 12, 13, 14, 15, 16, 17, 18, 19, 20, 21, 22, 23, 24, 25, 26, 27, 28, 29, 30, 31, 32, 33, 34, 35, 36] (by decide +kernel) (by decide +kernel)
set_option maxRecDepth 20000 in
theorem gX6_other_X6_goes : GoodIn wsX6_other (wsV RX6 117 RX6 yX6_goes wsX6_goes) := goodIn_app (goodIn_of _ (by decide +kernel)) ggX6_other_X6_goes
theorem dX6_other_0 : decode cX6_other 0 = .ok (.aload_n 0, 1) := by decide +kernel
theorem dX6_other_1 : decode cX6_other 1 = .ok (.iconst 0, 1) := by decide +kernel
theorem dX6_other_2 : decode cX6_other 2 = .ok (.putfield 1, 3) := by decide +kernel
theorem dX6_other_5 : decode cX6_other 5 = .ok (.aload_n 0, 1) := by decide +kernel
theorem dX6_other_6 : decode cX6_other 6 = .ok (.iload_n 1, 1) := by decide +kernel
theorem dX6_other_7 : decode cX6_other 7 = .ok (.invokevirtual 113, 3) := by decide +kernel
theorem dX6_other_10 : decode cX6_other 10 = .ok (.ifCond .ne 16, 3) := by decide +kernel
theorem dX6_other_13 : decode cX6_other 13 = .ok (.iload_n 2, 1) := by decide +kernel
theorem dX6_other_14 : decode cX6_other 14 = .ok (.ifCond .lt 12, 3) := by decide +kernel
theorem dX6_other_17 : decode cX6_other 17 = .ok (.iload_n 2, 1) := by decide +kernel
theorem dX6_other_18 : decode cX6_other 18 = .ok (.iconst 1, 1) := by decide +kernel
theorem dX6_other_19 : decode cX6_other 19 = .ok (.if_icmp .gt 7, 3) := by decide +kernel
theorem dX6_other_22 : decode cX6_other 22 = .ok (.iload_n 3, 1) := by decide +kernel
theorem dX6_other_23 : decode cX6_other 23 = .ok (.ifCond .ge 5, 3) := by decide +kernel
theorem dX6_other_26 : decode cX6_other 26 = .ok (.iconst (-1), 1) := by decide +kernel
theorem dX6_other_27 : decode cX6_other 27 = .ok (.ireturn, 1) := by decide +kernel
theorem dX6_other_28 : decode cX6_other 28 = .ok (.iload_n 3, 1) := by decide +kernel
theorem dX6_other_29 : decode cX6_other 29 = .ok (.istore 4, 2) := by decide +kernel
theorem dX6_other_31 : decode cX6_other 31 = .ok (.iconst 0, 1) := by decide +kernel
theorem dX6_other_32 : decode cX6_other 32 = .ok (.istore 5, 2) := by decide +kernel
theorem dX6_other_34 : decode cX6_other 34 = .ok (.iload 5, 2) := by decide +kernel
theorem dX6_other_36 : decode cX6_other 36 = .ok (.aload_n 0, 1) := by decide +kernel
theorem dX6_other_37 : decode cX6_other 37 = .ok (.getfield 32, 3) := by decide +kernel
theorem dX6_other_40 : decode cX6_other 40 = .ok (.if_icmp .ge 50, 3) := by decide +kernel
theorem dX6_other_43 : decode cX6_other 43 = .ok (.iload_n 2, 1) := by decide +kernel
theorem dX6_other_44 : decode cX6_other 44 = .ok (.ifCond .ne 16, 3) := by decide +kernel
theorem dX6_other_47 : decode cX6_other 47 = .ok (.aload_n 0, 1) := by decide +kernel
theorem dX6_other_48 : decode cX6_other 48 = .ok (.iload_n 1, 1) := by decide +kernel
theorem dX6_other_49 : decode cX6_other 49 = .ok (.iload 5, 2) := by decide +kernel
theorem dX6_other_51 : decode cX6_other 51 = .ok (.invokevirtual 117, 3) := by decide +kernel
theorem dX6_other_54 : decode cX6_other 54 = .ok (.ifCond .eq 30, 3) := by decide +kernel
theorem dX6_other_57 : decode cX6_other 57 = .ok (.goto 16, 3) := by decide +kernel
theorem dX6_other_60 : decode cX6_other 60 = .ok (.aload_n 0, 1) := by decide +kernel
theorem dX6_other_61 : decode cX6_other 61 = .ok (.iload 5, 2) := by decide +kernel
theorem dX6_other_63 : decode cX6_other 63 = .ok (.iload_n 1, 1) := by decide +kernel
theorem dX6_other_64 : decode cX6_other 64 = .ok (.invokevirtual 117, 3) := by decide +kernel
theorem dX6_other_67 : decode cX6_other 67 = .ok (.ifCond .ne 6, 3) := by decide +kernel
theorem dX6_other_70 : decode cX6_other 70 = .ok (.goto 14, 3) := by decide +kernel
theorem dX6_other_73 : decode cX6_other 73 = .ok (.iload 4, 2) := by decide +kernel
theorem dX6_other_75 : decode cX6_other 75 = .ok (.ifCond .ne 6, 3) := by decide +kernel
theorem dX6_other_78 : decode cX6_other 78 = .ok (.iload 5, 2) := by decide +kernel
theorem dX6_other_80 : decode cX6_other 80 = .ok (.ireturn, 1) := by decide +kernel
theorem dX6_other_81 : decode cX6_other 81 = .ok (.iinc 4 (-1), 3) := by decide +kernel
theorem dX6_other_84 : decode cX6_other 84 = .ok (.iinc 5 1, 3) := by decide +kernel
theorem dX6_other_87 : decode cX6_other 87 = .ok (.goto (-53), 3) := by decide +kernel
theorem dX6_other_90 : decode cX6_other 90 = .ok (.iconst (-1), 1) := by decide +kernel
theorem dX6_other_91 : decode cX6_other 91 = .ok (.ireturn, 1) := by decide +kernel
theorem dX6_whole_0 : decode cX6_whole 0 = .ok (.iconst 0, 1) := by decide +kernel
theorem dX6_whole_1 : decode cX6_whole 1 = .ok (.istore_n 1, 1) := by decide +kernel
theorem dX6_whole_2 : decode cX6_whole 2 = .ok (.iconst 0, 1) := by decide +kernel
theorem dX6_whole_3 : decode cX6_whole 3 = .ok (.istore_n 2, 1) := by decide +kernel
theorem dX6_whole_4 : decode cX6_whole 4 = .ok (.iload_n 2, 1) := by decide +kernel
theorem dX6_whole_5 : decode cX6_whole 5 = .ok (.aload_n 0, 1) := by decide +kernel
theorem dX6_whole_6 : decode cX6_whole 6 = .ok (.getfield 32, 3) := by decide +kernel
theorem dX6_whole_9 : decode cX6_whole 9 = .ok (.if_icmp .ge 18, 3) := by decide +kernel
theorem dX6_whole_12 : decode cX6_whole 12 = .ok (.iload_n 1, 1) := by decide +kernel
theorem dX6_whole_13 : decode cX6_whole 13 = .ok (.aload_n 0, 1) := by decide +kernel
theorem dX6_whole_14 : decode cX6_whole 14 = .ok (.getfield 21, 3) := by decide +kernel
theorem dX6_whole_17 : decode cX6_whole 17 = .ok (.iload_n 2, 1) := by decide +kernel
theorem dX6_whole_18 : decode cX6_whole 18 = .ok (.iaload, 1) := by decide +kernel
theorem dX6_whole_19 : decode cX6_whole 19 = .ok (.iadd, 1) := by decide +kernel
theorem dX6_whole_20 : decode cX6_whole 20 = .ok (.istore_n 1, 1) := by decide +kernel
theorem dX6_whole_21 : decode cX6_whole 21 = .ok (.iinc 2 1, 3) := by decide +kernel
theorem dX6_whole_24 : decode cX6_whole 24 = .ok (.goto (-20), 3) := by decide +kernel
theorem dX6_whole_27 : decode cX6_whole 27 = .ok (.iload_n 1, 1) := by decide +kernel
theorem dX6_whole_28 : decode cX6_whole 28 = .ok (.ireturn, 1) := by decide +kernel
set_option maxRecDepth 20000 in
theorem ggX6_weight_X6_no : GoodIn wsX6_weight wsX6_no := goodIn_r _ [7, 8, 23, 24, 25, 26, 27, 28, 29, 30, 31, 32, 33, 34, 35, 36, 37, 38, 39, 40, 41, 42, 43, 44, 45, 46] (by decide +kernel) (by decide +kernel)
set_option maxRecDepth 20000 in
theorem gX6_weight_X6_no : GoodIn wsX6_weight (wsV RX6 113 RX6 yX6_no wsX6_no) := goodIn_app (goodIn_of _ (by decide +kernel)) ggX6_weight_X6_no
set_option maxRecDepth 20000 in
theorem ggX6_weight_X6_whole : GoodIn wsX6_weight wsX6_whole := goodIn_r _ [12, 8, 2, 23, 24, 25, 26, 27, 28, 29, 30, 31, 32, 33, 34, 35, 36, 37, 38, 39, 40, 41, 42, 43, 44, 45, 46] (by decide +kernel) (by decide +kernel)
set_option maxRecDepth 20000 in
theorem gX6_weight_X6_whole : GoodIn wsX6_weight (wsV RX6 127 RX6 yX6_whole wsX6_whole) := goodIn_app (goodIn_of _ (by decide +kernel)) ggX6_weight_X6_whole
set_option maxRecDepth 20000 in
theorem ggX6_weight_X6_begin : GoodIn wsX6_weight wsX6_begin := goodIn_r _ [16, 8, 17, 18, 19, 20, 21, 22, 23, 24, 25, 26, 27, 28, 29, 30, 31, 32, 33, 34, 35, 36, 37, 38, 39, 40, 41, 42, 43, 44, 45, 46] (by decide +kernel) (by decide +kernel)
set_option maxRecDepth 20000 in
theorem gX6_weight_X6_begin : GoodIn wsX6_weight (wsV RX6 48 RX6 yX6_begin wsX6_begin) := goodIn_app (goodIn_of _ (by decide +kernel)) ggX6_weight_X6_begin
theorem dX6_weight_0 : decode cX6_weight 0 = .ok (.aload_n 0, 1) := by decide +kernel
theorem dX6_weight_1 : decode cX6_weight 1 = .ok (.iconst 0, 1) := by decide +kernel
theorem dX6_weight_2 : decode cX6_weight 2 = .ok (.putfield 1, 3) := by decide +kernel
theorem dX6_weight_5 : decode cX6_weight 5 = .ok (.aload_n 0, 1) := by decide +kernel
theorem dX6_weight_6 : decode cX6_weight 6 = .ok (.iload_n 1, 1) := by decide +kernel
theorem dX6_weight_7 : decode cX6_weight 7 = .ok (.invokevirtual 113, 3) := by decide +kernel
theorem dX6_weight_10 : decode cX6_weight 10 = .ok (.ifCond .ne 30, 3) := by decide +kernel
theorem dX6_weight_13 : decode cX6_weight 13 = .ok (.iload_n 2, 1) := by decide +kernel
theorem dX6_weight_14 : decode cX6_weight 14 = .ok (.ifCond .lt 26, 3) := by decide +kernel
theorem dX6_weight_17 : decode cX6_weight 17 = .ok (.iload_n 2, 1) := by decide +kernel
theorem dX6_weight_18 : decode cX6_weight 18 = .ok (.sipush 1000, 3) := by decide +kernel
theorem dX6_weight_21 : decode cX6_weight 21 = .ok (.if_icmp .gt 19, 3) := by decide +kernel
theorem dX6_weight_24 : decode cX6_weight 24 = .ok (.aload_n 0, 1) := by decide +kernel
theorem dX6_weight_25 : decode cX6_weight 25 = .ok (.invokevirtual 127, 3) := by decide +kernel
theorem dX6_weight_28 : decode cX6_weight 28 = .ok (.aload_n 0, 1) := by decide +kernel
theorem dX6_weight_29 : decode cX6_weight 29 = .ok (.getfield 21, 3) := by decide +kernel
theorem dX6_weight_32 : decode cX6_weight 32 = .ok (.iload_n 1, 1) := by decide +kernel
theorem dX6_weight_33 : decode cX6_weight 33 = .ok (.iaload, 1) := by decide +kernel
theorem dX6_weight_34 : decode cX6_weight 34 = .ok (.isub, 1) := by decide +kernel
theorem dX6_weight_35 : decode cX6_weight 35 = .ok (.iload_n 2, 1) := by decide +kernel
theorem dX6_weight_36 : decode cX6_weight 36 = .ok (.iadd, 1) := by decide +kernel
theorem dX6_weight_37 : decode cX6_weight 37 = .ok (.ifCond .ne 5, 3) := by decide +kernel
theorem dX6_weight_40 : decode cX6_weight 40 = .ok (.iconst 0, 1) := by decide +kernel
theorem dX6_weight_41 : decode cX6_weight 41 = .ok (.ireturn, 1) := by decide +kernel
theorem dX6_weight_42 : decode cX6_weight 42 = .ok (.aload_n 0, 1) := by decide +kernel
theorem dX6_weight_43 : decode cX6_weight 43 = .ok (.getfield 21, 3) := by decide +kernel
theorem dX6_weight_46 : decode cX6_weight 46 = .ok (.iload_n 1, 1) := by decide +kernel
theorem dX6_weight_47 : decode cX6_weight 47 = .ok (.iload_n 2, 1) := by decide +kernel
theorem dX6_weight_48 : decode cX6_weight 48 = .ok (.iastore, 1) := by decide +kernel
theorem dX6_weight_49 : decode cX6_weight 49 = .ok (.aload_n 0, 1) := by decide +kernel
theorem dX6_weight_50 : decode cX6_weight 50 = .ok (.invokevirtual 48, 3) := by decide +kernel
theorem dX6_weight_53 : decode cX6_weight 53 = .ok (.iconst 1, 1) := by decide +kernel
theorem dX6_weight_54 : decode cX6_weight 54 = .ok (.ireturn, 1) := by decide +kernel
set_option maxRecDepth 20000 in
theorem ggX6_damping_X6_begin : GoodIn wsX6_damping wsX6_begin := goodIn_r _ [9, 10, 11, 12, 13, 14, 15, 16, 17, 18, 19, 20, 21, 22, 23, 24, 25, 26, 27, 28, 29, 30, 31, 32, 33, 34, 35, 36, 37, 38, 39, 40] (by decide +kernel) (by decide +kernel)
set_option maxRecDepth 20000 in
theorem gX6_damping_X6_begin : GoodIn wsX6_damping (wsV RX6 48 RX6 yX6_begin wsX6_begin) := goodIn_app (goodIn_of _ (by decide +kernel)) ggX6_damping_X6_begin
theorem dX6_damping_0 : decode cX6_damping 0 = .ok (.aload_n 0, 1) := by decide +kernel
theorem dX6_damping_1 : decode cX6_damping 1 = .ok (.iconst 0, 1) := by decide +kernel
theorem dX6_damping_2 : decode cX6_damping 2 = .ok (.putfield 1, 3) := by decide +kernel
theorem dX6_damping_5 : decode cX6_damping 5 = .ok (.iload_n 1, 1) := by decide +kernel
theorem dX6_damping_6 : decode cX6_damping 6 = .ok (.ifCond .lt 14, 3) := by decide +kernel
theorem dX6_damping_9 : decode cX6_damping 9 = .ok (.iload_n 1, 1) := by decide +kernel
theorem dX6_damping_10 : decode cX6_damping 10 = .ok (.iload_n 2, 1) := by decide +kernel
theorem dX6_damping_11 : decode cX6_damping 11 = .ok (.if_icmp .ge 9, 3) := by decide +kernel
theorem dX6_damping_14 : decode cX6_damping 14 = .ok (.iload_n 2, 1) := by decide +kernel
theorem dX6_damping_15 : decode cX6_damping 15 = .ok (.ldc 130, 2) := by decide +kernel
theorem dX6_damping_17 : decode cX6_damping 17 = .ok (.if_icmp .lt 5, 3) := by decide +kernel
theorem dX6_damping_20 : decode cX6_damping 20 = .ok (.iconst 0, 1) := by decide +kernel
theorem dX6_damping_21 : decode cX6_damping 21 = .ok (.ireturn, 1) := by decide +kernel
theorem dX6_damping_22 : decode cX6_damping 22 = .ok (.aload_n 0, 1) := by decide +kernel
theorem dX6_damping_23 : decode cX6_damping 23 = .ok (.iload_n 1, 1) := by decide +kernel
theorem dX6_damping_24 : decode cX6_damping 24 = .ok (.putfield 35, 3) := by decide +kernel
theorem dX6_damping_27 : decode cX6_damping 27 = .ok (.aload_n 0, 1) := by decide +kernel
theorem dX6_damping_28 : decode cX6_damping 28 = .ok (.iload_n 2, 1) := by decide +kernel
theorem dX6_damping_29 : decode cX6_damping 29 = .ok (.putfield 38, 3) := by decide +kernel
theorem dX6_damping_32 : decode cX6_damping 32 = .ok (.aload_n 0, 1) := by decide +kernel
theorem dX6_damping_33 : decode cX6_damping 33 = .ok (.invokevirtual 48, 3) := by decide +kernel
theorem dX6_damping_36 : decode cX6_damping 36 = .ok (.iconst 1, 1) := by decide +kernel
theorem dX6_damping_37 : decode cX6_damping 37 = .ok (.ireturn, 1) := by decide +kernel
set_option maxRecDepth 20000 in
theorem ggX6_bare_X6_many : GoodIn wsX6_bare wsX6_many := goodIn_r _ [7, 1, 8, 9, 10, 6, 11, 12, 13, 14, 15, 16, 17, 18, 19, 20, 21, 22, 23, 24, 25, 26, 27, 28, 29, 30, 31, 32, 33, 34, 35, 36] (by decide +kernel) (by decide +kernel)
set_option maxRecDepth 20000 in
theorem gX6_bare_X6_many : GoodIn wsX6_bare (wsV RX6 124 RX6 yX6_many wsX6_many) := goodIn_app (goodIn_of _ (by decide +kernel)) ggX6_bare_X6_many
theorem dX6_bare_0 : decode cX6_bare 0 = .ok (.lconst 0, 1) := by decide +kernel
theorem dX6_bare_1 : decode cX6_bare 1 = .ok (.lstore_n 1, 1) := by decide +kernel
theorem dX6_bare_2 : decode cX6_bare 2 = .ok (.iconst 0, 1) := by decide +kernel
theorem dX6_bare_3 : decode cX6_bare 3 = .ok (.istore_n 3, 1) := by decide +kernel
theorem dX6_bare_4 : decode cX6_bare 4 = .ok (.iload_n 3, 1) := by decide +kernel
theorem dX6_bare_5 : decode cX6_bare 5 = .ok (.aload_n 0, 1) := by decide +kernel
theorem dX6_bare_6 : decode cX6_bare 6 = .ok (.getfield 32, 3) := by decide +kernel
theorem dX6_bare_9 : decode cX6_bare 9 = .ok (.if_icmp .ge 31, 3) := by decide +kernel
theorem dX6_bare_12 : decode cX6_bare 12 = .ok (.lload_n 1, 1) := by decide +kernel
theorem dX6_bare_13 : decode cX6_bare 13 = .ok (.aload_n 0, 1) := by decide +kernel
theorem dX6_bare_14 : decode cX6_bare 14 = .ok (.iload_n 3, 1) := by decide +kernel
theorem dX6_bare_15 : decode cX6_bare 15 = .ok (.iconst 0, 1) := by decide +kernel
theorem dX6_bare_16 : decode cX6_bare 16 = .ok (.invokevirtual 124, 3) := by decide +kernel
theorem dX6_bare_19 : decode cX6_bare 19 = .ok (.ifCond .ne 12, 3) := by decide +kernel
theorem dX6_bare_22 : decode cX6_bare 22 = .ok (.aload_n 0, 1) := by decide +kernel
theorem dX6_bare_23 : decode cX6_bare 23 = .ok (.getfield 25, 3) := by decide +kernel
theorem dX6_bare_26 : decode cX6_bare 26 = .ok (.iload_n 3, 1) := by decide +kernel
theorem dX6_bare_27 : decode cX6_bare 27 = .ok (.laload, 1) := by decide +kernel
theorem dX6_bare_28 : decode cX6_bare 28 = .ok (.goto 4, 3) := by decide +kernel
theorem dX6_bare_31 : decode cX6_bare 31 = .ok (.lconst 0, 1) := by decide +kernel
theorem dX6_bare_32 : decode cX6_bare 32 = .ok (.ladd, 1) := by decide +kernel
theorem dX6_bare_33 : decode cX6_bare 33 = .ok (.lstore_n 1, 1) := by decide +kernel
theorem dX6_bare_34 : decode cX6_bare 34 = .ok (.iinc 3 1, 3) := by decide +kernel
theorem dX6_bare_37 : decode cX6_bare 37 = .ok (.goto (-33), 3) := by decide +kernel
theorem dX6_bare_40 : decode cX6_bare 40 = .ok (.lload_n 1, 1) := by decide +kernel

theorem dX5_init_0 : decode cX5_init 0 = .ok (.aload_n 0, 1) := by decide +kernel
theorem dX5_init_1 : decode cX5_init 1 = .ok (.invokespecial 1, 3) := by decide +kernel
theorem dX5_init_4 : decode cX5_init 4 = .ok (.aload_n 0, 1) := by decide +kernel
theorem dX5_init_5 : decode cX5_init 5 = .ok (.sipush 768, 3) := by decide +kernel
theorem dX5_init_8 : decode cX5_init 8 = .ok (.newarray .int, 2) := by decide +kernel
theorem dX5_init_10 : decode cX5_init 10 = .ok (.putfield 9, 3) := by decide +kernel
theorem dX5_init_13 : decode cX5_init 13 = .ok (.aload_n 0, 1) := by decide +kernel
theorem dX5_init_14 : decode cX5_init 14 = .ok (.sipush 512, 3) := by decide +kernel
theorem dX5_init_17 : decode cX5_init 17 = .ok (.newarray .int, 2) := by decide +kernel
theorem dX5_init_19 : decode cX5_init 19 = .ok (.putfield 13, 3) := by decide +kernel
theorem dX5_init_22 : decode cX5_init 22 = .ok (.aload_n 0, 1) := by decide +kernel
theorem dX5_init_23 : decode cX5_init 23 = .ok (.bipush 16, 2) := by decide +kernel
theorem dX5_init_25 : decode cX5_init 25 = .ok (.newarray .int, 2) := by decide +kernel
theorem dX5_init_27 : decode cX5_init 27 = .ok (.putfield 16, 3) := by decide +kernel
theorem dX5_init_30 : decode cX5_init 30 = .ok (.aload_n 0, 1) := by decide +kernel
theorem dX5_init_31 : decode cX5_init 31 = .ok (.bipush 16, 2) := by decide +kernel
theorem dX5_init_33 : decode cX5_init 33 = .ok (.newarray .int, 2) := by decide +kernel
theorem dX5_init_35 : decode cX5_init 35 = .ok (.putfield 19, 3) := by decide +kernel
theorem dX5_init_38 : decode cX5_init 38 = .ok (.aload_n 0, 1) := by decide +kernel
theorem dX5_init_39 : decode cX5_init 39 = .ok (.bipush 64, 2) := by decide +kernel
theorem dX5_init_41 : decode cX5_init 41 = .ok (.newarray .boolean, 2) := by decide +kernel
theorem dX5_init_43 : decode cX5_init 43 = .ok (.putfield 22, 3) := by decide +kernel
theorem dX5_init_46 : decode cX5_init 46 = .ok (.aload_n 0, 1) := by decide +kernel
theorem dX5_init_47 : decode cX5_init 47 = .ok (.bipush 16, 2) := by decide +kernel
theorem dX5_init_49 : decode cX5_init 49 = .ok (.newarray .boolean, 2) := by decide +kernel
theorem dX5_init_51 : decode cX5_init 51 = .ok (.putfield 26, 3) := by decide +kernel
theorem dX5_init_54 : decode cX5_init 54 = .ok (.aload_n 0, 1) := by decide +kernel
theorem dX5_init_55 : decode cX5_init 55 = .ok (.bipush 16, 2) := by decide +kernel
theorem dX5_init_57 : decode cX5_init 57 = .ok (.newarray .boolean, 2) := by decide +kernel
theorem dX5_init_59 : decode cX5_init 59 = .ok (.putfield 29, 3) := by decide +kernel
theorem dX5_init_62 : decode cX5_init 62 = .ok (.aload_n 0, 1) := by decide +kernel
theorem dX5_init_63 : decode cX5_init 63 = .ok (.bipush 8, 2) := by decide +kernel
theorem dX5_init_65 : decode cX5_init 65 = .ok (.newarray .boolean, 2) := by decide +kernel
theorem dX5_init_67 : decode cX5_init 67 = .ok (.putfield 32, 3) := by decide +kernel
theorem dX5_init_70 : decode cX5_init 70 = .ok (.aload_n 0, 1) := by decide +kernel
theorem dX5_init_71 : decode cX5_init 71 = .ok (.bipush 8, 2) := by decide +kernel
theorem dX5_init_73 : decode cX5_init 73 = .ok (.newarray .int, 2) := by decide +kernel
theorem dX5_init_75 : decode cX5_init 75 = .ok (.putfield 35, 3) := by decide +kernel
theorem dX5_init_78 : decode cX5_init 78 = .ok (.aload_n 0, 1) := by decide +kernel
theorem dX5_init_79 : decode cX5_init 79 = .ok (.bipush 8, 2) := by decide +kernel
theorem dX5_init_81 : decode cX5_init 81 = .ok (.newarray .int, 2) := by decide +kernel
theorem dX5_init_83 : decode cX5_init 83 = .ok (.putfield 38, 3) := by decide +kernel
theorem dX5_init_86 : decode cX5_init 86 = .ok (.aload_n 0, 1) := by decide +kernel
theorem dX5_init_87 : decode cX5_init 87 = .ok (.bipush 8, 2) := by decide +kernel
theorem dX5_init_89 : decode cX5_init 89 = .ok (.newarray .int, 2) := by decide +kernel
theorem dX5_init_91 : decode cX5_init 91 = .ok (.putfield 41, 3) := by decide +kernel
theorem dX5_init_94 : decode cX5_init 94 = .ok (.aload_n 0, 1) := by decide +kernel
theorem dX5_init_95 : decode cX5_init 95 = .ok (.bipush 8, 2) := by decide +kernel
theorem dX5_init_97 : decode cX5_init 97 = .ok (.newarray .int, 2) := by decide +kernel
theorem dX5_init_99 : decode cX5_init 99 = .ok (.putfield 44, 3) := by decide +kernel
theorem dX5_init_102 : decode cX5_init 102 = .ok (.aload_n 0, 1) := by decide +kernel
theorem dX5_init_103 : decode cX5_init 103 = .ok (.iconst 4, 1) := by decide +kernel
theorem dX5_init_104 : decode cX5_init 104 = .ok (.newarray .long, 2) := by decide +kernel
theorem dX5_init_106 : decode cX5_init 106 = .ok (.putfield 47, 3) := by decide +kernel
theorem dX5_init_109 : decode cX5_init 109 = .ok (.aload_n 0, 1) := by decide +kernel
theorem dX5_init_110 : decode cX5_init 110 = .ok (.iconst 4, 1) := by decide +kernel
theorem dX5_init_111 : decode cX5_init 111 = .ok (.newarray .long, 2) := by decide +kernel
theorem dX5_init_113 : decode cX5_init 113 = .ok (.putfield 51, 3) := by decide +kernel
theorem dX5_init_116 : decode cX5_init 116 = .ok (.aload_n 0, 1) := by decide +kernel
theorem dX5_init_117 : decode cX5_init 117 = .ok (.iconst 4, 1) := by decide +kernel
theorem dX5_init_118 : decode cX5_init 118 = .ok (.iconst 4, 1) := by decide +kernel
theorem dX5_init_119 : decode cX5_init 119 = .ok (.iconst 4, 1) := by decide +kernel
theorem dX5_init_120 : decode cX5_init 120 = .ok (.invokevirtual 54, 3) := by decide +kernel
theorem dX5_init_123 : decode cX5_init 123 = .ok (.return_, 1) := by decide +kernel
theorem dX5_thrown_0 : decode cX5_thrown 0 = .ok (.aload_n 0, 1) := by decide +kernel
theorem dX5_thrown_1 : decode cX5_thrown 1 = .ok (.getfield 58, 3) := by decide +kernel
theorem dX5_thrown_4 : decode cX5_thrown 4 = .ok (.ireturn, 1) := by decide +kernel
theorem dX5_fail_0 : decode cX5_fail 0 = .ok (.aload_n 0, 1) := by decide +kernel
theorem dX5_fail_1 : decode cX5_fail 1 = .ok (.iload_n 1, 1) := by decide +kernel
theorem dX5_fail_2 : decode cX5_fail 2 = .ok (.putfield 58, 3) := by decide +kernel
theorem dX5_fail_5 : decode cX5_fail 5 = .ok (.iconst 0, 1) := by decide +kernel
theorem dX5_fail_6 : decode cX5_fail 6 = .ok (.ireturn, 1) := by decide +kernel
theorem dX5_failed_0 : decode cX5_failed 0 = .ok (.aload_n 0, 1) := by decide +kernel
theorem dX5_failed_1 : decode cX5_failed 1 = .ok (.iload_n 1, 1) := by decide +kernel
theorem dX5_failed_2 : decode cX5_failed 2 = .ok (.putfield 58, 3) := by decide +kernel
theorem dX5_failed_5 : decode cX5_failed 5 = .ok (.iconst 0, 1) := by decide +kernel
theorem dX5_failed_6 : decode cX5_failed 6 = .ok (.ireturn, 1) := by decide +kernel
theorem dX5_begin_0 : decode cX5_begin 0 = .ok (.aload_n 0, 1) := by decide +kernel
theorem dX5_begin_1 : decode cX5_begin 1 = .ok (.iload_n 1, 1) := by decide +kernel
theorem dX5_begin_2 : decode cX5_begin 2 = .ok (.putfield 62, 3) := by decide +kernel
theorem dX5_begin_5 : decode cX5_begin 5 = .ok (.aload_n 0, 1) := by decide +kernel
theorem dX5_begin_6 : decode cX5_begin 6 = .ok (.iload_n 2, 1) := by decide +kernel
theorem dX5_begin_7 : decode cX5_begin 7 = .ok (.putfield 65, 3) := by decide +kernel
theorem dX5_begin_10 : decode cX5_begin 10 = .ok (.aload_n 0, 1) := by decide +kernel
theorem dX5_begin_11 : decode cX5_begin 11 = .ok (.iload_n 3, 1) := by decide +kernel
theorem dX5_begin_12 : decode cX5_begin 12 = .ok (.putfield 68, 3) := by decide +kernel
theorem dX5_begin_15 : decode cX5_begin 15 = .ok (.aload_n 0, 1) := by decide +kernel
theorem dX5_begin_16 : decode cX5_begin 16 = .ok (.iconst 0, 1) := by decide +kernel
theorem dX5_begin_17 : decode cX5_begin 17 = .ok (.putfield 71, 3) := by decide +kernel
theorem dX5_begin_20 : decode cX5_begin 20 = .ok (.aload_n 0, 1) := by decide +kernel
theorem dX5_begin_21 : decode cX5_begin 21 = .ok (.iconst 0, 1) := by decide +kernel
theorem dX5_begin_22 : decode cX5_begin 22 = .ok (.putfield 74, 3) := by decide +kernel
theorem dX5_begin_25 : decode cX5_begin 25 = .ok (.aload_n 0, 1) := by decide +kernel
theorem dX5_begin_26 : decode cX5_begin 26 = .ok (.lconst 0, 1) := by decide +kernel
theorem dX5_begin_27 : decode cX5_begin 27 = .ok (.putfield 77, 3) := by decide +kernel
theorem dX5_begin_30 : decode cX5_begin 30 = .ok (.aload_n 0, 1) := by decide +kernel
theorem dX5_begin_31 : decode cX5_begin 31 = .ok (.lconst 0, 1) := by decide +kernel
theorem dX5_begin_32 : decode cX5_begin 32 = .ok (.putfield 81, 3) := by decide +kernel
theorem dX5_begin_35 : decode cX5_begin 35 = .ok (.iconst 0, 1) := by decide +kernel
theorem dX5_begin_36 : decode cX5_begin 36 = .ok (.istore 4, 2) := by decide +kernel
theorem dX5_begin_38 : decode cX5_begin 38 = .ok (.iload 4, 2) := by decide +kernel
theorem dX5_begin_40 : decode cX5_begin 40 = .ok (.sipush 768, 3) := by decide +kernel
theorem dX5_begin_43 : decode cX5_begin 43 = .ok (.if_icmp .ge 17, 3) := by decide +kernel
theorem dX5_begin_46 : decode cX5_begin 46 = .ok (.aload_n 0, 1) := by decide +kernel
theorem dX5_begin_47 : decode cX5_begin 47 = .ok (.getfield 9, 3) := by decide +kernel
theorem dX5_begin_50 : decode cX5_begin 50 = .ok (.iload 4, 2) := by decide +kernel
theorem dX5_begin_52 : decode cX5_begin 52 = .ok (.iconst 1, 1) := by decide +kernel
theorem dX5_begin_53 : decode cX5_begin 53 = .ok (.iastore, 1) := by decide +kernel
theorem dX5_begin_54 : decode cX5_begin 54 = .ok (.iinc 4 1, 3) := by decide +kernel
theorem dX5_begin_57 : decode cX5_begin 57 = .ok (.goto (-19), 3) := by decide +kernel
theorem dX5_begin_60 : decode cX5_begin 60 = .ok (.iconst 0, 1) := by decide +kernel
theorem dX5_begin_61 : decode cX5_begin 61 = .ok (.istore 4, 2) := by decide +kernel
theorem dX5_begin_63 : decode cX5_begin 63 = .ok (.iload 4, 2) := by decide +kernel
theorem dX5_begin_65 : decode cX5_begin 65 = .ok (.sipush 512, 3) := by decide +kernel
theorem dX5_begin_68 : decode cX5_begin 68 = .ok (.if_icmp .ge 17, 3) := by decide +kernel
theorem dX5_begin_71 : decode cX5_begin 71 = .ok (.aload_n 0, 1) := by decide +kernel
theorem dX5_begin_72 : decode cX5_begin 72 = .ok (.getfield 13, 3) := by decide +kernel
theorem dX5_begin_75 : decode cX5_begin 75 = .ok (.iload 4, 2) := by decide +kernel
theorem dX5_begin_77 : decode cX5_begin 77 = .ok (.iconst (-1), 1) := by decide +kernel
theorem dX5_begin_78 : decode cX5_begin 78 = .ok (.iastore, 1) := by decide +kernel
theorem dX5_begin_79 : decode cX5_begin 79 = .ok (.iinc 4 1, 3) := by decide +kernel
theorem dX5_begin_82 : decode cX5_begin 82 = .ok (.goto (-19), 3) := by decide +kernel
theorem dX5_begin_85 : decode cX5_begin 85 = .ok (.iconst 0, 1) := by decide +kernel
theorem dX5_begin_86 : decode cX5_begin 86 = .ok (.istore 4, 2) := by decide +kernel
theorem dX5_begin_88 : decode cX5_begin 88 = .ok (.iload 4, 2) := by decide +kernel
theorem dX5_begin_90 : decode cX5_begin 90 = .ok (.bipush 8, 2) := by decide +kernel
theorem dX5_begin_92 : decode cX5_begin 92 = .ok (.if_icmp .ge 17, 3) := by decide +kernel
theorem dX5_begin_95 : decode cX5_begin 95 = .ok (.aload_n 0, 1) := by decide +kernel
theorem dX5_begin_96 : decode cX5_begin 96 = .ok (.getfield 32, 3) := by decide +kernel
theorem dX5_begin_99 : decode cX5_begin 99 = .ok (.iload 4, 2) := by decide +kernel
theorem dX5_begin_101 : decode cX5_begin 101 = .ok (.iconst 0, 1) := by decide +kernel
theorem dX5_begin_102 : decode cX5_begin 102 = .ok (.bastore, 1) := by decide +kernel
theorem dX5_begin_103 : decode cX5_begin 103 = .ok (.iinc 4 1, 3) := by decide +kernel
theorem dX5_begin_106 : decode cX5_begin 106 = .ok (.goto (-18), 3) := by decide +kernel
theorem dX5_begin_109 : decode cX5_begin 109 = .ok (.iconst 0, 1) := by decide +kernel
theorem dX5_begin_110 : decode cX5_begin 110 = .ok (.istore 4, 2) := by decide +kernel
theorem dX5_begin_112 : decode cX5_begin 112 = .ok (.iload 4, 2) := by decide +kernel
theorem dX5_begin_114 : decode cX5_begin 114 = .ok (.iconst 4, 1) := by decide +kernel
theorem dX5_begin_115 : decode cX5_begin 115 = .ok (.if_icmp .ge 25, 3) := by decide +kernel
theorem dX5_begin_118 : decode cX5_begin 118 = .ok (.aload_n 0, 1) := by decide +kernel
theorem dX5_begin_119 : decode cX5_begin 119 = .ok (.getfield 47, 3) := by decide +kernel
theorem dX5_begin_122 : decode cX5_begin 122 = .ok (.iload 4, 2) := by decide +kernel
theorem dX5_begin_124 : decode cX5_begin 124 = .ok (.lconst 0, 1) := by decide +kernel
theorem dX5_begin_125 : decode cX5_begin 125 = .ok (.lastore, 1) := by decide +kernel
theorem dX5_begin_126 : decode cX5_begin 126 = .ok (.aload_n 0, 1) := by decide +kernel
theorem dX5_begin_127 : decode cX5_begin 127 = .ok (.getfield 51, 3) := by decide +kernel
theorem dX5_begin_130 : decode cX5_begin 130 = .ok (.iload 4, 2) := by decide +kernel
theorem dX5_begin_132 : decode cX5_begin 132 = .ok (.lconst 0, 1) := by decide +kernel
theorem dX5_begin_133 : decode cX5_begin 133 = .ok (.lastore, 1) := by decide +kernel
theorem dX5_begin_134 : decode cX5_begin 134 = .ok (.iinc 4 1, 3) := by decide +kernel
theorem dX5_begin_137 : decode cX5_begin 137 = .ok (.goto (-25), 3) := by decide +kernel
theorem dX5_begin_140 : decode cX5_begin 140 = .ok (.return_, 1) := by decide +kernel
set_option maxRecDepth 20000 in
theorem ggX5_setSizes_X5_failed : GoodIn wsX5_setSizes wsX5_failed := goodIn_r _ [9, 1, 23, 24, 25, 26, 27, 28, 29, 30, 31, 32, 33, 34, 35, 36, 37, 38, 39, 40, 41, 42, 43, 44] (by decide +kernel) (by decide +kernel)
set_option maxRecDepth 20000 in
theorem gX5_setSizes_X5_failed : GoodIn wsX5_setSizes (wsV RX5 84 RX5 yX5_failed wsX5_failed) := goodIn_app (goodIn_of _ (by decide +kernel)) ggX5_setSizes_X5_failed
set_option maxRecDepth 20000 in
theorem ggX5_setSizes_X5_begin : GoodIn wsX5_setSizes wsX5_begin := goodIn_r _ [13, 2, 3, 4, 14, 15, 16, 17, 18, 19, 20, 21, 22, 23, 24, 25, 26, 27, 28, 29, 30, 31, 32, 33, 34, 35, 36, 37, 38, 39, 40, 41, 42, 43, 44] (by decide +kernel) (by decide +kernel)
set_option maxRecDepth 20000 in
theorem gX5_setSizes_X5_begin : GoodIn wsX5_setSizes (wsV RX5 54 RX5 yX5_begin wsX5_begin) := goodIn_app (goodIn_of _ (by decide +kernel)) ggX5_setSizes_X5_begin
theorem dX5_setSizes_0 : decode cX5_setSizes 0 = .ok (.aload_n 0, 1) := by decide +kernel
theorem dX5_setSizes_1 : decode cX5_setSizes 1 = .ok (.iconst 0, 1) := by decide +kernel
theorem dX5_setSizes_2 : decode cX5_setSizes 2 = .ok (.putfield 58, 3) := by decide +kernel
theorem dX5_setSizes_5 : decode cX5_setSizes 5 = .ok (.iload_n 1, 1) := by decide +kernel
theorem dX5_setSizes_6 : decode cX5_setSizes 6 = .ok (.iconst 2, 1) := by decide +kernel
theorem dX5_setSizes_7 : decode cX5_setSizes 7 = .ok (.if_icmp .lt 29, 3) := by decide +kernel
theorem dX5_setSizes_10 : decode cX5_setSizes 10 = .ok (.iload_n 1, 1) := by decide +kernel
theorem dX5_setSizes_11 : decode cX5_setSizes 11 = .ok (.bipush 8, 2) := by decide +kernel
theorem dX5_setSizes_13 : decode cX5_setSizes 13 = .ok (.if_icmp .gt 23, 3) := by decide +kernel
theorem dX5_setSizes_16 : decode cX5_setSizes 16 = .ok (.iload_n 2, 1) := by decide +kernel
theorem dX5_setSizes_17 : decode cX5_setSizes 17 = .ok (.iconst 2, 1) := by decide +kernel
theorem dX5_setSizes_18 : decode cX5_setSizes 18 = .ok (.if_icmp .lt 18, 3) := by decide +kernel
theorem dX5_setSizes_21 : decode cX5_setSizes 21 = .ok (.iload_n 2, 1) := by decide +kernel
theorem dX5_setSizes_22 : decode cX5_setSizes 22 = .ok (.bipush 8, 2) := by decide +kernel
theorem dX5_setSizes_24 : decode cX5_setSizes 24 = .ok (.if_icmp .gt 12, 3) := by decide +kernel
theorem dX5_setSizes_27 : decode cX5_setSizes 27 = .ok (.iload_n 3, 1) := by decide +kernel
theorem dX5_setSizes_28 : decode cX5_setSizes 28 = .ok (.ifCond .lt 8, 3) := by decide +kernel
theorem dX5_setSizes_31 : decode cX5_setSizes 31 = .ok (.iload_n 3, 1) := by decide +kernel
theorem dX5_setSizes_32 : decode cX5_setSizes 32 = .ok (.iload_n 2, 1) := by decide +kernel
theorem dX5_setSizes_33 : decode cX5_setSizes 33 = .ok (.if_icmp .le 9, 3) := by decide +kernel
theorem dX5_setSizes_36 : decode cX5_setSizes 36 = .ok (.aload_n 0, 1) := by decide +kernel
theorem dX5_setSizes_37 : decode cX5_setSizes 37 = .ok (.iconst 1, 1) := by decide +kernel
theorem dX5_setSizes_38 : decode cX5_setSizes 38 = .ok (.invokevirtual 84, 3) := by decide +kernel
theorem dX5_setSizes_41 : decode cX5_setSizes 41 = .ok (.ireturn, 1) := by decide +kernel
theorem dX5_setSizes_42 : decode cX5_setSizes 42 = .ok (.aload_n 0, 1) := by decide +kernel
theorem dX5_setSizes_43 : decode cX5_setSizes 43 = .ok (.getfield 62, 3) := by decide +kernel
theorem dX5_setSizes_46 : decode cX5_setSizes 46 = .ok (.iload_n 1, 1) := by decide +kernel
theorem dX5_setSizes_47 : decode cX5_setSizes 47 = .ok (.if_icmp .ne 19, 3) := by decide +kernel
theorem dX5_setSizes_50 : decode cX5_setSizes 50 = .ok (.aload_n 0, 1) := by decide +kernel
theorem dX5_setSizes_51 : decode cX5_setSizes 51 = .ok (.getfield 65, 3) := by decide +kernel
theorem dX5_setSizes_54 : decode cX5_setSizes 54 = .ok (.iload_n 2, 1) := by decide +kernel
theorem dX5_setSizes_55 : decode cX5_setSizes 55 = .ok (.if_icmp .ne 11, 3) := by decide +kernel
theorem dX5_setSizes_58 : decode cX5_setSizes 58 = .ok (.aload_n 0, 1) := by decide +kernel
theorem dX5_setSizes_59 : decode cX5_setSizes 59 = .ok (.getfield 68, 3) := by decide +kernel
theorem dX5_setSizes_62 : decode cX5_setSizes 62 = .ok (.iload_n 3, 1) := by decide +kernel
theorem dX5_setSizes_63 : decode cX5_setSizes 63 = .ok (.if_icmp .eq 7, 3) := by decide +kernel
theorem dX5_setSizes_66 : decode cX5_setSizes 66 = .ok (.iconst 1, 1) := by decide +kernel
theorem dX5_setSizes_67 : decode cX5_setSizes 67 = .ok (.goto 4, 3) := by decide +kernel
theorem dX5_setSizes_70 : decode cX5_setSizes 70 = .ok (.iconst 0, 1) := by decide +kernel
theorem dX5_setSizes_71 : decode cX5_setSizes 71 = .ok (.istore 4, 2) := by decide +kernel
theorem dX5_setSizes_73 : decode cX5_setSizes 73 = .ok (.aload_n 0, 1) := by decide +kernel
theorem dX5_setSizes_74 : decode cX5_setSizes 74 = .ok (.iload_n 1, 1) := by decide +kernel
theorem dX5_setSizes_75 : decode cX5_setSizes 75 = .ok (.iload_n 2, 1) := by decide +kernel
theorem dX5_setSizes_76 : decode cX5_setSizes 76 = .ok (.iload_n 3, 1) := by decide +kernel
theorem dX5_setSizes_77 : decode cX5_setSizes 77 = .ok (.invokevirtual 54, 3) := by decide +kernel
theorem dX5_setSizes_80 : decode cX5_setSizes 80 = .ok (.iload 4, 2) := by decide +kernel
theorem dX5_setSizes_82 : decode cX5_setSizes 82 = .ok (.ireturn, 1) := by decide +kernel
theorem dX5_plainIndex_0 : decode cX5_plainIndex 0 = .ok (.iload_n 1, 1) := by decide +kernel
theorem dX5_plainIndex_1 : decode cX5_plainIndex 1 = .ok (.iconst 1, 1) := by decide +kernel
theorem dX5_plainIndex_2 : decode cX5_plainIndex 2 = .ok (.aload_n 0, 1) := by decide +kernel
theorem dX5_plainIndex_3 : decode cX5_plainIndex 3 = .ok (.getfield 62, 3) := by decide +kernel
theorem dX5_plainIndex_6 : decode cX5_plainIndex 6 = .ok (.ishl, 1) := by decide +kernel
theorem dX5_plainIndex_7 : decode cX5_plainIndex 7 = .ok (.irem, 1) := by decide +kernel
theorem dX5_plainIndex_8 : decode cX5_plainIndex 8 = .ok (.ireturn, 1) := by decide +kernel
theorem dX5_globalIndex_0 : decode cX5_globalIndex 0 = .ok (.sipush 256, 3) := by decide +kernel
theorem dX5_globalIndex_3 : decode cX5_globalIndex 3 = .ok (.iload_n 1, 1) := by decide +kernel
theorem dX5_globalIndex_4 : decode cX5_globalIndex 4 = .ok (.iload_n 2, 1) := by decide +kernel
theorem dX5_globalIndex_5 : decode cX5_globalIndex 5 = .ok (.ixor, 1) := by decide +kernel
theorem dX5_globalIndex_6 : decode cX5_globalIndex 6 = .ok (.iconst 1, 1) := by decide +kernel
theorem dX5_globalIndex_7 : decode cX5_globalIndex 7 = .ok (.aload_n 0, 1) := by decide +kernel
theorem dX5_globalIndex_8 : decode cX5_globalIndex 8 = .ok (.getfield 65, 3) := by decide +kernel
theorem dX5_globalIndex_11 : decode cX5_globalIndex 11 = .ok (.ishl, 1) := by decide +kernel
theorem dX5_globalIndex_12 : decode cX5_globalIndex 12 = .ok (.irem, 1) := by decide +kernel
theorem dX5_globalIndex_13 : decode cX5_globalIndex 13 = .ok (.iadd, 1) := by decide +kernel
theorem dX5_globalIndex_14 : decode cX5_globalIndex 14 = .ok (.ireturn, 1) := by decide +kernel
theorem dX5_choiceIndex_0 : decode cX5_choiceIndex 0 = .ok (.sipush 512, 3) := by decide +kernel
theorem dX5_choiceIndex_3 : decode cX5_choiceIndex 3 = .ok (.iload_n 1, 1) := by decide +kernel
theorem dX5_choiceIndex_4 : decode cX5_choiceIndex 4 = .ok (.iconst 1, 1) := by decide +kernel
theorem dX5_choiceIndex_5 : decode cX5_choiceIndex 5 = .ok (.aload_n 0, 1) := by decide +kernel
theorem dX5_choiceIndex_6 : decode cX5_choiceIndex 6 = .ok (.getfield 62, 3) := by decide +kernel
theorem dX5_choiceIndex_9 : decode cX5_choiceIndex 9 = .ok (.ishl, 1) := by decide +kernel
theorem dX5_choiceIndex_10 : decode cX5_choiceIndex 10 = .ok (.irem, 1) := by decide +kernel
theorem dX5_choiceIndex_11 : decode cX5_choiceIndex 11 = .ok (.iadd, 1) := by decide +kernel
theorem dX5_choiceIndex_12 : decode cX5_choiceIndex 12 = .ok (.ireturn, 1) := by decide +kernel
theorem dX5_says_0 : decode cX5_says 0 = .ok (.aload_n 0, 1) := by decide +kernel
theorem dX5_says_1 : decode cX5_says 1 = .ok (.getfield 9, 3) := by decide +kernel
theorem dX5_says_4 : decode cX5_says 4 = .ok (.iload_n 1, 1) := by decide +kernel
theorem dX5_says_5 : decode cX5_says 5 = .ok (.iaload, 1) := by decide +kernel
theorem dX5_says_6 : decode cX5_says 6 = .ok (.iconst 2, 1) := by decide +kernel
theorem dX5_says_7 : decode cX5_says 7 = .ok (.if_icmp .lt 7, 3) := by decide +kernel
theorem dX5_says_10 : decode cX5_says 10 = .ok (.iconst 1, 1) := by decide +kernel
theorem dX5_says_11 : decode cX5_says 11 = .ok (.goto 4, 3) := by decide +kernel
theorem dX5_says_14 : decode cX5_says 14 = .ok (.iconst 0, 1) := by decide +kernel
theorem dX5_says_15 : decode cX5_says 15 = .ok (.ireturn, 1) := by decide +kernel
theorem dX5_appended_0 : decode cX5_appended 0 = .ok (.iconst 2, 1) := by decide +kernel
theorem dX5_appended_1 : decode cX5_appended 1 = .ok (.iload_n 1, 1) := by decide +kernel
theorem dX5_appended_2 : decode cX5_appended 2 = .ok (.imul, 1) := by decide +kernel
theorem dX5_appended_3 : decode cX5_appended 3 = .ok (.iload_n 2, 1) := by decide +kernel
theorem dX5_appended_4 : decode cX5_appended 4 = .ok (.ifCond .eq 7, 3) := by decide +kernel
theorem dX5_appended_7 : decode cX5_appended 7 = .ok (.iconst 1, 1) := by decide +kernel
theorem dX5_appended_8 : decode cX5_appended 8 = .ok (.goto 4, 3) := by decide +kernel
theorem dX5_appended_11 : decode cX5_appended 11 = .ok (.iconst 0, 1) := by decide +kernel
theorem dX5_appended_12 : decode cX5_appended 12 = .ok (.iadd, 1) := by decide +kernel
theorem dX5_appended_13 : decode cX5_appended 13 = .ok (.iconst 1, 1) := by decide +kernel
theorem dX5_appended_14 : decode cX5_appended 14 = .ok (.aload_n 0, 1) := by decide +kernel
theorem dX5_appended_15 : decode cX5_appended 15 = .ok (.getfield 68, 3) := by decide +kernel
theorem dX5_appended_18 : decode cX5_appended 18 = .ok (.ishl, 1) := by decide +kernel
theorem dX5_appended_19 : decode cX5_appended 19 = .ok (.irem, 1) := by decide +kernel
theorem dX5_appended_20 : decode cX5_appended 20 = .ok (.ireturn, 1) := by decide +kernel
theorem dX5_loopOf_0 : decode cX5_loopOf 0 = .ok (.iconst 0, 1) := by decide +kernel
theorem dX5_loopOf_1 : decode cX5_loopOf 1 = .ok (.istore_n 2, 1) := by decide +kernel
theorem dX5_loopOf_2 : decode cX5_loopOf 2 = .ok (.iload_n 2, 1) := by decide +kernel
theorem dX5_loopOf_3 : decode cX5_loopOf 3 = .ok (.bipush 8, 2) := by decide +kernel
theorem dX5_loopOf_5 : decode cX5_loopOf 5 = .ok (.if_icmp .ge 30, 3) := by decide +kernel
theorem dX5_loopOf_8 : decode cX5_loopOf 8 = .ok (.aload_n 0, 1) := by decide +kernel
theorem dX5_loopOf_9 : decode cX5_loopOf 9 = .ok (.getfield 32, 3) := by decide +kernel
theorem dX5_loopOf_12 : decode cX5_loopOf 12 = .ok (.iload_n 2, 1) := by decide +kernel
theorem dX5_loopOf_13 : decode cX5_loopOf 13 = .ok (.baload, 1) := by decide +kernel
theorem dX5_loopOf_14 : decode cX5_loopOf 14 = .ok (.ifCond .eq 15, 3) := by decide +kernel
theorem dX5_loopOf_17 : decode cX5_loopOf 17 = .ok (.aload_n 0, 1) := by decide +kernel
theorem dX5_loopOf_18 : decode cX5_loopOf 18 = .ok (.getfield 35, 3) := by decide +kernel
theorem dX5_loopOf_21 : decode cX5_loopOf 21 = .ok (.iload_n 2, 1) := by decide +kernel
theorem dX5_loopOf_22 : decode cX5_loopOf 22 = .ok (.iaload, 1) := by decide +kernel
theorem dX5_loopOf_23 : decode cX5_loopOf 23 = .ok (.iload_n 1, 1) := by decide +kernel
theorem dX5_loopOf_24 : decode cX5_loopOf 24 = .ok (.if_icmp .ne 5, 3) := by decide +kernel
theorem dX5_loopOf_27 : decode cX5_loopOf 27 = .ok (.iload_n 2, 1) := by decide +kernel
theorem dX5_loopOf_28 : decode cX5_loopOf 28 = .ok (.ireturn, 1) := by decide +kernel
theorem dX5_loopOf_29 : decode cX5_loopOf 29 = .ok (.iinc 2 1, 3) := by decide +kernel
theorem dX5_loopOf_32 : decode cX5_loopOf 32 = .ok (.goto (-30), 3) := by decide +kernel
theorem dX5_loopOf_35 : decode cX5_loopOf 35 = .ok (.iconst (-1), 1) := by decide +kernel
theorem dX5_loopOf_36 : decode cX5_loopOf 36 = .ok (.ireturn, 1) := by decide +kernel
theorem dX5_isTaken_0 : decode cX5_isTaken 0 = .ok (.aload_n 0, 1) := by decide +kernel
theorem dX5_isTaken_1 : decode cX5_isTaken 1 = .ok (.getfield 26, 3) := by decide +kernel
theorem dX5_isTaken_4 : decode cX5_isTaken 4 = .ok (.iload_n 1, 1) := by decide +kernel
theorem dX5_isTaken_5 : decode cX5_isTaken 5 = .ok (.baload, 1) := by decide +kernel
theorem dX5_isTaken_6 : decode cX5_isTaken 6 = .ok (.ifCond .eq 12, 3) := by decide +kernel
theorem dX5_isTaken_9 : decode cX5_isTaken 9 = .ok (.aload_n 0, 1) := by decide +kernel
theorem dX5_isTaken_10 : decode cX5_isTaken 10 = .ok (.getfield 29, 3) := by decide +kernel
theorem dX5_isTaken_13 : decode cX5_isTaken 13 = .ok (.iload_n 1, 1) := by decide +kernel
theorem dX5_isTaken_14 : decode cX5_isTaken 14 = .ok (.baload, 1) := by decide +kernel
theorem dX5_isTaken_15 : decode cX5_isTaken 15 = .ok (.goto 13, 3) := by decide +kernel
theorem dX5_isTaken_18 : decode cX5_isTaken 18 = .ok (.aload_n 0, 1) := by decide +kernel
theorem dX5_isTaken_19 : decode cX5_isTaken 19 = .ok (.getfield 22, 3) := by decide +kernel
theorem dX5_isTaken_22 : decode cX5_isTaken 22 = .ok (.iconst 4, 1) := by decide +kernel
theorem dX5_isTaken_23 : decode cX5_isTaken 23 = .ok (.iload_n 1, 1) := by decide +kernel
theorem dX5_isTaken_24 : decode cX5_isTaken 24 = .ok (.imul, 1) := by decide +kernel
theorem dX5_isTaken_25 : decode cX5_isTaken 25 = .ok (.iconst 3, 1) := by decide +kernel
theorem dX5_isTaken_26 : decode cX5_isTaken 26 = .ok (.iadd, 1) := by decide +kernel
theorem dX5_isTaken_27 : decode cX5_isTaken 27 = .ok (.baload, 1) := by decide +kernel
theorem dX5_isTaken_28 : decode cX5_isTaken 28 = .ok (.ireturn, 1) := by decide +kernel
set_option maxRecDepth 20000 in
theorem ggX5_presumed_X5_isTaken : GoodIn wsX5_presumed wsX5_isTaken := goodIn_r _ [9, 10, 11, 12, 13, 14, 15, 16, 17, 18, 19, 20, 21, 22, 23, 24, 25, 26, 27, 28, 29, 30, 31, 32, 33, 34] (by decide +kernel) (by decide +kernel)
set_option maxRecDepth 20000 in
theorem gX5_presumed_X5_isTaken : GoodIn wsX5_presumed (wsV RX5 88 RX5 yX5_isTaken wsX5_isTaken) := goodIn_app (goodIn_of _ (by decide +kernel)) ggX5_presumed_X5_isTaken
theorem dX5_presumed_0 : decode cX5_presumed 0 = .ok (.aload_n 0, 1) := by decide +kernel
theorem dX5_presumed_1 : decode cX5_presumed 1 = .ok (.getfield 38, 3) := by decide +kernel
theorem dX5_presumed_4 : decode cX5_presumed 4 = .ok (.iload_n 1, 1) := by decide +kernel
theorem dX5_presumed_5 : decode cX5_presumed 5 = .ok (.iaload, 1) := by decide +kernel
theorem dX5_presumed_6 : decode cX5_presumed 6 = .ok (.istore_n 2, 1) := by decide +kernel
theorem dX5_presumed_7 : decode cX5_presumed 7 = .ok (.iconst 0, 1) := by decide +kernel
theorem dX5_presumed_8 : decode cX5_presumed 8 = .ok (.istore_n 3, 1) := by decide +kernel
theorem dX5_presumed_9 : decode cX5_presumed 9 = .ok (.iload_n 3, 1) := by decide +kernel
theorem dX5_presumed_10 : decode cX5_presumed 10 = .ok (.aload_n 0, 1) := by decide +kernel
theorem dX5_presumed_11 : decode cX5_presumed 11 = .ok (.getfield 74, 3) := by decide +kernel
theorem dX5_presumed_14 : decode cX5_presumed 14 = .ok (.if_icmp .ge 40, 3) := by decide +kernel
theorem dX5_presumed_17 : decode cX5_presumed 17 = .ok (.aload_n 0, 1) := by decide +kernel
theorem dX5_presumed_18 : decode cX5_presumed 18 = .ok (.getfield 16, 3) := by decide +kernel
theorem dX5_presumed_21 : decode cX5_presumed 21 = .ok (.iload_n 3, 1) := by decide +kernel
theorem dX5_presumed_22 : decode cX5_presumed 22 = .ok (.iaload, 1) := by decide +kernel
theorem dX5_presumed_23 : decode cX5_presumed 23 = .ok (.aload_n 0, 1) := by decide +kernel
theorem dX5_presumed_24 : decode cX5_presumed 24 = .ok (.getfield 35, 3) := by decide +kernel
theorem dX5_presumed_27 : decode cX5_presumed 27 = .ok (.iload_n 1, 1) := by decide +kernel
theorem dX5_presumed_28 : decode cX5_presumed 28 = .ok (.iaload, 1) := by decide +kernel
theorem dX5_presumed_29 : decode cX5_presumed 29 = .ok (.if_icmp .ne 19, 3) := by decide +kernel
theorem dX5_presumed_32 : decode cX5_presumed 32 = .ok (.aload_n 0, 1) := by decide +kernel
theorem dX5_presumed_33 : decode cX5_presumed 33 = .ok (.iload_n 3, 1) := by decide +kernel
theorem dX5_presumed_34 : decode cX5_presumed 34 = .ok (.invokevirtual 88, 3) := by decide +kernel
theorem dX5_presumed_37 : decode cX5_presumed 37 = .ok (.ifCond .eq 9, 3) := by decide +kernel
theorem dX5_presumed_40 : decode cX5_presumed 40 = .ok (.iload_n 2, 1) := by decide +kernel
theorem dX5_presumed_41 : decode cX5_presumed 41 = .ok (.iconst 1, 1) := by decide +kernel
theorem dX5_presumed_42 : decode cX5_presumed 42 = .ok (.iadd, 1) := by decide +kernel
theorem dX5_presumed_43 : decode cX5_presumed 43 = .ok (.goto 4, 3) := by decide +kernel
theorem dX5_presumed_46 : decode cX5_presumed 46 = .ok (.iconst 0, 1) := by decide +kernel
theorem dX5_presumed_47 : decode cX5_presumed 47 = .ok (.istore_n 2, 1) := by decide +kernel
theorem dX5_presumed_48 : decode cX5_presumed 48 = .ok (.iinc 3 1, 3) := by decide +kernel
theorem dX5_presumed_51 : decode cX5_presumed 51 = .ok (.goto (-42), 3) := by decide +kernel
theorem dX5_presumed_54 : decode cX5_presumed 54 = .ok (.iload_n 2, 1) := by decide +kernel
theorem dX5_presumed_55 : decode cX5_presumed 55 = .ok (.ireturn, 1) := by decide +kernel
set_option maxRecDepth 20000 in
theorem ggX5_add_X5_plainIndex : GoodIn wsX5_add wsX5_plainIndex := goodIn_r _ [13, 14, 50, 51, 52, 53, 54, 55, 56, 57, 58, 59, 60, 61, 62, 63, 64, 65, 66, 67, 68, 69, 70, 71] (by decide +kernel) (by decide +kernel)
set_option maxRecDepth 20000 in
theorem gX5_add_X5_plainIndex : GoodIn wsX5_add (wsV RX5 91 RX5 yX5_plainIndex wsX5_plainIndex) := goodIn_app (goodIn_of _ (by decide +kernel)) ggX5_add_X5_plainIndex
set_option maxRecDepth 20000 in
theorem ggX5_add_X5_says : GoodIn wsX5_add wsX5_says := goodIn_r _ [18, 19, 50, 51, 52, 53, 54, 55, 56, 57, 58, 59, 60, 61, 62, 63, 64, 65, 66, 67, 68, 69, 70, 71] (by decide +kernel) (by decide +kernel)
set_option maxRecDepth 20000 in
theorem gX5_add_X5_says : GoodIn wsX5_add (wsV RX5 95 RX5 yX5_says wsX5_says) := goodIn_app (goodIn_of _ (by decide +kernel)) ggX5_add_X5_says
set_option maxRecDepth 20000 in
theorem ggX5_add_X5_globalIndex : GoodIn wsX5_add wsX5_globalIndex := goodIn_r _ [23, 24, 50, 51, 52, 53, 54, 55, 56, 57, 58, 59, 60, 61, 62, 63, 64, 65, 66, 67, 68, 69, 70, 71] (by decide +kernel) (by decide +kernel)
set_option maxRecDepth 20000 in
theorem gX5_add_X5_globalIndex : GoodIn wsX5_add (wsV RX5 98 RX5 yX5_globalIndex wsX5_globalIndex) := goodIn_app (goodIn_of _ (by decide +kernel)) ggX5_add_X5_globalIndex
set_option maxRecDepth 20000 in
theorem ggX5_add_X5_choiceIndex : GoodIn wsX5_add wsX5_choiceIndex := goodIn_r _ [28, 14, 50, 51, 52, 53, 54, 55, 56, 57, 58, 59, 60, 61, 62, 63, 64, 65, 66, 67, 68, 69, 70, 71] (by decide +kernel) (by decide +kernel)
set_option maxRecDepth 20000 in
theorem gX5_add_X5_choiceIndex : GoodIn wsX5_add (wsV RX5 102 RX5 yX5_choiceIndex wsX5_choiceIndex) := goodIn_app (goodIn_of _ (by decide +kernel)) ggX5_add_X5_choiceIndex
set_option maxRecDepth 20000 in
theorem ggX5_add_X5_loopOf : GoodIn wsX5_add wsX5_loopOf := goodIn_r _ [32, 33, 34, 50, 51, 52, 53, 54, 55, 56, 57, 58, 59, 60, 61, 62, 63, 64, 65, 66, 67, 68, 69, 70, 71] (by decide +kernel) (by decide +kernel)
set_option maxRecDepth 20000 in
theorem gX5_add_X5_loopOf : GoodIn wsX5_add (wsV RX5 105 RX5 yX5_loopOf wsX5_loopOf) := goodIn_app (goodIn_of _ (by decide +kernel)) ggX5_add_X5_loopOf
set_option maxRecDepth 20000 in
theorem ggX5_add_X5_presumed : GoodIn wsX5_add wsX5_presumed := goodIn_r _ [38, 39, 1, 6, 34, 40, 41, 42, 12, 43, 8, 44, 2, 50, 51, 52, 53, 54, 55, 56, 57, 58, 59, 60, 61, 62, 63, 64, 65, 66, 67, 68, 69, 70, 71] (by decide +kernel) (by decide +kernel)
set_option maxRecDepth 20000 in
theorem gX5_add_X5_presumed : GoodIn wsX5_add (wsV RX5 108 RX5 yX5_presumed wsX5_presumed) := goodIn_app (goodIn_of _ (by decide +kernel)) ggX5_add_X5_presumed
set_option maxRecDepth 20000 in
theorem ggX5_add_X5_appended : GoodIn wsX5_add wsX5_appended := goodIn_r _ [48, 49, 50, 51, 52, 53, 54, 55, 56, 57, 58, 59, 60, 61, 62, 63, 64, 65, 66, 67, 68, 69, 70, 71] (by decide +kernel) (by decide +kernel)
set_option maxRecDepth 20000 in
theorem gX5_add_X5_appended : GoodIn wsX5_add (wsV RX5 111 RX5 yX5_appended wsX5_appended) := goodIn_app (goodIn_of _ (by decide +kernel)) ggX5_add_X5_appended
theorem dX5_add_0 : decode cX5_add 0 = .ok (.iconst 4, 1) := by decide +kernel
theorem dX5_add_1 : decode cX5_add 1 = .ok (.aload_n 0, 1) := by decide +kernel
theorem dX5_add_2 : decode cX5_add 2 = .ok (.getfield 74, 3) := by decide +kernel
theorem dX5_add_5 : decode cX5_add 5 = .ok (.imul, 1) := by decide +kernel
theorem dX5_add_6 : decode cX5_add 6 = .ok (.istore_n 2, 1) := by decide +kernel
theorem dX5_add_7 : decode cX5_add 7 = .ok (.aload_n 0, 1) := by decide +kernel
theorem dX5_add_8 : decode cX5_add 8 = .ok (.getfield 22, 3) := by decide +kernel
theorem dX5_add_11 : decode cX5_add 11 = .ok (.iload_n 2, 1) := by decide +kernel
theorem dX5_add_12 : decode cX5_add 12 = .ok (.iconst 0, 1) := by decide +kernel
theorem dX5_add_13 : decode cX5_add 13 = .ok (.iadd, 1) := by decide +kernel
theorem dX5_add_14 : decode cX5_add 14 = .ok (.aload_n 0, 1) := by decide +kernel
theorem dX5_add_15 : decode cX5_add 15 = .ok (.aload_n 0, 1) := by decide +kernel
theorem dX5_add_16 : decode cX5_add 16 = .ok (.iload_n 1, 1) := by decide +kernel
theorem dX5_add_17 : decode cX5_add 17 = .ok (.invokevirtual 91, 3) := by decide +kernel
theorem dX5_add_20 : decode cX5_add 20 = .ok (.invokevirtual 95, 3) := by decide +kernel
theorem dX5_add_23 : decode cX5_add 23 = .ok (.bastore, 1) := by decide +kernel
theorem dX5_add_24 : decode cX5_add 24 = .ok (.aload_n 0, 1) := by decide +kernel
theorem dX5_add_25 : decode cX5_add 25 = .ok (.getfield 22, 3) := by decide +kernel
theorem dX5_add_28 : decode cX5_add 28 = .ok (.iload_n 2, 1) := by decide +kernel
theorem dX5_add_29 : decode cX5_add 29 = .ok (.iconst 1, 1) := by decide +kernel
theorem dX5_add_30 : decode cX5_add 30 = .ok (.iadd, 1) := by decide +kernel
theorem dX5_add_31 : decode cX5_add 31 = .ok (.aload_n 0, 1) := by decide +kernel
theorem dX5_add_32 : decode cX5_add 32 = .ok (.aload_n 0, 1) := by decide +kernel
theorem dX5_add_33 : decode cX5_add 33 = .ok (.iload_n 1, 1) := by decide +kernel
theorem dX5_add_34 : decode cX5_add 34 = .ok (.aload_n 0, 1) := by decide +kernel
theorem dX5_add_35 : decode cX5_add 35 = .ok (.getfield 71, 3) := by decide +kernel
theorem dX5_add_38 : decode cX5_add 38 = .ok (.invokevirtual 98, 3) := by decide +kernel
theorem dX5_add_41 : decode cX5_add 41 = .ok (.invokevirtual 95, 3) := by decide +kernel
theorem dX5_add_44 : decode cX5_add 44 = .ok (.bastore, 1) := by decide +kernel
theorem dX5_add_45 : decode cX5_add 45 = .ok (.aload_n 0, 1) := by decide +kernel
theorem dX5_add_46 : decode cX5_add 46 = .ok (.getfield 22, 3) := by decide +kernel
theorem dX5_add_49 : decode cX5_add 49 = .ok (.iload_n 2, 1) := by decide +kernel
theorem dX5_add_50 : decode cX5_add 50 = .ok (.iconst 2, 1) := by decide +kernel
theorem dX5_add_51 : decode cX5_add 51 = .ok (.iadd, 1) := by decide +kernel
theorem dX5_add_52 : decode cX5_add 52 = .ok (.aload_n 0, 1) := by decide +kernel
theorem dX5_add_53 : decode cX5_add 53 = .ok (.getfield 22, 3) := by decide +kernel
theorem dX5_add_56 : decode cX5_add 56 = .ok (.iload_n 2, 1) := by decide +kernel
theorem dX5_add_57 : decode cX5_add 57 = .ok (.aload_n 0, 1) := by decide +kernel
theorem dX5_add_58 : decode cX5_add 58 = .ok (.aload_n 0, 1) := by decide +kernel
theorem dX5_add_59 : decode cX5_add 59 = .ok (.iload_n 1, 1) := by decide +kernel
theorem dX5_add_60 : decode cX5_add 60 = .ok (.invokevirtual 102, 3) := by decide +kernel
theorem dX5_add_63 : decode cX5_add 63 = .ok (.invokevirtual 95, 3) := by decide +kernel
theorem dX5_add_66 : decode cX5_add 66 = .ok (.ifCond .eq 7, 3) := by decide +kernel
theorem dX5_add_69 : decode cX5_add 69 = .ok (.iconst 1, 1) := by decide +kernel
theorem dX5_add_70 : decode cX5_add 70 = .ok (.goto 4, 3) := by decide +kernel
theorem dX5_add_73 : decode cX5_add 73 = .ok (.iconst 0, 1) := by decide +kernel
theorem dX5_add_74 : decode cX5_add 74 = .ok (.iadd, 1) := by decide +kernel
theorem dX5_add_75 : decode cX5_add 75 = .ok (.baload, 1) := by decide +kernel
theorem dX5_add_76 : decode cX5_add 76 = .ok (.bastore, 1) := by decide +kernel
theorem dX5_add_77 : decode cX5_add 77 = .ok (.aload_n 0, 1) := by decide +kernel
theorem dX5_add_78 : decode cX5_add 78 = .ok (.iload_n 1, 1) := by decide +kernel
theorem dX5_add_79 : decode cX5_add 79 = .ok (.invokevirtual 105, 3) := by decide +kernel
theorem dX5_add_82 : decode cX5_add 82 = .ok (.istore_n 3, 1) := by decide +kernel
theorem dX5_add_83 : decode cX5_add 83 = .ok (.iload_n 3, 1) := by decide +kernel
theorem dX5_add_84 : decode cX5_add 84 = .ok (.iconst (-1), 1) := by decide +kernel
theorem dX5_add_85 : decode cX5_add 85 = .ok (.if_icmp .eq 17, 3) := by decide +kernel
theorem dX5_add_88 : decode cX5_add 88 = .ok (.aload_n 0, 1) := by decide +kernel
theorem dX5_add_89 : decode cX5_add 89 = .ok (.getfield 44, 3) := by decide +kernel
theorem dX5_add_92 : decode cX5_add 92 = .ok (.iload_n 3, 1) := by decide +kernel
theorem dX5_add_93 : decode cX5_add 93 = .ok (.iaload, 1) := by decide +kernel
theorem dX5_add_94 : decode cX5_add 94 = .ok (.iconst 3, 1) := by decide +kernel
theorem dX5_add_95 : decode cX5_add 95 = .ok (.if_icmp .ne 7, 3) := by decide +kernel
theorem dX5_add_98 : decode cX5_add 98 = .ok (.iconst 1, 1) := by decide +kernel
theorem dX5_add_99 : decode cX5_add 99 = .ok (.goto 4, 3) := by decide +kernel
theorem dX5_add_102 : decode cX5_add 102 = .ok (.iconst 0, 1) := by decide +kernel
theorem dX5_add_103 : decode cX5_add 103 = .ok (.istore 4, 2) := by decide +kernel
theorem dX5_add_105 : decode cX5_add 105 = .ok (.aload_n 0, 1) := by decide +kernel
theorem dX5_add_106 : decode cX5_add 106 = .ok (.getfield 22, 3) := by decide +kernel
theorem dX5_add_109 : decode cX5_add 109 = .ok (.iload_n 2, 1) := by decide +kernel
theorem dX5_add_110 : decode cX5_add 110 = .ok (.iconst 3, 1) := by decide +kernel
theorem dX5_add_111 : decode cX5_add 111 = .ok (.iadd, 1) := by decide +kernel
theorem dX5_add_112 : decode cX5_add 112 = .ok (.iload 4, 2) := by decide +kernel
theorem dX5_add_114 : decode cX5_add 114 = .ok (.ifCond .eq 25, 3) := by decide +kernel
theorem dX5_add_117 : decode cX5_add 117 = .ok (.aload_n 0, 1) := by decide +kernel
theorem dX5_add_118 : decode cX5_add 118 = .ok (.iload_n 3, 1) := by decide +kernel
theorem dX5_add_119 : decode cX5_add 119 = .ok (.invokevirtual 108, 3) := by decide +kernel
theorem dX5_add_122 : decode cX5_add 122 = .ok (.aload_n 0, 1) := by decide +kernel
theorem dX5_add_123 : decode cX5_add 123 = .ok (.getfield 41, 3) := by decide +kernel
theorem dX5_add_126 : decode cX5_add 126 = .ok (.iload_n 3, 1) := by decide +kernel
theorem dX5_add_127 : decode cX5_add 127 = .ok (.iaload, 1) := by decide +kernel
theorem dX5_add_128 : decode cX5_add 128 = .ok (.if_icmp .ge 7, 3) := by decide +kernel
theorem dX5_add_131 : decode cX5_add 131 = .ok (.iconst 1, 1) := by decide +kernel
theorem dX5_add_132 : decode cX5_add 132 = .ok (.goto 15, 3) := by decide +kernel
theorem dX5_add_135 : decode cX5_add 135 = .ok (.iconst 0, 1) := by decide +kernel
theorem dX5_add_136 : decode cX5_add 136 = .ok (.goto 11, 3) := by decide +kernel
theorem dX5_add_139 : decode cX5_add 139 = .ok (.aload_n 0, 1) := by decide +kernel
theorem dX5_add_140 : decode cX5_add 140 = .ok (.getfield 22, 3) := by decide +kernel
theorem dX5_add_143 : decode cX5_add 143 = .ok (.iload_n 2, 1) := by decide +kernel
theorem dX5_add_144 : decode cX5_add 144 = .ok (.iconst 2, 1) := by decide +kernel
theorem dX5_add_145 : decode cX5_add 145 = .ok (.iadd, 1) := by decide +kernel
theorem dX5_add_146 : decode cX5_add 146 = .ok (.baload, 1) := by decide +kernel
theorem dX5_add_147 : decode cX5_add 147 = .ok (.bastore, 1) := by decide +kernel
theorem dX5_add_148 : decode cX5_add 148 = .ok (.aload_n 0, 1) := by decide +kernel
theorem dX5_add_149 : decode cX5_add 149 = .ok (.getfield 16, 3) := by decide +kernel
theorem dX5_add_152 : decode cX5_add 152 = .ok (.aload_n 0, 1) := by decide +kernel
theorem dX5_add_153 : decode cX5_add 153 = .ok (.getfield 74, 3) := by decide +kernel
theorem dX5_add_156 : decode cX5_add 156 = .ok (.iload_n 1, 1) := by decide +kernel
theorem dX5_add_157 : decode cX5_add 157 = .ok (.iastore, 1) := by decide +kernel
theorem dX5_add_158 : decode cX5_add 158 = .ok (.aload_n 0, 1) := by decide +kernel
theorem dX5_add_159 : decode cX5_add 159 = .ok (.getfield 19, 3) := by decide +kernel
theorem dX5_add_162 : decode cX5_add 162 = .ok (.aload_n 0, 1) := by decide +kernel
theorem dX5_add_163 : decode cX5_add 163 = .ok (.getfield 74, 3) := by decide +kernel
theorem dX5_add_166 : decode cX5_add 166 = .ok (.aload_n 0, 1) := by decide +kernel
theorem dX5_add_167 : decode cX5_add 167 = .ok (.getfield 71, 3) := by decide +kernel
theorem dX5_add_170 : decode cX5_add 170 = .ok (.iastore, 1) := by decide +kernel
theorem dX5_add_171 : decode cX5_add 171 = .ok (.aload_n 0, 1) := by decide +kernel
theorem dX5_add_172 : decode cX5_add 172 = .ok (.getfield 26, 3) := by decide +kernel
theorem dX5_add_175 : decode cX5_add 175 = .ok (.aload_n 0, 1) := by decide +kernel
theorem dX5_add_176 : decode cX5_add 176 = .ok (.getfield 74, 3) := by decide +kernel
theorem dX5_add_179 : decode cX5_add 179 = .ok (.iconst 0, 1) := by decide +kernel
theorem dX5_add_180 : decode cX5_add 180 = .ok (.bastore, 1) := by decide +kernel
theorem dX5_add_181 : decode cX5_add 181 = .ok (.aload_n 0, 1) := by decide +kernel
theorem dX5_add_182 : decode cX5_add 182 = .ok (.aload_n 0, 1) := by decide +kernel
theorem dX5_add_183 : decode cX5_add 183 = .ok (.aload_n 0, 1) := by decide +kernel
theorem dX5_add_184 : decode cX5_add 184 = .ok (.getfield 71, 3) := by decide +kernel
theorem dX5_add_187 : decode cX5_add 187 = .ok (.aload_n 0, 1) := by decide +kernel
theorem dX5_add_188 : decode cX5_add 188 = .ok (.getfield 22, 3) := by decide +kernel
theorem dX5_add_191 : decode cX5_add 191 = .ok (.iload_n 2, 1) := by decide +kernel
theorem dX5_add_192 : decode cX5_add 192 = .ok (.iconst 3, 1) := by decide +kernel
theorem dX5_add_193 : decode cX5_add 193 = .ok (.iadd, 1) := by decide +kernel
theorem dX5_add_194 : decode cX5_add 194 = .ok (.baload, 1) := by decide +kernel
theorem dX5_add_195 : decode cX5_add 195 = .ok (.invokevirtual 111, 3) := by decide +kernel
theorem dX5_add_198 : decode cX5_add 198 = .ok (.putfield 71, 3) := by decide +kernel
theorem dX5_add_201 : decode cX5_add 201 = .ok (.aload_n 0, 1) := by decide +kernel
theorem dX5_add_202 : decode cX5_add 202 = .ok (.dup, 1) := by decide +kernel
theorem dX5_add_203 : decode cX5_add 203 = .ok (.getfield 74, 3) := by decide +kernel
theorem dX5_add_206 : decode cX5_add 206 = .ok (.iconst 1, 1) := by decide +kernel
theorem dX5_add_207 : decode cX5_add 207 = .ok (.iadd, 1) := by decide +kernel
theorem dX5_add_208 : decode cX5_add 208 = .ok (.putfield 74, 3) := by decide +kernel
theorem dX5_add_211 : decode cX5_add 211 = .ok (.aload_n 0, 1) := by decide +kernel
theorem dX5_add_212 : decode cX5_add 212 = .ok (.getfield 22, 3) := by decide +kernel
theorem dX5_add_215 : decode cX5_add 215 = .ok (.iload_n 2, 1) := by decide +kernel
theorem dX5_add_216 : decode cX5_add 216 = .ok (.iconst 3, 1) := by decide +kernel
theorem dX5_add_217 : decode cX5_add 217 = .ok (.iadd, 1) := by decide +kernel
theorem dX5_add_218 : decode cX5_add 218 = .ok (.baload, 1) := by decide +kernel
theorem dX5_add_219 : decode cX5_add 219 = .ok (.ireturn, 1) := by decide +kernel
set_option maxRecDepth 20000 in
theorem ggX5_predict_X5_failed : GoodIn wsX5_predict wsX5_failed := goodIn_r _ [8, 1, 60, 61, 62, 63, 64, 65, 66, 67, 68, 69, 70, 71, 72, 73, 74, 75, 76, 77, 78, 79, 80, 81] (by decide +kernel) (by decide +kernel)
set_option maxRecDepth 20000 in
theorem gX5_predict_X5_failed : GoodIn wsX5_predict (wsV RX5 84 RX5 yX5_failed wsX5_failed) := goodIn_app (goodIn_of _ (by decide +kernel)) ggX5_predict_X5_failed
set_option maxRecDepth 20000 in
theorem ggX5_predict_X5_add : GoodIn wsX5_predict wsX5_add := goodIn_r _ [12, 3, 13, 14, 15, 16, 17, 18, 19, 20, 21, 22, 7, 23, 24, 25, 26, 27, 28, 29, 30, 31, 32, 33, 34, 35, 36, 37, 38, 39, 40, 41, 42, 43, 44, 45, 46, 47, 48, 49, 50, 51, 52, 53, 54, 55, 56, 57, 58, 59, 60, 61, 62, 63, 64, 65, 66, 67, 68, 69, 70, 71, 72, 73, 74, 75, 76, 77, 78, 79, 80, 81] (by decide +kernel) (by decide +kernel)
set_option maxRecDepth 20000 in
theorem gX5_predict_X5_add : GoodIn wsX5_predict (wsV RX5 116 RX5 yX5_add wsX5_add) := goodIn_app (goodIn_of _ (by decide +kernel)) ggX5_predict_X5_add
theorem dX5_predict_0 : decode cX5_predict 0 = .ok (.aload_n 0, 1) := by decide +kernel
theorem dX5_predict_1 : decode cX5_predict 1 = .ok (.iconst 0, 1) := by decide +kernel
theorem dX5_predict_2 : decode cX5_predict 2 = .ok (.putfield 58, 3) := by decide +kernel
theorem dX5_predict_5 : decode cX5_predict 5 = .ok (.iload_n 1, 1) := by decide +kernel
theorem dX5_predict_6 : decode cX5_predict 6 = .ok (.ifCond .lt 9, 3) := by decide +kernel
theorem dX5_predict_9 : decode cX5_predict 9 = .ok (.iload_n 1, 1) := by decide +kernel
theorem dX5_predict_10 : decode cX5_predict 10 = .ok (.ldc 115, 2) := by decide +kernel
theorem dX5_predict_12 : decode cX5_predict 12 = .ok (.if_icmp .lt 9, 3) := by decide +kernel
theorem dX5_predict_15 : decode cX5_predict 15 = .ok (.aload_n 0, 1) := by decide +kernel
theorem dX5_predict_16 : decode cX5_predict 16 = .ok (.iconst 1, 1) := by decide +kernel
theorem dX5_predict_17 : decode cX5_predict 17 = .ok (.invokevirtual 84, 3) := by decide +kernel
theorem dX5_predict_20 : decode cX5_predict 20 = .ok (.ireturn, 1) := by decide +kernel
theorem dX5_predict_21 : decode cX5_predict 21 = .ok (.aload_n 0, 1) := by decide +kernel
theorem dX5_predict_22 : decode cX5_predict 22 = .ok (.getfield 74, 3) := by decide +kernel
theorem dX5_predict_25 : decode cX5_predict 25 = .ok (.bipush 16, 2) := by decide +kernel
theorem dX5_predict_27 : decode cX5_predict 27 = .ok (.if_icmp .ge 11, 3) := by decide +kernel
theorem dX5_predict_30 : decode cX5_predict 30 = .ok (.aload_n 0, 1) := by decide +kernel
theorem dX5_predict_31 : decode cX5_predict 31 = .ok (.iload_n 1, 1) := by decide +kernel
theorem dX5_predict_32 : decode cX5_predict 32 = .ok (.invokevirtual 116, 3) := by decide +kernel
theorem dX5_predict_35 : decode cX5_predict 35 = .ok (.goto 8, 3) := by decide +kernel
theorem dX5_predict_38 : decode cX5_predict 38 = .ok (.aload_n 0, 1) := by decide +kernel
theorem dX5_predict_39 : decode cX5_predict 39 = .ok (.iconst 2, 1) := by decide +kernel
theorem dX5_predict_40 : decode cX5_predict 40 = .ok (.invokevirtual 84, 3) := by decide +kernel
theorem dX5_predict_43 : decode cX5_predict 43 = .ok (.ireturn, 1) := by decide +kernel
theorem dX5_isFlying_0 : decode cX5_isFlying 0 = .ok (.iload_n 1, 1) := by decide +kernel
theorem dX5_isFlying_1 : decode cX5_isFlying 1 = .ok (.ifCond .lt 15, 3) := by decide +kernel
theorem dX5_isFlying_4 : decode cX5_isFlying 4 = .ok (.iload_n 1, 1) := by decide +kernel
theorem dX5_isFlying_5 : decode cX5_isFlying 5 = .ok (.aload_n 0, 1) := by decide +kernel
theorem dX5_isFlying_6 : decode cX5_isFlying 6 = .ok (.getfield 74, 3) := by decide +kernel
theorem dX5_isFlying_9 : decode cX5_isFlying 9 = .ok (.if_icmp .ge 7, 3) := by decide +kernel
theorem dX5_isFlying_12 : decode cX5_isFlying 12 = .ok (.iconst 1, 1) := by decide +kernel
theorem dX5_isFlying_13 : decode cX5_isFlying 13 = .ok (.goto 4, 3) := by decide +kernel
theorem dX5_isFlying_16 : decode cX5_isFlying 16 = .ok (.iconst 0, 1) := by decide +kernel
theorem dX5_isFlying_17 : decode cX5_isFlying 17 = .ok (.ireturn, 1) := by decide +kernel
theorem dX5_isWrong_0 : decode cX5_isWrong 0 = .ok (.aload_n 0, 1) := by decide +kernel
theorem dX5_isWrong_1 : decode cX5_isWrong 1 = .ok (.getfield 26, 3) := by decide +kernel
theorem dX5_isWrong_4 : decode cX5_isWrong 4 = .ok (.iload_n 1, 1) := by decide +kernel
theorem dX5_isWrong_5 : decode cX5_isWrong 5 = .ok (.baload, 1) := by decide +kernel
theorem dX5_isWrong_6 : decode cX5_isWrong 6 = .ok (.ifCond .eq 26, 3) := by decide +kernel
theorem dX5_isWrong_9 : decode cX5_isWrong 9 = .ok (.aload_n 0, 1) := by decide +kernel
theorem dX5_isWrong_10 : decode cX5_isWrong 10 = .ok (.getfield 29, 3) := by decide +kernel
theorem dX5_isWrong_13 : decode cX5_isWrong 13 = .ok (.iload_n 1, 1) := by decide +kernel
theorem dX5_isWrong_14 : decode cX5_isWrong 14 = .ok (.baload, 1) := by decide +kernel
theorem dX5_isWrong_15 : decode cX5_isWrong 15 = .ok (.aload_n 0, 1) := by decide +kernel
theorem dX5_isWrong_16 : decode cX5_isWrong 16 = .ok (.getfield 22, 3) := by decide +kernel
theorem dX5_isWrong_19 : decode cX5_isWrong 19 = .ok (.iconst 4, 1) := by decide +kernel
theorem dX5_isWrong_20 : decode cX5_isWrong 20 = .ok (.iload_n 1, 1) := by decide +kernel
theorem dX5_isWrong_21 : decode cX5_isWrong 21 = .ok (.imul, 1) := by decide +kernel
theorem dX5_isWrong_22 : decode cX5_isWrong 22 = .ok (.iconst 3, 1) := by decide +kernel
theorem dX5_isWrong_23 : decode cX5_isWrong 23 = .ok (.iadd, 1) := by decide +kernel
theorem dX5_isWrong_24 : decode cX5_isWrong 24 = .ok (.baload, 1) := by decide +kernel
theorem dX5_isWrong_25 : decode cX5_isWrong 25 = .ok (.if_icmp .eq 7, 3) := by decide +kernel
theorem dX5_isWrong_28 : decode cX5_isWrong 28 = .ok (.iconst 1, 1) := by decide +kernel
theorem dX5_isWrong_29 : decode cX5_isWrong 29 = .ok (.goto 4, 3) := by decide +kernel
theorem dX5_isWrong_32 : decode cX5_isWrong 32 = .ok (.iconst 0, 1) := by decide +kernel
theorem dX5_isWrong_33 : decode cX5_isWrong 33 = .ok (.ireturn, 1) := by decide +kernel
set_option maxRecDepth 20000 in
theorem ggX5_settle_X5_isWrong : GoodIn wsX5_settle wsX5_isWrong := goodIn_r _ [11, 1, 2, 12, 18, 19, 20, 21, 22, 23, 24, 25, 26, 27, 28, 29, 30, 31, 32, 33, 34, 35, 36, 37, 38, 39] (by decide +kernel) (by decide +kernel)
set_option maxRecDepth 20000 in
theorem gX5_settle_X5_isWrong : GoodIn wsX5_settle (wsV RX5 119 RX5 yX5_isWrong wsX5_isWrong) := goodIn_app (goodIn_of _ (by decide +kernel)) ggX5_settle_X5_isWrong
set_option maxRecDepth 20000 in
theorem ggX5_settle_X5_appended : GoodIn wsX5_settle wsX5_appended := goodIn_r _ [16, 17, 18, 19, 20, 21, 22, 23, 24, 25, 26, 27, 28, 29, 30, 31, 32, 33, 34, 35, 36, 37, 38, 39] (by decide +kernel) (by decide +kernel)
set_option maxRecDepth 20000 in
theorem gX5_settle_X5_appended : GoodIn wsX5_settle (wsV RX5 111 RX5 yX5_appended wsX5_appended) := goodIn_app (goodIn_of _ (by decide +kernel)) ggX5_settle_X5_appended
theorem dX5_settle_0 : decode cX5_settle 0 = .ok (.aload_n 0, 1) := by decide +kernel
theorem dX5_settle_1 : decode cX5_settle 1 = .ok (.getfield 26, 3) := by decide +kernel
theorem dX5_settle_4 : decode cX5_settle 4 = .ok (.iload_n 1, 1) := by decide +kernel
theorem dX5_settle_5 : decode cX5_settle 5 = .ok (.iconst 1, 1) := by decide +kernel
theorem dX5_settle_6 : decode cX5_settle 6 = .ok (.bastore, 1) := by decide +kernel
theorem dX5_settle_7 : decode cX5_settle 7 = .ok (.aload_n 0, 1) := by decide +kernel
theorem dX5_settle_8 : decode cX5_settle 8 = .ok (.getfield 29, 3) := by decide +kernel
theorem dX5_settle_11 : decode cX5_settle 11 = .ok (.iload_n 1, 1) := by decide +kernel
theorem dX5_settle_12 : decode cX5_settle 12 = .ok (.iload_n 2, 1) := by decide +kernel
theorem dX5_settle_13 : decode cX5_settle 13 = .ok (.bastore, 1) := by decide +kernel
theorem dX5_settle_14 : decode cX5_settle 14 = .ok (.aload_n 0, 1) := by decide +kernel
theorem dX5_settle_15 : decode cX5_settle 15 = .ok (.iload_n 1, 1) := by decide +kernel
theorem dX5_settle_16 : decode cX5_settle 16 = .ok (.invokevirtual 119, 3) := by decide +kernel
theorem dX5_settle_19 : decode cX5_settle 19 = .ok (.ifCond .ne 5, 3) := by decide +kernel
theorem dX5_settle_22 : decode cX5_settle 22 = .ok (.iconst (-1), 1) := by decide +kernel
theorem dX5_settle_23 : decode cX5_settle 23 = .ok (.ireturn, 1) := by decide +kernel
theorem dX5_settle_24 : decode cX5_settle 24 = .ok (.aload_n 0, 1) := by decide +kernel
theorem dX5_settle_25 : decode cX5_settle 25 = .ok (.getfield 74, 3) := by decide +kernel
theorem dX5_settle_28 : decode cX5_settle 28 = .ok (.iload_n 1, 1) := by decide +kernel
theorem dX5_settle_29 : decode cX5_settle 29 = .ok (.isub, 1) := by decide +kernel
theorem dX5_settle_30 : decode cX5_settle 30 = .ok (.iconst 1, 1) := by decide +kernel
theorem dX5_settle_31 : decode cX5_settle 31 = .ok (.isub, 1) := by decide +kernel
theorem dX5_settle_32 : decode cX5_settle 32 = .ok (.istore_n 3, 1) := by decide +kernel
theorem dX5_settle_33 : decode cX5_settle 33 = .ok (.aload_n 0, 1) := by decide +kernel
theorem dX5_settle_34 : decode cX5_settle 34 = .ok (.iload_n 1, 1) := by decide +kernel
theorem dX5_settle_35 : decode cX5_settle 35 = .ok (.iconst 1, 1) := by decide +kernel
theorem dX5_settle_36 : decode cX5_settle 36 = .ok (.iadd, 1) := by decide +kernel
theorem dX5_settle_37 : decode cX5_settle 37 = .ok (.putfield 74, 3) := by decide +kernel
theorem dX5_settle_40 : decode cX5_settle 40 = .ok (.aload_n 0, 1) := by decide +kernel
theorem dX5_settle_41 : decode cX5_settle 41 = .ok (.dup, 1) := by decide +kernel
theorem dX5_settle_42 : decode cX5_settle 42 = .ok (.getfield 81, 3) := by decide +kernel
theorem dX5_settle_45 : decode cX5_settle 45 = .ok (.iload_n 3, 1) := by decide +kernel
theorem dX5_settle_46 : decode cX5_settle 46 = .ok (.i2l, 1) := by decide +kernel
theorem dX5_settle_47 : decode cX5_settle 47 = .ok (.ladd, 1) := by decide +kernel
theorem dX5_settle_48 : decode cX5_settle 48 = .ok (.putfield 81, 3) := by decide +kernel
theorem dX5_settle_51 : decode cX5_settle 51 = .ok (.aload_n 0, 1) := by decide +kernel
theorem dX5_settle_52 : decode cX5_settle 52 = .ok (.aload_n 0, 1) := by decide +kernel
theorem dX5_settle_53 : decode cX5_settle 53 = .ok (.aload_n 0, 1) := by decide +kernel
theorem dX5_settle_54 : decode cX5_settle 54 = .ok (.getfield 19, 3) := by decide +kernel
theorem dX5_settle_57 : decode cX5_settle 57 = .ok (.iload_n 1, 1) := by decide +kernel
theorem dX5_settle_58 : decode cX5_settle 58 = .ok (.iaload, 1) := by decide +kernel
theorem dX5_settle_59 : decode cX5_settle 59 = .ok (.iload_n 2, 1) := by decide +kernel
theorem dX5_settle_60 : decode cX5_settle 60 = .ok (.invokevirtual 111, 3) := by decide +kernel
theorem dX5_settle_63 : decode cX5_settle 63 = .ok (.putfield 71, 3) := by decide +kernel
theorem dX5_settle_66 : decode cX5_settle 66 = .ok (.iload_n 3, 1) := by decide +kernel
theorem dX5_settle_67 : decode cX5_settle 67 = .ok (.ireturn, 1) := by decide +kernel
set_option maxRecDepth 20000 in
theorem ggX5_resolve_X5_isFlying : GoodIn wsX5_resolve wsX5_isFlying := goodIn_r _ [7, 8, 31, 32, 33, 34, 35, 36, 37, 38, 39, 40, 41, 42, 43, 44, 45, 46, 47, 48, 49, 50, 51, 52] (by decide +kernel) (by decide +kernel)
set_option maxRecDepth 20000 in
theorem gX5_resolve_X5_isFlying : GoodIn wsX5_resolve (wsV RX5 122 RX5 yX5_isFlying wsX5_isFlying) := goodIn_app (goodIn_of _ (by decide +kernel)) ggX5_resolve_X5_isFlying
set_option maxRecDepth 20000 in
theorem ggX5_resolve_X5_fail : GoodIn wsX5_resolve wsX5_fail := goodIn_r _ [12, 1, 31, 32, 33, 34, 35, 36, 37, 38, 39, 40, 41, 42, 43, 44, 45, 46, 47, 48, 49, 50, 51, 52] (by decide +kernel) (by decide +kernel)
set_option maxRecDepth 20000 in
theorem gX5_resolve_X5_fail : GoodIn wsX5_resolve (wsV RX5 125 RX5 yX5_fail wsX5_fail) := goodIn_app (goodIn_of _ (by decide +kernel)) ggX5_resolve_X5_fail
set_option maxRecDepth 20000 in
theorem ggX5_resolve_X5_settle : GoodIn wsX5_resolve wsX5_settle := goodIn_r _ [16, 2, 17, 8, 18, 19, 20, 21, 22, 23, 6, 24, 25, 26, 27, 28, 29, 30, 31, 32, 33, 34, 35, 36, 37, 38, 39, 40, 41, 42, 43, 44, 45, 46, 47, 48, 49, 50, 51, 52] (by decide +kernel) (by decide +kernel)
set_option maxRecDepth 20000 in
theorem gX5_resolve_X5_settle : GoodIn wsX5_resolve (wsV RX5 128 RX5 yX5_settle wsX5_settle) := goodIn_app (goodIn_of _ (by decide +kernel)) ggX5_resolve_X5_settle
theorem dX5_resolve_0 : decode cX5_resolve 0 = .ok (.aload_n 0, 1) := by decide +kernel
theorem dX5_resolve_1 : decode cX5_resolve 1 = .ok (.iconst 0, 1) := by decide +kernel
theorem dX5_resolve_2 : decode cX5_resolve 2 = .ok (.putfield 58, 3) := by decide +kernel
theorem dX5_resolve_5 : decode cX5_resolve 5 = .ok (.aload_n 0, 1) := by decide +kernel
theorem dX5_resolve_6 : decode cX5_resolve 6 = .ok (.iload_n 1, 1) := by decide +kernel
theorem dX5_resolve_7 : decode cX5_resolve 7 = .ok (.invokevirtual 122, 3) := by decide +kernel
theorem dX5_resolve_10 : decode cX5_resolve 10 = .ok (.ifCond .ne 9, 3) := by decide +kernel
theorem dX5_resolve_13 : decode cX5_resolve 13 = .ok (.aload_n 0, 1) := by decide +kernel
theorem dX5_resolve_14 : decode cX5_resolve 14 = .ok (.iconst 1, 1) := by decide +kernel
theorem dX5_resolve_15 : decode cX5_resolve 15 = .ok (.invokevirtual 125, 3) := by decide +kernel
theorem dX5_resolve_18 : decode cX5_resolve 18 = .ok (.ireturn, 1) := by decide +kernel
theorem dX5_resolve_19 : decode cX5_resolve 19 = .ok (.aload_n 0, 1) := by decide +kernel
theorem dX5_resolve_20 : decode cX5_resolve 20 = .ok (.getfield 26, 3) := by decide +kernel
theorem dX5_resolve_23 : decode cX5_resolve 23 = .ok (.iload_n 1, 1) := by decide +kernel
theorem dX5_resolve_24 : decode cX5_resolve 24 = .ok (.baload, 1) := by decide +kernel
theorem dX5_resolve_25 : decode cX5_resolve 25 = .ok (.ifCond .eq 11, 3) := by decide +kernel
theorem dX5_resolve_28 : decode cX5_resolve 28 = .ok (.aload_n 0, 1) := by decide +kernel
theorem dX5_resolve_29 : decode cX5_resolve 29 = .ok (.iconst 2, 1) := by decide +kernel
theorem dX5_resolve_30 : decode cX5_resolve 30 = .ok (.invokevirtual 125, 3) := by decide +kernel
theorem dX5_resolve_33 : decode cX5_resolve 33 = .ok (.goto 9, 3) := by decide +kernel
theorem dX5_resolve_36 : decode cX5_resolve 36 = .ok (.aload_n 0, 1) := by decide +kernel
theorem dX5_resolve_37 : decode cX5_resolve 37 = .ok (.iload_n 1, 1) := by decide +kernel
theorem dX5_resolve_38 : decode cX5_resolve 38 = .ok (.iload_n 2, 1) := by decide +kernel
theorem dX5_resolve_39 : decode cX5_resolve 39 = .ok (.invokevirtual 128, 3) := by decide +kernel
theorem dX5_resolve_42 : decode cX5_resolve 42 = .ok (.ireturn, 1) := by decide +kernel
theorem dX5_change_0 : decode cX5_change 0 = .ok (.aload_n 0, 1) := by decide +kernel
theorem dX5_change_1 : decode cX5_change 1 = .ok (.getfield 9, 3) := by decide +kernel
theorem dX5_change_4 : decode cX5_change 4 = .ok (.iload_n 1, 1) := by decide +kernel
theorem dX5_change_5 : decode cX5_change 5 = .ok (.iconst 0, 1) := by decide +kernel
theorem dX5_change_6 : decode cX5_change 6 = .ok (.iconst 3, 1) := by decide +kernel
theorem dX5_change_7 : decode cX5_change 7 = .ok (.aload_n 0, 1) := by decide +kernel
theorem dX5_change_8 : decode cX5_change 8 = .ok (.getfield 9, 3) := by decide +kernel
theorem dX5_change_11 : decode cX5_change 11 = .ok (.iload_n 1, 1) := by decide +kernel
theorem dX5_change_12 : decode cX5_change 12 = .ok (.iaload, 1) := by decide +kernel
theorem dX5_change_13 : decode cX5_change 13 = .ok (.iload_n 2, 1) := by decide +kernel
theorem dX5_change_14 : decode cX5_change 14 = .ok (.ifCond .eq 7, 3) := by decide +kernel
theorem dX5_change_17 : decode cX5_change 17 = .ok (.iconst 1, 1) := by decide +kernel
theorem dX5_change_18 : decode cX5_change 18 = .ok (.goto 4, 3) := by decide +kernel
theorem dX5_change_21 : decode cX5_change 21 = .ok (.iconst (-1), 1) := by decide +kernel
theorem dX5_change_22 : decode cX5_change 22 = .ok (.iadd, 1) := by decide +kernel
theorem dX5_change_23 : decode cX5_change 23 = .ok (.invokestatic 131, 3) := by decide +kernel
theorem dX5_change_26 : decode cX5_change 26 = .ok (.invokestatic 136, 3) := by decide +kernel
theorem dX5_change_29 : decode cX5_change 29 = .ok (.iastore, 1) := by decide +kernel
theorem dX5_change_30 : decode cX5_change 30 = .ok (.return_, 1) := by decide +kernel
set_option maxRecDepth 20000 in
theorem ggX5_audit_X5_says : GoodIn wsX5_audit wsX5_says := goodIn_r _ [7, 8, 9, 10, 11, 12, 13, 14, 15, 16, 17, 18, 19, 20, 21, 22, 23, 24, 25, 26, 27, 28, 29, 30] (by decide +kernel) (by decide +kernel)
set_option maxRecDepth 20000 in
theorem gX5_audit_X5_says : GoodIn wsX5_audit (wsV RX5 95 RX5 yX5_says wsX5_says) := goodIn_app (goodIn_of _ (by decide +kernel)) ggX5_audit_X5_says
theorem dX5_audit_0 : decode cX5_audit 0 = .ok (.aload_n 0, 1) := by decide +kernel
theorem dX5_audit_1 : decode cX5_audit 1 = .ok (.getfield 13, 3) := by decide +kernel
theorem dX5_audit_4 : decode cX5_audit 4 = .ok (.iload_n 2, 1) := by decide +kernel
theorem dX5_audit_5 : decode cX5_audit 5 = .ok (.iaload, 1) := by decide +kernel
theorem dX5_audit_6 : decode cX5_audit 6 = .ok (.iconst (-1), 1) := by decide +kernel
theorem dX5_audit_7 : decode cX5_audit 7 = .ok (.if_icmp .eq 53, 3) := by decide +kernel
theorem dX5_audit_10 : decode cX5_audit 10 = .ok (.aload_n 0, 1) := by decide +kernel
theorem dX5_audit_11 : decode cX5_audit 11 = .ok (.getfield 13, 3) := by decide +kernel
theorem dX5_audit_14 : decode cX5_audit 14 = .ok (.iload_n 2, 1) := by decide +kernel
theorem dX5_audit_15 : decode cX5_audit 15 = .ok (.iaload, 1) := by decide +kernel
theorem dX5_audit_16 : decode cX5_audit 16 = .ok (.iload_n 3, 1) := by decide +kernel
theorem dX5_audit_17 : decode cX5_audit 17 = .ok (.if_icmp .eq 43, 3) := by decide +kernel
theorem dX5_audit_20 : decode cX5_audit 20 = .ok (.aload_n 0, 1) := by decide +kernel
theorem dX5_audit_21 : decode cX5_audit 21 = .ok (.getfield 51, 3) := by decide +kernel
theorem dX5_audit_24 : decode cX5_audit 24 = .ok (.iconst 2, 1) := by decide +kernel
theorem dX5_audit_25 : decode cX5_audit 25 = .ok (.iload_n 1, 1) := by decide +kernel
theorem dX5_audit_26 : decode cX5_audit 26 = .ok (.imul, 1) := by decide +kernel
theorem dX5_audit_27 : decode cX5_audit 27 = .ok (.dup2, 1) := by decide +kernel
theorem dX5_audit_28 : decode cX5_audit 28 = .ok (.laload, 1) := by decide +kernel
theorem dX5_audit_29 : decode cX5_audit 29 = .ok (.lconst 1, 1) := by decide +kernel
theorem dX5_audit_30 : decode cX5_audit 30 = .ok (.ladd, 1) := by decide +kernel
theorem dX5_audit_31 : decode cX5_audit 31 = .ok (.lastore, 1) := by decide +kernel
theorem dX5_audit_32 : decode cX5_audit 32 = .ok (.aload_n 0, 1) := by decide +kernel
theorem dX5_audit_33 : decode cX5_audit 33 = .ok (.getfield 51, 3) := by decide +kernel
theorem dX5_audit_36 : decode cX5_audit 36 = .ok (.iconst 2, 1) := by decide +kernel
theorem dX5_audit_37 : decode cX5_audit 37 = .ok (.iload_n 1, 1) := by decide +kernel
theorem dX5_audit_38 : decode cX5_audit 38 = .ok (.imul, 1) := by decide +kernel
theorem dX5_audit_39 : decode cX5_audit 39 = .ok (.iconst 1, 1) := by decide +kernel
theorem dX5_audit_40 : decode cX5_audit 40 = .ok (.iadd, 1) := by decide +kernel
theorem dX5_audit_41 : decode cX5_audit 41 = .ok (.dup2, 1) := by decide +kernel
theorem dX5_audit_42 : decode cX5_audit 42 = .ok (.laload, 1) := by decide +kernel
theorem dX5_audit_43 : decode cX5_audit 43 = .ok (.aload_n 0, 1) := by decide +kernel
theorem dX5_audit_44 : decode cX5_audit 44 = .ok (.iload_n 2, 1) := by decide +kernel
theorem dX5_audit_45 : decode cX5_audit 45 = .ok (.invokevirtual 95, 3) := by decide +kernel
theorem dX5_audit_48 : decode cX5_audit 48 = .ok (.iload 4, 2) := by decide +kernel
theorem dX5_audit_50 : decode cX5_audit 50 = .ok (.if_icmp .ne 7, 3) := by decide +kernel
theorem dX5_audit_53 : decode cX5_audit 53 = .ok (.lconst 0, 1) := by decide +kernel
theorem dX5_audit_54 : decode cX5_audit 54 = .ok (.goto 4, 3) := by decide +kernel
theorem dX5_audit_57 : decode cX5_audit 57 = .ok (.lconst 1, 1) := by decide +kernel
theorem dX5_audit_58 : decode cX5_audit 58 = .ok (.ladd, 1) := by decide +kernel
theorem dX5_audit_59 : decode cX5_audit 59 = .ok (.lastore, 1) := by decide +kernel
theorem dX5_audit_60 : decode cX5_audit 60 = .ok (.aload_n 0, 1) := by decide +kernel
theorem dX5_audit_61 : decode cX5_audit 61 = .ok (.getfield 13, 3) := by decide +kernel
theorem dX5_audit_64 : decode cX5_audit 64 = .ok (.iload_n 2, 1) := by decide +kernel
theorem dX5_audit_65 : decode cX5_audit 65 = .ok (.iload_n 3, 1) := by decide +kernel
theorem dX5_audit_66 : decode cX5_audit 66 = .ok (.iastore, 1) := by decide +kernel
theorem dX5_audit_67 : decode cX5_audit 67 = .ok (.return_, 1) := by decide +kernel
set_option maxRecDepth 20000 in
theorem ggX5_learnLoop_X5_loopOf : GoodIn wsX5_learnLoop wsX5_loopOf := goodIn_r _ [13, 2, 14, 19, 20, 21, 22, 23, 24, 25, 26, 27, 28, 29, 30, 31, 32, 33, 34, 35, 36, 37, 38, 39, 40] (by decide +kernel) (by decide +kernel)
set_option maxRecDepth 20000 in
theorem gX5_learnLoop_X5_loopOf : GoodIn wsX5_learnLoop (wsV RX5 105 RX5 yX5_loopOf wsX5_loopOf) := goodIn_app (goodIn_of _ (by decide +kernel)) ggX5_learnLoop_X5_loopOf
set_option maxRecDepth 20000 in
theorem ggX5_learnLoop_X5_makeLoop : GoodIn wsX5_learnLoop wsX5_makeLoop := goodIn_r _ [18, 4, 2, 14, 1, 3, 19, 20, 21, 22, 23, 24, 25, 26, 27, 28, 29, 30, 31, 32, 33, 34, 35, 36, 37, 38, 39, 40] (by decide +kernel) (by decide +kernel)
set_option maxRecDepth 20000 in
theorem gX5_learnLoop_X5_makeLoop : GoodIn wsX5_learnLoop (wsV RX5 139 RX5 yX5_makeLoop wsX5_makeLoop) := goodIn_app (goodIn_of _ (by decide +kernel)) ggX5_learnLoop_X5_makeLoop
theorem dX5_learnLoop_0 : decode cX5_learnLoop 0 = .ok (.aload_n 0, 1) := by decide +kernel
theorem dX5_learnLoop_1 : decode cX5_learnLoop 1 = .ok (.iload_n 1, 1) := by decide +kernel
theorem dX5_learnLoop_2 : decode cX5_learnLoop 2 = .ok (.invokevirtual 105, 3) := by decide +kernel
theorem dX5_learnLoop_5 : decode cX5_learnLoop 5 = .ok (.istore 4, 2) := by decide +kernel
theorem dX5_learnLoop_7 : decode cX5_learnLoop 7 = .ok (.iload 4, 2) := by decide +kernel
theorem dX5_learnLoop_9 : decode cX5_learnLoop 9 = .ok (.iconst (-1), 1) := by decide +kernel
theorem dX5_learnLoop_10 : decode cX5_learnLoop 10 = .ok (.if_icmp .ne 17, 3) := by decide +kernel
theorem dX5_learnLoop_13 : decode cX5_learnLoop 13 = .ok (.iload_n 2, 1) := by decide +kernel
theorem dX5_learnLoop_14 : decode cX5_learnLoop 14 = .ok (.ifCond .ne 12, 3) := by decide +kernel
theorem dX5_learnLoop_17 : decode cX5_learnLoop 17 = .ok (.iload_n 3, 1) := by decide +kernel
theorem dX5_learnLoop_18 : decode cX5_learnLoop 18 = .ok (.ifCond .eq 8, 3) := by decide +kernel
theorem dX5_learnLoop_21 : decode cX5_learnLoop 21 = .ok (.aload_n 0, 1) := by decide +kernel
theorem dX5_learnLoop_22 : decode cX5_learnLoop 22 = .ok (.iload_n 1, 1) := by decide +kernel
theorem dX5_learnLoop_23 : decode cX5_learnLoop 23 = .ok (.invokevirtual 139, 3) := by decide +kernel
theorem dX5_learnLoop_26 : decode cX5_learnLoop 26 = .ok (.return_, 1) := by decide +kernel
theorem dX5_learnLoop_27 : decode cX5_learnLoop 27 = .ok (.iload_n 2, 1) := by decide +kernel
theorem dX5_learnLoop_28 : decode cX5_learnLoop 28 = .ok (.ifCond .eq 36, 3) := by decide +kernel
theorem dX5_learnLoop_31 : decode cX5_learnLoop 31 = .ok (.aload_n 0, 1) := by decide +kernel
theorem dX5_learnLoop_32 : decode cX5_learnLoop 32 = .ok (.getfield 38, 3) := by decide +kernel
theorem dX5_learnLoop_35 : decode cX5_learnLoop 35 = .ok (.iload 4, 2) := by decide +kernel
theorem dX5_learnLoop_37 : decode cX5_learnLoop 37 = .ok (.dup2, 1) := by decide +kernel
theorem dX5_learnLoop_38 : decode cX5_learnLoop 38 = .ok (.iaload, 1) := by decide +kernel
theorem dX5_learnLoop_39 : decode cX5_learnLoop 39 = .ok (.iconst 1, 1) := by decide +kernel
theorem dX5_learnLoop_40 : decode cX5_learnLoop 40 = .ok (.iadd, 1) := by decide +kernel
theorem dX5_learnLoop_41 : decode cX5_learnLoop 41 = .ok (.iastore, 1) := by decide +kernel
theorem dX5_learnLoop_42 : decode cX5_learnLoop 42 = .ok (.aload_n 0, 1) := by decide +kernel
theorem dX5_learnLoop_43 : decode cX5_learnLoop 43 = .ok (.getfield 38, 3) := by decide +kernel
theorem dX5_learnLoop_46 : decode cX5_learnLoop 46 = .ok (.iload 4, 2) := by decide +kernel
theorem dX5_learnLoop_48 : decode cX5_learnLoop 48 = .ok (.iaload, 1) := by decide +kernel
theorem dX5_learnLoop_49 : decode cX5_learnLoop 49 = .ok (.sipush 1000, 3) := by decide +kernel
theorem dX5_learnLoop_52 : decode cX5_learnLoop 52 = .ok (.if_icmp .le 11, 3) := by decide +kernel
theorem dX5_learnLoop_55 : decode cX5_learnLoop 55 = .ok (.aload_n 0, 1) := by decide +kernel
theorem dX5_learnLoop_56 : decode cX5_learnLoop 56 = .ok (.getfield 32, 3) := by decide +kernel
theorem dX5_learnLoop_59 : decode cX5_learnLoop 59 = .ok (.iload 4, 2) := by decide +kernel
theorem dX5_learnLoop_61 : decode cX5_learnLoop 61 = .ok (.iconst 0, 1) := by decide +kernel
theorem dX5_learnLoop_62 : decode cX5_learnLoop 62 = .ok (.bastore, 1) := by decide +kernel
theorem dX5_learnLoop_63 : decode cX5_learnLoop 63 = .ok (.return_, 1) := by decide +kernel
theorem dX5_learnLoop_64 : decode cX5_learnLoop 64 = .ok (.aload_n 0, 1) := by decide +kernel
theorem dX5_learnLoop_65 : decode cX5_learnLoop 65 = .ok (.getfield 41, 3) := by decide +kernel
theorem dX5_learnLoop_68 : decode cX5_learnLoop 68 = .ok (.iload 4, 2) := by decide +kernel
theorem dX5_learnLoop_70 : decode cX5_learnLoop 70 = .ok (.iaload, 1) := by decide +kernel
theorem dX5_learnLoop_71 : decode cX5_learnLoop 71 = .ok (.ifCond .eq 43, 3) := by decide +kernel
theorem dX5_learnLoop_74 : decode cX5_learnLoop 74 = .ok (.aload_n 0, 1) := by decide +kernel
theorem dX5_learnLoop_75 : decode cX5_learnLoop 75 = .ok (.getfield 41, 3) := by decide +kernel
theorem dX5_learnLoop_78 : decode cX5_learnLoop 78 = .ok (.iload 4, 2) := by decide +kernel
theorem dX5_learnLoop_80 : decode cX5_learnLoop 80 = .ok (.iaload, 1) := by decide +kernel
theorem dX5_learnLoop_81 : decode cX5_learnLoop 81 = .ok (.aload_n 0, 1) := by decide +kernel
theorem dX5_learnLoop_82 : decode cX5_learnLoop 82 = .ok (.getfield 38, 3) := by decide +kernel
theorem dX5_learnLoop_85 : decode cX5_learnLoop 85 = .ok (.iload 4, 2) := by decide +kernel
theorem dX5_learnLoop_87 : decode cX5_learnLoop 87 = .ok (.iaload, 1) := by decide +kernel
theorem dX5_learnLoop_88 : decode cX5_learnLoop 88 = .ok (.if_icmp .ne 26, 3) := by decide +kernel
theorem dX5_learnLoop_91 : decode cX5_learnLoop 91 = .ok (.aload_n 0, 1) := by decide +kernel
theorem dX5_learnLoop_92 : decode cX5_learnLoop 92 = .ok (.getfield 44, 3) := by decide +kernel
theorem dX5_learnLoop_95 : decode cX5_learnLoop 95 = .ok (.iload 4, 2) := by decide +kernel
theorem dX5_learnLoop_97 : decode cX5_learnLoop 97 = .ok (.aload_n 0, 1) := by decide +kernel
theorem dX5_learnLoop_98 : decode cX5_learnLoop 98 = .ok (.getfield 44, 3) := by decide +kernel
theorem dX5_learnLoop_101 : decode cX5_learnLoop 101 = .ok (.iload 4, 2) := by decide +kernel
theorem dX5_learnLoop_103 : decode cX5_learnLoop 103 = .ok (.iaload, 1) := by decide +kernel
theorem dX5_learnLoop_104 : decode cX5_learnLoop 104 = .ok (.iconst 1, 1) := by decide +kernel
theorem dX5_learnLoop_105 : decode cX5_learnLoop 105 = .ok (.iadd, 1) := by decide +kernel
theorem dX5_learnLoop_106 : decode cX5_learnLoop 106 = .ok (.iconst 3, 1) := by decide +kernel
theorem dX5_learnLoop_107 : decode cX5_learnLoop 107 = .ok (.invokestatic 131, 3) := by decide +kernel
theorem dX5_learnLoop_110 : decode cX5_learnLoop 110 = .ok (.iastore, 1) := by decide +kernel
theorem dX5_learnLoop_111 : decode cX5_learnLoop 111 = .ok (.goto 25, 3) := by decide +kernel
theorem dX5_learnLoop_114 : decode cX5_learnLoop 114 = .ok (.aload_n 0, 1) := by decide +kernel
theorem dX5_learnLoop_115 : decode cX5_learnLoop 115 = .ok (.getfield 41, 3) := by decide +kernel
theorem dX5_learnLoop_118 : decode cX5_learnLoop 118 = .ok (.iload 4, 2) := by decide +kernel
theorem dX5_learnLoop_120 : decode cX5_learnLoop 120 = .ok (.aload_n 0, 1) := by decide +kernel
theorem dX5_learnLoop_121 : decode cX5_learnLoop 121 = .ok (.getfield 38, 3) := by decide +kernel
theorem dX5_learnLoop_124 : decode cX5_learnLoop 124 = .ok (.iload 4, 2) := by decide +kernel
theorem dX5_learnLoop_126 : decode cX5_learnLoop 126 = .ok (.iaload, 1) := by decide +kernel
theorem dX5_learnLoop_127 : decode cX5_learnLoop 127 = .ok (.iastore, 1) := by decide +kernel
theorem dX5_learnLoop_128 : decode cX5_learnLoop 128 = .ok (.aload_n 0, 1) := by decide +kernel
theorem dX5_learnLoop_129 : decode cX5_learnLoop 129 = .ok (.getfield 44, 3) := by decide +kernel
theorem dX5_learnLoop_132 : decode cX5_learnLoop 132 = .ok (.iload 4, 2) := by decide +kernel
theorem dX5_learnLoop_134 : decode cX5_learnLoop 134 = .ok (.iconst 0, 1) := by decide +kernel
theorem dX5_learnLoop_135 : decode cX5_learnLoop 135 = .ok (.iastore, 1) := by decide +kernel
theorem dX5_learnLoop_136 : decode cX5_learnLoop 136 = .ok (.aload_n 0, 1) := by decide +kernel
theorem dX5_learnLoop_137 : decode cX5_learnLoop 137 = .ok (.getfield 38, 3) := by decide +kernel
theorem dX5_learnLoop_140 : decode cX5_learnLoop 140 = .ok (.iload 4, 2) := by decide +kernel
theorem dX5_learnLoop_142 : decode cX5_learnLoop 142 = .ok (.iconst 0, 1) := by decide +kernel
theorem dX5_learnLoop_143 : decode cX5_learnLoop 143 = .ok (.iastore, 1) := by decide +kernel
theorem dX5_learnLoop_144 : decode cX5_learnLoop 144 = .ok (.return_, 1) := by decide +kernel
theorem dX5_makeLoop_0 : decode cX5_makeLoop 0 = .ok (.iconst 0, 1) := by decide +kernel
theorem dX5_makeLoop_1 : decode cX5_makeLoop 1 = .ok (.istore_n 2, 1) := by decide +kernel
theorem dX5_makeLoop_2 : decode cX5_makeLoop 2 = .ok (.bipush 7, 2) := by decide +kernel
theorem dX5_makeLoop_4 : decode cX5_makeLoop 4 = .ok (.istore_n 3, 1) := by decide +kernel
theorem dX5_makeLoop_5 : decode cX5_makeLoop 5 = .ok (.iload_n 3, 1) := by decide +kernel
theorem dX5_makeLoop_6 : decode cX5_makeLoop 6 = .ok (.ifCond .lt 26, 3) := by decide +kernel
theorem dX5_makeLoop_9 : decode cX5_makeLoop 9 = .ok (.aload_n 0, 1) := by decide +kernel
theorem dX5_makeLoop_10 : decode cX5_makeLoop 10 = .ok (.getfield 44, 3) := by decide +kernel
theorem dX5_makeLoop_13 : decode cX5_makeLoop 13 = .ok (.iload_n 3, 1) := by decide +kernel
theorem dX5_makeLoop_14 : decode cX5_makeLoop 14 = .ok (.iaload, 1) := by decide +kernel
theorem dX5_makeLoop_15 : decode cX5_makeLoop 15 = .ok (.aload_n 0, 1) := by decide +kernel
theorem dX5_makeLoop_16 : decode cX5_makeLoop 16 = .ok (.getfield 44, 3) := by decide +kernel
theorem dX5_makeLoop_19 : decode cX5_makeLoop 19 = .ok (.iload_n 2, 1) := by decide +kernel
theorem dX5_makeLoop_20 : decode cX5_makeLoop 20 = .ok (.iaload, 1) := by decide +kernel
theorem dX5_makeLoop_21 : decode cX5_makeLoop 21 = .ok (.if_icmp .gt 5, 3) := by decide +kernel
theorem dX5_makeLoop_24 : decode cX5_makeLoop 24 = .ok (.iload_n 3, 1) := by decide +kernel
theorem dX5_makeLoop_25 : decode cX5_makeLoop 25 = .ok (.istore_n 2, 1) := by decide +kernel
theorem dX5_makeLoop_26 : decode cX5_makeLoop 26 = .ok (.iinc 3 (-1), 3) := by decide +kernel
theorem dX5_makeLoop_29 : decode cX5_makeLoop 29 = .ok (.goto (-24), 3) := by decide +kernel
theorem dX5_makeLoop_32 : decode cX5_makeLoop 32 = .ok (.bipush 7, 2) := by decide +kernel
theorem dX5_makeLoop_34 : decode cX5_makeLoop 34 = .ok (.istore_n 3, 1) := by decide +kernel
theorem dX5_makeLoop_35 : decode cX5_makeLoop 35 = .ok (.iload_n 3, 1) := by decide +kernel
theorem dX5_makeLoop_36 : decode cX5_makeLoop 36 = .ok (.ifCond .lt 20, 3) := by decide +kernel
theorem dX5_makeLoop_39 : decode cX5_makeLoop 39 = .ok (.aload_n 0, 1) := by decide +kernel
theorem dX5_makeLoop_40 : decode cX5_makeLoop 40 = .ok (.getfield 32, 3) := by decide +kernel
theorem dX5_makeLoop_43 : decode cX5_makeLoop 43 = .ok (.iload_n 3, 1) := by decide +kernel
theorem dX5_makeLoop_44 : decode cX5_makeLoop 44 = .ok (.baload, 1) := by decide +kernel
theorem dX5_makeLoop_45 : decode cX5_makeLoop 45 = .ok (.ifCond .ne 5, 3) := by decide +kernel
theorem dX5_makeLoop_48 : decode cX5_makeLoop 48 = .ok (.iload_n 3, 1) := by decide +kernel
theorem dX5_makeLoop_49 : decode cX5_makeLoop 49 = .ok (.istore_n 2, 1) := by decide +kernel
theorem dX5_makeLoop_50 : decode cX5_makeLoop 50 = .ok (.iinc 3 (-1), 3) := by decide +kernel
theorem dX5_makeLoop_53 : decode cX5_makeLoop 53 = .ok (.goto (-18), 3) := by decide +kernel
theorem dX5_makeLoop_56 : decode cX5_makeLoop 56 = .ok (.aload_n 0, 1) := by decide +kernel
theorem dX5_makeLoop_57 : decode cX5_makeLoop 57 = .ok (.getfield 32, 3) := by decide +kernel
theorem dX5_makeLoop_60 : decode cX5_makeLoop 60 = .ok (.iload_n 2, 1) := by decide +kernel
theorem dX5_makeLoop_61 : decode cX5_makeLoop 61 = .ok (.iconst 1, 1) := by decide +kernel
theorem dX5_makeLoop_62 : decode cX5_makeLoop 62 = .ok (.bastore, 1) := by decide +kernel
theorem dX5_makeLoop_63 : decode cX5_makeLoop 63 = .ok (.aload_n 0, 1) := by decide +kernel
theorem dX5_makeLoop_64 : decode cX5_makeLoop 64 = .ok (.getfield 35, 3) := by decide +kernel
theorem dX5_makeLoop_67 : decode cX5_makeLoop 67 = .ok (.iload_n 2, 1) := by decide +kernel
theorem dX5_makeLoop_68 : decode cX5_makeLoop 68 = .ok (.iload_n 1, 1) := by decide +kernel
theorem dX5_makeLoop_69 : decode cX5_makeLoop 69 = .ok (.iastore, 1) := by decide +kernel
theorem dX5_makeLoop_70 : decode cX5_makeLoop 70 = .ok (.aload_n 0, 1) := by decide +kernel
theorem dX5_makeLoop_71 : decode cX5_makeLoop 71 = .ok (.getfield 38, 3) := by decide +kernel
theorem dX5_makeLoop_74 : decode cX5_makeLoop 74 = .ok (.iload_n 2, 1) := by decide +kernel
theorem dX5_makeLoop_75 : decode cX5_makeLoop 75 = .ok (.iconst 0, 1) := by decide +kernel
theorem dX5_makeLoop_76 : decode cX5_makeLoop 76 = .ok (.iastore, 1) := by decide +kernel
theorem dX5_makeLoop_77 : decode cX5_makeLoop 77 = .ok (.aload_n 0, 1) := by decide +kernel
theorem dX5_makeLoop_78 : decode cX5_makeLoop 78 = .ok (.getfield 41, 3) := by decide +kernel
theorem dX5_makeLoop_81 : decode cX5_makeLoop 81 = .ok (.iload_n 2, 1) := by decide +kernel
theorem dX5_makeLoop_82 : decode cX5_makeLoop 82 = .ok (.iconst 0, 1) := by decide +kernel
theorem dX5_makeLoop_83 : decode cX5_makeLoop 83 = .ok (.iastore, 1) := by decide +kernel
theorem dX5_makeLoop_84 : decode cX5_makeLoop 84 = .ok (.aload_n 0, 1) := by decide +kernel
theorem dX5_makeLoop_85 : decode cX5_makeLoop 85 = .ok (.getfield 44, 3) := by decide +kernel
theorem dX5_makeLoop_88 : decode cX5_makeLoop 88 = .ok (.iload_n 2, 1) := by decide +kernel
theorem dX5_makeLoop_89 : decode cX5_makeLoop 89 = .ok (.iconst 0, 1) := by decide +kernel
theorem dX5_makeLoop_90 : decode cX5_makeLoop 90 = .ok (.iastore, 1) := by decide +kernel
theorem dX5_makeLoop_91 : decode cX5_makeLoop 91 = .ok (.return_, 1) := by decide +kernel
set_option maxRecDepth 20000 in
theorem ggX5_learn_X5_isWrong : GoodIn wsX5_learn wsX5_isWrong := goodIn_r _ [13, 8, 2, 3, 67, 68, 69, 70, 71, 72, 73, 74, 75, 76, 77, 78, 79, 80, 81, 82, 83, 84, 85, 86, 87, 88] (by decide +kernel) (by decide +kernel)
set_option maxRecDepth 20000 in
theorem gX5_learn_X5_isWrong : GoodIn wsX5_learn (wsV RX5 119 RX5 yX5_isWrong wsX5_isWrong) := goodIn_app (goodIn_of _ (by decide +kernel)) ggX5_learn_X5_isWrong
set_option maxRecDepth 20000 in
theorem ggX5_learn_X5_choiceIndex : GoodIn wsX5_learn wsX5_choiceIndex := goodIn_r _ [17, 18, 67, 68, 69, 70, 71, 72, 73, 74, 75, 76, 77, 78, 79, 80, 81, 82, 83, 84, 85, 86, 87, 88] (by decide +kernel) (by decide +kernel)
set_option maxRecDepth 20000 in
theorem gX5_learn_X5_choiceIndex : GoodIn wsX5_learn (wsV RX5 102 RX5 yX5_choiceIndex wsX5_choiceIndex) := goodIn_app (goodIn_of _ (by decide +kernel)) ggX5_learn_X5_choiceIndex
set_option maxRecDepth 20000 in
theorem ggX5_learn_X5_change : GoodIn wsX5_learn wsX5_change := goodIn_r _ [22, 23, 24, 25, 26, 27, 28, 29, 30, 67, 68, 69, 70, 71, 72, 73, 74, 75, 76, 77, 78, 79, 80, 81, 82, 83, 84, 85, 86, 87, 88] (by decide +kernel) (by decide +kernel)
set_option maxRecDepth 20000 in
theorem gX5_learn_X5_change : GoodIn wsX5_learn (wsV RX5 143 RX5 yX5_change wsX5_change) := goodIn_app (goodIn_of _ (by decide +kernel)) ggX5_learn_X5_change
set_option maxRecDepth 20000 in
theorem ggX5_learn_X5_globalIndex : GoodIn wsX5_learn wsX5_globalIndex := goodIn_r _ [34, 35, 67, 68, 69, 70, 71, 72, 73, 74, 75, 76, 77, 78, 79, 80, 81, 82, 83, 84, 85, 86, 87, 88] (by decide +kernel) (by decide +kernel)
set_option maxRecDepth 20000 in
theorem gX5_learn_X5_globalIndex : GoodIn wsX5_learn (wsV RX5 98 RX5 yX5_globalIndex wsX5_globalIndex) := goodIn_app (goodIn_of _ (by decide +kernel)) ggX5_learn_X5_globalIndex
set_option maxRecDepth 20000 in
theorem ggX5_learn_X5_plainIndex : GoodIn wsX5_learn wsX5_plainIndex := goodIn_r _ [39, 18, 67, 68, 69, 70, 71, 72, 73, 74, 75, 76, 77, 78, 79, 80, 81, 82, 83, 84, 85, 86, 87, 88] (by decide +kernel) (by decide +kernel)
set_option maxRecDepth 20000 in
theorem gX5_learn_X5_plainIndex : GoodIn wsX5_learn (wsV RX5 91 RX5 yX5_plainIndex wsX5_plainIndex) := goodIn_app (goodIn_of _ (by decide +kernel)) ggX5_learn_X5_plainIndex
set_option maxRecDepth 20000 in
theorem ggX5_learn_X5_audit : GoodIn wsX5_learn wsX5_audit := goodIn_r _ [43, 44, 45, 46, 47, 48, 12, 49, 23, 67, 68, 69, 70, 71, 72, 73, 74, 75, 76, 77, 78, 79, 80, 81, 82, 83, 84, 85, 86, 87, 88] (by decide +kernel) (by decide +kernel)
set_option maxRecDepth 20000 in
theorem gX5_learn_X5_audit : GoodIn wsX5_learn (wsV RX5 147 RX5 yX5_audit wsX5_audit) := goodIn_app (goodIn_of _ (by decide +kernel)) ggX5_learn_X5_audit
set_option maxRecDepth 20000 in
theorem ggX5_learn_X5_learnLoop : GoodIn wsX5_learn wsX5_learnLoop := goodIn_r _ [53, 54, 55, 56, 57, 24, 25, 26, 27, 58, 59, 60, 12, 61, 62, 63, 64, 65, 66, 67, 68, 69, 70, 71, 72, 73, 74, 75, 76, 77, 78, 79, 80, 81, 82, 83, 84, 85, 86, 87, 88] (by decide +kernel) (by decide +kernel)
set_option maxRecDepth 20000 in
theorem gX5_learn_X5_learnLoop : GoodIn wsX5_learn (wsV RX5 151 RX5 yX5_learnLoop wsX5_learnLoop) := goodIn_app (goodIn_of _ (by decide +kernel)) ggX5_learn_X5_learnLoop
theorem dX5_learn_0 : decode cX5_learn 0 = .ok (.aload_n 0, 1) := by decide +kernel
theorem dX5_learn_1 : decode cX5_learn 1 = .ok (.getfield 16, 3) := by decide +kernel
theorem dX5_learn_4 : decode cX5_learn 4 = .ok (.iconst 0, 1) := by decide +kernel
theorem dX5_learn_5 : decode cX5_learn 5 = .ok (.iaload, 1) := by decide +kernel
theorem dX5_learn_6 : decode cX5_learn 6 = .ok (.istore_n 1, 1) := by decide +kernel
theorem dX5_learn_7 : decode cX5_learn 7 = .ok (.aload_n 0, 1) := by decide +kernel
theorem dX5_learn_8 : decode cX5_learn 8 = .ok (.getfield 29, 3) := by decide +kernel
theorem dX5_learn_11 : decode cX5_learn 11 = .ok (.iconst 0, 1) := by decide +kernel
theorem dX5_learn_12 : decode cX5_learn 12 = .ok (.baload, 1) := by decide +kernel
theorem dX5_learn_13 : decode cX5_learn 13 = .ok (.istore_n 2, 1) := by decide +kernel
theorem dX5_learn_14 : decode cX5_learn 14 = .ok (.aload_n 0, 1) := by decide +kernel
theorem dX5_learn_15 : decode cX5_learn 15 = .ok (.iconst 0, 1) := by decide +kernel
theorem dX5_learn_16 : decode cX5_learn 16 = .ok (.invokevirtual 119, 3) := by decide +kernel
theorem dX5_learn_19 : decode cX5_learn 19 = .ok (.istore_n 3, 1) := by decide +kernel
theorem dX5_learn_20 : decode cX5_learn 20 = .ok (.aload_n 0, 1) := by decide +kernel
theorem dX5_learn_21 : decode cX5_learn 21 = .ok (.getfield 22, 3) := by decide +kernel
theorem dX5_learn_24 : decode cX5_learn 24 = .ok (.iconst 0, 1) := by decide +kernel
theorem dX5_learn_25 : decode cX5_learn 25 = .ok (.baload, 1) := by decide +kernel
theorem dX5_learn_26 : decode cX5_learn 26 = .ok (.aload_n 0, 1) := by decide +kernel
theorem dX5_learn_27 : decode cX5_learn 27 = .ok (.getfield 22, 3) := by decide +kernel
theorem dX5_learn_30 : decode cX5_learn 30 = .ok (.iconst 1, 1) := by decide +kernel
theorem dX5_learn_31 : decode cX5_learn 31 = .ok (.baload, 1) := by decide +kernel
theorem dX5_learn_32 : decode cX5_learn 32 = .ok (.if_icmp .eq 27, 3) := by decide +kernel
theorem dX5_learn_35 : decode cX5_learn 35 = .ok (.aload_n 0, 1) := by decide +kernel
theorem dX5_learn_36 : decode cX5_learn 36 = .ok (.aload_n 0, 1) := by decide +kernel
theorem dX5_learn_37 : decode cX5_learn 37 = .ok (.iload_n 1, 1) := by decide +kernel
theorem dX5_learn_38 : decode cX5_learn 38 = .ok (.invokevirtual 102, 3) := by decide +kernel
theorem dX5_learn_41 : decode cX5_learn 41 = .ok (.aload_n 0, 1) := by decide +kernel
theorem dX5_learn_42 : decode cX5_learn 42 = .ok (.getfield 22, 3) := by decide +kernel
theorem dX5_learn_45 : decode cX5_learn 45 = .ok (.iconst 1, 1) := by decide +kernel
theorem dX5_learn_46 : decode cX5_learn 46 = .ok (.baload, 1) := by decide +kernel
theorem dX5_learn_47 : decode cX5_learn 47 = .ok (.iload_n 2, 1) := by decide +kernel
theorem dX5_learn_48 : decode cX5_learn 48 = .ok (.if_icmp .ne 7, 3) := by decide +kernel
theorem dX5_learn_51 : decode cX5_learn 51 = .ok (.iconst 1, 1) := by decide +kernel
theorem dX5_learn_52 : decode cX5_learn 52 = .ok (.goto 4, 3) := by decide +kernel
theorem dX5_learn_55 : decode cX5_learn 55 = .ok (.iconst 0, 1) := by decide +kernel
theorem dX5_learn_56 : decode cX5_learn 56 = .ok (.invokevirtual 143, 3) := by decide +kernel
theorem dX5_learn_59 : decode cX5_learn 59 = .ok (.aload_n 0, 1) := by decide +kernel
theorem dX5_learn_60 : decode cX5_learn 60 = .ok (.iload_n 1, 1) := by decide +kernel
theorem dX5_learn_61 : decode cX5_learn 61 = .ok (.aload_n 0, 1) := by decide +kernel
theorem dX5_learn_62 : decode cX5_learn 62 = .ok (.getfield 19, 3) := by decide +kernel
theorem dX5_learn_65 : decode cX5_learn 65 = .ok (.iconst 0, 1) := by decide +kernel
theorem dX5_learn_66 : decode cX5_learn 66 = .ok (.iaload, 1) := by decide +kernel
theorem dX5_learn_67 : decode cX5_learn 67 = .ok (.invokevirtual 98, 3) := by decide +kernel
theorem dX5_learn_70 : decode cX5_learn 70 = .ok (.istore 4, 2) := by decide +kernel
theorem dX5_learn_72 : decode cX5_learn 72 = .ok (.aload_n 0, 1) := by decide +kernel
theorem dX5_learn_73 : decode cX5_learn 73 = .ok (.iconst 0, 1) := by decide +kernel
theorem dX5_learn_74 : decode cX5_learn 74 = .ok (.aload_n 0, 1) := by decide +kernel
theorem dX5_learn_75 : decode cX5_learn 75 = .ok (.iload_n 1, 1) := by decide +kernel
theorem dX5_learn_76 : decode cX5_learn 76 = .ok (.invokevirtual 91, 3) := by decide +kernel
theorem dX5_learn_79 : decode cX5_learn 79 = .ok (.iload_n 1, 1) := by decide +kernel
theorem dX5_learn_80 : decode cX5_learn 80 = .ok (.iload_n 2, 1) := by decide +kernel
theorem dX5_learn_81 : decode cX5_learn 81 = .ok (.invokevirtual 147, 3) := by decide +kernel
theorem dX5_learn_84 : decode cX5_learn 84 = .ok (.aload_n 0, 1) := by decide +kernel
theorem dX5_learn_85 : decode cX5_learn 85 = .ok (.iconst 1, 1) := by decide +kernel
theorem dX5_learn_86 : decode cX5_learn 86 = .ok (.iload 4, 2) := by decide +kernel
theorem dX5_learn_88 : decode cX5_learn 88 = .ok (.iload_n 1, 1) := by decide +kernel
theorem dX5_learn_89 : decode cX5_learn 89 = .ok (.iload_n 2, 1) := by decide +kernel
theorem dX5_learn_90 : decode cX5_learn 90 = .ok (.invokevirtual 147, 3) := by decide +kernel
theorem dX5_learn_93 : decode cX5_learn 93 = .ok (.aload_n 0, 1) := by decide +kernel
theorem dX5_learn_94 : decode cX5_learn 94 = .ok (.aload_n 0, 1) := by decide +kernel
theorem dX5_learn_95 : decode cX5_learn 95 = .ok (.iload_n 1, 1) := by decide +kernel
theorem dX5_learn_96 : decode cX5_learn 96 = .ok (.invokevirtual 91, 3) := by decide +kernel
theorem dX5_learn_99 : decode cX5_learn 99 = .ok (.iload_n 2, 1) := by decide +kernel
theorem dX5_learn_100 : decode cX5_learn 100 = .ok (.invokevirtual 143, 3) := by decide +kernel
theorem dX5_learn_103 : decode cX5_learn 103 = .ok (.aload_n 0, 1) := by decide +kernel
theorem dX5_learn_104 : decode cX5_learn 104 = .ok (.iload 4, 2) := by decide +kernel
theorem dX5_learn_106 : decode cX5_learn 106 = .ok (.iload_n 2, 1) := by decide +kernel
theorem dX5_learn_107 : decode cX5_learn 107 = .ok (.invokevirtual 143, 3) := by decide +kernel
theorem dX5_learn_110 : decode cX5_learn 110 = .ok (.aload_n 0, 1) := by decide +kernel
theorem dX5_learn_111 : decode cX5_learn 111 = .ok (.iload_n 1, 1) := by decide +kernel
theorem dX5_learn_112 : decode cX5_learn 112 = .ok (.iload_n 2, 1) := by decide +kernel
theorem dX5_learn_113 : decode cX5_learn 113 = .ok (.iload_n 3, 1) := by decide +kernel
theorem dX5_learn_114 : decode cX5_learn 114 = .ok (.invokevirtual 151, 3) := by decide +kernel
theorem dX5_learn_117 : decode cX5_learn 117 = .ok (.iconst 0, 1) := by decide +kernel
theorem dX5_learn_118 : decode cX5_learn 118 = .ok (.istore 5, 2) := by decide +kernel
theorem dX5_learn_120 : decode cX5_learn 120 = .ok (.iload 5, 2) := by decide +kernel
theorem dX5_learn_122 : decode cX5_learn 122 = .ok (.iconst 4, 1) := by decide +kernel
theorem dX5_learn_123 : decode cX5_learn 123 = .ok (.if_icmp .ge 35, 3) := by decide +kernel
theorem dX5_learn_126 : decode cX5_learn 126 = .ok (.aload_n 0, 1) := by decide +kernel
theorem dX5_learn_127 : decode cX5_learn 127 = .ok (.getfield 47, 3) := by decide +kernel
theorem dX5_learn_130 : decode cX5_learn 130 = .ok (.iload 5, 2) := by decide +kernel
theorem dX5_learn_132 : decode cX5_learn 132 = .ok (.dup2, 1) := by decide +kernel
theorem dX5_learn_133 : decode cX5_learn 133 = .ok (.laload, 1) := by decide +kernel
theorem dX5_learn_134 : decode cX5_learn 134 = .ok (.aload_n 0, 1) := by decide +kernel
theorem dX5_learn_135 : decode cX5_learn 135 = .ok (.getfield 22, 3) := by decide +kernel
theorem dX5_learn_138 : decode cX5_learn 138 = .ok (.iload 5, 2) := by decide +kernel
theorem dX5_learn_140 : decode cX5_learn 140 = .ok (.baload, 1) := by decide +kernel
theorem dX5_learn_141 : decode cX5_learn 141 = .ok (.iload_n 2, 1) := by decide +kernel
theorem dX5_learn_142 : decode cX5_learn 142 = .ok (.if_icmp .ne 7, 3) := by decide +kernel
theorem dX5_learn_145 : decode cX5_learn 145 = .ok (.lconst 0, 1) := by decide +kernel
theorem dX5_learn_146 : decode cX5_learn 146 = .ok (.goto 4, 3) := by decide +kernel
theorem dX5_learn_149 : decode cX5_learn 149 = .ok (.lconst 1, 1) := by decide +kernel
theorem dX5_learn_150 : decode cX5_learn 150 = .ok (.ladd, 1) := by decide +kernel
theorem dX5_learn_151 : decode cX5_learn 151 = .ok (.lastore, 1) := by decide +kernel
theorem dX5_learn_152 : decode cX5_learn 152 = .ok (.iinc 5 1, 3) := by decide +kernel
theorem dX5_learn_155 : decode cX5_learn 155 = .ok (.goto (-35), 3) := by decide +kernel
theorem dX5_learn_158 : decode cX5_learn 158 = .ok (.aload_n 0, 1) := by decide +kernel
theorem dX5_learn_159 : decode cX5_learn 159 = .ok (.dup, 1) := by decide +kernel
theorem dX5_learn_160 : decode cX5_learn 160 = .ok (.getfield 77, 3) := by decide +kernel
theorem dX5_learn_163 : decode cX5_learn 163 = .ok (.lconst 1, 1) := by decide +kernel
theorem dX5_learn_164 : decode cX5_learn 164 = .ok (.ladd, 1) := by decide +kernel
theorem dX5_learn_165 : decode cX5_learn 165 = .ok (.putfield 77, 3) := by decide +kernel
theorem dX5_learn_168 : decode cX5_learn 168 = .ok (.aload_n 0, 1) := by decide +kernel
theorem dX5_learn_169 : decode cX5_learn 169 = .ok (.dup, 1) := by decide +kernel
theorem dX5_learn_170 : decode cX5_learn 170 = .ok (.getfield 74, 3) := by decide +kernel
theorem dX5_learn_173 : decode cX5_learn 173 = .ok (.iconst 1, 1) := by decide +kernel
theorem dX5_learn_174 : decode cX5_learn 174 = .ok (.isub, 1) := by decide +kernel
theorem dX5_learn_175 : decode cX5_learn 175 = .ok (.putfield 74, 3) := by decide +kernel
theorem dX5_learn_178 : decode cX5_learn 178 = .ok (.iconst 0, 1) := by decide +kernel
theorem dX5_learn_179 : decode cX5_learn 179 = .ok (.istore 5, 2) := by decide +kernel
theorem dX5_learn_181 : decode cX5_learn 181 = .ok (.iload 5, 2) := by decide +kernel
theorem dX5_learn_183 : decode cX5_learn 183 = .ok (.aload_n 0, 1) := by decide +kernel
theorem dX5_learn_184 : decode cX5_learn 184 = .ok (.getfield 74, 3) := by decide +kernel
theorem dX5_learn_187 : decode cX5_learn 187 = .ok (.if_icmp .ge 73, 3) := by decide +kernel
theorem dX5_learn_190 : decode cX5_learn 190 = .ok (.aload_n 0, 1) := by decide +kernel
theorem dX5_learn_191 : decode cX5_learn 191 = .ok (.getfield 16, 3) := by decide +kernel
theorem dX5_learn_194 : decode cX5_learn 194 = .ok (.iload 5, 2) := by decide +kernel
theorem dX5_learn_196 : decode cX5_learn 196 = .ok (.aload_n 0, 1) := by decide +kernel
theorem dX5_learn_197 : decode cX5_learn 197 = .ok (.getfield 16, 3) := by decide +kernel
theorem dX5_learn_200 : decode cX5_learn 200 = .ok (.iload 5, 2) := by decide +kernel
theorem dX5_learn_202 : decode cX5_learn 202 = .ok (.iconst 1, 1) := by decide +kernel
theorem dX5_learn_203 : decode cX5_learn 203 = .ok (.iadd, 1) := by decide +kernel
theorem dX5_learn_204 : decode cX5_learn 204 = .ok (.iaload, 1) := by decide +kernel
theorem dX5_learn_205 : decode cX5_learn 205 = .ok (.iastore, 1) := by decide +kernel
theorem dX5_learn_206 : decode cX5_learn 206 = .ok (.aload_n 0, 1) := by decide +kernel
theorem dX5_learn_207 : decode cX5_learn 207 = .ok (.getfield 19, 3) := by decide +kernel
theorem dX5_learn_210 : decode cX5_learn 210 = .ok (.iload 5, 2) := by decide +kernel
theorem dX5_learn_212 : decode cX5_learn 212 = .ok (.aload_n 0, 1) := by decide +kernel
theorem dX5_learn_213 : decode cX5_learn 213 = .ok (.getfield 19, 3) := by decide +kernel
theorem dX5_learn_216 : decode cX5_learn 216 = .ok (.iload 5, 2) := by decide +kernel
theorem dX5_learn_218 : decode cX5_learn 218 = .ok (.iconst 1, 1) := by decide +kernel
theorem dX5_learn_219 : decode cX5_learn 219 = .ok (.iadd, 1) := by decide +kernel
theorem dX5_learn_220 : decode cX5_learn 220 = .ok (.iaload, 1) := by decide +kernel
theorem dX5_learn_221 : decode cX5_learn 221 = .ok (.iastore, 1) := by decide +kernel
theorem dX5_learn_222 : decode cX5_learn 222 = .ok (.aload_n 0, 1) := by decide +kernel
theorem dX5_learn_223 : decode cX5_learn 223 = .ok (.getfield 26, 3) := by decide +kernel
theorem dX5_learn_226 : decode cX5_learn 226 = .ok (.iload 5, 2) := by decide +kernel
theorem dX5_learn_228 : decode cX5_learn 228 = .ok (.aload_n 0, 1) := by decide +kernel
theorem dX5_learn_229 : decode cX5_learn 229 = .ok (.getfield 26, 3) := by decide +kernel
theorem dX5_learn_232 : decode cX5_learn 232 = .ok (.iload 5, 2) := by decide +kernel
theorem dX5_learn_234 : decode cX5_learn 234 = .ok (.iconst 1, 1) := by decide +kernel
theorem dX5_learn_235 : decode cX5_learn 235 = .ok (.iadd, 1) := by decide +kernel
theorem dX5_learn_236 : decode cX5_learn 236 = .ok (.baload, 1) := by decide +kernel
theorem dX5_learn_237 : decode cX5_learn 237 = .ok (.bastore, 1) := by decide +kernel
theorem dX5_learn_238 : decode cX5_learn 238 = .ok (.aload_n 0, 1) := by decide +kernel
theorem dX5_learn_239 : decode cX5_learn 239 = .ok (.getfield 29, 3) := by decide +kernel
theorem dX5_learn_242 : decode cX5_learn 242 = .ok (.iload 5, 2) := by decide +kernel
theorem dX5_learn_244 : decode cX5_learn 244 = .ok (.aload_n 0, 1) := by decide +kernel
theorem dX5_learn_245 : decode cX5_learn 245 = .ok (.getfield 29, 3) := by decide +kernel
theorem dX5_learn_248 : decode cX5_learn 248 = .ok (.iload 5, 2) := by decide +kernel
theorem dX5_learn_250 : decode cX5_learn 250 = .ok (.iconst 1, 1) := by decide +kernel
theorem dX5_learn_251 : decode cX5_learn 251 = .ok (.iadd, 1) := by decide +kernel
theorem dX5_learn_252 : decode cX5_learn 252 = .ok (.baload, 1) := by decide +kernel
theorem dX5_learn_253 : decode cX5_learn 253 = .ok (.bastore, 1) := by decide +kernel
theorem dX5_learn_254 : decode cX5_learn 254 = .ok (.iinc 5 1, 3) := by decide +kernel
theorem dX5_learn_257 : decode cX5_learn 257 = .ok (.goto (-76), 3) := by decide +kernel
theorem dX5_learn_260 : decode cX5_learn 260 = .ok (.iconst 0, 1) := by decide +kernel
theorem dX5_learn_261 : decode cX5_learn 261 = .ok (.istore 5, 2) := by decide +kernel
theorem dX5_learn_263 : decode cX5_learn 263 = .ok (.iload 5, 2) := by decide +kernel
theorem dX5_learn_265 : decode cX5_learn 265 = .ok (.iconst 4, 1) := by decide +kernel
theorem dX5_learn_266 : decode cX5_learn 266 = .ok (.aload_n 0, 1) := by decide +kernel
theorem dX5_learn_267 : decode cX5_learn 267 = .ok (.getfield 74, 3) := by decide +kernel
theorem dX5_learn_270 : decode cX5_learn 270 = .ok (.imul, 1) := by decide +kernel
theorem dX5_learn_271 : decode cX5_learn 271 = .ok (.if_icmp .ge 25, 3) := by decide +kernel
theorem dX5_learn_274 : decode cX5_learn 274 = .ok (.aload_n 0, 1) := by decide +kernel
theorem dX5_learn_275 : decode cX5_learn 275 = .ok (.getfield 22, 3) := by decide +kernel
theorem dX5_learn_278 : decode cX5_learn 278 = .ok (.iload 5, 2) := by decide +kernel
theorem dX5_learn_280 : decode cX5_learn 280 = .ok (.aload_n 0, 1) := by decide +kernel
theorem dX5_learn_281 : decode cX5_learn 281 = .ok (.getfield 22, 3) := by decide +kernel
theorem dX5_learn_284 : decode cX5_learn 284 = .ok (.iload 5, 2) := by decide +kernel
theorem dX5_learn_286 : decode cX5_learn 286 = .ok (.iconst 4, 1) := by decide +kernel
theorem dX5_learn_287 : decode cX5_learn 287 = .ok (.iadd, 1) := by decide +kernel
theorem dX5_learn_288 : decode cX5_learn 288 = .ok (.baload, 1) := by decide +kernel
theorem dX5_learn_289 : decode cX5_learn 289 = .ok (.bastore, 1) := by decide +kernel
theorem dX5_learn_290 : decode cX5_learn 290 = .ok (.iinc 5 1, 3) := by decide +kernel
theorem dX5_learn_293 : decode cX5_learn 293 = .ok (.goto (-30), 3) := by decide +kernel
theorem dX5_learn_296 : decode cX5_learn 296 = .ok (.iload_n 3, 1) := by decide +kernel
theorem dX5_learn_297 : decode cX5_learn 297 = .ok (.ireturn, 1) := by decide +kernel
set_option maxRecDepth 20000 in
theorem ggX5_commit_X5_learn : GoodIn wsX5_commit wsX5_learn := goodIn_r _ [8, 9, 10, 11, 12, 13, 14, 2, 3, 15, 16, 17, 7, 18, 19, 20, 21, 22, 23, 24, 25, 26, 27, 28, 29, 30, 31, 32, 33, 34, 35, 36, 37, 38, 39, 40, 41, 42, 43, 44, 45, 46, 47, 48, 49, 50, 51, 52, 53, 54, 55, 56, 57, 58, 59, 60, 61, 62, 63, 64, 65, 66, 67, 68, 69, 70, 71, 76, 77, 78, 79, 80, 81, 82, 83, 84, 85, 86, 87, 88, 89, 90, 91, 92, 93, 94, 95, 96, 97] (by decide +kernel) (by decide +kernel)
set_option maxRecDepth 20000 in
theorem gX5_commit_X5_learn : GoodIn wsX5_commit (wsV RX5 155 RX5 yX5_learn wsX5_learn) := goodIn_app (goodIn_of _ (by decide +kernel)) ggX5_commit_X5_learn
set_option maxRecDepth 20000 in
theorem ggX5_commit_X5_failed : GoodIn wsX5_commit wsX5_failed := goodIn_r _ [75, 1, 76, 77, 78, 79, 80, 81, 82, 83, 84, 85, 86, 87, 88, 89, 90, 91, 92, 93, 94, 95, 96, 97] (by decide +kernel) (by decide +kernel)
set_option maxRecDepth 20000 in
theorem gX5_commit_X5_failed : GoodIn wsX5_commit (wsV RX5 84 RX5 yX5_failed wsX5_failed) := goodIn_app (goodIn_of _ (by decide +kernel)) ggX5_commit_X5_failed
theorem dX5_commit_0 : decode cX5_commit 0 = .ok (.aload_n 0, 1) := by decide +kernel
theorem dX5_commit_1 : decode cX5_commit 1 = .ok (.iconst 0, 1) := by decide +kernel
theorem dX5_commit_2 : decode cX5_commit 2 = .ok (.putfield 58, 3) := by decide +kernel
theorem dX5_commit_5 : decode cX5_commit 5 = .ok (.aload_n 0, 1) := by decide +kernel
theorem dX5_commit_6 : decode cX5_commit 6 = .ok (.getfield 74, 3) := by decide +kernel
theorem dX5_commit_9 : decode cX5_commit 9 = .ok (.ifCond .le 19, 3) := by decide +kernel
theorem dX5_commit_12 : decode cX5_commit 12 = .ok (.aload_n 0, 1) := by decide +kernel
theorem dX5_commit_13 : decode cX5_commit 13 = .ok (.getfield 26, 3) := by decide +kernel
theorem dX5_commit_16 : decode cX5_commit 16 = .ok (.iconst 0, 1) := by decide +kernel
theorem dX5_commit_17 : decode cX5_commit 17 = .ok (.baload, 1) := by decide +kernel
theorem dX5_commit_18 : decode cX5_commit 18 = .ok (.ifCond .eq 10, 3) := by decide +kernel
theorem dX5_commit_21 : decode cX5_commit 21 = .ok (.aload_n 0, 1) := by decide +kernel
theorem dX5_commit_22 : decode cX5_commit 22 = .ok (.invokevirtual 155, 3) := by decide +kernel
theorem dX5_commit_25 : decode cX5_commit 25 = .ok (.goto 8, 3) := by decide +kernel
theorem dX5_commit_28 : decode cX5_commit 28 = .ok (.aload_n 0, 1) := by decide +kernel
theorem dX5_commit_29 : decode cX5_commit 29 = .ok (.iconst 1, 1) := by decide +kernel
theorem dX5_commit_30 : decode cX5_commit 30 = .ok (.invokevirtual 84, 3) := by decide +kernel
theorem dX5_commit_33 : decode cX5_commit 33 = .ok (.ireturn, 1) := by decide +kernel
set_option maxRecDepth 20000 in
theorem ggX5_train_X5_failed : GoodIn wsX5_train wsX5_failed := goodIn_r _ [8, 1, 100, 101, 102, 103, 104, 105, 106, 107, 108, 109, 110, 111, 112, 113, 114, 115, 116, 117, 118, 119, 120, 121] (by decide +kernel) (by decide +kernel)
set_option maxRecDepth 20000 in
theorem gX5_train_X5_failed : GoodIn wsX5_train (wsV RX5 84 RX5 yX5_failed wsX5_failed) := goodIn_app (goodIn_of _ (by decide +kernel)) ggX5_train_X5_failed
set_option maxRecDepth 20000 in
theorem ggX5_train_X5_add : GoodIn wsX5_train wsX5_add := goodIn_r _ [12, 3, 13, 14, 15, 16, 17, 18, 19, 20, 21, 22, 7, 23, 24, 25, 26, 27, 28, 29, 30, 31, 32, 33, 34, 35, 36, 37, 38, 39, 40, 41, 42, 43, 44, 45, 46, 47, 48, 49, 50, 51, 52, 53, 54, 55, 56, 57, 58, 59, 100, 101, 102, 103, 104, 105, 106, 107, 108, 109, 110, 111, 112, 113, 114, 115, 116, 117, 118, 119, 120, 121] (by decide +kernel) (by decide +kernel)
set_option maxRecDepth 20000 in
theorem gX5_train_X5_add : GoodIn wsX5_train (wsV RX5 116 RX5 yX5_add wsX5_add) := goodIn_app (goodIn_of _ (by decide +kernel)) ggX5_train_X5_add
set_option maxRecDepth 20000 in
theorem ggX5_train_X5_settle : GoodIn wsX5_train wsX5_settle := goodIn_r _ [63, 19, 54, 3, 64, 18, 14, 65, 66, 67, 7, 68, 13, 55, 56, 57, 58, 59, 100, 101, 102, 103, 104, 105, 106, 107, 108, 109, 110, 111, 112, 113, 114, 115, 116, 117, 118, 119, 120, 121] (by decide +kernel) (by decide +kernel)
set_option maxRecDepth 20000 in
theorem gX5_train_X5_settle : GoodIn wsX5_train (wsV RX5 128 RX5 yX5_settle wsX5_settle) := goodIn_app (goodIn_of _ (by decide +kernel)) ggX5_train_X5_settle
set_option maxRecDepth 20000 in
theorem ggX5_train_X5_learn : GoodIn wsX5_train wsX5_learn := goodIn_r _ [72, 17, 54, 13, 18, 73, 74, 3, 19, 65, 66, 67, 7, 68, 35, 36, 37, 38, 24, 75, 76, 77, 78, 29, 79, 80, 81, 82, 83, 84, 85, 30, 31, 32, 33, 34, 20, 21, 22, 23, 86, 87, 88, 89, 90, 91, 25, 26, 27, 28, 92, 93, 94, 95, 49, 43, 16, 15, 39, 40, 41, 42, 44, 96, 97, 98, 99, 100, 101, 102, 103, 104, 105, 106, 107, 108, 109, 110, 111, 112, 113, 114, 115, 116, 117, 118, 119, 120, 121] (by decide +kernel) (by decide +kernel)
set_option maxRecDepth 20000 in
theorem gX5_train_X5_learn : GoodIn wsX5_train (wsV RX5 155 RX5 yX5_learn wsX5_learn) := goodIn_app (goodIn_of _ (by decide +kernel)) ggX5_train_X5_learn
theorem dX5_train_0 : decode cX5_train 0 = .ok (.aload_n 0, 1) := by decide +kernel
theorem dX5_train_1 : decode cX5_train 1 = .ok (.iconst 0, 1) := by decide +kernel
theorem dX5_train_2 : decode cX5_train 2 = .ok (.putfield 58, 3) := by decide +kernel
theorem dX5_train_5 : decode cX5_train 5 = .ok (.iload_n 1, 1) := by decide +kernel
theorem dX5_train_6 : decode cX5_train 6 = .ok (.ifCond .lt 9, 3) := by decide +kernel
theorem dX5_train_9 : decode cX5_train 9 = .ok (.iload_n 1, 1) := by decide +kernel
theorem dX5_train_10 : decode cX5_train 10 = .ok (.ldc 115, 2) := by decide +kernel
theorem dX5_train_12 : decode cX5_train 12 = .ok (.if_icmp .lt 9, 3) := by decide +kernel
theorem dX5_train_15 : decode cX5_train 15 = .ok (.aload_n 0, 1) := by decide +kernel
theorem dX5_train_16 : decode cX5_train 16 = .ok (.iconst 1, 1) := by decide +kernel
theorem dX5_train_17 : decode cX5_train 17 = .ok (.invokevirtual 84, 3) := by decide +kernel
theorem dX5_train_20 : decode cX5_train 20 = .ok (.ireturn, 1) := by decide +kernel
theorem dX5_train_21 : decode cX5_train 21 = .ok (.aload_n 0, 1) := by decide +kernel
theorem dX5_train_22 : decode cX5_train 22 = .ok (.getfield 74, 3) := by decide +kernel
theorem dX5_train_25 : decode cX5_train 25 = .ok (.ifCond .le 9, 3) := by decide +kernel
theorem dX5_train_28 : decode cX5_train 28 = .ok (.aload_n 0, 1) := by decide +kernel
theorem dX5_train_29 : decode cX5_train 29 = .ok (.iconst 2, 1) := by decide +kernel
theorem dX5_train_30 : decode cX5_train 30 = .ok (.invokevirtual 84, 3) := by decide +kernel
theorem dX5_train_33 : decode cX5_train 33 = .ok (.ireturn, 1) := by decide +kernel
theorem dX5_train_34 : decode cX5_train 34 = .ok (.aload_n 0, 1) := by decide +kernel
theorem dX5_train_35 : decode cX5_train 35 = .ok (.iload_n 1, 1) := by decide +kernel
theorem dX5_train_36 : decode cX5_train 36 = .ok (.invokevirtual 116, 3) := by decide +kernel
theorem dX5_train_39 : decode cX5_train 39 = .ok (.pop, 1) := by decide +kernel
theorem dX5_train_40 : decode cX5_train 40 = .ok (.aload_n 0, 1) := by decide +kernel
theorem dX5_train_41 : decode cX5_train 41 = .ok (.iconst 0, 1) := by decide +kernel
theorem dX5_train_42 : decode cX5_train 42 = .ok (.iload_n 2, 1) := by decide +kernel
theorem dX5_train_43 : decode cX5_train 43 = .ok (.invokevirtual 128, 3) := by decide +kernel
theorem dX5_train_46 : decode cX5_train 46 = .ok (.pop, 1) := by decide +kernel
theorem dX5_train_47 : decode cX5_train 47 = .ok (.aload_n 0, 1) := by decide +kernel
theorem dX5_train_48 : decode cX5_train 48 = .ok (.invokevirtual 155, 3) := by decide +kernel
theorem dX5_train_51 : decode cX5_train 51 = .ok (.ifCond .ne 7, 3) := by decide +kernel
theorem dX5_train_54 : decode cX5_train 54 = .ok (.iconst 1, 1) := by decide +kernel
theorem dX5_train_55 : decode cX5_train 55 = .ok (.goto 4, 3) := by decide +kernel
theorem dX5_train_58 : decode cX5_train 58 = .ok (.iconst 0, 1) := by decide +kernel
theorem dX5_train_59 : decode cX5_train 59 = .ok (.ireturn, 1) := by decide +kernel
set_option maxRecDepth 20000 in
theorem ggX5_flush_X5_fail : GoodIn wsX5_flush wsX5_fail := goodIn_r _ [10, 1, 11, 12, 13, 14, 15, 16, 17, 18, 19, 20, 21, 22, 23, 24, 25, 26, 27, 28, 29, 30, 31, 32] (by decide +kernel) (by decide +kernel)
set_option maxRecDepth 20000 in
theorem gX5_flush_X5_fail : GoodIn wsX5_flush (wsV RX5 125 RX5 yX5_fail wsX5_fail) := goodIn_app (goodIn_of _ (by decide +kernel)) ggX5_flush_X5_fail
theorem dX5_flush_0 : decode cX5_flush 0 = .ok (.aload_n 0, 1) := by decide +kernel
theorem dX5_flush_1 : decode cX5_flush 1 = .ok (.iconst 0, 1) := by decide +kernel
theorem dX5_flush_2 : decode cX5_flush 2 = .ok (.putfield 58, 3) := by decide +kernel
theorem dX5_flush_5 : decode cX5_flush 5 = .ok (.iload_n 1, 1) := by decide +kernel
theorem dX5_flush_6 : decode cX5_flush 6 = .ok (.ifCond .lt 11, 3) := by decide +kernel
theorem dX5_flush_9 : decode cX5_flush 9 = .ok (.iload_n 1, 1) := by decide +kernel
theorem dX5_flush_10 : decode cX5_flush 10 = .ok (.aload_n 0, 1) := by decide +kernel
theorem dX5_flush_11 : decode cX5_flush 11 = .ok (.getfield 74, 3) := by decide +kernel
theorem dX5_flush_14 : decode cX5_flush 14 = .ok (.if_icmp .le 9, 3) := by decide +kernel
theorem dX5_flush_17 : decode cX5_flush 17 = .ok (.aload_n 0, 1) := by decide +kernel
theorem dX5_flush_18 : decode cX5_flush 18 = .ok (.iconst 1, 1) := by decide +kernel
theorem dX5_flush_19 : decode cX5_flush 19 = .ok (.invokevirtual 125, 3) := by decide +kernel
theorem dX5_flush_22 : decode cX5_flush 22 = .ok (.ireturn, 1) := by decide +kernel
theorem dX5_flush_23 : decode cX5_flush 23 = .ok (.aload_n 0, 1) := by decide +kernel
theorem dX5_flush_24 : decode cX5_flush 24 = .ok (.dup, 1) := by decide +kernel
theorem dX5_flush_25 : decode cX5_flush 25 = .ok (.getfield 74, 3) := by decide +kernel
theorem dX5_flush_28 : decode cX5_flush 28 = .ok (.iload_n 1, 1) := by decide +kernel
theorem dX5_flush_29 : decode cX5_flush 29 = .ok (.isub, 1) := by decide +kernel
theorem dX5_flush_30 : decode cX5_flush 30 = .ok (.putfield 74, 3) := by decide +kernel
theorem dX5_flush_33 : decode cX5_flush 33 = .ok (.aload_n 0, 1) := by decide +kernel
theorem dX5_flush_34 : decode cX5_flush 34 = .ok (.dup, 1) := by decide +kernel
theorem dX5_flush_35 : decode cX5_flush 35 = .ok (.getfield 81, 3) := by decide +kernel
theorem dX5_flush_38 : decode cX5_flush 38 = .ok (.iload_n 1, 1) := by decide +kernel
theorem dX5_flush_39 : decode cX5_flush 39 = .ok (.i2l, 1) := by decide +kernel
theorem dX5_flush_40 : decode cX5_flush 40 = .ok (.ladd, 1) := by decide +kernel
theorem dX5_flush_41 : decode cX5_flush 41 = .ok (.putfield 81, 3) := by decide +kernel
theorem dX5_flush_44 : decode cX5_flush 44 = .ok (.iload_n 1, 1) := by decide +kernel
theorem dX5_flush_45 : decode cX5_flush 45 = .ok (.ifCond .le 16, 3) := by decide +kernel
theorem dX5_flush_48 : decode cX5_flush 48 = .ok (.aload_n 0, 1) := by decide +kernel
theorem dX5_flush_49 : decode cX5_flush 49 = .ok (.aload_n 0, 1) := by decide +kernel
theorem dX5_flush_50 : decode cX5_flush 50 = .ok (.getfield 19, 3) := by decide +kernel
theorem dX5_flush_53 : decode cX5_flush 53 = .ok (.aload_n 0, 1) := by decide +kernel
theorem dX5_flush_54 : decode cX5_flush 54 = .ok (.getfield 74, 3) := by decide +kernel
theorem dX5_flush_57 : decode cX5_flush 57 = .ok (.iaload, 1) := by decide +kernel
theorem dX5_flush_58 : decode cX5_flush 58 = .ok (.putfield 71, 3) := by decide +kernel
theorem dX5_flush_61 : decode cX5_flush 61 = .ok (.aload_n 0, 1) := by decide +kernel
theorem dX5_flush_62 : decode cX5_flush 62 = .ok (.getfield 74, 3) := by decide +kernel
theorem dX5_flush_65 : decode cX5_flush 65 = .ok (.ireturn, 1) := by decide +kernel
theorem dX5_inFlight_0 : decode cX5_inFlight 0 = .ok (.aload_n 0, 1) := by decide +kernel
theorem dX5_inFlight_1 : decode cX5_inFlight 1 = .ok (.iconst 0, 1) := by decide +kernel
theorem dX5_inFlight_2 : decode cX5_inFlight 2 = .ok (.putfield 58, 3) := by decide +kernel
theorem dX5_inFlight_5 : decode cX5_inFlight 5 = .ok (.aload_n 0, 1) := by decide +kernel
theorem dX5_inFlight_6 : decode cX5_inFlight 6 = .ok (.getfield 74, 3) := by decide +kernel
theorem dX5_inFlight_9 : decode cX5_inFlight 9 = .ok (.ireturn, 1) := by decide +kernel
set_option maxRecDepth 20000 in
theorem ggX5_place_X5_isFlying : GoodIn wsX5_place wsX5_isFlying := goodIn_r _ [7, 8, 13, 14, 15, 16, 17, 18, 19, 20, 21, 22, 23, 24, 25, 26, 27, 28, 29, 30, 31, 32, 33, 34] (by decide +kernel) (by decide +kernel)
set_option maxRecDepth 20000 in
theorem gX5_place_X5_isFlying : GoodIn wsX5_place (wsV RX5 122 RX5 yX5_isFlying wsX5_isFlying) := goodIn_app (goodIn_of _ (by decide +kernel)) ggX5_place_X5_isFlying
set_option maxRecDepth 20000 in
theorem ggX5_place_X5_fail : GoodIn wsX5_place wsX5_fail := goodIn_r _ [12, 1, 13, 14, 15, 16, 17, 18, 19, 20, 21, 22, 23, 24, 25, 26, 27, 28, 29, 30, 31, 32, 33, 34] (by decide +kernel) (by decide +kernel)
set_option maxRecDepth 20000 in
theorem gX5_place_X5_fail : GoodIn wsX5_place (wsV RX5 125 RX5 yX5_fail wsX5_fail) := goodIn_app (goodIn_of _ (by decide +kernel)) ggX5_place_X5_fail
theorem dX5_place_0 : decode cX5_place 0 = .ok (.aload_n 0, 1) := by decide +kernel
theorem dX5_place_1 : decode cX5_place 1 = .ok (.iconst 0, 1) := by decide +kernel
theorem dX5_place_2 : decode cX5_place 2 = .ok (.putfield 58, 3) := by decide +kernel
theorem dX5_place_5 : decode cX5_place 5 = .ok (.aload_n 0, 1) := by decide +kernel
theorem dX5_place_6 : decode cX5_place 6 = .ok (.iload_n 1, 1) := by decide +kernel
theorem dX5_place_7 : decode cX5_place 7 = .ok (.invokevirtual 122, 3) := by decide +kernel
theorem dX5_place_10 : decode cX5_place 10 = .ok (.ifCond .eq 12, 3) := by decide +kernel
theorem dX5_place_13 : decode cX5_place 13 = .ok (.aload_n 0, 1) := by decide +kernel
theorem dX5_place_14 : decode cX5_place 14 = .ok (.getfield 16, 3) := by decide +kernel
theorem dX5_place_17 : decode cX5_place 17 = .ok (.iload_n 1, 1) := by decide +kernel
theorem dX5_place_18 : decode cX5_place 18 = .ok (.iaload, 1) := by decide +kernel
theorem dX5_place_19 : decode cX5_place 19 = .ok (.goto 8, 3) := by decide +kernel
theorem dX5_place_22 : decode cX5_place 22 = .ok (.aload_n 0, 1) := by decide +kernel
theorem dX5_place_23 : decode cX5_place 23 = .ok (.iconst 1, 1) := by decide +kernel
theorem dX5_place_24 : decode cX5_place 24 = .ok (.invokevirtual 125, 3) := by decide +kernel
theorem dX5_place_27 : decode cX5_place 27 = .ok (.ireturn, 1) := by decide +kernel
set_option maxRecDepth 20000 in
theorem ggX5_stateOf_X5_isWrong : GoodIn wsX5_stateOf wsX5_isWrong := goodIn_r _ [6, 1, 7, 8, 9, 10, 11, 12, 13, 14, 15, 16, 17, 18, 19, 20, 21, 22, 23, 24, 25, 26, 27, 28, 29, 30] (by decide +kernel) (by decide +kernel)
set_option maxRecDepth 20000 in
theorem gX5_stateOf_X5_isWrong : GoodIn wsX5_stateOf (wsV RX5 119 RX5 yX5_isWrong wsX5_isWrong) := goodIn_app (goodIn_of _ (by decide +kernel)) ggX5_stateOf_X5_isWrong
theorem dX5_stateOf_0 : decode cX5_stateOf 0 = .ok (.aload_n 0, 1) := by decide +kernel
theorem dX5_stateOf_1 : decode cX5_stateOf 1 = .ok (.getfield 26, 3) := by decide +kernel
theorem dX5_stateOf_4 : decode cX5_stateOf 4 = .ok (.iload_n 1, 1) := by decide +kernel
theorem dX5_stateOf_5 : decode cX5_stateOf 5 = .ok (.baload, 1) := by decide +kernel
theorem dX5_stateOf_6 : decode cX5_stateOf 6 = .ok (.ifCond .ne 7, 3) := by decide +kernel
theorem dX5_stateOf_9 : decode cX5_stateOf 9 = .ok (.iconst 0, 1) := by decide +kernel
theorem dX5_stateOf_10 : decode cX5_stateOf 10 = .ok (.goto 16, 3) := by decide +kernel
theorem dX5_stateOf_13 : decode cX5_stateOf 13 = .ok (.aload_n 0, 1) := by decide +kernel
theorem dX5_stateOf_14 : decode cX5_stateOf 14 = .ok (.iload_n 1, 1) := by decide +kernel
theorem dX5_stateOf_15 : decode cX5_stateOf 15 = .ok (.invokevirtual 119, 3) := by decide +kernel
theorem dX5_stateOf_18 : decode cX5_stateOf 18 = .ok (.ifCond .eq 7, 3) := by decide +kernel
theorem dX5_stateOf_21 : decode cX5_stateOf 21 = .ok (.iconst 2, 1) := by decide +kernel
theorem dX5_stateOf_22 : decode cX5_stateOf 22 = .ok (.goto 4, 3) := by decide +kernel
theorem dX5_stateOf_25 : decode cX5_stateOf 25 = .ok (.iconst 1, 1) := by decide +kernel
theorem dX5_stateOf_26 : decode cX5_stateOf 26 = .ok (.ireturn, 1) := by decide +kernel
set_option maxRecDepth 20000 in
theorem ggX5_state_X5_isFlying : GoodIn wsX5_state wsX5_isFlying := goodIn_r _ [6, 7, 23, 24, 25, 26, 27, 28, 29, 30, 31, 32, 33, 34, 35, 36, 37, 38, 39, 40, 41, 42, 43, 44] (by decide +kernel) (by decide +kernel)
set_option maxRecDepth 20000 in
theorem gX5_state_X5_isFlying : GoodIn wsX5_state (wsV RX5 122 RX5 yX5_isFlying wsX5_isFlying) := goodIn_app (goodIn_of _ (by decide +kernel)) ggX5_state_X5_isFlying
set_option maxRecDepth 20000 in
theorem ggX5_state_X5_stateOf : GoodIn wsX5_state wsX5_stateOf := goodIn_r _ [11, 12, 13, 14, 15, 5, 16, 17, 18, 23, 24, 25, 26, 27, 28, 29, 30, 31, 32, 33, 34, 35, 36, 37, 38, 39, 40, 41, 42, 43, 44] (by decide +kernel) (by decide +kernel)
set_option maxRecDepth 20000 in
theorem gX5_state_X5_stateOf : GoodIn wsX5_state (wsV RX5 159 RX5 yX5_stateOf wsX5_stateOf) := goodIn_app (goodIn_of _ (by decide +kernel)) ggX5_state_X5_stateOf
set_option maxRecDepth 20000 in
theorem ggX5_state_X5_fail : GoodIn wsX5_state wsX5_fail := goodIn_r _ [22, 1, 23, 24, 25, 26, 27, 28, 29, 30, 31, 32, 33, 34, 35, 36, 37, 38, 39, 40, 41, 42, 43, 44] (by decide +kernel) (by decide +kernel)
set_option maxRecDepth 20000 in
theorem gX5_state_X5_fail : GoodIn wsX5_state (wsV RX5 125 RX5 yX5_fail wsX5_fail) := goodIn_app (goodIn_of _ (by decide +kernel)) ggX5_state_X5_fail
theorem dX5_state_0 : decode cX5_state 0 = .ok (.aload_n 0, 1) := by decide +kernel
theorem dX5_state_1 : decode cX5_state 1 = .ok (.iconst 0, 1) := by decide +kernel
theorem dX5_state_2 : decode cX5_state 2 = .ok (.putfield 58, 3) := by decide +kernel
theorem dX5_state_5 : decode cX5_state 5 = .ok (.aload_n 0, 1) := by decide +kernel
theorem dX5_state_6 : decode cX5_state 6 = .ok (.iload_n 1, 1) := by decide +kernel
theorem dX5_state_7 : decode cX5_state 7 = .ok (.invokevirtual 122, 3) := by decide +kernel
theorem dX5_state_10 : decode cX5_state 10 = .ok (.ifCond .eq 11, 3) := by decide +kernel
theorem dX5_state_13 : decode cX5_state 13 = .ok (.aload_n 0, 1) := by decide +kernel
theorem dX5_state_14 : decode cX5_state 14 = .ok (.iload_n 1, 1) := by decide +kernel
theorem dX5_state_15 : decode cX5_state 15 = .ok (.invokevirtual 159, 3) := by decide +kernel
theorem dX5_state_18 : decode cX5_state 18 = .ok (.goto 8, 3) := by decide +kernel
theorem dX5_state_21 : decode cX5_state 21 = .ok (.aload_n 0, 1) := by decide +kernel
theorem dX5_state_22 : decode cX5_state 22 = .ok (.iconst 1, 1) := by decide +kernel
theorem dX5_state_23 : decode cX5_state 23 = .ok (.invokevirtual 125, 3) := by decide +kernel
theorem dX5_state_26 : decode cX5_state 26 = .ok (.ireturn, 1) := by decide +kernel
theorem dX5_isKind_0 : decode cX5_isKind 0 = .ok (.iload_n 0, 1) := by decide +kernel
theorem dX5_isKind_1 : decode cX5_isKind 1 = .ok (.ifCond .lt 12, 3) := by decide +kernel
theorem dX5_isKind_4 : decode cX5_isKind 4 = .ok (.iload_n 0, 1) := by decide +kernel
theorem dX5_isKind_5 : decode cX5_isKind 5 = .ok (.iconst 4, 1) := by decide +kernel
theorem dX5_isKind_6 : decode cX5_isKind 6 = .ok (.if_icmp .ge 7, 3) := by decide +kernel
theorem dX5_isKind_9 : decode cX5_isKind 9 = .ok (.iconst 1, 1) := by decide +kernel
theorem dX5_isKind_10 : decode cX5_isKind 10 = .ok (.goto 4, 3) := by decide +kernel
theorem dX5_isKind_13 : decode cX5_isKind 13 = .ok (.iconst 0, 1) := by decide +kernel
theorem dX5_isKind_14 : decode cX5_isKind 14 = .ok (.ireturn, 1) := by decide +kernel
set_option maxRecDepth 20000 in
theorem ggX5_predicted_X5_isFlying : GoodIn wsX5_predicted wsX5_isFlying := goodIn_r _ [7, 8, 16, 17, 18, 19, 20, 21, 22, 23, 24, 25, 26, 27, 28, 29, 30, 31, 32, 33, 34, 35, 36, 37] (by decide +kernel) (by decide +kernel)
set_option maxRecDepth 20000 in
theorem gX5_predicted_X5_isFlying : GoodIn wsX5_predicted (wsV RX5 122 RX5 yX5_isFlying wsX5_isFlying) := goodIn_app (goodIn_of _ (by decide +kernel)) ggX5_predicted_X5_isFlying
set_option maxRecDepth 20000 in
theorem ggX5_predicted_X5_isKind : GoodIn wsX5_predicted wsX5_isKind := goodIn_r _ [11] (by decide +kernel) (by decide +kernel)
set_option maxRecDepth 20000 in
theorem gX5_predicted_X5_isKind : GoodIn wsX5_predicted (va_wsS RX5 162 yX5_isKind wsX5_isKind) := goodIn_app (goodIn_of _ (by decide +kernel)) ggX5_predicted_X5_isKind
set_option maxRecDepth 20000 in
theorem ggX5_predicted_X5_failed : GoodIn wsX5_predicted wsX5_failed := goodIn_r _ [15, 1, 16, 17, 18, 19, 20, 21, 22, 23, 24, 25, 26, 27, 28, 29, 30, 31, 32, 33, 34, 35, 36, 37] (by decide +kernel) (by decide +kernel)
set_option maxRecDepth 20000 in
theorem gX5_predicted_X5_failed : GoodIn wsX5_predicted (wsV RX5 84 RX5 yX5_failed wsX5_failed) := goodIn_app (goodIn_of _ (by decide +kernel)) ggX5_predicted_X5_failed
theorem dX5_predicted_0 : decode cX5_predicted 0 = .ok (.aload_n 0, 1) := by decide +kernel
theorem dX5_predicted_1 : decode cX5_predicted 1 = .ok (.iconst 0, 1) := by decide +kernel
theorem dX5_predicted_2 : decode cX5_predicted 2 = .ok (.putfield 58, 3) := by decide +kernel
theorem dX5_predicted_5 : decode cX5_predicted 5 = .ok (.aload_n 0, 1) := by decide +kernel
theorem dX5_predicted_6 : decode cX5_predicted 6 = .ok (.iload_n 1, 1) := by decide +kernel
theorem dX5_predicted_7 : decode cX5_predicted 7 = .ok (.invokevirtual 122, 3) := by decide +kernel
theorem dX5_predicted_10 : decode cX5_predicted 10 = .ok (.ifCond .eq 23, 3) := by decide +kernel
theorem dX5_predicted_13 : decode cX5_predicted 13 = .ok (.iload_n 2, 1) := by decide +kernel
theorem dX5_predicted_14 : decode cX5_predicted 14 = .ok (.invokestatic 162, 3) := by decide +kernel
theorem dX5_predicted_17 : decode cX5_predicted 17 = .ok (.ifCond .eq 16, 3) := by decide +kernel
theorem dX5_predicted_20 : decode cX5_predicted 20 = .ok (.aload_n 0, 1) := by decide +kernel
theorem dX5_predicted_21 : decode cX5_predicted 21 = .ok (.getfield 22, 3) := by decide +kernel
theorem dX5_predicted_24 : decode cX5_predicted 24 = .ok (.iconst 4, 1) := by decide +kernel
theorem dX5_predicted_25 : decode cX5_predicted 25 = .ok (.iload_n 1, 1) := by decide +kernel
theorem dX5_predicted_26 : decode cX5_predicted 26 = .ok (.imul, 1) := by decide +kernel
theorem dX5_predicted_27 : decode cX5_predicted 27 = .ok (.iload_n 2, 1) := by decide +kernel
theorem dX5_predicted_28 : decode cX5_predicted 28 = .ok (.iadd, 1) := by decide +kernel
theorem dX5_predicted_29 : decode cX5_predicted 29 = .ok (.baload, 1) := by decide +kernel
theorem dX5_predicted_30 : decode cX5_predicted 30 = .ok (.goto 8, 3) := by decide +kernel
theorem dX5_predicted_33 : decode cX5_predicted 33 = .ok (.aload_n 0, 1) := by decide +kernel
theorem dX5_predicted_34 : decode cX5_predicted 34 = .ok (.iconst 1, 1) := by decide +kernel
theorem dX5_predicted_35 : decode cX5_predicted 35 = .ok (.invokevirtual 84, 3) := by decide +kernel
theorem dX5_predicted_38 : decode cX5_predicted 38 = .ok (.ireturn, 1) := by decide +kernel
theorem dX5_history_0 : decode cX5_history 0 = .ok (.aload_n 0, 1) := by decide +kernel
theorem dX5_history_1 : decode cX5_history 1 = .ok (.iconst 0, 1) := by decide +kernel
theorem dX5_history_2 : decode cX5_history 2 = .ok (.putfield 58, 3) := by decide +kernel
theorem dX5_history_5 : decode cX5_history 5 = .ok (.aload_n 0, 1) := by decide +kernel
theorem dX5_history_6 : decode cX5_history 6 = .ok (.getfield 71, 3) := by decide +kernel
theorem dX5_history_9 : decode cX5_history 9 = .ok (.ireturn, 1) := by decide +kernel
theorem dX5_sizeOf_0 : decode cX5_sizeOf 0 = .ok (.iload_n 1, 1) := by decide +kernel
theorem dX5_sizeOf_1 : decode cX5_sizeOf 1 = .ok (.ifCond .lt 8, 3) := by decide +kernel
theorem dX5_sizeOf_4 : decode cX5_sizeOf 4 = .ok (.iload_n 1, 1) := by decide +kernel
theorem dX5_sizeOf_5 : decode cX5_sizeOf 5 = .ok (.iconst 2, 1) := by decide +kernel
theorem dX5_sizeOf_6 : decode cX5_sizeOf 6 = .ok (.if_icmp .le 7, 3) := by decide +kernel
theorem dX5_sizeOf_9 : decode cX5_sizeOf 9 = .ok (.iconst 0, 1) := by decide +kernel
theorem dX5_sizeOf_10 : decode cX5_sizeOf 10 = .ok (.goto 21, 3) := by decide +kernel
theorem dX5_sizeOf_13 : decode cX5_sizeOf 13 = .ok (.iconst 1, 1) := by decide +kernel
theorem dX5_sizeOf_14 : decode cX5_sizeOf 14 = .ok (.iload_n 1, 1) := by decide +kernel
theorem dX5_sizeOf_15 : decode cX5_sizeOf 15 = .ok (.iconst 1, 1) := by decide +kernel
theorem dX5_sizeOf_16 : decode cX5_sizeOf 16 = .ok (.if_icmp .ne 10, 3) := by decide +kernel
theorem dX5_sizeOf_19 : decode cX5_sizeOf 19 = .ok (.aload_n 0, 1) := by decide +kernel
theorem dX5_sizeOf_20 : decode cX5_sizeOf 20 = .ok (.getfield 65, 3) := by decide +kernel
theorem dX5_sizeOf_23 : decode cX5_sizeOf 23 = .ok (.goto 7, 3) := by decide +kernel
theorem dX5_sizeOf_26 : decode cX5_sizeOf 26 = .ok (.aload_n 0, 1) := by decide +kernel
theorem dX5_sizeOf_27 : decode cX5_sizeOf 27 = .ok (.getfield 62, 3) := by decide +kernel
theorem dX5_sizeOf_30 : decode cX5_sizeOf 30 = .ok (.ishl, 1) := by decide +kernel
theorem dX5_sizeOf_31 : decode cX5_sizeOf 31 = .ok (.ireturn, 1) := by decide +kernel
set_option maxRecDepth 20000 in
theorem ggX5_counter_X5_sizeOf : GoodIn wsX5_counter wsX5_sizeOf := goodIn_r _ [7, 8, 9, 14, 15, 16, 17, 18, 19, 20, 21, 22, 23, 24, 25, 26, 27, 28, 29, 30, 31, 32, 33, 34, 35] (by decide +kernel) (by decide +kernel)
set_option maxRecDepth 20000 in
theorem gX5_counter_X5_sizeOf : GoodIn wsX5_counter (wsV RX5 165 RX5 yX5_sizeOf wsX5_sizeOf) := goodIn_app (goodIn_of _ (by decide +kernel)) ggX5_counter_X5_sizeOf
set_option maxRecDepth 20000 in
theorem ggX5_counter_X5_fail : GoodIn wsX5_counter wsX5_fail := goodIn_r _ [13, 1, 14, 15, 16, 17, 18, 19, 20, 21, 22, 23, 24, 25, 26, 27, 28, 29, 30, 31, 32, 33, 34, 35] (by decide +kernel) (by decide +kernel)
set_option maxRecDepth 20000 in
theorem gX5_counter_X5_fail : GoodIn wsX5_counter (wsV RX5 125 RX5 yX5_fail wsX5_fail) := goodIn_app (goodIn_of _ (by decide +kernel)) ggX5_counter_X5_fail
theorem dX5_counter_0 : decode cX5_counter 0 = .ok (.aload_n 0, 1) := by decide +kernel
theorem dX5_counter_1 : decode cX5_counter 1 = .ok (.iconst 0, 1) := by decide +kernel
theorem dX5_counter_2 : decode cX5_counter 2 = .ok (.putfield 58, 3) := by decide +kernel
theorem dX5_counter_5 : decode cX5_counter 5 = .ok (.iload_n 2, 1) := by decide +kernel
theorem dX5_counter_6 : decode cX5_counter 6 = .ok (.ifCond .lt 27, 3) := by decide +kernel
theorem dX5_counter_9 : decode cX5_counter 9 = .ok (.iload_n 2, 1) := by decide +kernel
theorem dX5_counter_10 : decode cX5_counter 10 = .ok (.aload_n 0, 1) := by decide +kernel
theorem dX5_counter_11 : decode cX5_counter 11 = .ok (.iload_n 1, 1) := by decide +kernel
theorem dX5_counter_12 : decode cX5_counter 12 = .ok (.invokevirtual 165, 3) := by decide +kernel
theorem dX5_counter_15 : decode cX5_counter 15 = .ok (.if_icmp .ge 18, 3) := by decide +kernel
theorem dX5_counter_18 : decode cX5_counter 18 = .ok (.aload_n 0, 1) := by decide +kernel
theorem dX5_counter_19 : decode cX5_counter 19 = .ok (.getfield 9, 3) := by decide +kernel
theorem dX5_counter_22 : decode cX5_counter 22 = .ok (.sipush 256, 3) := by decide +kernel
theorem dX5_counter_25 : decode cX5_counter 25 = .ok (.iload_n 1, 1) := by decide +kernel
theorem dX5_counter_26 : decode cX5_counter 26 = .ok (.imul, 1) := by decide +kernel
theorem dX5_counter_27 : decode cX5_counter 27 = .ok (.iload_n 2, 1) := by decide +kernel
theorem dX5_counter_28 : decode cX5_counter 28 = .ok (.iadd, 1) := by decide +kernel
theorem dX5_counter_29 : decode cX5_counter 29 = .ok (.iaload, 1) := by decide +kernel
theorem dX5_counter_30 : decode cX5_counter 30 = .ok (.goto 8, 3) := by decide +kernel
theorem dX5_counter_33 : decode cX5_counter 33 = .ok (.aload_n 0, 1) := by decide +kernel
theorem dX5_counter_34 : decode cX5_counter 34 = .ok (.iconst 1, 1) := by decide +kernel
theorem dX5_counter_35 : decode cX5_counter 35 = .ok (.invokevirtual 125, 3) := by decide +kernel
theorem dX5_counter_38 : decode cX5_counter 38 = .ok (.ireturn, 1) := by decide +kernel
set_option maxRecDepth 20000 in
theorem ggX5_ofLoop_X5_presumed : GoodIn wsX5_ofLoop wsX5_presumed := goodIn_r _ [10, 3, 11, 12, 2, 13, 14, 15, 9, 16, 17, 18, 19, 20, 21, 22, 23, 24, 25, 26, 27, 28, 29, 30, 31, 32, 33, 34, 35, 36, 37, 38, 39, 40, 41] (by decide +kernel) (by decide +kernel)
set_option maxRecDepth 20000 in
theorem gX5_ofLoop_X5_presumed : GoodIn wsX5_ofLoop (wsV RX5 108 RX5 yX5_presumed wsX5_presumed) := goodIn_app (goodIn_of _ (by decide +kernel)) ggX5_ofLoop_X5_presumed
theorem dX5_ofLoop_0 : decode cX5_ofLoop 0 = .ok (.aload_n 0, 1) := by decide +kernel
theorem dX5_ofLoop_1 : decode cX5_ofLoop 1 = .ok (.getfield 32, 3) := by decide +kernel
theorem dX5_ofLoop_4 : decode cX5_ofLoop 4 = .ok (.iload_n 1, 1) := by decide +kernel
theorem dX5_ofLoop_5 : decode cX5_ofLoop 5 = .ok (.baload, 1) := by decide +kernel
theorem dX5_ofLoop_6 : decode cX5_ofLoop 6 = .ok (.ifCond .ne 7, 3) := by decide +kernel
theorem dX5_ofLoop_9 : decode cX5_ofLoop 9 = .ok (.iconst (-1), 1) := by decide +kernel
theorem dX5_ofLoop_10 : decode cX5_ofLoop 10 = .ok (.goto 63, 3) := by decide +kernel
theorem dX5_ofLoop_13 : decode cX5_ofLoop 13 = .ok (.iload_n 2, 1) := by decide +kernel
theorem dX5_ofLoop_14 : decode cX5_ofLoop 14 = .ok (.ifCond .ne 12, 3) := by decide +kernel
theorem dX5_ofLoop_17 : decode cX5_ofLoop 17 = .ok (.aload_n 0, 1) := by decide +kernel
theorem dX5_ofLoop_18 : decode cX5_ofLoop 18 = .ok (.getfield 35, 3) := by decide +kernel
theorem dX5_ofLoop_21 : decode cX5_ofLoop 21 = .ok (.iload_n 1, 1) := by decide +kernel
theorem dX5_ofLoop_22 : decode cX5_ofLoop 22 = .ok (.iaload, 1) := by decide +kernel
theorem dX5_ofLoop_23 : decode cX5_ofLoop 23 = .ok (.goto 50, 3) := by decide +kernel
theorem dX5_ofLoop_26 : decode cX5_ofLoop 26 = .ok (.iload_n 2, 1) := by decide +kernel
theorem dX5_ofLoop_27 : decode cX5_ofLoop 27 = .ok (.iconst 1, 1) := by decide +kernel
theorem dX5_ofLoop_28 : decode cX5_ofLoop 28 = .ok (.if_icmp .ne 12, 3) := by decide +kernel
theorem dX5_ofLoop_31 : decode cX5_ofLoop 31 = .ok (.aload_n 0, 1) := by decide +kernel
theorem dX5_ofLoop_32 : decode cX5_ofLoop 32 = .ok (.getfield 38, 3) := by decide +kernel
theorem dX5_ofLoop_35 : decode cX5_ofLoop 35 = .ok (.iload_n 1, 1) := by decide +kernel
theorem dX5_ofLoop_36 : decode cX5_ofLoop 36 = .ok (.iaload, 1) := by decide +kernel
theorem dX5_ofLoop_37 : decode cX5_ofLoop 37 = .ok (.goto 36, 3) := by decide +kernel
theorem dX5_ofLoop_40 : decode cX5_ofLoop 40 = .ok (.iload_n 2, 1) := by decide +kernel
theorem dX5_ofLoop_41 : decode cX5_ofLoop 41 = .ok (.iconst 2, 1) := by decide +kernel
theorem dX5_ofLoop_42 : decode cX5_ofLoop 42 = .ok (.if_icmp .ne 12, 3) := by decide +kernel
theorem dX5_ofLoop_45 : decode cX5_ofLoop 45 = .ok (.aload_n 0, 1) := by decide +kernel
theorem dX5_ofLoop_46 : decode cX5_ofLoop 46 = .ok (.getfield 41, 3) := by decide +kernel
theorem dX5_ofLoop_49 : decode cX5_ofLoop 49 = .ok (.iload_n 1, 1) := by decide +kernel
theorem dX5_ofLoop_50 : decode cX5_ofLoop 50 = .ok (.iaload, 1) := by decide +kernel
theorem dX5_ofLoop_51 : decode cX5_ofLoop 51 = .ok (.goto 22, 3) := by decide +kernel
theorem dX5_ofLoop_54 : decode cX5_ofLoop 54 = .ok (.iload_n 2, 1) := by decide +kernel
theorem dX5_ofLoop_55 : decode cX5_ofLoop 55 = .ok (.iconst 3, 1) := by decide +kernel
theorem dX5_ofLoop_56 : decode cX5_ofLoop 56 = .ok (.if_icmp .ne 12, 3) := by decide +kernel
theorem dX5_ofLoop_59 : decode cX5_ofLoop 59 = .ok (.aload_n 0, 1) := by decide +kernel
theorem dX5_ofLoop_60 : decode cX5_ofLoop 60 = .ok (.getfield 44, 3) := by decide +kernel
theorem dX5_ofLoop_63 : decode cX5_ofLoop 63 = .ok (.iload_n 1, 1) := by decide +kernel
theorem dX5_ofLoop_64 : decode cX5_ofLoop 64 = .ok (.iaload, 1) := by decide +kernel
theorem dX5_ofLoop_65 : decode cX5_ofLoop 65 = .ok (.goto 8, 3) := by decide +kernel
theorem dX5_ofLoop_68 : decode cX5_ofLoop 68 = .ok (.aload_n 0, 1) := by decide +kernel
theorem dX5_ofLoop_69 : decode cX5_ofLoop 69 = .ok (.iload_n 1, 1) := by decide +kernel
theorem dX5_ofLoop_70 : decode cX5_ofLoop 70 = .ok (.invokevirtual 108, 3) := by decide +kernel
theorem dX5_ofLoop_73 : decode cX5_ofLoop 73 = .ok (.ireturn, 1) := by decide +kernel
set_option maxRecDepth 20000 in
theorem ggX5_loop_X5_ofLoop : GoodIn wsX5_loop wsX5_ofLoop := goodIn_r _ [6, 7, 8, 9, 10, 11, 12, 13, 14, 5, 15, 16, 17, 18, 19, 20, 21, 22, 23, 24, 29, 30, 31, 32, 33, 34, 35, 36, 37, 38, 39, 40, 41, 42, 43, 44, 45, 46, 47, 48, 49, 50] (by decide +kernel) (by decide +kernel)
set_option maxRecDepth 20000 in
theorem gX5_loop_X5_ofLoop : GoodIn wsX5_loop (wsV RX5 168 RX5 yX5_ofLoop wsX5_ofLoop) := goodIn_app (goodIn_of _ (by decide +kernel)) ggX5_loop_X5_ofLoop
set_option maxRecDepth 20000 in
theorem ggX5_loop_X5_fail : GoodIn wsX5_loop wsX5_fail := goodIn_r _ [28, 1, 29, 30, 31, 32, 33, 34, 35, 36, 37, 38, 39, 40, 41, 42, 43, 44, 45, 46, 47, 48, 49, 50] (by decide +kernel) (by decide +kernel)
set_option maxRecDepth 20000 in
theorem gX5_loop_X5_fail : GoodIn wsX5_loop (wsV RX5 125 RX5 yX5_fail wsX5_fail) := goodIn_app (goodIn_of _ (by decide +kernel)) ggX5_loop_X5_fail
theorem dX5_loop_0 : decode cX5_loop 0 = .ok (.aload_n 0, 1) := by decide +kernel
theorem dX5_loop_1 : decode cX5_loop 1 = .ok (.iconst 0, 1) := by decide +kernel
theorem dX5_loop_2 : decode cX5_loop 2 = .ok (.putfield 58, 3) := by decide +kernel
theorem dX5_loop_5 : decode cX5_loop 5 = .ok (.iload_n 1, 1) := by decide +kernel
theorem dX5_loop_6 : decode cX5_loop 6 = .ok (.ifCond .lt 27, 3) := by decide +kernel
theorem dX5_loop_9 : decode cX5_loop 9 = .ok (.iload_n 1, 1) := by decide +kernel
theorem dX5_loop_10 : decode cX5_loop 10 = .ok (.bipush 8, 2) := by decide +kernel
theorem dX5_loop_12 : decode cX5_loop 12 = .ok (.if_icmp .ge 21, 3) := by decide +kernel
theorem dX5_loop_15 : decode cX5_loop 15 = .ok (.iload_n 2, 1) := by decide +kernel
theorem dX5_loop_16 : decode cX5_loop 16 = .ok (.ifCond .lt 17, 3) := by decide +kernel
theorem dX5_loop_19 : decode cX5_loop 19 = .ok (.iload_n 2, 1) := by decide +kernel
theorem dX5_loop_20 : decode cX5_loop 20 = .ok (.iconst 4, 1) := by decide +kernel
theorem dX5_loop_21 : decode cX5_loop 21 = .ok (.if_icmp .gt 12, 3) := by decide +kernel
theorem dX5_loop_24 : decode cX5_loop 24 = .ok (.aload_n 0, 1) := by decide +kernel
theorem dX5_loop_25 : decode cX5_loop 25 = .ok (.iload_n 1, 1) := by decide +kernel
theorem dX5_loop_26 : decode cX5_loop 26 = .ok (.iload_n 2, 1) := by decide +kernel
theorem dX5_loop_27 : decode cX5_loop 27 = .ok (.invokevirtual 168, 3) := by decide +kernel
theorem dX5_loop_30 : decode cX5_loop 30 = .ok (.goto 8, 3) := by decide +kernel
theorem dX5_loop_33 : decode cX5_loop 33 = .ok (.aload_n 0, 1) := by decide +kernel
theorem dX5_loop_34 : decode cX5_loop 34 = .ok (.iconst 1, 1) := by decide +kernel
theorem dX5_loop_35 : decode cX5_loop 35 = .ok (.invokevirtual 125, 3) := by decide +kernel
theorem dX5_loop_38 : decode cX5_loop 38 = .ok (.ireturn, 1) := by decide +kernel
theorem dX5_commits_0 : decode cX5_commits 0 = .ok (.aload_n 0, 1) := by decide +kernel
theorem dX5_commits_1 : decode cX5_commits 1 = .ok (.iconst 0, 1) := by decide +kernel
theorem dX5_commits_2 : decode cX5_commits 2 = .ok (.putfield 58, 3) := by decide +kernel
theorem dX5_commits_5 : decode cX5_commits 5 = .ok (.aload_n 0, 1) := by decide +kernel
theorem dX5_commits_6 : decode cX5_commits 6 = .ok (.getfield 77, 3) := by decide +kernel
theorem dX5_commits_9 : decode cX5_commits 9 = .ok (.lreturn, 1) := by decide +kernel
set_option maxRecDepth 20000 in
theorem ggX5_misses_X5_isKind : GoodIn wsX5_misses wsX5_isKind := goodIn_r _ [6] (by decide +kernel) (by decide +kernel)
set_option maxRecDepth 20000 in
theorem gX5_misses_X5_isKind : GoodIn wsX5_misses (va_wsS RX5 162 yX5_isKind wsX5_isKind) := goodIn_app (goodIn_of _ (by decide +kernel)) ggX5_misses_X5_isKind
set_option maxRecDepth 20000 in
theorem ggX5_misses_X5_fail : GoodIn wsX5_misses wsX5_fail := goodIn_r _ [10, 1, 11, 12, 13, 14, 15, 16, 17, 18, 19, 20, 21, 22, 23, 24, 25, 26, 27, 28, 29, 30, 31, 32] (by decide +kernel) (by decide +kernel)
set_option maxRecDepth 20000 in
theorem gX5_misses_X5_fail : GoodIn wsX5_misses (wsV RX5 125 RX5 yX5_fail wsX5_fail) := goodIn_app (goodIn_of _ (by decide +kernel)) ggX5_misses_X5_fail
theorem dX5_misses_0 : decode cX5_misses 0 = .ok (.aload_n 0, 1) := by decide +kernel
theorem dX5_misses_1 : decode cX5_misses 1 = .ok (.iconst 0, 1) := by decide +kernel
theorem dX5_misses_2 : decode cX5_misses 2 = .ok (.putfield 58, 3) := by decide +kernel
theorem dX5_misses_5 : decode cX5_misses 5 = .ok (.iload_n 1, 1) := by decide +kernel
theorem dX5_misses_6 : decode cX5_misses 6 = .ok (.invokestatic 162, 3) := by decide +kernel
theorem dX5_misses_9 : decode cX5_misses 9 = .ok (.ifCond .eq 12, 3) := by decide +kernel
theorem dX5_misses_12 : decode cX5_misses 12 = .ok (.aload_n 0, 1) := by decide +kernel
theorem dX5_misses_13 : decode cX5_misses 13 = .ok (.getfield 47, 3) := by decide +kernel
theorem dX5_misses_16 : decode cX5_misses 16 = .ok (.iload_n 1, 1) := by decide +kernel
theorem dX5_misses_17 : decode cX5_misses 17 = .ok (.laload, 1) := by decide +kernel
theorem dX5_misses_18 : decode cX5_misses 18 = .ok (.goto 9, 3) := by decide +kernel
theorem dX5_misses_21 : decode cX5_misses 21 = .ok (.aload_n 0, 1) := by decide +kernel
theorem dX5_misses_22 : decode cX5_misses 22 = .ok (.iconst 1, 1) := by decide +kernel
theorem dX5_misses_23 : decode cX5_misses 23 = .ok (.invokevirtual 125, 3) := by decide +kernel
theorem dX5_misses_26 : decode cX5_misses 26 = .ok (.i2l, 1) := by decide +kernel
theorem dX5_misses_27 : decode cX5_misses 27 = .ok (.lreturn, 1) := by decide +kernel
theorem dX5_drops_0 : decode cX5_drops 0 = .ok (.aload_n 0, 1) := by decide +kernel
theorem dX5_drops_1 : decode cX5_drops 1 = .ok (.iconst 0, 1) := by decide +kernel
theorem dX5_drops_2 : decode cX5_drops 2 = .ok (.putfield 58, 3) := by decide +kernel
theorem dX5_drops_5 : decode cX5_drops 5 = .ok (.aload_n 0, 1) := by decide +kernel
theorem dX5_drops_6 : decode cX5_drops 6 = .ok (.getfield 81, 3) := by decide +kernel
theorem dX5_drops_9 : decode cX5_drops 9 = .ok (.lreturn, 1) := by decide +kernel
set_option maxRecDepth 20000 in
theorem ggX5_meetings_X5_fail : GoodIn wsX5_meetings wsX5_fail := goodIn_r _ [7, 1, 8, 9, 10, 11, 12, 13, 14, 15, 16, 17, 18, 19, 20, 21, 22, 23, 24, 25, 26, 27, 28, 29] (by decide +kernel) (by decide +kernel)
set_option maxRecDepth 20000 in
theorem gX5_meetings_X5_fail : GoodIn wsX5_meetings (wsV RX5 125 RX5 yX5_fail wsX5_fail) := goodIn_app (goodIn_of _ (by decide +kernel)) ggX5_meetings_X5_fail
theorem dX5_meetings_0 : decode cX5_meetings 0 = .ok (.aload_n 0, 1) := by decide +kernel
theorem dX5_meetings_1 : decode cX5_meetings 1 = .ok (.iconst 0, 1) := by decide +kernel
theorem dX5_meetings_2 : decode cX5_meetings 2 = .ok (.putfield 58, 3) := by decide +kernel
theorem dX5_meetings_5 : decode cX5_meetings 5 = .ok (.iload_n 1, 1) := by decide +kernel
theorem dX5_meetings_6 : decode cX5_meetings 6 = .ok (.ifCond .eq 8, 3) := by decide +kernel
theorem dX5_meetings_9 : decode cX5_meetings 9 = .ok (.iload_n 1, 1) := by decide +kernel
theorem dX5_meetings_10 : decode cX5_meetings 10 = .ok (.iconst 1, 1) := by decide +kernel
theorem dX5_meetings_11 : decode cX5_meetings 11 = .ok (.if_icmp .ne 24, 3) := by decide +kernel
theorem dX5_meetings_14 : decode cX5_meetings 14 = .ok (.aload_n 0, 1) := by decide +kernel
theorem dX5_meetings_15 : decode cX5_meetings 15 = .ok (.getfield 51, 3) := by decide +kernel
theorem dX5_meetings_18 : decode cX5_meetings 18 = .ok (.iconst 2, 1) := by decide +kernel
theorem dX5_meetings_19 : decode cX5_meetings 19 = .ok (.iload_n 1, 1) := by decide +kernel
theorem dX5_meetings_20 : decode cX5_meetings 20 = .ok (.imul, 1) := by decide +kernel
theorem dX5_meetings_21 : decode cX5_meetings 21 = .ok (.iload_n 2, 1) := by decide +kernel
theorem dX5_meetings_22 : decode cX5_meetings 22 = .ok (.ifCond .eq 7, 3) := by decide +kernel
theorem dX5_meetings_25 : decode cX5_meetings 25 = .ok (.iconst 1, 1) := by decide +kernel
theorem dX5_meetings_26 : decode cX5_meetings 26 = .ok (.goto 4, 3) := by decide +kernel
theorem dX5_meetings_29 : decode cX5_meetings 29 = .ok (.iconst 0, 1) := by decide +kernel
theorem dX5_meetings_30 : decode cX5_meetings 30 = .ok (.iadd, 1) := by decide +kernel
theorem dX5_meetings_31 : decode cX5_meetings 31 = .ok (.laload, 1) := by decide +kernel
theorem dX5_meetings_32 : decode cX5_meetings 32 = .ok (.goto 9, 3) := by decide +kernel
theorem dX5_meetings_35 : decode cX5_meetings 35 = .ok (.aload_n 0, 1) := by decide +kernel
theorem dX5_meetings_36 : decode cX5_meetings 36 = .ok (.iconst 1, 1) := by decide +kernel
theorem dX5_meetings_37 : decode cX5_meetings 37 = .ok (.invokevirtual 125, 3) := by decide +kernel
theorem dX5_meetings_40 : decode cX5_meetings 40 = .ok (.i2l, 1) := by decide +kernel
theorem dX5_meetings_41 : decode cX5_meetings 41 = .ok (.lreturn, 1) := by decide +kernel
theorem dX5_accuracy_0 : decode cX5_accuracy 0 = .ok (.aload_n 0, 1) := by decide +kernel
theorem dX5_accuracy_1 : decode cX5_accuracy 1 = .ok (.iconst 0, 1) := by decide +kernel
theorem dX5_accuracy_2 : decode cX5_accuracy 2 = .ok (.putfield 58, 3) := by decide +kernel
theorem dX5_accuracy_5 : decode cX5_accuracy 5 = .ok (.aload_n 0, 1) := by decide +kernel
theorem dX5_accuracy_6 : decode cX5_accuracy 6 = .ok (.getfield 77, 3) := by decide +kernel
theorem dX5_accuracy_9 : decode cX5_accuracy 9 = .ok (.lconst 0, 1) := by decide +kernel
theorem dX5_accuracy_10 : decode cX5_accuracy 10 = .ok (.lcmp, 1) := by decide +kernel
theorem dX5_accuracy_11 : decode cX5_accuracy 11 = .ok (.ifCond .ne 7, 3) := by decide +kernel
theorem dX5_accuracy_14 : decode cX5_accuracy 14 = .ok (.dconst 1, 1) := by decide +kernel
theorem dX5_accuracy_15 : decode cX5_accuracy 15 = .ok (.goto 21, 3) := by decide +kernel
theorem dX5_accuracy_18 : decode cX5_accuracy 18 = .ok (.aload_n 0, 1) := by decide +kernel
theorem dX5_accuracy_19 : decode cX5_accuracy 19 = .ok (.getfield 77, 3) := by decide +kernel
theorem dX5_accuracy_22 : decode cX5_accuracy 22 = .ok (.aload_n 0, 1) := by decide +kernel
theorem dX5_accuracy_23 : decode cX5_accuracy 23 = .ok (.getfield 47, 3) := by decide +kernel
theorem dX5_accuracy_26 : decode cX5_accuracy 26 = .ok (.iconst 3, 1) := by decide +kernel
theorem dX5_accuracy_27 : decode cX5_accuracy 27 = .ok (.laload, 1) := by decide +kernel
theorem dX5_accuracy_28 : decode cX5_accuracy 28 = .ok (.lsub, 1) := by decide +kernel
theorem dX5_accuracy_29 : decode cX5_accuracy 29 = .ok (.l2d, 1) := by decide +kernel
theorem dX5_accuracy_30 : decode cX5_accuracy 30 = .ok (.aload_n 0, 1) := by decide +kernel
theorem dX5_accuracy_31 : decode cX5_accuracy 31 = .ok (.getfield 77, 3) := by decide +kernel
theorem dX5_accuracy_34 : decode cX5_accuracy 34 = .ok (.l2d, 1) := by decide +kernel
theorem dX5_accuracy_35 : decode cX5_accuracy 35 = .ok (.ddiv, 1) := by decide +kernel
theorem dX5_accuracy_36 : decode cX5_accuracy 36 = .ok (.dreturn, 1) := by decide +kernel
set_option maxRecDepth 20000 in
theorem ggX5_digest_X5_sizeOf : GoodIn wsX5_digest wsX5_sizeOf := goodIn_r _ [18, 5, 3, 47, 48, 49, 50, 51, 52, 53, 54, 55, 56, 57, 58, 59, 60, 61, 62, 63, 64, 65, 66, 67, 68] (by decide +kernel) (by decide +kernel)
set_option maxRecDepth 20000 in
theorem gX5_digest_X5_sizeOf : GoodIn wsX5_digest (wsV RX5 165 RX5 yX5_sizeOf wsX5_sizeOf) := goodIn_app (goodIn_of _ (by decide +kernel)) ggX5_digest_X5_sizeOf
set_option maxRecDepth 20000 in
theorem ggX5_digest_X5_ofLoop : GoodIn wsX5_digest wsX5_ofLoop := goodIn_r _ [22, 23, 24, 25, 26, 27, 28, 29, 30, 17, 31, 9, 10, 32, 33, 34, 35, 36, 37, 38, 47, 48, 49, 50, 51, 52, 53, 54, 55, 56, 57, 58, 59, 60, 61, 62, 63, 64, 65, 66, 67, 68] (by decide +kernel) (by decide +kernel)
set_option maxRecDepth 20000 in
theorem gX5_digest_X5_ofLoop : GoodIn wsX5_digest (wsV RX5 168 RX5 yX5_ofLoop wsX5_ofLoop) := goodIn_app (goodIn_of _ (by decide +kernel)) ggX5_digest_X5_ofLoop
set_option maxRecDepth 20000 in
theorem ggX5_digest_X5_stateOf : GoodIn wsX5_digest wsX5_stateOf := goodIn_r _ [42, 36, 43, 44, 45, 17, 46, 37, 38, 47, 48, 49, 50, 51, 52, 53, 54, 55, 56, 57, 58, 59, 60, 61, 62, 63, 64, 65, 66, 67, 68] (by decide +kernel) (by decide +kernel)
set_option maxRecDepth 20000 in
theorem gX5_digest_X5_stateOf : GoodIn wsX5_digest (wsV RX5 159 RX5 yX5_stateOf wsX5_stateOf) := goodIn_app (goodIn_of _ (by decide +kernel)) ggX5_digest_X5_stateOf
theorem dX5_digest_0 : decode cX5_digest 0 = .ok (.aload_n 0, 1) := by decide +kernel
theorem dX5_digest_1 : decode cX5_digest 1 = .ok (.iconst 0, 1) := by decide +kernel
theorem dX5_digest_2 : decode cX5_digest 2 = .ok (.putfield 58, 3) := by decide +kernel
theorem dX5_digest_5 : decode cX5_digest 5 = .ok (.ldc2_w 171, 3) := by decide +kernel
theorem dX5_digest_8 : decode cX5_digest 8 = .ok (.aload_n 0, 1) := by decide +kernel
theorem dX5_digest_9 : decode cX5_digest 9 = .ok (.getfield 62, 3) := by decide +kernel
theorem dX5_digest_12 : decode cX5_digest 12 = .ok (.i2l, 1) := by decide +kernel
theorem dX5_digest_13 : decode cX5_digest 13 = .ok (.ladd, 1) := by decide +kernel
theorem dX5_digest_14 : decode cX5_digest 14 = .ok (.ldc2_w 173, 3) := by decide +kernel
theorem dX5_digest_17 : decode cX5_digest 17 = .ok (.lmul, 1) := by decide +kernel
theorem dX5_digest_18 : decode cX5_digest 18 = .ok (.aload_n 0, 1) := by decide +kernel
theorem dX5_digest_19 : decode cX5_digest 19 = .ok (.getfield 65, 3) := by decide +kernel
theorem dX5_digest_22 : decode cX5_digest 22 = .ok (.i2l, 1) := by decide +kernel
theorem dX5_digest_23 : decode cX5_digest 23 = .ok (.ladd, 1) := by decide +kernel
theorem dX5_digest_24 : decode cX5_digest 24 = .ok (.ldc2_w 173, 3) := by decide +kernel
theorem dX5_digest_27 : decode cX5_digest 27 = .ok (.lmul, 1) := by decide +kernel
theorem dX5_digest_28 : decode cX5_digest 28 = .ok (.aload_n 0, 1) := by decide +kernel
theorem dX5_digest_29 : decode cX5_digest 29 = .ok (.getfield 68, 3) := by decide +kernel
theorem dX5_digest_32 : decode cX5_digest 32 = .ok (.i2l, 1) := by decide +kernel
theorem dX5_digest_33 : decode cX5_digest 33 = .ok (.ladd, 1) := by decide +kernel
theorem dX5_digest_34 : decode cX5_digest 34 = .ok (.ldc2_w 173, 3) := by decide +kernel
theorem dX5_digest_37 : decode cX5_digest 37 = .ok (.lmul, 1) := by decide +kernel
theorem dX5_digest_38 : decode cX5_digest 38 = .ok (.aload_n 0, 1) := by decide +kernel
theorem dX5_digest_39 : decode cX5_digest 39 = .ok (.getfield 71, 3) := by decide +kernel
theorem dX5_digest_42 : decode cX5_digest 42 = .ok (.i2l, 1) := by decide +kernel
theorem dX5_digest_43 : decode cX5_digest 43 = .ok (.ladd, 1) := by decide +kernel
theorem dX5_digest_44 : decode cX5_digest 44 = .ok (.lstore_n 1, 1) := by decide +kernel
theorem dX5_digest_45 : decode cX5_digest 45 = .ok (.iconst 0, 1) := by decide +kernel
theorem dX5_digest_46 : decode cX5_digest 46 = .ok (.istore_n 3, 1) := by decide +kernel
theorem dX5_digest_47 : decode cX5_digest 47 = .ok (.iload_n 3, 1) := by decide +kernel
theorem dX5_digest_48 : decode cX5_digest 48 = .ok (.iconst 3, 1) := by decide +kernel
theorem dX5_digest_49 : decode cX5_digest 49 = .ok (.if_icmp .ge 49, 3) := by decide +kernel
theorem dX5_digest_52 : decode cX5_digest 52 = .ok (.iconst 0, 1) := by decide +kernel
theorem dX5_digest_53 : decode cX5_digest 53 = .ok (.istore 4, 2) := by decide +kernel
theorem dX5_digest_55 : decode cX5_digest 55 = .ok (.iload 4, 2) := by decide +kernel
theorem dX5_digest_57 : decode cX5_digest 57 = .ok (.aload_n 0, 1) := by decide +kernel
theorem dX5_digest_58 : decode cX5_digest 58 = .ok (.iload_n 3, 1) := by decide +kernel
theorem dX5_digest_59 : decode cX5_digest 59 = .ok (.invokevirtual 165, 3) := by decide +kernel
theorem dX5_digest_62 : decode cX5_digest 62 = .ok (.if_icmp .ge 30, 3) := by decide +kernel
theorem dX5_digest_65 : decode cX5_digest 65 = .ok (.lload_n 1, 1) := by decide +kernel
theorem dX5_digest_66 : decode cX5_digest 66 = .ok (.ldc2_w 173, 3) := by decide +kernel
theorem dX5_digest_69 : decode cX5_digest 69 = .ok (.lmul, 1) := by decide +kernel
theorem dX5_digest_70 : decode cX5_digest 70 = .ok (.aload_n 0, 1) := by decide +kernel
theorem dX5_digest_71 : decode cX5_digest 71 = .ok (.getfield 9, 3) := by decide +kernel
theorem dX5_digest_74 : decode cX5_digest 74 = .ok (.sipush 256, 3) := by decide +kernel
theorem dX5_digest_77 : decode cX5_digest 77 = .ok (.iload_n 3, 1) := by decide +kernel
theorem dX5_digest_78 : decode cX5_digest 78 = .ok (.imul, 1) := by decide +kernel
theorem dX5_digest_79 : decode cX5_digest 79 = .ok (.iload 4, 2) := by decide +kernel
theorem dX5_digest_81 : decode cX5_digest 81 = .ok (.iadd, 1) := by decide +kernel
theorem dX5_digest_82 : decode cX5_digest 82 = .ok (.iaload, 1) := by decide +kernel
theorem dX5_digest_83 : decode cX5_digest 83 = .ok (.i2l, 1) := by decide +kernel
theorem dX5_digest_84 : decode cX5_digest 84 = .ok (.ladd, 1) := by decide +kernel
theorem dX5_digest_85 : decode cX5_digest 85 = .ok (.lstore_n 1, 1) := by decide +kernel
theorem dX5_digest_86 : decode cX5_digest 86 = .ok (.iinc 4 1, 3) := by decide +kernel
theorem dX5_digest_89 : decode cX5_digest 89 = .ok (.goto (-34), 3) := by decide +kernel
theorem dX5_digest_92 : decode cX5_digest 92 = .ok (.iinc 3 1, 3) := by decide +kernel
theorem dX5_digest_95 : decode cX5_digest 95 = .ok (.goto (-48), 3) := by decide +kernel
theorem dX5_digest_98 : decode cX5_digest 98 = .ok (.iconst 0, 1) := by decide +kernel
theorem dX5_digest_99 : decode cX5_digest 99 = .ok (.istore_n 3, 1) := by decide +kernel
theorem dX5_digest_100 : decode cX5_digest 100 = .ok (.iload_n 3, 1) := by decide +kernel
theorem dX5_digest_101 : decode cX5_digest 101 = .ok (.bipush 8, 2) := by decide +kernel
theorem dX5_digest_103 : decode cX5_digest 103 = .ok (.if_icmp .ge 39, 3) := by decide +kernel
theorem dX5_digest_106 : decode cX5_digest 106 = .ok (.iconst 0, 1) := by decide +kernel
theorem dX5_digest_107 : decode cX5_digest 107 = .ok (.istore 4, 2) := by decide +kernel
theorem dX5_digest_109 : decode cX5_digest 109 = .ok (.iload 4, 2) := by decide +kernel
theorem dX5_digest_111 : decode cX5_digest 111 = .ok (.iconst 4, 1) := by decide +kernel
theorem dX5_digest_112 : decode cX5_digest 112 = .ok (.if_icmp .ge 24, 3) := by decide +kernel
theorem dX5_digest_115 : decode cX5_digest 115 = .ok (.lload_n 1, 1) := by decide +kernel
theorem dX5_digest_116 : decode cX5_digest 116 = .ok (.ldc2_w 173, 3) := by decide +kernel
theorem dX5_digest_119 : decode cX5_digest 119 = .ok (.lmul, 1) := by decide +kernel
theorem dX5_digest_120 : decode cX5_digest 120 = .ok (.aload_n 0, 1) := by decide +kernel
theorem dX5_digest_121 : decode cX5_digest 121 = .ok (.iload_n 3, 1) := by decide +kernel
theorem dX5_digest_122 : decode cX5_digest 122 = .ok (.iload 4, 2) := by decide +kernel
theorem dX5_digest_124 : decode cX5_digest 124 = .ok (.invokevirtual 168, 3) := by decide +kernel
theorem dX5_digest_127 : decode cX5_digest 127 = .ok (.i2l, 1) := by decide +kernel
theorem dX5_digest_128 : decode cX5_digest 128 = .ok (.ladd, 1) := by decide +kernel
theorem dX5_digest_129 : decode cX5_digest 129 = .ok (.lstore_n 1, 1) := by decide +kernel
theorem dX5_digest_130 : decode cX5_digest 130 = .ok (.iinc 4 1, 3) := by decide +kernel
theorem dX5_digest_133 : decode cX5_digest 133 = .ok (.goto (-24), 3) := by decide +kernel
theorem dX5_digest_136 : decode cX5_digest 136 = .ok (.iinc 3 1, 3) := by decide +kernel
theorem dX5_digest_139 : decode cX5_digest 139 = .ok (.goto (-39), 3) := by decide +kernel
theorem dX5_digest_142 : decode cX5_digest 142 = .ok (.iconst 0, 1) := by decide +kernel
theorem dX5_digest_143 : decode cX5_digest 143 = .ok (.istore_n 3, 1) := by decide +kernel
theorem dX5_digest_144 : decode cX5_digest 144 = .ok (.iload_n 3, 1) := by decide +kernel
theorem dX5_digest_145 : decode cX5_digest 145 = .ok (.aload_n 0, 1) := by decide +kernel
theorem dX5_digest_146 : decode cX5_digest 146 = .ok (.getfield 74, 3) := by decide +kernel
theorem dX5_digest_149 : decode cX5_digest 149 = .ok (.if_icmp .ge 34, 3) := by decide +kernel
theorem dX5_digest_152 : decode cX5_digest 152 = .ok (.lload_n 1, 1) := by decide +kernel
theorem dX5_digest_153 : decode cX5_digest 153 = .ok (.ldc2_w 173, 3) := by decide +kernel
theorem dX5_digest_156 : decode cX5_digest 156 = .ok (.lmul, 1) := by decide +kernel
theorem dX5_digest_157 : decode cX5_digest 157 = .ok (.aload_n 0, 1) := by decide +kernel
theorem dX5_digest_158 : decode cX5_digest 158 = .ok (.getfield 16, 3) := by decide +kernel
theorem dX5_digest_161 : decode cX5_digest 161 = .ok (.iload_n 3, 1) := by decide +kernel
theorem dX5_digest_162 : decode cX5_digest 162 = .ok (.iaload, 1) := by decide +kernel
theorem dX5_digest_163 : decode cX5_digest 163 = .ok (.i2l, 1) := by decide +kernel
theorem dX5_digest_164 : decode cX5_digest 164 = .ok (.ladd, 1) := by decide +kernel
theorem dX5_digest_165 : decode cX5_digest 165 = .ok (.ldc2_w 173, 3) := by decide +kernel
theorem dX5_digest_168 : decode cX5_digest 168 = .ok (.lmul, 1) := by decide +kernel
theorem dX5_digest_169 : decode cX5_digest 169 = .ok (.aload_n 0, 1) := by decide +kernel
theorem dX5_digest_170 : decode cX5_digest 170 = .ok (.iload_n 3, 1) := by decide +kernel
theorem dX5_digest_171 : decode cX5_digest 171 = .ok (.invokevirtual 159, 3) := by decide +kernel
theorem dX5_digest_174 : decode cX5_digest 174 = .ok (.i2l, 1) := by decide +kernel
theorem dX5_digest_175 : decode cX5_digest 175 = .ok (.ladd, 1) := by decide +kernel
theorem dX5_digest_176 : decode cX5_digest 176 = .ok (.lstore_n 1, 1) := by decide +kernel
theorem dX5_digest_177 : decode cX5_digest 177 = .ok (.iinc 3 1, 3) := by decide +kernel
theorem dX5_digest_180 : decode cX5_digest 180 = .ok (.goto (-36), 3) := by decide +kernel
theorem dX5_digest_183 : decode cX5_digest 183 = .ok (.lload_n 1, 1) := by decide +kernel
theorem dX5_digest_184 : decode cX5_digest 184 = .ok (.ldc2_w 173, 3) := by decide +kernel
theorem dX5_digest_187 : decode cX5_digest 187 = .ok (.lmul, 1) := by decide +kernel
theorem dX5_digest_188 : decode cX5_digest 188 = .ok (.aload_n 0, 1) := by decide +kernel
theorem dX5_digest_189 : decode cX5_digest 189 = .ok (.getfield 77, 3) := by decide +kernel
theorem dX5_digest_192 : decode cX5_digest 192 = .ok (.ladd, 1) := by decide +kernel
theorem dX5_digest_193 : decode cX5_digest 193 = .ok (.ldc2_w 173, 3) := by decide +kernel
theorem dX5_digest_196 : decode cX5_digest 196 = .ok (.lmul, 1) := by decide +kernel
theorem dX5_digest_197 : decode cX5_digest 197 = .ok (.aload_n 0, 1) := by decide +kernel
theorem dX5_digest_198 : decode cX5_digest 198 = .ok (.getfield 81, 3) := by decide +kernel
theorem dX5_digest_201 : decode cX5_digest 201 = .ok (.ladd, 1) := by decide +kernel
theorem dX5_digest_202 : decode cX5_digest 202 = .ok (.ldc2_w 173, 3) := by decide +kernel
theorem dX5_digest_205 : decode cX5_digest 205 = .ok (.lmul, 1) := by decide +kernel
theorem dX5_digest_206 : decode cX5_digest 206 = .ok (.aload_n 0, 1) := by decide +kernel
theorem dX5_digest_207 : decode cX5_digest 207 = .ok (.getfield 51, 3) := by decide +kernel
theorem dX5_digest_210 : decode cX5_digest 210 = .ok (.iconst 0, 1) := by decide +kernel
theorem dX5_digest_211 : decode cX5_digest 211 = .ok (.laload, 1) := by decide +kernel
theorem dX5_digest_212 : decode cX5_digest 212 = .ok (.ladd, 1) := by decide +kernel
theorem dX5_digest_213 : decode cX5_digest 213 = .ok (.ldc2_w 173, 3) := by decide +kernel
theorem dX5_digest_216 : decode cX5_digest 216 = .ok (.lmul, 1) := by decide +kernel
theorem dX5_digest_217 : decode cX5_digest 217 = .ok (.aload_n 0, 1) := by decide +kernel
theorem dX5_digest_218 : decode cX5_digest 218 = .ok (.getfield 51, 3) := by decide +kernel
theorem dX5_digest_221 : decode cX5_digest 221 = .ok (.iconst 2, 1) := by decide +kernel
theorem dX5_digest_222 : decode cX5_digest 222 = .ok (.laload, 1) := by decide +kernel
theorem dX5_digest_223 : decode cX5_digest 223 = .ok (.ladd, 1) := by decide +kernel
theorem dX5_digest_224 : decode cX5_digest 224 = .ok (.lreturn, 1) := by decide +kernel
theorem dJ9_max_7cf53_0 : decode cJ9_max_7cf53 0 = .ok (.iload_n 0, 1) := by decide +kernel
theorem dJ9_max_7cf53_1 : decode cJ9_max_7cf53 1 = .ok (.iload_n 1, 1) := by decide +kernel
theorem dJ9_max_7cf53_2 : decode cJ9_max_7cf53 2 = .ok (.if_icmp .lt 7, 3) := by decide +kernel
theorem dJ9_max_7cf53_5 : decode cJ9_max_7cf53 5 = .ok (.iload_n 0, 1) := by decide +kernel
theorem dJ9_max_7cf53_6 : decode cJ9_max_7cf53 6 = .ok (.goto 4, 3) := by decide +kernel
theorem dJ9_max_7cf53_9 : decode cJ9_max_7cf53 9 = .ok (.iload_n 1, 1) := by decide +kernel
theorem dJ9_max_7cf53_10 : decode cJ9_max_7cf53 10 = .ok (.ireturn, 1) := by decide +kernel
theorem dJ9_min_7cf53_0 : decode cJ9_min_7cf53 0 = .ok (.iload_n 0, 1) := by decide +kernel
theorem dJ9_min_7cf53_1 : decode cJ9_min_7cf53 1 = .ok (.iload_n 1, 1) := by decide +kernel
theorem dJ9_min_7cf53_2 : decode cJ9_min_7cf53 2 = .ok (.if_icmp .gt 7, 3) := by decide +kernel
theorem dJ9_min_7cf53_5 : decode cJ9_min_7cf53 5 = .ok (.iload_n 0, 1) := by decide +kernel
theorem dJ9_min_7cf53_6 : decode cJ9_min_7cf53 6 = .ok (.goto 4, 3) := by decide +kernel
theorem dJ9_min_7cf53_9 : decode cJ9_min_7cf53 9 = .ok (.iload_n 1, 1) := by decide +kernel
theorem dJ9_min_7cf53_10 : decode cJ9_min_7cf53 10 = .ok (.ireturn, 1) := by decide +kernel
set_option maxRecDepth 20000 in
theorem ggL_setSizes_X4_setSizes : GoodIn wsL_setSizes wsX4_setSizes := goodIn_ca (goodIn_r _ [6, 7, 8, 9, 10, 11, 12, 13, 5, 14, 15, 16, 17, 18, 19, 20, 21, 22, 23, 24, 25, 26, 27, 28, 29, 30, 31, 32, 33, 34, 35, 36, 37, 38, 39, 40, 41, 42, 43, 44, 45, 46, 47, 48, 49, 50, 51, 52, 53, 54, 55, 56, 57, 58, 59, 60, 61, 62, 63, 64, 65, 66, 67, 68, 69, 70, 71] (by decide +kernel) (by decide +kernel)) (goodIn_sub (fun _ h => List.mem_cons_of_mem _ (List.mem_append_right _ h)) (by decide +kernel))
set_option maxRecDepth 20000 in
theorem gL_setSizes_X4_setSizes : GoodIn wsL_setSizes (wsV RL 7 RX4 yX4_setSizes wsX4_setSizes) := goodIn_app (goodIn_of _ (by decide +kernel)) ggL_setSizes_X4_setSizes

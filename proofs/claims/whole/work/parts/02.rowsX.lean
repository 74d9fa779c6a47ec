theorem dX0_init_0 : decode cX0_init 0 = .ok (.aload_n 0, 1) := by decide +kernel
theorem dX0_init_1 : decode cX0_init 1 = .ok (.invokespecial 3, 3) := by decide +kernel
theorem dX0_init_4 : decode cX0_init 4 = .ok (.aload_n 0, 1) := by decide +kernel
theorem dX0_init_5 : decode cX0_init 5 = .ok (.sipush 256, 3) := by decide +kernel
theorem dX0_init_8 : decode cX0_init 8 = .ok (.newarray .int, 2) := by decide +kernel
theorem dX0_init_10 : decode cX0_init 10 = .ok (.putfield 9, 3) := by decide +kernel
theorem dX0_init_13 : decode cX0_init 13 = .ok (.return_, 1) := by decide +kernel
theorem dX0_startAnew_0 : decode cX0_startAnew 0 = .ok (.iconst 0, 1) := by decide +kernel
theorem dX0_startAnew_1 : decode cX0_startAnew 1 = .ok (.istore_n 1, 1) := by decide +kernel
theorem dX0_startAnew_2 : decode cX0_startAnew 2 = .ok (.iload_n 1, 1) := by decide +kernel
theorem dX0_startAnew_3 : decode cX0_startAnew 3 = .ok (.sipush 256, 3) := by decide +kernel
theorem dX0_startAnew_6 : decode cX0_startAnew 6 = .ok (.if_icmp .ge 16, 3) := by decide +kernel
theorem dX0_startAnew_9 : decode cX0_startAnew 9 = .ok (.aload_n 0, 1) := by decide +kernel
theorem dX0_startAnew_10 : decode cX0_startAnew 10 = .ok (.getfield 9, 3) := by decide +kernel
theorem dX0_startAnew_13 : decode cX0_startAnew 13 = .ok (.iload_n 1, 1) := by decide +kernel
theorem dX0_startAnew_14 : decode cX0_startAnew 14 = .ok (.iconst (-1), 1) := by decide +kernel
theorem dX0_startAnew_15 : decode cX0_startAnew 15 = .ok (.iastore, 1) := by decide +kernel
theorem dX0_startAnew_16 : decode cX0_startAnew 16 = .ok (.iinc 1 1, 3) := by decide +kernel
theorem dX0_startAnew_19 : decode cX0_startAnew 19 = .ok (.goto (-17), 3) := by decide +kernel
theorem dX0_startAnew_22 : decode cX0_startAnew 22 = .ok (.aload_n 0, 1) := by decide +kernel
theorem dX0_startAnew_23 : decode cX0_startAnew 23 = .ok (.lconst 0, 1) := by decide +kernel
theorem dX0_startAnew_24 : decode cX0_startAnew 24 = .ok (.putfield 15, 3) := by decide +kernel
theorem dX0_startAnew_27 : decode cX0_startAnew 27 = .ok (.aload_n 0, 1) := by decide +kernel
theorem dX0_startAnew_28 : decode cX0_startAnew 28 = .ok (.lconst 0, 1) := by decide +kernel
theorem dX0_startAnew_29 : decode cX0_startAnew 29 = .ok (.putfield 19, 3) := by decide +kernel
theorem dX0_startAnew_32 : decode cX0_startAnew 32 = .ok (.return_, 1) := by decide +kernel
theorem dX0_note_0 : decode cX0_note 0 = .ok (.iload_n 1, 1) := by decide +kernel
theorem dX0_note_1 : decode cX0_note 1 = .ok (.sipush 255, 3) := by decide +kernel
theorem dX0_note_4 : decode cX0_note 4 = .ok (.iand, 1) := by decide +kernel
theorem dX0_note_5 : decode cX0_note 5 = .ok (.istore 4, 2) := by decide +kernel
theorem dX0_note_7 : decode cX0_note 7 = .ok (.aload_n 0, 1) := by decide +kernel
theorem dX0_note_8 : decode cX0_note 8 = .ok (.getfield 9, 3) := by decide +kernel
theorem dX0_note_11 : decode cX0_note 11 = .ok (.iload 4, 2) := by decide +kernel
theorem dX0_note_13 : decode cX0_note 13 = .ok (.iaload, 1) := by decide +kernel
theorem dX0_note_14 : decode cX0_note 14 = .ok (.istore 5, 2) := by decide +kernel
theorem dX0_note_16 : decode cX0_note 16 = .ok (.iload 5, 2) := by decide +kernel
theorem dX0_note_18 : decode cX0_note 18 = .ok (.iconst (-1), 1) := by decide +kernel
theorem dX0_note_19 : decode cX0_note 19 = .ok (.if_icmp .eq 33, 3) := by decide +kernel
theorem dX0_note_22 : decode cX0_note 22 = .ok (.iload 5, 2) := by decide +kernel
theorem dX0_note_24 : decode cX0_note 24 = .ok (.iload_n 2, 1) := by decide +kernel
theorem dX0_note_25 : decode cX0_note 25 = .ok (.if_icmp .eq 27, 3) := by decide +kernel
theorem dX0_note_28 : decode cX0_note 28 = .ok (.aload_n 0, 1) := by decide +kernel
theorem dX0_note_29 : decode cX0_note 29 = .ok (.dup, 1) := by decide +kernel
theorem dX0_note_30 : decode cX0_note 30 = .ok (.getfield 15, 3) := by decide +kernel
theorem dX0_note_33 : decode cX0_note 33 = .ok (.lconst 1, 1) := by decide +kernel
theorem dX0_note_34 : decode cX0_note 34 = .ok (.ladd, 1) := by decide +kernel
theorem dX0_note_35 : decode cX0_note 35 = .ok (.putfield 15, 3) := by decide +kernel
theorem dX0_note_38 : decode cX0_note 38 = .ok (.iload_n 3, 1) := by decide +kernel
theorem dX0_note_39 : decode cX0_note 39 = .ok (.ifCond .eq 13, 3) := by decide +kernel
theorem dX0_note_42 : decode cX0_note 42 = .ok (.aload_n 0, 1) := by decide +kernel
theorem dX0_note_43 : decode cX0_note 43 = .ok (.dup, 1) := by decide +kernel
theorem dX0_note_44 : decode cX0_note 44 = .ok (.getfield 19, 3) := by decide +kernel
theorem dX0_note_47 : decode cX0_note 47 = .ok (.lconst 1, 1) := by decide +kernel
theorem dX0_note_48 : decode cX0_note 48 = .ok (.ladd, 1) := by decide +kernel
theorem dX0_note_49 : decode cX0_note 49 = .ok (.putfield 19, 3) := by decide +kernel
theorem dX0_note_52 : decode cX0_note 52 = .ok (.aload_n 0, 1) := by decide +kernel
theorem dX0_note_53 : decode cX0_note 53 = .ok (.getfield 9, 3) := by decide +kernel
theorem dX0_note_56 : decode cX0_note 56 = .ok (.iload 4, 2) := by decide +kernel
theorem dX0_note_58 : decode cX0_note 58 = .ok (.iload_n 2, 1) := by decide +kernel
theorem dX0_note_59 : decode cX0_note 59 = .ok (.iastore, 1) := by decide +kernel
theorem dX0_note_60 : decode cX0_note 60 = .ok (.return_, 1) := by decide +kernel
theorem dX1_init_0 : decode cX1_init 0 = .ok (.aload_n 0, 1) := by decide +kernel
theorem dX1_init_1 : decode cX1_init 1 = .ok (.invokespecial 3, 3) := by decide +kernel
theorem dX1_init_4 : decode cX1_init 4 = .ok (.return_, 1) := by decide +kernel
theorem dX1_saidTaken_0 : decode cX1_saidTaken 0 = .ok (.iload_n 1, 1) := by decide +kernel
theorem dX1_saidTaken_1 : decode cX1_saidTaken 1 = .ok (.tableswitch 42 0 2 #[27, 32, 37], 27) := by decide +kernel
theorem dX1_saidTaken_28 : decode cX1_saidTaken 28 = .ok (.aload_n 0, 1) := by decide +kernel
theorem dX1_saidTaken_29 : decode cX1_saidTaken 29 = .ok (.getfield 9, 3) := by decide +kernel
theorem dX1_saidTaken_32 : decode cX1_saidTaken 32 = .ok (.ireturn, 1) := by decide +kernel
theorem dX1_saidTaken_33 : decode cX1_saidTaken 33 = .ok (.aload_n 0, 1) := by decide +kernel
theorem dX1_saidTaken_34 : decode cX1_saidTaken 34 = .ok (.getfield 15, 3) := by decide +kernel
theorem dX1_saidTaken_37 : decode cX1_saidTaken 37 = .ok (.ireturn, 1) := by decide +kernel
theorem dX1_saidTaken_38 : decode cX1_saidTaken 38 = .ok (.aload_n 0, 1) := by decide +kernel
theorem dX1_saidTaken_39 : decode cX1_saidTaken 39 = .ok (.getfield 18, 3) := by decide +kernel
theorem dX1_saidTaken_42 : decode cX1_saidTaken 42 = .ok (.ireturn, 1) := by decide +kernel
theorem dX1_saidTaken_43 : decode cX1_saidTaken 43 = .ok (.aload_n 0, 1) := by decide +kernel
theorem dX1_saidTaken_44 : decode cX1_saidTaken 44 = .ok (.getfield 21, 3) := by decide +kernel
theorem dX1_saidTaken_47 : decode cX1_saidTaken 47 = .ok (.ireturn, 1) := by decide +kernel
theorem dX1_isPresumedTaken_0 : decode cX1_isPresumedTaken 0 = .ok (.aload_n 0, 1) := by decide +kernel
theorem dX1_isPresumedTaken_1 : decode cX1_isPresumedTaken 1 = .ok (.getfield 24, 3) := by decide +kernel
theorem dX1_isPresumedTaken_4 : decode cX1_isPresumedTaken 4 = .ok (.iconst 2, 1) := by decide +kernel
theorem dX1_isPresumedTaken_5 : decode cX1_isPresumedTaken 5 = .ok (.if_icmp .ne 7, 3) := by decide +kernel
theorem dX1_isPresumedTaken_8 : decode cX1_isPresumedTaken 8 = .ok (.iconst 1, 1) := by decide +kernel
theorem dX1_isPresumedTaken_9 : decode cX1_isPresumedTaken 9 = .ok (.goto 4, 3) := by decide +kernel
theorem dX1_isPresumedTaken_12 : decode cX1_isPresumedTaken 12 = .ok (.iconst 0, 1) := by decide +kernel
theorem dX1_isPresumedTaken_13 : decode cX1_isPresumedTaken 13 = .ok (.aload_n 0, 1) := by decide +kernel
theorem dX1_isPresumedTaken_14 : decode cX1_isPresumedTaken 14 = .ok (.getfield 21, 3) := by decide +kernel
theorem dX1_isPresumedTaken_17 : decode cX1_isPresumedTaken 17 = .ok (.if_icmp .eq 7, 3) := by decide +kernel
theorem dX1_isPresumedTaken_20 : decode cX1_isPresumedTaken 20 = .ok (.iconst 1, 1) := by decide +kernel
theorem dX1_isPresumedTaken_21 : decode cX1_isPresumedTaken 21 = .ok (.goto 4, 3) := by decide +kernel
theorem dX1_isPresumedTaken_24 : decode cX1_isPresumedTaken 24 = .ok (.iconst 0, 1) := by decide +kernel
theorem dX1_isPresumedTaken_25 : decode cX1_isPresumedTaken 25 = .ok (.ireturn, 1) := by decide +kernel
theorem dX2_init_0 : decode cX2_init 0 = .ok (.aload_n 0, 1) := by decide +kernel
theorem dX2_init_1 : decode cX2_init 1 = .ok (.invokespecial 3, 3) := by decide +kernel
theorem dX2_init_4 : decode cX2_init 4 = .ok (.aload_n 0, 1) := by decide +kernel
theorem dX2_init_5 : decode cX2_init 5 = .ok (.sipush 256, 3) := by decide +kernel
theorem dX2_init_8 : decode cX2_init 8 = .ok (.newarray .int, 2) := by decide +kernel
theorem dX2_init_10 : decode cX2_init 10 = .ok (.putfield 9, 3) := by decide +kernel
theorem dX2_init_13 : decode cX2_init 13 = .ok (.aload_n 0, 1) := by decide +kernel
theorem dX2_init_14 : decode cX2_init 14 = .ok (.iconst 1, 1) := by decide +kernel
theorem dX2_init_15 : decode cX2_init 15 = .ok (.putfield 15, 3) := by decide +kernel
theorem dX2_init_18 : decode cX2_init 18 = .ok (.return_, 1) := by decide +kernel
theorem dX2_startAnew_0 : decode cX2_startAnew 0 = .ok (.aload_n 0, 1) := by decide +kernel
theorem dX2_startAnew_1 : decode cX2_startAnew 1 = .ok (.iconst 1, 1) := by decide +kernel
theorem dX2_startAnew_2 : decode cX2_startAnew 2 = .ok (.iload_n 1, 1) := by decide +kernel
theorem dX2_startAnew_3 : decode cX2_startAnew 3 = .ok (.ishl, 1) := by decide +kernel
theorem dX2_startAnew_4 : decode cX2_startAnew 4 = .ok (.putfield 15, 3) := by decide +kernel
theorem dX2_startAnew_7 : decode cX2_startAnew 7 = .ok (.iconst 0, 1) := by decide +kernel
theorem dX2_startAnew_8 : decode cX2_startAnew 8 = .ok (.istore_n 2, 1) := by decide +kernel
theorem dX2_startAnew_9 : decode cX2_startAnew 9 = .ok (.iload_n 2, 1) := by decide +kernel
theorem dX2_startAnew_10 : decode cX2_startAnew 10 = .ok (.sipush 256, 3) := by decide +kernel
theorem dX2_startAnew_13 : decode cX2_startAnew 13 = .ok (.if_icmp .ge 16, 3) := by decide +kernel
theorem dX2_startAnew_16 : decode cX2_startAnew 16 = .ok (.aload_n 0, 1) := by decide +kernel
theorem dX2_startAnew_17 : decode cX2_startAnew 17 = .ok (.getfield 9, 3) := by decide +kernel
theorem dX2_startAnew_20 : decode cX2_startAnew 20 = .ok (.iload_n 2, 1) := by decide +kernel
theorem dX2_startAnew_21 : decode cX2_startAnew 21 = .ok (.iconst 1, 1) := by decide +kernel
theorem dX2_startAnew_22 : decode cX2_startAnew 22 = .ok (.iastore, 1) := by decide +kernel
theorem dX2_startAnew_23 : decode cX2_startAnew 23 = .ok (.iinc 2 1, 3) := by decide +kernel
theorem dX2_startAnew_26 : decode cX2_startAnew 26 = .ok (.goto (-17), 3) := by decide +kernel
theorem dX2_startAnew_29 : decode cX2_startAnew 29 = .ok (.return_, 1) := by decide +kernel
theorem dX2_indexFor_0 : decode cX2_indexFor 0 = .ok (.iload_n 1, 1) := by decide +kernel
theorem dX2_indexFor_1 : decode cX2_indexFor 1 = .ok (.aload_n 0, 1) := by decide +kernel
theorem dX2_indexFor_2 : decode cX2_indexFor 2 = .ok (.getfield 15, 3) := by decide +kernel
theorem dX2_indexFor_5 : decode cX2_indexFor 5 = .ok (.iconst 1, 1) := by decide +kernel
theorem dX2_indexFor_6 : decode cX2_indexFor 6 = .ok (.isub, 1) := by decide +kernel
theorem dX2_indexFor_7 : decode cX2_indexFor 7 = .ok (.iand, 1) := by decide +kernel
theorem dX2_indexFor_8 : decode cX2_indexFor 8 = .ok (.ireturn, 1) := by decide +kernel
theorem dX2_valueAt_0 : decode cX2_valueAt 0 = .ok (.aload_n 0, 1) := by decide +kernel
theorem dX2_valueAt_1 : decode cX2_valueAt 1 = .ok (.getfield 9, 3) := by decide +kernel
theorem dX2_valueAt_4 : decode cX2_valueAt 4 = .ok (.iload_n 1, 1) := by decide +kernel
theorem dX2_valueAt_5 : decode cX2_valueAt 5 = .ok (.sipush 255, 3) := by decide +kernel
theorem dX2_valueAt_8 : decode cX2_valueAt 8 = .ok (.iand, 1) := by decide +kernel
theorem dX2_valueAt_9 : decode cX2_valueAt 9 = .ok (.iaload, 1) := by decide +kernel
theorem dX2_valueAt_10 : decode cX2_valueAt 10 = .ok (.ireturn, 1) := by decide +kernel
set_option maxRecDepth 20000 in
theorem ggX2_saysTaken_X2_valueAt : GoodIn wsX2_saysTaken wsX2_valueAt := goodIn_r _ [5, 6, 7, 8] (by decide +kernel) (by decide +kernel)
set_option maxRecDepth 20000 in
theorem gX2_saysTaken_X2_valueAt : GoodIn wsX2_saysTaken (wsV RX2 19 RX2 yX2_valueAt wsX2_valueAt) := goodIn_app (goodIn_of _ (by decide +kernel)) ggX2_saysTaken_X2_valueAt
theorem dX2_saysTaken_0 : decode cX2_saysTaken 0 = .ok (.aload_n 0, 1) := by decide +kernel
theorem dX2_saysTaken_1 : decode cX2_saysTaken 1 = .ok (.iload_n 1, 1) := by decide +kernel
theorem dX2_saysTaken_2 : decode cX2_saysTaken 2 = .ok (.invokevirtual 19, 3) := by decide +kernel
theorem dX2_saysTaken_5 : decode cX2_saysTaken 5 = .ok (.iconst 2, 1) := by decide +kernel
theorem dX2_saysTaken_6 : decode cX2_saysTaken 6 = .ok (.if_icmp .lt 7, 3) := by decide +kernel
theorem dX2_saysTaken_9 : decode cX2_saysTaken 9 = .ok (.iconst 1, 1) := by decide +kernel
theorem dX2_saysTaken_10 : decode cX2_saysTaken 10 = .ok (.goto 4, 3) := by decide +kernel
theorem dX2_saysTaken_13 : decode cX2_saysTaken 13 = .ok (.iconst 0, 1) := by decide +kernel
theorem dX2_saysTaken_14 : decode cX2_saysTaken 14 = .ok (.ireturn, 1) := by decide +kernel
set_option maxRecDepth 20000 in
theorem ggX2_move_X2_valueAt : GoodIn wsX2_move wsX2_valueAt := goodIn_r _ [13, 8, 14, 15] (by decide +kernel) (by decide +kernel)
set_option maxRecDepth 20000 in
theorem gX2_move_X2_valueAt : GoodIn wsX2_move (wsV RX2 19 RX2 yX2_valueAt wsX2_valueAt) := goodIn_app (goodIn_of _ (by decide +kernel)) ggX2_move_X2_valueAt
theorem dX2_move_0 : decode cX2_move 0 = .ok (.aload_n 0, 1) := by decide +kernel
theorem dX2_move_1 : decode cX2_move 1 = .ok (.iload_n 1, 1) := by decide +kernel
theorem dX2_move_2 : decode cX2_move 2 = .ok (.invokevirtual 19, 3) := by decide +kernel
theorem dX2_move_5 : decode cX2_move 5 = .ok (.istore_n 3, 1) := by decide +kernel
theorem dX2_move_6 : decode cX2_move 6 = .ok (.iload_n 2, 1) := by decide +kernel
theorem dX2_move_7 : decode cX2_move 7 = .ok (.ifCond .eq 13, 3) := by decide +kernel
theorem dX2_move_10 : decode cX2_move 10 = .ok (.iload_n 3, 1) := by decide +kernel
theorem dX2_move_11 : decode cX2_move 11 = .ok (.iconst 1, 1) := by decide +kernel
theorem dX2_move_12 : decode cX2_move 12 = .ok (.iadd, 1) := by decide +kernel
theorem dX2_move_13 : decode cX2_move 13 = .ok (.iconst 3, 1) := by decide +kernel
theorem dX2_move_14 : decode cX2_move 14 = .ok (.invokestatic 23, 3) := by decide +kernel
theorem dX2_move_17 : decode cX2_move 17 = .ok (.goto 10, 3) := by decide +kernel
theorem dX2_move_20 : decode cX2_move 20 = .ok (.iload_n 3, 1) := by decide +kernel
theorem dX2_move_21 : decode cX2_move 21 = .ok (.iconst 1, 1) := by decide +kernel
theorem dX2_move_22 : decode cX2_move 22 = .ok (.isub, 1) := by decide +kernel
theorem dX2_move_23 : decode cX2_move 23 = .ok (.iconst 0, 1) := by decide +kernel
theorem dX2_move_24 : decode cX2_move 24 = .ok (.invokestatic 29, 3) := by decide +kernel
theorem dX2_move_27 : decode cX2_move 27 = .ok (.istore 4, 2) := by decide +kernel
theorem dX2_move_29 : decode cX2_move 29 = .ok (.aload_n 0, 1) := by decide +kernel
theorem dX2_move_30 : decode cX2_move 30 = .ok (.getfield 9, 3) := by decide +kernel
theorem dX2_move_33 : decode cX2_move 33 = .ok (.iload_n 1, 1) := by decide +kernel
theorem dX2_move_34 : decode cX2_move 34 = .ok (.sipush 255, 3) := by decide +kernel
theorem dX2_move_37 : decode cX2_move 37 = .ok (.iand, 1) := by decide +kernel
theorem dX2_move_38 : decode cX2_move 38 = .ok (.iload 4, 2) := by decide +kernel
theorem dX2_move_40 : decode cX2_move 40 = .ok (.iastore, 1) := by decide +kernel
theorem dX2_move_41 : decode cX2_move 41 = .ok (.return_, 1) := by decide +kernel
set_option maxRecDepth 20000 in
theorem ggX2_mixInto_X4_mix : GoodIn wsX2_mixInto wsX4_mix := goodIn_r _ [5, 6] (by decide +kernel) (by decide +kernel)
set_option maxRecDepth 20000 in
theorem gX2_mixInto_X4_mix_n32 : GoodIn wsX2_mixInto (wsX4_mix) := ggX2_mixInto_X4_mix
theorem dX2_mixInto_0 : decode cX2_mixInto 0 = .ok (.lload_n 1, 1) := by decide +kernel
theorem dX2_mixInto_1 : decode cX2_mixInto 1 = .ok (.lstore_n 3, 1) := by decide +kernel
theorem dX2_mixInto_2 : decode cX2_mixInto 2 = .ok (.iconst 0, 1) := by decide +kernel
theorem dX2_mixInto_3 : decode cX2_mixInto 3 = .ok (.istore 5, 2) := by decide +kernel
theorem dX2_mixInto_5 : decode cX2_mixInto 5 = .ok (.iload 5, 2) := by decide +kernel
theorem dX2_mixInto_7 : decode cX2_mixInto 7 = .ok (.aload_n 0, 1) := by decide +kernel
theorem dX2_mixInto_8 : decode cX2_mixInto 8 = .ok (.getfield 15, 3) := by decide +kernel
theorem dX2_mixInto_11 : decode cX2_mixInto 11 = .ok (.if_icmp .ge 30, 3) := by decide +kernel
theorem dX2_mixInto_14 : decode cX2_mixInto 14 = .ok (.iload 5, 2) := by decide +kernel
theorem dX2_mixInto_16 : decode cX2_mixInto 16 = .ok (.sipush 256, 3) := by decide +kernel
theorem dX2_mixInto_19 : decode cX2_mixInto 19 = .ok (.if_icmp .ge 22, 3) := by decide +kernel
theorem dX2_mixInto_22 : decode cX2_mixInto 22 = .ok (.lload_n 3, 1) := by decide +kernel
theorem dX2_mixInto_23 : decode cX2_mixInto 23 = .ok (.aload_n 0, 1) := by decide +kernel
theorem dX2_mixInto_24 : decode cX2_mixInto 24 = .ok (.getfield 9, 3) := by decide +kernel
theorem dX2_mixInto_27 : decode cX2_mixInto 27 = .ok (.iload 5, 2) := by decide +kernel
theorem dX2_mixInto_29 : decode cX2_mixInto 29 = .ok (.iaload, 1) := by decide +kernel
theorem dX2_mixInto_30 : decode cX2_mixInto 30 = .ok (.i2l, 1) := by decide +kernel
theorem dX2_mixInto_31 : decode cX2_mixInto 31 = .ok (.invokestatic 32, 3) := by decide +kernel
theorem dX2_mixInto_34 : decode cX2_mixInto 34 = .ok (.lstore_n 3, 1) := by decide +kernel
theorem dX2_mixInto_35 : decode cX2_mixInto 35 = .ok (.iinc 5 1, 3) := by decide +kernel
theorem dX2_mixInto_38 : decode cX2_mixInto 38 = .ok (.goto (-33), 3) := by decide +kernel
theorem dX2_mixInto_41 : decode cX2_mixInto 41 = .ok (.lload_n 3, 1) := by decide +kernel
theorem dX2_mixInto_42 : decode cX2_mixInto 42 = .ok (.lreturn, 1) := by decide +kernel
theorem dX3_init_0 : decode cX3_init 0 = .ok (.aload_n 0, 1) := by decide +kernel
theorem dX3_init_1 : decode cX3_init 1 = .ok (.invokespecial 3, 3) := by decide +kernel
theorem dX3_init_4 : decode cX3_init 4 = .ok (.aload_n 0, 1) := by decide +kernel
theorem dX3_init_5 : decode cX3_init 5 = .ok (.iconst (-1), 1) := by decide +kernel
theorem dX3_init_6 : decode cX3_init 6 = .ok (.putfield 9, 3) := by decide +kernel
theorem dX3_init_9 : decode cX3_init 9 = .ok (.return_, 1) := by decide +kernel
theorem dX3_isFree_0 : decode cX3_isFree 0 = .ok (.aload_n 0, 1) := by decide +kernel
theorem dX3_isFree_1 : decode cX3_isFree 1 = .ok (.getfield 9, 3) := by decide +kernel
theorem dX3_isFree_4 : decode cX3_isFree 4 = .ok (.iconst (-1), 1) := by decide +kernel
theorem dX3_isFree_5 : decode cX3_isFree 5 = .ok (.if_icmp .ne 7, 3) := by decide +kernel
theorem dX3_isFree_8 : decode cX3_isFree 8 = .ok (.iconst 1, 1) := by decide +kernel
theorem dX3_isFree_9 : decode cX3_isFree 9 = .ok (.goto 4, 3) := by decide +kernel
theorem dX3_isFree_12 : decode cX3_isFree 12 = .ok (.iconst 0, 1) := by decide +kernel
theorem dX3_isFree_13 : decode cX3_isFree 13 = .ok (.ireturn, 1) := by decide +kernel
theorem dX3_startAnew_0 : decode cX3_startAnew 0 = .ok (.aload_n 0, 1) := by decide +kernel
theorem dX3_startAnew_1 : decode cX3_startAnew 1 = .ok (.iload_n 1, 1) := by decide +kernel
theorem dX3_startAnew_2 : decode cX3_startAnew 2 = .ok (.putfield 9, 3) := by decide +kernel
theorem dX3_startAnew_5 : decode cX3_startAnew 5 = .ok (.aload_n 0, 1) := by decide +kernel
theorem dX3_startAnew_6 : decode cX3_startAnew 6 = .ok (.iconst 0, 1) := by decide +kernel
theorem dX3_startAnew_7 : decode cX3_startAnew 7 = .ok (.putfield 15, 3) := by decide +kernel
theorem dX3_startAnew_10 : decode cX3_startAnew 10 = .ok (.aload_n 0, 1) := by decide +kernel
theorem dX3_startAnew_11 : decode cX3_startAnew 11 = .ok (.iconst 0, 1) := by decide +kernel
theorem dX3_startAnew_12 : decode cX3_startAnew 12 = .ok (.putfield 18, 3) := by decide +kernel
theorem dX3_startAnew_15 : decode cX3_startAnew 15 = .ok (.aload_n 0, 1) := by decide +kernel
theorem dX3_startAnew_16 : decode cX3_startAnew 16 = .ok (.iconst 0, 1) := by decide +kernel
theorem dX3_startAnew_17 : decode cX3_startAnew 17 = .ok (.putfield 21, 3) := by decide +kernel
theorem dX3_startAnew_20 : decode cX3_startAnew 20 = .ok (.return_, 1) := by decide +kernel
theorem dX3_learn_0 : decode cX3_learn 0 = .ok (.iload_n 1, 1) := by decide +kernel
theorem dX3_learn_1 : decode cX3_learn 1 = .ok (.ifCond .eq 29, 3) := by decide +kernel
theorem dX3_learn_4 : decode cX3_learn 4 = .ok (.aload_n 0, 1) := by decide +kernel
theorem dX3_learn_5 : decode cX3_learn 5 = .ok (.dup, 1) := by decide +kernel
theorem dX3_learn_6 : decode cX3_learn 6 = .ok (.getfield 15, 3) := by decide +kernel
theorem dX3_learn_9 : decode cX3_learn 9 = .ok (.iconst 1, 1) := by decide +kernel
theorem dX3_learn_10 : decode cX3_learn 10 = .ok (.iadd, 1) := by decide +kernel
theorem dX3_learn_11 : decode cX3_learn 11 = .ok (.putfield 15, 3) := by decide +kernel
theorem dX3_learn_14 : decode cX3_learn 14 = .ok (.aload_n 0, 1) := by decide +kernel
theorem dX3_learn_15 : decode cX3_learn 15 = .ok (.getfield 15, 3) := by decide +kernel
theorem dX3_learn_18 : decode cX3_learn 18 = .ok (.sipush 1000, 3) := by decide +kernel
theorem dX3_learn_21 : decode cX3_learn 21 = .ok (.if_icmp .le 8, 3) := by decide +kernel
theorem dX3_learn_24 : decode cX3_learn 24 = .ok (.aload_n 0, 1) := by decide +kernel
theorem dX3_learn_25 : decode cX3_learn 25 = .ok (.iconst (-1), 1) := by decide +kernel
theorem dX3_learn_26 : decode cX3_learn 26 = .ok (.putfield 9, 3) := by decide +kernel
theorem dX3_learn_29 : decode cX3_learn 29 = .ok (.return_, 1) := by decide +kernel
theorem dX3_learn_30 : decode cX3_learn 30 = .ok (.aload_n 0, 1) := by decide +kernel
theorem dX3_learn_31 : decode cX3_learn 31 = .ok (.getfield 18, 3) := by decide +kernel
theorem dX3_learn_34 : decode cX3_learn 34 = .ok (.ifCond .eq 31, 3) := by decide +kernel
theorem dX3_learn_37 : decode cX3_learn 37 = .ok (.aload_n 0, 1) := by decide +kernel
theorem dX3_learn_38 : decode cX3_learn 38 = .ok (.getfield 18, 3) := by decide +kernel
theorem dX3_learn_41 : decode cX3_learn 41 = .ok (.aload_n 0, 1) := by decide +kernel
theorem dX3_learn_42 : decode cX3_learn 42 = .ok (.getfield 15, 3) := by decide +kernel
theorem dX3_learn_45 : decode cX3_learn 45 = .ok (.if_icmp .ne 20, 3) := by decide +kernel
theorem dX3_learn_48 : decode cX3_learn 48 = .ok (.aload_n 0, 1) := by decide +kernel
theorem dX3_learn_49 : decode cX3_learn 49 = .ok (.aload_n 0, 1) := by decide +kernel
theorem dX3_learn_50 : decode cX3_learn 50 = .ok (.getfield 21, 3) := by decide +kernel
theorem dX3_learn_53 : decode cX3_learn 53 = .ok (.iconst 1, 1) := by decide +kernel
theorem dX3_learn_54 : decode cX3_learn 54 = .ok (.iadd, 1) := by decide +kernel
theorem dX3_learn_55 : decode cX3_learn 55 = .ok (.iconst 3, 1) := by decide +kernel
theorem dX3_learn_56 : decode cX3_learn 56 = .ok (.invokestatic 24, 3) := by decide +kernel
theorem dX3_learn_59 : decode cX3_learn 59 = .ok (.putfield 21, 3) := by decide +kernel
theorem dX3_learn_62 : decode cX3_learn 62 = .ok (.goto 16, 3) := by decide +kernel
theorem dX3_learn_65 : decode cX3_learn 65 = .ok (.aload_n 0, 1) := by decide +kernel
theorem dX3_learn_66 : decode cX3_learn 66 = .ok (.aload_n 0, 1) := by decide +kernel
theorem dX3_learn_67 : decode cX3_learn 67 = .ok (.getfield 15, 3) := by decide +kernel
theorem dX3_learn_70 : decode cX3_learn 70 = .ok (.putfield 18, 3) := by decide +kernel
theorem dX3_learn_73 : decode cX3_learn 73 = .ok (.aload_n 0, 1) := by decide +kernel
theorem dX3_learn_74 : decode cX3_learn 74 = .ok (.iconst 0, 1) := by decide +kernel
theorem dX3_learn_75 : decode cX3_learn 75 = .ok (.putfield 21, 3) := by decide +kernel
theorem dX3_learn_78 : decode cX3_learn 78 = .ok (.aload_n 0, 1) := by decide +kernel
theorem dX3_learn_79 : decode cX3_learn 79 = .ok (.iconst 0, 1) := by decide +kernel
theorem dX3_learn_80 : decode cX3_learn 80 = .ok (.putfield 15, 3) := by decide +kernel
theorem dX3_learn_83 : decode cX3_learn 83 = .ok (.return_, 1) := by decide +kernel
set_option maxRecDepth 20000 in
theorem ggX3_mixInto_X3_isFree : GoodIn wsX3_mixInto wsX3_isFree := goodIn_r _ [10, 2, 15, 16, 17, 18] (by decide +kernel) (by decide +kernel)
set_option maxRecDepth 20000 in
theorem gX3_mixInto_X3_isFree : GoodIn wsX3_mixInto (wsV RX3 30 RX3 yX3_isFree wsX3_isFree) := goodIn_app (goodIn_of _ (by decide +kernel)) ggX3_mixInto_X3_isFree
set_option maxRecDepth 20000 in
theorem ggX3_mixInto_X4_mix : GoodIn wsX3_mixInto wsX4_mix := goodIn_r _ [13, 14] (by decide +kernel) (by decide +kernel)
set_option maxRecDepth 20000 in
theorem gX3_mixInto_X4_mix_n36 : GoodIn wsX3_mixInto (wsX4_mix) := ggX3_mixInto_X4_mix
theorem dX3_mixInto_0 : decode cX3_mixInto 0 = .ok (.aload_n 0, 1) := by decide +kernel
theorem dX3_mixInto_1 : decode cX3_mixInto 1 = .ok (.invokevirtual 30, 3) := by decide +kernel
theorem dX3_mixInto_4 : decode cX3_mixInto 4 = .ok (.istore_n 3, 1) := by decide +kernel
theorem dX3_mixInto_5 : decode cX3_mixInto 5 = .ok (.lload_n 1, 1) := by decide +kernel
theorem dX3_mixInto_6 : decode cX3_mixInto 6 = .ok (.iload_n 3, 1) := by decide +kernel
theorem dX3_mixInto_7 : decode cX3_mixInto 7 = .ok (.ifCond .eq 9, 3) := by decide +kernel
theorem dX3_mixInto_10 : decode cX3_mixInto 10 = .ok (.ldc2_w 34, 3) := by decide +kernel
theorem dX3_mixInto_13 : decode cX3_mixInto 13 = .ok (.goto 8, 3) := by decide +kernel
theorem dX3_mixInto_16 : decode cX3_mixInto 16 = .ok (.aload_n 0, 1) := by decide +kernel
theorem dX3_mixInto_17 : decode cX3_mixInto 17 = .ok (.getfield 9, 3) := by decide +kernel
theorem dX3_mixInto_20 : decode cX3_mixInto 20 = .ok (.i2l, 1) := by decide +kernel
theorem dX3_mixInto_21 : decode cX3_mixInto 21 = .ok (.invokestatic 36, 3) := by decide +kernel
theorem dX3_mixInto_24 : decode cX3_mixInto 24 = .ok (.lstore 4, 2) := by decide +kernel
theorem dX3_mixInto_26 : decode cX3_mixInto 26 = .ok (.lload 4, 2) := by decide +kernel
theorem dX3_mixInto_28 : decode cX3_mixInto 28 = .ok (.iload_n 3, 1) := by decide +kernel
theorem dX3_mixInto_29 : decode cX3_mixInto 29 = .ok (.ifCond .eq 9, 3) := by decide +kernel
theorem dX3_mixInto_32 : decode cX3_mixInto 32 = .ok (.ldc2_w 34, 3) := by decide +kernel
theorem dX3_mixInto_35 : decode cX3_mixInto 35 = .ok (.goto 8, 3) := by decide +kernel
theorem dX3_mixInto_38 : decode cX3_mixInto 38 = .ok (.aload_n 0, 1) := by decide +kernel
theorem dX3_mixInto_39 : decode cX3_mixInto 39 = .ok (.getfield 15, 3) := by decide +kernel
theorem dX3_mixInto_42 : decode cX3_mixInto 42 = .ok (.i2l, 1) := by decide +kernel
theorem dX3_mixInto_43 : decode cX3_mixInto 43 = .ok (.invokestatic 36, 3) := by decide +kernel
theorem dX3_mixInto_46 : decode cX3_mixInto 46 = .ok (.lstore 4, 2) := by decide +kernel
theorem dX3_mixInto_48 : decode cX3_mixInto 48 = .ok (.lload 4, 2) := by decide +kernel
theorem dX3_mixInto_50 : decode cX3_mixInto 50 = .ok (.iload_n 3, 1) := by decide +kernel
theorem dX3_mixInto_51 : decode cX3_mixInto 51 = .ok (.ifCond .eq 9, 3) := by decide +kernel
theorem dX3_mixInto_54 : decode cX3_mixInto 54 = .ok (.ldc2_w 34, 3) := by decide +kernel
theorem dX3_mixInto_57 : decode cX3_mixInto 57 = .ok (.goto 8, 3) := by decide +kernel
theorem dX3_mixInto_60 : decode cX3_mixInto 60 = .ok (.aload_n 0, 1) := by decide +kernel
theorem dX3_mixInto_61 : decode cX3_mixInto 61 = .ok (.getfield 18, 3) := by decide +kernel
theorem dX3_mixInto_64 : decode cX3_mixInto 64 = .ok (.i2l, 1) := by decide +kernel
theorem dX3_mixInto_65 : decode cX3_mixInto 65 = .ok (.invokestatic 36, 3) := by decide +kernel
theorem dX3_mixInto_68 : decode cX3_mixInto 68 = .ok (.lstore 4, 2) := by decide +kernel
theorem dX3_mixInto_70 : decode cX3_mixInto 70 = .ok (.lload 4, 2) := by decide +kernel
theorem dX3_mixInto_72 : decode cX3_mixInto 72 = .ok (.iload_n 3, 1) := by decide +kernel
theorem dX3_mixInto_73 : decode cX3_mixInto 73 = .ok (.ifCond .eq 9, 3) := by decide +kernel
theorem dX3_mixInto_76 : decode cX3_mixInto 76 = .ok (.ldc2_w 34, 3) := by decide +kernel
theorem dX3_mixInto_79 : decode cX3_mixInto 79 = .ok (.goto 8, 3) := by decide +kernel
theorem dX3_mixInto_82 : decode cX3_mixInto 82 = .ok (.aload_n 0, 1) := by decide +kernel
theorem dX3_mixInto_83 : decode cX3_mixInto 83 = .ok (.getfield 21, 3) := by decide +kernel
theorem dX3_mixInto_86 : decode cX3_mixInto 86 = .ok (.i2l, 1) := by decide +kernel
theorem dX3_mixInto_87 : decode cX3_mixInto 87 = .ok (.invokestatic 36, 3) := by decide +kernel
theorem dX3_mixInto_90 : decode cX3_mixInto 90 = .ok (.lreturn, 1) := by decide +kernel
set_option maxRecDepth 20000 in
theorem ggX4_init_X2_init : GoodIn wsX4_init wsX2_init := goodIn_r _ [29, 30, 2, 3, 31, 32, 33, 66, 67] (by decide +kernel) (by decide +kernel)
set_option maxRecDepth 20000 in
theorem gX4_init_X2_init_n11 : GoodIn wsX4_init (wsX2_init) := ggX4_init_X2_init
set_option maxRecDepth 20000 in
theorem ggX4_init_X0_init : GoodIn wsX4_init wsX0_init := goodIn_r _ [35, 36, 2, 3, 31, 37, 84, 85, 86] (by decide +kernel) (by decide +kernel)
set_option maxRecDepth 20000 in
theorem gX4_init_X0_init_n24 : GoodIn wsX4_init (wsX0_init) := ggX4_init_X0_init
set_option maxRecDepth 20000 in
theorem ggX4_init_X1_init : GoodIn wsX4_init wsX1_init := goodIn_r _ [39, 40, 2, 3] (by decide +kernel) (by decide +kernel)
set_option maxRecDepth 20000 in
theorem gX4_init_X1_init_n58 : GoodIn wsX4_init (wsX1_init) := ggX4_init_X1_init
set_option maxRecDepth 20000 in
theorem ggX4_init_X3_init : GoodIn wsX4_init wsX3_init := goodIn_r _ [42, 43, 2, 3, 44, 96, 97, 98, 99] (by decide +kernel) (by decide +kernel)
set_option maxRecDepth 20000 in
theorem gX4_init_X3_init_n59 : GoodIn wsX4_init (wsX3_init) := ggX4_init_X3_init
set_option maxRecDepth 20000 in
theorem ggX4_init_X4_startAnew : GoodIn wsX4_init wsX4_startAnew := goodIn_r _ [49, 21, 22, 23, 7, 8, 9, 13, 14, 18, 50, 20, 51, 52, 53, 54, 55, 56, 57, 58, 6, 59, 33, 32, 60, 61, 62, 12, 63, 37, 64, 65, 68, 69, 70, 71, 72, 73, 74, 75, 76, 77, 78, 79, 80, 81, 82, 83, 96, 97, 98, 99, 66, 67, 84, 85, 86] (by decide +kernel) (by decide +kernel)
set_option maxRecDepth 20000 in
theorem gX4_init_X4_startAnew : GoodIn wsX4_init (wsV RX4 60 RX4 yX4_startAnew wsX4_startAnew) := goodIn_app (goodIn_of _ (by decide +kernel)) ggX4_init_X4_startAnew
theorem dX4_init_0 : decode cX4_init 0 = .ok (.aload_n 0, 1) := by decide +kernel
theorem dX4_init_1 : decode cX4_init 1 = .ok (.invokespecial 3, 3) := by decide +kernel
theorem dX4_init_4 : decode cX4_init 4 = .ok (.aload_n 0, 1) := by decide +kernel
theorem dX4_init_5 : decode cX4_init 5 = .ok (.new 9, 3) := by decide +kernel
theorem dX4_init_8 : decode cX4_init 8 = .ok (.dup, 1) := by decide +kernel
theorem dX4_init_9 : decode cX4_init 9 = .ok (.invokespecial 11, 3) := by decide +kernel
theorem dX4_init_12 : decode cX4_init 12 = .ok (.putfield 12, 3) := by decide +kernel
theorem dX4_init_15 : decode cX4_init 15 = .ok (.aload_n 0, 1) := by decide +kernel
theorem dX4_init_16 : decode cX4_init 16 = .ok (.new 9, 3) := by decide +kernel
theorem dX4_init_19 : decode cX4_init 19 = .ok (.dup, 1) := by decide +kernel
theorem dX4_init_20 : decode cX4_init 20 = .ok (.invokespecial 11, 3) := by decide +kernel
theorem dX4_init_23 : decode cX4_init 23 = .ok (.putfield 16, 3) := by decide +kernel
theorem dX4_init_26 : decode cX4_init 26 = .ok (.aload_n 0, 1) := by decide +kernel
theorem dX4_init_27 : decode cX4_init 27 = .ok (.new 9, 3) := by decide +kernel
theorem dX4_init_30 : decode cX4_init 30 = .ok (.dup, 1) := by decide +kernel
theorem dX4_init_31 : decode cX4_init 31 = .ok (.invokespecial 11, 3) := by decide +kernel
theorem dX4_init_34 : decode cX4_init 34 = .ok (.putfield 19, 3) := by decide +kernel
theorem dX4_init_37 : decode cX4_init 37 = .ok (.aload_n 0, 1) := by decide +kernel
theorem dX4_init_38 : decode cX4_init 38 = .ok (.new 22, 3) := by decide +kernel
theorem dX4_init_41 : decode cX4_init 41 = .ok (.dup, 1) := by decide +kernel
theorem dX4_init_42 : decode cX4_init 42 = .ok (.invokespecial 24, 3) := by decide +kernel
theorem dX4_init_45 : decode cX4_init 45 = .ok (.putfield 25, 3) := by decide +kernel
theorem dX4_init_48 : decode cX4_init 48 = .ok (.aload_n 0, 1) := by decide +kernel
theorem dX4_init_49 : decode cX4_init 49 = .ok (.new 22, 3) := by decide +kernel
theorem dX4_init_52 : decode cX4_init 52 = .ok (.dup, 1) := by decide +kernel
theorem dX4_init_53 : decode cX4_init 53 = .ok (.invokespecial 24, 3) := by decide +kernel
theorem dX4_init_56 : decode cX4_init 56 = .ok (.putfield 29, 3) := by decide +kernel
theorem dX4_init_59 : decode cX4_init 59 = .ok (.aload_n 0, 1) := by decide +kernel
theorem dX4_init_60 : decode cX4_init 60 = .ok (.bipush 16, 2) := by decide +kernel
theorem dX4_init_62 : decode cX4_init 62 = .ok (.anewarray 32, 3) := by decide +kernel
theorem dX4_init_65 : decode cX4_init 65 = .ok (.putfield 34, 3) := by decide +kernel
theorem dX4_init_68 : decode cX4_init 68 = .ok (.aload_n 0, 1) := by decide +kernel
theorem dX4_init_69 : decode cX4_init 69 = .ok (.bipush 8, 2) := by decide +kernel
theorem dX4_init_71 : decode cX4_init 71 = .ok (.anewarray 38, 3) := by decide +kernel
theorem dX4_init_74 : decode cX4_init 74 = .ok (.putfield 40, 3) := by decide +kernel
theorem dX4_init_77 : decode cX4_init 77 = .ok (.aload_n 0, 1) := by decide +kernel
theorem dX4_init_78 : decode cX4_init 78 = .ok (.iconst 4, 1) := by decide +kernel
theorem dX4_init_79 : decode cX4_init 79 = .ok (.newarray .long, 2) := by decide +kernel
theorem dX4_init_81 : decode cX4_init 81 = .ok (.putfield 44, 3) := by decide +kernel
theorem dX4_init_84 : decode cX4_init 84 = .ok (.aload_n 0, 1) := by decide +kernel
theorem dX4_init_85 : decode cX4_init 85 = .ok (.iconst 4, 1) := by decide +kernel
theorem dX4_init_86 : decode cX4_init 86 = .ok (.putfield 48, 3) := by decide +kernel
theorem dX4_init_89 : decode cX4_init 89 = .ok (.aload_n 0, 1) := by decide +kernel
theorem dX4_init_90 : decode cX4_init 90 = .ok (.iconst 4, 1) := by decide +kernel
theorem dX4_init_91 : decode cX4_init 91 = .ok (.putfield 52, 3) := by decide +kernel
theorem dX4_init_94 : decode cX4_init 94 = .ok (.aload_n 0, 1) := by decide +kernel
theorem dX4_init_95 : decode cX4_init 95 = .ok (.iconst 4, 1) := by decide +kernel
theorem dX4_init_96 : decode cX4_init 96 = .ok (.putfield 55, 3) := by decide +kernel
theorem dX4_init_99 : decode cX4_init 99 = .ok (.iconst 0, 1) := by decide +kernel
theorem dX4_init_100 : decode cX4_init 100 = .ok (.istore_n 1, 1) := by decide +kernel
theorem dX4_init_101 : decode cX4_init 101 = .ok (.iload_n 1, 1) := by decide +kernel
theorem dX4_init_102 : decode cX4_init 102 = .ok (.bipush 16, 2) := by decide +kernel
theorem dX4_init_104 : decode cX4_init 104 = .ok (.if_icmp .ge 22, 3) := by decide +kernel
theorem dX4_init_107 : decode cX4_init 107 = .ok (.aload_n 0, 1) := by decide +kernel
theorem dX4_init_108 : decode cX4_init 108 = .ok (.getfield 34, 3) := by decide +kernel
theorem dX4_init_111 : decode cX4_init 111 = .ok (.iload_n 1, 1) := by decide +kernel
theorem dX4_init_112 : decode cX4_init 112 = .ok (.new 32, 3) := by decide +kernel
theorem dX4_init_115 : decode cX4_init 115 = .ok (.dup, 1) := by decide +kernel
theorem dX4_init_116 : decode cX4_init 116 = .ok (.invokespecial 58, 3) := by decide +kernel
theorem dX4_init_119 : decode cX4_init 119 = .ok (.aastore, 1) := by decide +kernel
theorem dX4_init_120 : decode cX4_init 120 = .ok (.iinc 1 1, 3) := by decide +kernel
theorem dX4_init_123 : decode cX4_init 123 = .ok (.goto (-22), 3) := by decide +kernel
theorem dX4_init_126 : decode cX4_init 126 = .ok (.iconst 0, 1) := by decide +kernel
theorem dX4_init_127 : decode cX4_init 127 = .ok (.istore_n 1, 1) := by decide +kernel
theorem dX4_init_128 : decode cX4_init 128 = .ok (.iload_n 1, 1) := by decide +kernel
theorem dX4_init_129 : decode cX4_init 129 = .ok (.bipush 8, 2) := by decide +kernel
theorem dX4_init_131 : decode cX4_init 131 = .ok (.if_icmp .ge 22, 3) := by decide +kernel
theorem dX4_init_134 : decode cX4_init 134 = .ok (.aload_n 0, 1) := by decide +kernel
theorem dX4_init_135 : decode cX4_init 135 = .ok (.getfield 40, 3) := by decide +kernel
theorem dX4_init_138 : decode cX4_init 138 = .ok (.iload_n 1, 1) := by decide +kernel
theorem dX4_init_139 : decode cX4_init 139 = .ok (.new 38, 3) := by decide +kernel
theorem dX4_init_142 : decode cX4_init 142 = .ok (.dup, 1) := by decide +kernel
theorem dX4_init_143 : decode cX4_init 143 = .ok (.invokespecial 59, 3) := by decide +kernel
theorem dX4_init_146 : decode cX4_init 146 = .ok (.aastore, 1) := by decide +kernel
theorem dX4_init_147 : decode cX4_init 147 = .ok (.iinc 1 1, 3) := by decide +kernel
theorem dX4_init_150 : decode cX4_init 150 = .ok (.goto (-22), 3) := by decide +kernel
theorem dX4_init_153 : decode cX4_init 153 = .ok (.aload_n 0, 1) := by decide +kernel
theorem dX4_init_154 : decode cX4_init 154 = .ok (.iconst 4, 1) := by decide +kernel
theorem dX4_init_155 : decode cX4_init 155 = .ok (.iconst 4, 1) := by decide +kernel
theorem dX4_init_156 : decode cX4_init 156 = .ok (.iconst 4, 1) := by decide +kernel
theorem dX4_init_157 : decode cX4_init 157 = .ok (.invokevirtual 60, 3) := by decide +kernel
theorem dX4_init_160 : decode cX4_init 160 = .ok (.return_, 1) := by decide +kernel
set_option maxRecDepth 20000 in
theorem ggX4_setSizes_X4_isTableBits : GoodIn wsX4_setSizes wsX4_isTableBits := goodIn_r _ [9] (by decide +kernel) (by decide +kernel)
set_option maxRecDepth 20000 in
theorem gX4_setSizes_X4_isTableBits : GoodIn wsX4_setSizes (va_wsS RX4 64 yX4_isTableBits wsX4_isTableBits) := goodIn_app (goodIn_of _ (by decide +kernel)) ggX4_setSizes_X4_isTableBits
set_option maxRecDepth 20000 in
theorem ggX4_setSizes_X4_startAnew : GoodIn wsX4_setSizes wsX4_startAnew := goodIn_r _ [13, 3, 4, 5, 14, 15, 16, 17, 18, 19, 20, 21, 22, 23, 24, 25, 26, 27, 28, 29, 30, 31, 32, 33, 34, 35, 36, 37, 38, 39, 40, 41, 42, 43, 44, 45, 46, 47, 48, 49, 50, 51, 52, 53, 54, 55, 56, 57, 58, 59, 60, 61, 62, 63, 64, 65, 66] (by decide +kernel) (by decide +kernel)
set_option maxRecDepth 20000 in
theorem gX4_setSizes_X4_startAnew : GoodIn wsX4_setSizes (wsV RX4 60 RX4 yX4_startAnew wsX4_startAnew) := goodIn_app (goodIn_of _ (by decide +kernel)) ggX4_setSizes_X4_startAnew
theorem dX4_setSizes_0 : decode cX4_setSizes 0 = .ok (.iload_n 1, 1) := by decide +kernel
theorem dX4_setSizes_1 : decode cX4_setSizes 1 = .ok (.invokestatic 64, 3) := by decide +kernel
theorem dX4_setSizes_4 : decode cX4_setSizes 4 = .ok (.ifCond .eq 19, 3) := by decide +kernel
theorem dX4_setSizes_7 : decode cX4_setSizes 7 = .ok (.iload_n 2, 1) := by decide +kernel
theorem dX4_setSizes_8 : decode cX4_setSizes 8 = .ok (.invokestatic 64, 3) := by decide +kernel
theorem dX4_setSizes_11 : decode cX4_setSizes 11 = .ok (.ifCond .eq 12, 3) := by decide +kernel
theorem dX4_setSizes_14 : decode cX4_setSizes 14 = .ok (.iload_n 3, 1) := by decide +kernel
theorem dX4_setSizes_15 : decode cX4_setSizes 15 = .ok (.ifCond .lt 8, 3) := by decide +kernel
theorem dX4_setSizes_18 : decode cX4_setSizes 18 = .ok (.iload_n 3, 1) := by decide +kernel
theorem dX4_setSizes_19 : decode cX4_setSizes 19 = .ok (.iload_n 2, 1) := by decide +kernel
theorem dX4_setSizes_20 : decode cX4_setSizes 20 = .ok (.if_icmp .le 13, 3) := by decide +kernel
theorem dX4_setSizes_23 : decode cX4_setSizes 23 = .ok (.new 68, 3) := by decide +kernel
theorem dX4_setSizes_26 : decode cX4_setSizes 26 = .ok (.dup, 1) := by decide +kernel
theorem dX4_setSizes_27 : decode cX4_setSizes 27 = .ok (.ldc 70, 2) := by decide +kernel
theorem dX4_setSizes_29 : decode cX4_setSizes 29 = .ok (.invokespecial 72, 3) := by decide +kernel
theorem dX4_setSizes_32 : decode cX4_setSizes 32 = .ok (.athrow, 1) := by decide +kernel
theorem dX4_setSizes_33 : decode cX4_setSizes 33 = .ok (.iload_n 1, 1) := by decide +kernel
theorem dX4_setSizes_34 : decode cX4_setSizes 34 = .ok (.aload_n 0, 1) := by decide +kernel
theorem dX4_setSizes_35 : decode cX4_setSizes 35 = .ok (.getfield 48, 3) := by decide +kernel
theorem dX4_setSizes_38 : decode cX4_setSizes 38 = .ok (.if_icmp .ne 19, 3) := by decide +kernel
theorem dX4_setSizes_41 : decode cX4_setSizes 41 = .ok (.iload_n 2, 1) := by decide +kernel
theorem dX4_setSizes_42 : decode cX4_setSizes 42 = .ok (.aload_n 0, 1) := by decide +kernel
theorem dX4_setSizes_43 : decode cX4_setSizes 43 = .ok (.getfield 52, 3) := by decide +kernel
theorem dX4_setSizes_46 : decode cX4_setSizes 46 = .ok (.if_icmp .ne 11, 3) := by decide +kernel
theorem dX4_setSizes_49 : decode cX4_setSizes 49 = .ok (.iload_n 3, 1) := by decide +kernel
theorem dX4_setSizes_50 : decode cX4_setSizes 50 = .ok (.aload_n 0, 1) := by decide +kernel
theorem dX4_setSizes_51 : decode cX4_setSizes 51 = .ok (.getfield 55, 3) := by decide +kernel
theorem dX4_setSizes_54 : decode cX4_setSizes 54 = .ok (.if_icmp .eq 7, 3) := by decide +kernel
theorem dX4_setSizes_57 : decode cX4_setSizes 57 = .ok (.iconst 1, 1) := by decide +kernel
theorem dX4_setSizes_58 : decode cX4_setSizes 58 = .ok (.goto 4, 3) := by decide +kernel
theorem dX4_setSizes_61 : decode cX4_setSizes 61 = .ok (.iconst 0, 1) := by decide +kernel
theorem dX4_setSizes_62 : decode cX4_setSizes 62 = .ok (.istore 4, 2) := by decide +kernel
theorem dX4_setSizes_64 : decode cX4_setSizes 64 = .ok (.aload_n 0, 1) := by decide +kernel
theorem dX4_setSizes_65 : decode cX4_setSizes 65 = .ok (.iload_n 1, 1) := by decide +kernel
theorem dX4_setSizes_66 : decode cX4_setSizes 66 = .ok (.iload_n 2, 1) := by decide +kernel
theorem dX4_setSizes_67 : decode cX4_setSizes 67 = .ok (.iload_n 3, 1) := by decide +kernel
theorem dX4_setSizes_68 : decode cX4_setSizes 68 = .ok (.invokevirtual 60, 3) := by decide +kernel
theorem dX4_setSizes_71 : decode cX4_setSizes 71 = .ok (.iload 4, 2) := by decide +kernel
theorem dX4_setSizes_73 : decode cX4_setSizes 73 = .ok (.ireturn, 1) := by decide +kernel
set_option maxRecDepth 20000 in
theorem ggX4_predict_X4_requirePlace : GoodIn wsX4_predict wsX4_requirePlace := goodIn_ca (goodIn_r _ [7, 8, 9, 10] (by decide +kernel) (by decide +kernel)) (goodIn_sub (fun _ h => List.mem_cons_of_mem _ (List.mem_append_right _ h)) (by decide +kernel))
set_option maxRecDepth 20000 in
theorem gX4_predict_X4_requirePlace : GoodIn wsX4_predict (va_wsS RX4 75 yX4_requirePlace wsX4_requirePlace) := goodIn_app (goodIn_of _ (by decide +kernel)) ggX4_predict_X4_requirePlace
set_option maxRecDepth 20000 in
theorem ggX4_predict_X4_launch : GoodIn wsX4_predict wsX4_launch := goodIn_r _ [14, 3, 15, 16, 17, 18, 19, 20, 21, 22, 23, 24, 25, 26, 27, 28, 29, 30, 6, 31, 32, 33, 34, 35, 36, 37, 38, 39, 40, 41, 42, 43, 44, 45, 46, 47, 48, 49, 50, 51, 52, 53, 54, 55, 56, 57, 58, 59, 60, 61, 62, 63, 64, 65, 66, 67, 68, 69, 70, 71, 72, 73, 74, 75, 76, 77, 78, 79, 80, 81, 82, 83, 84, 85, 86, 87, 88, 89, 90, 91, 92, 93, 94, 95, 96, 97, 98, 99, 100, 101, 102, 103, 104, 105, 106, 107, 108] (by decide +kernel) (by decide +kernel)
set_option maxRecDepth 20000 in
theorem gX4_predict_X4_launch : GoodIn wsX4_predict (wsV RX4 87 RX4 yX4_launch wsX4_launch) := goodIn_app (goodIn_of _ (by decide +kernel)) ggX4_predict_X4_launch
theorem dX4_predict_0 : decode cX4_predict 0 = .ok (.iload_n 1, 1) := by decide +kernel
theorem dX4_predict_1 : decode cX4_predict 1 = .ok (.invokestatic 75, 3) := by decide +kernel
theorem dX4_predict_4 : decode cX4_predict 4 = .ok (.aload_n 0, 1) := by decide +kernel
theorem dX4_predict_5 : decode cX4_predict 5 = .ok (.getfield 79, 3) := by decide +kernel
theorem dX4_predict_8 : decode cX4_predict 8 = .ok (.bipush 16, 2) := by decide +kernel
theorem dX4_predict_10 : decode cX4_predict 10 = .ok (.if_icmp .lt 13, 3) := by decide +kernel
theorem dX4_predict_13 : decode cX4_predict 13 = .ok (.new 82, 3) := by decide +kernel
theorem dX4_predict_16 : decode cX4_predict 16 = .ok (.dup, 1) := by decide +kernel
theorem dX4_predict_17 : decode cX4_predict 17 = .ok (.ldc 84, 2) := by decide +kernel
theorem dX4_predict_19 : decode cX4_predict 19 = .ok (.invokespecial 86, 3) := by decide +kernel
theorem dX4_predict_22 : decode cX4_predict 22 = .ok (.athrow, 1) := by decide +kernel
theorem dX4_predict_23 : decode cX4_predict 23 = .ok (.aload_n 0, 1) := by decide +kernel
theorem dX4_predict_24 : decode cX4_predict 24 = .ok (.iload_n 1, 1) := by decide +kernel
theorem dX4_predict_25 : decode cX4_predict 25 = .ok (.invokevirtual 87, 3) := by decide +kernel
theorem dX4_predict_28 : decode cX4_predict 28 = .ok (.ireturn, 1) := by decide +kernel
set_option maxRecDepth 20000 in
theorem ggX4_resolve_X4_requireInFlight : GoodIn wsX4_resolve wsX4_requireInFlight := goodIn_ca (goodIn_r _ [8, 9, 10, 11, 44, 45, 46, 47, 48, 49, 50, 51, 52, 53, 54, 55, 56, 57, 58, 59] (by decide +kernel) (by decide +kernel)) (goodIn_sub (fun _ h => List.mem_cons_of_mem _ (List.mem_append_right _ h)) (by decide +kernel))
set_option maxRecDepth 20000 in
theorem gX4_resolve_X4_requireInFlight : GoodIn wsX4_resolve (wsV RX4 90 RX4 yX4_requireInFlight wsX4_requireInFlight) := goodIn_app (goodIn_of _ (by decide +kernel)) ggX4_resolve_X4_requireInFlight
set_option maxRecDepth 20000 in
theorem ggX4_resolve_X4_branchAt : GoodIn wsX4_resolve wsX4_branchAt := goodIn_r _ [15, 16, 17, 44, 45, 46, 47, 48, 49, 50, 51, 52, 53, 54, 55, 56, 57, 58, 59] (by decide +kernel) (by decide +kernel)
set_option maxRecDepth 20000 in
theorem gX4_resolve_X4_branchAt : GoodIn wsX4_resolve (wsV RX4 93 RX4 yX4_branchAt wsX4_branchAt) := goodIn_app (goodIn_of _ (by decide +kernel)) ggX4_resolve_X4_branchAt
set_option maxRecDepth 20000 in
theorem ggX4_resolve_X4_settle : GoodIn wsX4_resolve wsX4_settle := goodIn_r _ [21, 22, 3, 23, 24, 12, 13, 14, 7, 15, 16, 17, 25, 26, 27, 28, 29, 30, 31, 32, 33, 11, 34, 35, 36, 37, 38, 39, 40, 41, 42, 43, 44, 45, 46, 47, 48, 49, 50, 51, 52, 53, 54, 55, 56, 57, 58, 59] (by decide +kernel) (by decide +kernel)
set_option maxRecDepth 20000 in
theorem gX4_resolve_X4_settle : GoodIn wsX4_resolve (wsV RX4 102 RX4 yX4_settle wsX4_settle) := goodIn_app (goodIn_of _ (by decide +kernel)) ggX4_resolve_X4_settle
theorem dX4_resolve_0 : decode cX4_resolve 0 = .ok (.aload_n 0, 1) := by decide +kernel
theorem dX4_resolve_1 : decode cX4_resolve 1 = .ok (.iload_n 1, 1) := by decide +kernel
theorem dX4_resolve_2 : decode cX4_resolve 2 = .ok (.invokevirtual 90, 3) := by decide +kernel
theorem dX4_resolve_5 : decode cX4_resolve 5 = .ok (.aload_n 0, 1) := by decide +kernel
theorem dX4_resolve_6 : decode cX4_resolve 6 = .ok (.iload_n 1, 1) := by decide +kernel
theorem dX4_resolve_7 : decode cX4_resolve 7 = .ok (.invokevirtual 93, 3) := by decide +kernel
theorem dX4_resolve_10 : decode cX4_resolve 10 = .ok (.getfield 97, 3) := by decide +kernel
theorem dX4_resolve_13 : decode cX4_resolve 13 = .ok (.ifCond .eq 13, 3) := by decide +kernel
theorem dX4_resolve_16 : decode cX4_resolve 16 = .ok (.new 82, 3) := by decide +kernel
theorem dX4_resolve_19 : decode cX4_resolve 19 = .ok (.dup, 1) := by decide +kernel
theorem dX4_resolve_20 : decode cX4_resolve 20 = .ok (.ldc 100, 2) := by decide +kernel
theorem dX4_resolve_22 : decode cX4_resolve 22 = .ok (.invokespecial 86, 3) := by decide +kernel
theorem dX4_resolve_25 : decode cX4_resolve 25 = .ok (.athrow, 1) := by decide +kernel
theorem dX4_resolve_26 : decode cX4_resolve 26 = .ok (.aload_n 0, 1) := by decide +kernel
theorem dX4_resolve_27 : decode cX4_resolve 27 = .ok (.iload_n 1, 1) := by decide +kernel
theorem dX4_resolve_28 : decode cX4_resolve 28 = .ok (.iload_n 2, 1) := by decide +kernel
theorem dX4_resolve_29 : decode cX4_resolve 29 = .ok (.invokevirtual 102, 3) := by decide +kernel
theorem dX4_resolve_32 : decode cX4_resolve 32 = .ok (.ireturn, 1) := by decide +kernel
set_option maxRecDepth 20000 in
theorem ggX4_commit_X4_branchAt : GoodIn wsX4_commit wsX4_branchAt := goodIn_r _ [9, 10, 11, 115, 116, 117, 118, 119, 120, 121, 122, 123, 124, 125, 126, 127, 128, 129, 130] (by decide +kernel) (by decide +kernel)
set_option maxRecDepth 20000 in
theorem gX4_commit_X4_branchAt : GoodIn wsX4_commit (wsV RX4 93 RX4 yX4_branchAt wsX4_branchAt) := goodIn_app (goodIn_of _ (by decide +kernel)) ggX4_commit_X4_branchAt
set_option maxRecDepth 20000 in
theorem ggX4_commit_X4_retire : GoodIn wsX4_commit wsX4_retire := goodIn_r _ [15, 16, 17, 18, 19, 20, 21, 22, 23, 11, 3, 4, 5, 6, 7, 8, 9, 10, 24, 25, 26, 27, 28, 29, 30, 31, 32, 33, 34, 35, 36, 37, 38, 39, 40, 41, 42, 43, 44, 45, 46, 47, 48, 49, 50, 51, 52, 53, 54, 55, 56, 57, 58, 59, 60, 61, 62, 63, 64, 65, 66, 67, 68, 69, 70, 71, 72, 73, 74, 75, 76, 77, 78, 79, 80, 81, 82, 83, 84, 85, 86, 87, 88, 89, 90, 91, 92, 93, 94, 95, 96, 97, 98, 99, 100, 101, 102, 103, 104, 105, 106, 107, 108, 109, 110, 111, 112, 113, 114, 115, 116, 117, 118, 119, 120, 121, 122, 123, 124, 125, 126, 127, 128, 129, 130, 131, 132, 133, 134, 135, 136, 137, 138, 139, 140, 141, 142, 143, 144, 145, 146, 147, 148] (by decide +kernel) (by decide +kernel)
set_option maxRecDepth 20000 in
theorem gX4_commit_X4_retire : GoodIn wsX4_commit (wsV RX4 108 RX4 yX4_retire wsX4_retire) := goodIn_app (goodIn_of _ (by decide +kernel)) ggX4_commit_X4_retire
theorem dX4_commit_0 : decode cX4_commit 0 = .ok (.aload_n 0, 1) := by decide +kernel
theorem dX4_commit_1 : decode cX4_commit 1 = .ok (.getfield 79, 3) := by decide +kernel
theorem dX4_commit_4 : decode cX4_commit 4 = .ok (.ifCond .eq 14, 3) := by decide +kernel
theorem dX4_commit_7 : decode cX4_commit 7 = .ok (.aload_n 0, 1) := by decide +kernel
theorem dX4_commit_8 : decode cX4_commit 8 = .ok (.iconst 0, 1) := by decide +kernel
theorem dX4_commit_9 : decode cX4_commit 9 = .ok (.invokevirtual 93, 3) := by decide +kernel
theorem dX4_commit_12 : decode cX4_commit 12 = .ok (.getfield 97, 3) := by decide +kernel
theorem dX4_commit_15 : decode cX4_commit 15 = .ok (.ifCond .ne 13, 3) := by decide +kernel
theorem dX4_commit_18 : decode cX4_commit 18 = .ok (.new 82, 3) := by decide +kernel
theorem dX4_commit_21 : decode cX4_commit 21 = .ok (.dup, 1) := by decide +kernel
theorem dX4_commit_22 : decode cX4_commit 22 = .ok (.ldc 106, 2) := by decide +kernel
theorem dX4_commit_24 : decode cX4_commit 24 = .ok (.invokespecial 86, 3) := by decide +kernel
theorem dX4_commit_27 : decode cX4_commit 27 = .ok (.athrow, 1) := by decide +kernel
theorem dX4_commit_28 : decode cX4_commit 28 = .ok (.aload_n 0, 1) := by decide +kernel
theorem dX4_commit_29 : decode cX4_commit 29 = .ok (.invokevirtual 108, 3) := by decide +kernel
theorem dX4_commit_32 : decode cX4_commit 32 = .ok (.ireturn, 1) := by decide +kernel
set_option maxRecDepth 20000 in
theorem ggX4_train_X4_requirePlace : GoodIn wsX4_train wsX4_requirePlace := goodIn_ca (goodIn_r _ [7, 8, 9, 10] (by decide +kernel) (by decide +kernel)) (goodIn_sub (fun _ h => List.mem_cons_of_mem _ (List.mem_append_right _ h)) (by decide +kernel))
set_option maxRecDepth 20000 in
theorem gX4_train_X4_requirePlace : GoodIn wsX4_train (va_wsS RX4 75 yX4_requirePlace wsX4_requirePlace) := goodIn_app (goodIn_of _ (by decide +kernel)) ggX4_train_X4_requirePlace
set_option maxRecDepth 20000 in
theorem ggX4_train_X4_launch : GoodIn wsX4_train wsX4_launch := goodIn_r _ [14, 3, 15, 16, 17, 18, 19, 20, 21, 22, 23, 24, 25, 26, 27, 28, 29, 30, 6, 31, 32, 33, 34, 35, 36, 37, 38, 39, 40, 41, 42, 43, 44, 45, 46, 47, 48, 49, 50, 51, 52, 53, 54, 55, 56, 57, 58, 59, 60, 61, 62, 63, 64, 65, 66, 67, 68, 69, 70, 71, 72, 73, 74, 75, 76, 77, 158, 159, 160, 161, 162, 163, 164, 165, 166, 167, 168, 169, 170, 171, 172, 173, 174, 175, 176, 177, 178, 179, 180, 181, 182, 183, 184, 185, 186, 187, 188] (by decide +kernel) (by decide +kernel)
set_option maxRecDepth 20000 in
theorem gX4_train_X4_launch : GoodIn wsX4_train (wsV RX4 87 RX4 yX4_launch wsX4_launch) := goodIn_app (goodIn_of _ (by decide +kernel)) ggX4_train_X4_launch
set_option maxRecDepth 20000 in
theorem ggX4_train_X4_settle : GoodIn wsX4_train wsX4_settle := goodIn_r _ [81, 27, 16, 18, 17, 28, 29, 30, 6, 31, 32, 33, 73, 74, 75, 76, 77, 82, 83, 84, 85, 3, 86, 174, 175, 176, 177, 178, 179, 180, 181, 182, 158, 159, 160, 161, 162, 163, 164, 165, 166, 167, 168, 169, 170, 171, 172, 173] (by decide +kernel) (by decide +kernel)
set_option maxRecDepth 20000 in
theorem gX4_train_X4_settle : GoodIn wsX4_train (wsV RX4 102 RX4 yX4_settle wsX4_settle) := goodIn_app (goodIn_of _ (by decide +kernel)) ggX4_train_X4_settle
set_option maxRecDepth 20000 in
theorem ggX4_train_X4_retire : GoodIn wsX4_train wsX4_retire := goodIn_r _ [90, 19, 91, 20, 15, 21, 92, 22, 93, 33, 3, 16, 28, 29, 30, 6, 31, 32, 66, 67, 68, 69, 70, 71, 72, 94, 95, 96, 97, 98, 99, 100, 101, 102, 103, 104, 105, 106, 107, 108, 109, 23, 24, 25, 110, 111, 112, 37, 113, 114, 115, 116, 117, 118, 119, 120, 48, 44, 45, 46, 47, 121, 122, 123, 40, 41, 42, 43, 124, 125, 126, 127, 128, 129, 130, 131, 132, 133, 134, 135, 53, 56, 57, 58, 59, 60, 136, 137, 138, 139, 140, 141, 142, 143, 144, 145, 146, 147, 148, 149, 54, 150, 151, 152, 153, 154, 155, 156, 157, 158, 159, 160, 161, 162, 163, 164, 165, 166, 167, 168, 169, 170, 171, 172, 173, 174, 175, 176, 177, 178, 179, 180, 181, 182, 183, 184, 189, 190, 191, 185, 186, 187, 188] (by decide +kernel) (by decide +kernel)
set_option maxRecDepth 20000 in
theorem gX4_train_X4_retire : GoodIn wsX4_train (wsV RX4 108 RX4 yX4_retire wsX4_retire) := goodIn_app (goodIn_of _ (by decide +kernel)) ggX4_train_X4_retire
theorem dX4_train_0 : decode cX4_train 0 = .ok (.iload_n 1, 1) := by decide +kernel
theorem dX4_train_1 : decode cX4_train 1 = .ok (.invokestatic 75, 3) := by decide +kernel
theorem dX4_train_4 : decode cX4_train 4 = .ok (.aload_n 0, 1) := by decide +kernel
theorem dX4_train_5 : decode cX4_train 5 = .ok (.getfield 79, 3) := by decide +kernel
theorem dX4_train_8 : decode cX4_train 8 = .ok (.ifCond .eq 13, 3) := by decide +kernel
theorem dX4_train_11 : decode cX4_train 11 = .ok (.new 82, 3) := by decide +kernel
theorem dX4_train_14 : decode cX4_train 14 = .ok (.dup, 1) := by decide +kernel
theorem dX4_train_15 : decode cX4_train 15 = .ok (.ldc 112, 2) := by decide +kernel
theorem dX4_train_17 : decode cX4_train 17 = .ok (.invokespecial 86, 3) := by decide +kernel
theorem dX4_train_20 : decode cX4_train 20 = .ok (.athrow, 1) := by decide +kernel
theorem dX4_train_21 : decode cX4_train 21 = .ok (.aload_n 0, 1) := by decide +kernel
theorem dX4_train_22 : decode cX4_train 22 = .ok (.iload_n 1, 1) := by decide +kernel
theorem dX4_train_23 : decode cX4_train 23 = .ok (.invokevirtual 87, 3) := by decide +kernel
theorem dX4_train_26 : decode cX4_train 26 = .ok (.pop, 1) := by decide +kernel
theorem dX4_train_27 : decode cX4_train 27 = .ok (.aload_n 0, 1) := by decide +kernel
theorem dX4_train_28 : decode cX4_train 28 = .ok (.iconst 0, 1) := by decide +kernel
theorem dX4_train_29 : decode cX4_train 29 = .ok (.iload_n 2, 1) := by decide +kernel
theorem dX4_train_30 : decode cX4_train 30 = .ok (.invokevirtual 102, 3) := by decide +kernel
theorem dX4_train_33 : decode cX4_train 33 = .ok (.pop, 1) := by decide +kernel
theorem dX4_train_34 : decode cX4_train 34 = .ok (.aload_n 0, 1) := by decide +kernel
theorem dX4_train_35 : decode cX4_train 35 = .ok (.invokevirtual 108, 3) := by decide +kernel
theorem dX4_train_38 : decode cX4_train 38 = .ok (.ifCond .ne 7, 3) := by decide +kernel
theorem dX4_train_41 : decode cX4_train 41 = .ok (.iconst 1, 1) := by decide +kernel
theorem dX4_train_42 : decode cX4_train 42 = .ok (.goto 4, 3) := by decide +kernel
theorem dX4_train_45 : decode cX4_train 45 = .ok (.iconst 0, 1) := by decide +kernel
theorem dX4_train_46 : decode cX4_train 46 = .ok (.ireturn, 1) := by decide +kernel
set_option maxRecDepth 20000 in
theorem ggX4_flush_X4_branchAt : GoodIn wsX4_flush wsX4_branchAt := goodIn_r _ [10, 11, 12, 18, 19, 20, 21, 22, 23, 24, 25, 26, 27, 28, 29, 30, 31, 32, 33] (by decide +kernel) (by decide +kernel)
set_option maxRecDepth 20000 in
theorem gX4_flush_X4_branchAt : GoodIn wsX4_flush (wsV RX4 93 RX4 yX4_branchAt wsX4_branchAt) := goodIn_app (goodIn_of _ (by decide +kernel)) ggX4_flush_X4_branchAt
set_option maxRecDepth 20000 in
theorem ggX4_flush_X4_dropFrom : GoodIn wsX4_flush wsX4_dropFrom := goodIn_r _ [16, 3, 17, 18, 19, 20, 21, 22, 23, 24, 25, 26, 27, 28, 29, 30, 31, 32, 33] (by decide +kernel) (by decide +kernel)
set_option maxRecDepth 20000 in
theorem gX4_flush_X4_dropFrom : GoodIn wsX4_flush (wsV RX4 122 RX4 yX4_dropFrom wsX4_dropFrom) := goodIn_app (goodIn_of _ (by decide +kernel)) ggX4_flush_X4_dropFrom
theorem dX4_flush_0 : decode cX4_flush 0 = .ok (.iload_n 1, 1) := by decide +kernel
theorem dX4_flush_1 : decode cX4_flush 1 = .ok (.ifCond .lt 11, 3) := by decide +kernel
theorem dX4_flush_4 : decode cX4_flush 4 = .ok (.iload_n 1, 1) := by decide +kernel
theorem dX4_flush_5 : decode cX4_flush 5 = .ok (.aload_n 0, 1) := by decide +kernel
theorem dX4_flush_6 : decode cX4_flush 6 = .ok (.getfield 79, 3) := by decide +kernel
theorem dX4_flush_9 : decode cX4_flush 9 = .ok (.if_icmp .le 13, 3) := by decide +kernel
theorem dX4_flush_12 : decode cX4_flush 12 = .ok (.new 68, 3) := by decide +kernel
theorem dX4_flush_15 : decode cX4_flush 15 = .ok (.dup, 1) := by decide +kernel
theorem dX4_flush_16 : decode cX4_flush 16 = .ok (.ldc 114, 2) := by decide +kernel
theorem dX4_flush_18 : decode cX4_flush 18 = .ok (.invokespecial 72, 3) := by decide +kernel
theorem dX4_flush_21 : decode cX4_flush 21 = .ok (.athrow, 1) := by decide +kernel
theorem dX4_flush_22 : decode cX4_flush 22 = .ok (.iload_n 1, 1) := by decide +kernel
theorem dX4_flush_23 : decode cX4_flush 23 = .ok (.ifCond .le 28, 3) := by decide +kernel
theorem dX4_flush_26 : decode cX4_flush 26 = .ok (.aload_n 0, 1) := by decide +kernel
theorem dX4_flush_27 : decode cX4_flush 27 = .ok (.getfield 79, 3) := by decide +kernel
theorem dX4_flush_30 : decode cX4_flush 30 = .ok (.iload_n 1, 1) := by decide +kernel
theorem dX4_flush_31 : decode cX4_flush 31 = .ok (.isub, 1) := by decide +kernel
theorem dX4_flush_32 : decode cX4_flush 32 = .ok (.istore_n 2, 1) := by decide +kernel
theorem dX4_flush_33 : decode cX4_flush 33 = .ok (.aload_n 0, 1) := by decide +kernel
theorem dX4_flush_34 : decode cX4_flush 34 = .ok (.aload_n 0, 1) := by decide +kernel
theorem dX4_flush_35 : decode cX4_flush 35 = .ok (.iload_n 2, 1) := by decide +kernel
theorem dX4_flush_36 : decode cX4_flush 36 = .ok (.invokevirtual 93, 3) := by decide +kernel
theorem dX4_flush_39 : decode cX4_flush 39 = .ok (.getfield 116, 3) := by decide +kernel
theorem dX4_flush_42 : decode cX4_flush 42 = .ok (.putfield 119, 3) := by decide +kernel
theorem dX4_flush_45 : decode cX4_flush 45 = .ok (.aload_n 0, 1) := by decide +kernel
theorem dX4_flush_46 : decode cX4_flush 46 = .ok (.iload_n 2, 1) := by decide +kernel
theorem dX4_flush_47 : decode cX4_flush 47 = .ok (.invokevirtual 122, 3) := by decide +kernel
theorem dX4_flush_50 : decode cX4_flush 50 = .ok (.pop, 1) := by decide +kernel
theorem dX4_flush_51 : decode cX4_flush 51 = .ok (.aload_n 0, 1) := by decide +kernel
theorem dX4_flush_52 : decode cX4_flush 52 = .ok (.getfield 79, 3) := by decide +kernel
theorem dX4_flush_55 : decode cX4_flush 55 = .ok (.ireturn, 1) := by decide +kernel
theorem dX4_inFlight_0 : decode cX4_inFlight 0 = .ok (.aload_n 0, 1) := by decide +kernel
theorem dX4_inFlight_1 : decode cX4_inFlight 1 = .ok (.getfield 79, 3) := by decide +kernel
theorem dX4_inFlight_4 : decode cX4_inFlight 4 = .ok (.ireturn, 1) := by decide +kernel
set_option maxRecDepth 20000 in
theorem ggX4_place_X4_requireInFlight : GoodIn wsX4_place wsX4_requireInFlight := goodIn_ca (goodIn_r _ [6, 7, 8, 9, 25, 26, 27, 28, 29, 30, 31, 32, 33, 34, 35, 36, 37, 38, 39, 40] (by decide +kernel) (by decide +kernel)) (goodIn_sub (fun _ h => List.mem_cons_of_mem _ (List.mem_append_right _ h)) (by decide +kernel))
set_option maxRecDepth 20000 in
theorem gX4_place_X4_requireInFlight : GoodIn wsX4_place (wsV RX4 90 RX4 yX4_requireInFlight wsX4_requireInFlight) := goodIn_app (goodIn_of _ (by decide +kernel)) ggX4_place_X4_requireInFlight
set_option maxRecDepth 20000 in
theorem ggX4_place_X4_branchAt : GoodIn wsX4_place wsX4_branchAt := goodIn_r _ [13, 14, 15, 25, 26, 27, 28, 29, 30, 31, 32, 33, 34, 35, 36, 37, 38, 39, 40] (by decide +kernel) (by decide +kernel)
set_option maxRecDepth 20000 in
theorem gX4_place_X4_branchAt : GoodIn wsX4_place (wsV RX4 93 RX4 yX4_branchAt wsX4_branchAt) := goodIn_app (goodIn_of _ (by decide +kernel)) ggX4_place_X4_branchAt
theorem dX4_place_0 : decode cX4_place 0 = .ok (.aload_n 0, 1) := by decide +kernel
theorem dX4_place_1 : decode cX4_place 1 = .ok (.iload_n 1, 1) := by decide +kernel
theorem dX4_place_2 : decode cX4_place 2 = .ok (.invokevirtual 90, 3) := by decide +kernel
theorem dX4_place_5 : decode cX4_place 5 = .ok (.aload_n 0, 1) := by decide +kernel
theorem dX4_place_6 : decode cX4_place 6 = .ok (.iload_n 1, 1) := by decide +kernel
theorem dX4_place_7 : decode cX4_place 7 = .ok (.invokevirtual 93, 3) := by decide +kernel
theorem dX4_place_10 : decode cX4_place 10 = .ok (.getfield 126, 3) := by decide +kernel
theorem dX4_place_13 : decode cX4_place 13 = .ok (.ireturn, 1) := by decide +kernel
set_option maxRecDepth 20000 in
theorem ggX4_state_X4_requireInFlight : GoodIn wsX4_state wsX4_requireInFlight := goodIn_ca (goodIn_r _ [6, 7, 8, 9, 25, 26, 27, 28, 29, 30, 31, 32, 33, 34, 35, 36, 37, 38, 39, 40] (by decide +kernel) (by decide +kernel)) (goodIn_sub (fun _ h => List.mem_cons_of_mem _ (List.mem_append_right _ h)) (by decide +kernel))
set_option maxRecDepth 20000 in
theorem gX4_state_X4_requireInFlight : GoodIn wsX4_state (wsV RX4 90 RX4 yX4_requireInFlight wsX4_requireInFlight) := goodIn_app (goodIn_of _ (by decide +kernel)) ggX4_state_X4_requireInFlight
set_option maxRecDepth 20000 in
theorem ggX4_state_X4_branchAt : GoodIn wsX4_state wsX4_branchAt := goodIn_r _ [13, 14, 15, 25, 26, 27, 28, 29, 30, 31, 32, 33, 34, 35, 36, 37, 38, 39, 40] (by decide +kernel) (by decide +kernel)
set_option maxRecDepth 20000 in
theorem gX4_state_X4_branchAt : GoodIn wsX4_state (wsV RX4 93 RX4 yX4_branchAt wsX4_branchAt) := goodIn_app (goodIn_of _ (by decide +kernel)) ggX4_state_X4_branchAt
theorem dX4_state_0 : decode cX4_state 0 = .ok (.aload_n 0, 1) := by decide +kernel
theorem dX4_state_1 : decode cX4_state 1 = .ok (.iload_n 1, 1) := by decide +kernel
theorem dX4_state_2 : decode cX4_state 2 = .ok (.invokevirtual 90, 3) := by decide +kernel
theorem dX4_state_5 : decode cX4_state 5 = .ok (.aload_n 0, 1) := by decide +kernel
theorem dX4_state_6 : decode cX4_state 6 = .ok (.iload_n 1, 1) := by decide +kernel
theorem dX4_state_7 : decode cX4_state 7 = .ok (.invokevirtual 93, 3) := by decide +kernel
theorem dX4_state_10 : decode cX4_state 10 = .ok (.getfield 97, 3) := by decide +kernel
theorem dX4_state_13 : decode cX4_state 13 = .ok (.ireturn, 1) := by decide +kernel
set_option maxRecDepth 20000 in
theorem ggX4_predicted_X4_requireInFlight : GoodIn wsX4_predicted wsX4_requireInFlight := goodIn_ca (goodIn_r _ [5, 6, 7, 8, 27, 28, 29, 30, 31, 32, 33, 34, 35, 36, 37, 38, 39, 40, 41, 42] (by decide +kernel) (by decide +kernel)) (goodIn_sub (fun _ h => List.mem_cons_of_mem _ (List.mem_append_right _ h)) (by decide +kernel))
set_option maxRecDepth 20000 in
theorem gX4_predicted_X4_requireInFlight : GoodIn wsX4_predicted (wsV RX4 90 RX4 yX4_requireInFlight wsX4_requireInFlight) := goodIn_app (goodIn_of _ (by decide +kernel)) ggX4_predicted_X4_requireInFlight
set_option maxRecDepth 20000 in
theorem ggX4_predicted_X4_requireKind : GoodIn wsX4_predicted wsX4_requireKind := goodIn_ca (goodIn_r _ [11, 6, 7] (by decide +kernel) (by decide +kernel)) (goodIn_sub (fun _ h => List.mem_cons_of_mem _ (List.mem_append_right _ h)) (by decide +kernel))
set_option maxRecDepth 20000 in
theorem gX4_predicted_X4_requireKind : GoodIn wsX4_predicted (va_wsS RX4 129 yX4_requireKind wsX4_requireKind) := goodIn_app (goodIn_of _ (by decide +kernel)) ggX4_predicted_X4_requireKind
set_option maxRecDepth 20000 in
theorem ggX4_predicted_X4_branchAt : GoodIn wsX4_predicted wsX4_branchAt := goodIn_r _ [15, 16, 17, 27, 28, 29, 30, 31, 32, 33, 34, 35, 36, 37, 38, 39, 40, 41, 42] (by decide +kernel) (by decide +kernel)
set_option maxRecDepth 20000 in
theorem gX4_predicted_X4_branchAt : GoodIn wsX4_predicted (wsV RX4 93 RX4 yX4_branchAt wsX4_branchAt) := goodIn_app (goodIn_of _ (by decide +kernel)) ggX4_predicted_X4_branchAt
set_option maxRecDepth 20000 in
theorem ggX4_predicted_X1_saidTaken : GoodIn wsX4_predicted wsX1_saidTaken := goodIn_r _ [22, 23, 24, 25, 26, 43, 44, 45, 46, 47, 48, 49, 50, 51] (by decide +kernel) (by decide +kernel)
set_option maxRecDepth 20000 in
theorem gX4_predicted_X1_saidTaken : GoodIn wsX4_predicted (wsV RX4 132 RX1 yX1_saidTaken wsX1_saidTaken) := goodIn_app (goodIn_of _ (by decide +kernel)) ggX4_predicted_X1_saidTaken
theorem dX4_predicted_0 : decode cX4_predicted 0 = .ok (.aload_n 0, 1) := by decide +kernel
theorem dX4_predicted_1 : decode cX4_predicted 1 = .ok (.iload_n 1, 1) := by decide +kernel
theorem dX4_predicted_2 : decode cX4_predicted 2 = .ok (.invokevirtual 90, 3) := by decide +kernel
theorem dX4_predicted_5 : decode cX4_predicted 5 = .ok (.iload_n 2, 1) := by decide +kernel
theorem dX4_predicted_6 : decode cX4_predicted 6 = .ok (.invokestatic 129, 3) := by decide +kernel
theorem dX4_predicted_9 : decode cX4_predicted 9 = .ok (.aload_n 0, 1) := by decide +kernel
theorem dX4_predicted_10 : decode cX4_predicted 10 = .ok (.iload_n 1, 1) := by decide +kernel
theorem dX4_predicted_11 : decode cX4_predicted 11 = .ok (.invokevirtual 93, 3) := by decide +kernel
theorem dX4_predicted_14 : decode cX4_predicted 14 = .ok (.iload_n 2, 1) := by decide +kernel
theorem dX4_predicted_15 : decode cX4_predicted 15 = .ok (.invokevirtual 132, 3) := by decide +kernel
theorem dX4_predicted_18 : decode cX4_predicted 18 = .ok (.ireturn, 1) := by decide +kernel
theorem dX4_history_0 : decode cX4_history 0 = .ok (.aload_n 0, 1) := by decide +kernel
theorem dX4_history_1 : decode cX4_history 1 = .ok (.getfield 119, 3) := by decide +kernel
theorem dX4_history_4 : decode cX4_history 4 = .ok (.ireturn, 1) := by decide +kernel
set_option maxRecDepth 20000 in
theorem ggX4_counter_X4_tableWith : GoodIn wsX4_counter wsX4_tableWith := goodIn_r _ [8, 9, 10, 11, 20, 21, 22, 23, 24, 25, 26, 27, 28, 29, 30, 31, 32, 33, 34, 35] (by decide +kernel) (by decide +kernel)
set_option maxRecDepth 20000 in
theorem gX4_counter_X4_tableWith : GoodIn wsX4_counter (wsV RX4 140 RX4 yX4_tableWith wsX4_tableWith) := goodIn_app (goodIn_of _ (by decide +kernel)) ggX4_counter_X4_tableWith
set_option maxRecDepth 20000 in
theorem ggX4_counter_X2_valueAt : GoodIn wsX4_counter wsX2_valueAt := goodIn_r _ [16, 17, 18, 19] (by decide +kernel) (by decide +kernel)
set_option maxRecDepth 20000 in
theorem gX4_counter_X2_valueAt : GoodIn wsX4_counter (wsV RX4 149 RX2 yX2_valueAt wsX2_valueAt) := goodIn_app (goodIn_of _ (by decide +kernel)) ggX4_counter_X2_valueAt
theorem dX4_counter_0 : decode cX4_counter 0 = .ok (.iload_n 1, 1) := by decide +kernel
theorem dX4_counter_1 : decode cX4_counter 1 = .ok (.ifCond .lt 8, 3) := by decide +kernel
theorem dX4_counter_4 : decode cX4_counter 4 = .ok (.iload_n 1, 1) := by decide +kernel
theorem dX4_counter_5 : decode cX4_counter 5 = .ok (.iconst 2, 1) := by decide +kernel
theorem dX4_counter_6 : decode cX4_counter 6 = .ok (.if_icmp .le 13, 3) := by decide +kernel
theorem dX4_counter_9 : decode cX4_counter 9 = .ok (.new 135, 3) := by decide +kernel
theorem dX4_counter_12 : decode cX4_counter 12 = .ok (.dup, 1) := by decide +kernel
theorem dX4_counter_13 : decode cX4_counter 13 = .ok (.ldc 137, 2) := by decide +kernel
theorem dX4_counter_15 : decode cX4_counter 15 = .ok (.invokespecial 139, 3) := by decide +kernel
theorem dX4_counter_18 : decode cX4_counter 18 = .ok (.athrow, 1) := by decide +kernel
theorem dX4_counter_19 : decode cX4_counter 19 = .ok (.aload_n 0, 1) := by decide +kernel
theorem dX4_counter_20 : decode cX4_counter 20 = .ok (.iload_n 1, 1) := by decide +kernel
theorem dX4_counter_21 : decode cX4_counter 21 = .ok (.invokevirtual 140, 3) := by decide +kernel
theorem dX4_counter_24 : decode cX4_counter 24 = .ok (.astore_n 3, 1) := by decide +kernel
theorem dX4_counter_25 : decode cX4_counter 25 = .ok (.iload_n 2, 1) := by decide +kernel
theorem dX4_counter_26 : decode cX4_counter 26 = .ok (.ifCond .lt 11, 3) := by decide +kernel
theorem dX4_counter_29 : decode cX4_counter 29 = .ok (.iload_n 2, 1) := by decide +kernel
theorem dX4_counter_30 : decode cX4_counter 30 = .ok (.aload_n 3, 1) := by decide +kernel
theorem dX4_counter_31 : decode cX4_counter 31 = .ok (.getfield 144, 3) := by decide +kernel
theorem dX4_counter_34 : decode cX4_counter 34 = .ok (.if_icmp .lt 13, 3) := by decide +kernel
theorem dX4_counter_37 : decode cX4_counter 37 = .ok (.new 135, 3) := by decide +kernel
theorem dX4_counter_40 : decode cX4_counter 40 = .ok (.dup, 1) := by decide +kernel
theorem dX4_counter_41 : decode cX4_counter 41 = .ok (.ldc 147, 2) := by decide +kernel
theorem dX4_counter_43 : decode cX4_counter 43 = .ok (.invokespecial 139, 3) := by decide +kernel
theorem dX4_counter_46 : decode cX4_counter 46 = .ok (.athrow, 1) := by decide +kernel
theorem dX4_counter_47 : decode cX4_counter 47 = .ok (.aload_n 3, 1) := by decide +kernel
theorem dX4_counter_48 : decode cX4_counter 48 = .ok (.iload_n 2, 1) := by decide +kernel
theorem dX4_counter_49 : decode cX4_counter 49 = .ok (.invokevirtual 149, 3) := by decide +kernel
theorem dX4_counter_52 : decode cX4_counter 52 = .ok (.ireturn, 1) := by decide +kernel
set_option maxRecDepth 20000 in
theorem ggX4_loop_X3_isFree : GoodIn wsX4_loop wsX3_isFree := goodIn_r _ [12, 13, 50, 51, 52, 53] (by decide +kernel) (by decide +kernel)
set_option maxRecDepth 20000 in
theorem gX4_loop_X3_isFree : GoodIn wsX4_loop (wsV RX4 154 RX3 yX3_isFree wsX3_isFree) := goodIn_app (goodIn_of _ (by decide +kernel)) ggX4_loop_X3_isFree
set_option maxRecDepth 20000 in
theorem ggX4_loop_X4_presumedCount : GoodIn wsX4_loop wsX4_presumedCount := goodIn_r _ [18, 5, 19, 20, 4, 21, 22, 23, 17, 24, 25, 26, 27, 28, 29, 30, 31, 32, 33, 50, 51, 52, 53, 34, 35, 36, 37, 38, 39, 40, 41, 42, 43, 44, 45, 46, 47, 48, 49, 54, 55, 56, 57, 58, 59, 60, 61, 62] (by decide +kernel) (by decide +kernel)
set_option maxRecDepth 20000 in
theorem gX4_loop_X4_presumedCount : GoodIn wsX4_loop (wsV RX4 167 RX4 yX4_presumedCount wsX4_presumedCount) := goodIn_app (goodIn_of _ (by decide +kernel)) ggX4_loop_X4_presumedCount
theorem dX4_loop_0 : decode cX4_loop 0 = .ok (.iload_n 1, 1) := by decide +kernel
theorem dX4_loop_1 : decode cX4_loop 1 = .ok (.ifCond .lt 18, 3) := by decide +kernel
theorem dX4_loop_4 : decode cX4_loop 4 = .ok (.iload_n 1, 1) := by decide +kernel
theorem dX4_loop_5 : decode cX4_loop 5 = .ok (.bipush 8, 2) := by decide +kernel
theorem dX4_loop_7 : decode cX4_loop 7 = .ok (.if_icmp .ge 12, 3) := by decide +kernel
theorem dX4_loop_10 : decode cX4_loop 10 = .ok (.iload_n 2, 1) := by decide +kernel
theorem dX4_loop_11 : decode cX4_loop 11 = .ok (.ifCond .lt 8, 3) := by decide +kernel
theorem dX4_loop_14 : decode cX4_loop 14 = .ok (.iload_n 2, 1) := by decide +kernel
theorem dX4_loop_15 : decode cX4_loop 15 = .ok (.iconst 4, 1) := by decide +kernel
theorem dX4_loop_16 : decode cX4_loop 16 = .ok (.if_icmp .le 13, 3) := by decide +kernel
theorem dX4_loop_19 : decode cX4_loop 19 = .ok (.new 135, 3) := by decide +kernel
theorem dX4_loop_22 : decode cX4_loop 22 = .ok (.dup, 1) := by decide +kernel
theorem dX4_loop_23 : decode cX4_loop 23 = .ok (.ldc 152, 2) := by decide +kernel
theorem dX4_loop_25 : decode cX4_loop 25 = .ok (.invokespecial 139, 3) := by decide +kernel
theorem dX4_loop_28 : decode cX4_loop 28 = .ok (.athrow, 1) := by decide +kernel
theorem dX4_loop_29 : decode cX4_loop 29 = .ok (.aload_n 0, 1) := by decide +kernel
theorem dX4_loop_30 : decode cX4_loop 30 = .ok (.getfield 40, 3) := by decide +kernel
theorem dX4_loop_33 : decode cX4_loop 33 = .ok (.iload_n 1, 1) := by decide +kernel
theorem dX4_loop_34 : decode cX4_loop 34 = .ok (.aaload, 1) := by decide +kernel
theorem dX4_loop_35 : decode cX4_loop 35 = .ok (.astore_n 3, 1) := by decide +kernel
theorem dX4_loop_36 : decode cX4_loop 36 = .ok (.aload_n 3, 1) := by decide +kernel
theorem dX4_loop_37 : decode cX4_loop 37 = .ok (.invokevirtual 154, 3) := by decide +kernel
theorem dX4_loop_40 : decode cX4_loop 40 = .ok (.ifCond .eq 5, 3) := by decide +kernel
theorem dX4_loop_43 : decode cX4_loop 43 = .ok (.iconst (-1), 1) := by decide +kernel
theorem dX4_loop_44 : decode cX4_loop 44 = .ok (.ireturn, 1) := by decide +kernel
theorem dX4_loop_45 : decode cX4_loop 45 = .ok (.iload_n 2, 1) := by decide +kernel
theorem dX4_loop_46 : decode cX4_loop 46 = .ok (.tableswitch 50 0 3 #[30, 35, 40, 45], 30) := by decide +kernel
theorem dX4_loop_76 : decode cX4_loop 76 = .ok (.aload_n 3, 1) := by decide +kernel
theorem dX4_loop_77 : decode cX4_loop 77 = .ok (.getfield 157, 3) := by decide +kernel
theorem dX4_loop_80 : decode cX4_loop 80 = .ok (.ireturn, 1) := by decide +kernel
theorem dX4_loop_81 : decode cX4_loop 81 = .ok (.aload_n 3, 1) := by decide +kernel
theorem dX4_loop_82 : decode cX4_loop 82 = .ok (.getfield 158, 3) := by decide +kernel
theorem dX4_loop_85 : decode cX4_loop 85 = .ok (.ireturn, 1) := by decide +kernel
theorem dX4_loop_86 : decode cX4_loop 86 = .ok (.aload_n 3, 1) := by decide +kernel
theorem dX4_loop_87 : decode cX4_loop 87 = .ok (.getfield 161, 3) := by decide +kernel
theorem dX4_loop_90 : decode cX4_loop 90 = .ok (.ireturn, 1) := by decide +kernel
theorem dX4_loop_91 : decode cX4_loop 91 = .ok (.aload_n 3, 1) := by decide +kernel
theorem dX4_loop_92 : decode cX4_loop 92 = .ok (.getfield 164, 3) := by decide +kernel
theorem dX4_loop_95 : decode cX4_loop 95 = .ok (.ireturn, 1) := by decide +kernel
theorem dX4_loop_96 : decode cX4_loop 96 = .ok (.aload_n 0, 1) := by decide +kernel
theorem dX4_loop_97 : decode cX4_loop 97 = .ok (.aload_n 3, 1) := by decide +kernel
theorem dX4_loop_98 : decode cX4_loop 98 = .ok (.invokevirtual 167, 3) := by decide +kernel
theorem dX4_loop_101 : decode cX4_loop 101 = .ok (.ireturn, 1) := by decide +kernel
theorem dX4_commits_0 : decode cX4_commits 0 = .ok (.aload_n 0, 1) := by decide +kernel
theorem dX4_commits_1 : decode cX4_commits 1 = .ok (.getfield 171, 3) := by decide +kernel
theorem dX4_commits_4 : decode cX4_commits 4 = .ok (.lreturn, 1) := by decide +kernel
set_option maxRecDepth 20000 in
theorem ggX4_misses_X4_requireKind : GoodIn wsX4_misses wsX4_requireKind := goodIn_ca (goodIn_r _ [5, 6, 7] (by decide +kernel) (by decide +kernel)) (goodIn_sub (fun _ h => List.mem_cons_of_mem _ (List.mem_append_right _ h)) (by decide +kernel))
set_option maxRecDepth 20000 in
theorem gX4_misses_X4_requireKind : GoodIn wsX4_misses (va_wsS RX4 129 yX4_requireKind wsX4_requireKind) := goodIn_app (goodIn_of _ (by decide +kernel)) ggX4_misses_X4_requireKind
theorem dX4_misses_0 : decode cX4_misses 0 = .ok (.iload_n 1, 1) := by decide +kernel
theorem dX4_misses_1 : decode cX4_misses 1 = .ok (.invokestatic 129, 3) := by decide +kernel
theorem dX4_misses_4 : decode cX4_misses 4 = .ok (.aload_n 0, 1) := by decide +kernel
theorem dX4_misses_5 : decode cX4_misses 5 = .ok (.getfield 44, 3) := by decide +kernel
theorem dX4_misses_8 : decode cX4_misses 8 = .ok (.iload_n 1, 1) := by decide +kernel
theorem dX4_misses_9 : decode cX4_misses 9 = .ok (.laload, 1) := by decide +kernel
theorem dX4_misses_10 : decode cX4_misses 10 = .ok (.lreturn, 1) := by decide +kernel
theorem dX4_drops_0 : decode cX4_drops 0 = .ok (.aload_n 0, 1) := by decide +kernel
theorem dX4_drops_1 : decode cX4_drops 1 = .ok (.getfield 175, 3) := by decide +kernel
theorem dX4_drops_4 : decode cX4_drops 4 = .ok (.lreturn, 1) := by decide +kernel
theorem dX4_meetings_0 : decode cX4_meetings 0 = .ok (.iload_n 1, 1) := by decide +kernel
theorem dX4_meetings_1 : decode cX4_meetings 1 = .ok (.ifCond .eq 18, 3) := by decide +kernel
theorem dX4_meetings_4 : decode cX4_meetings 4 = .ok (.iload_n 1, 1) := by decide +kernel
theorem dX4_meetings_5 : decode cX4_meetings 5 = .ok (.iconst 1, 1) := by decide +kernel
theorem dX4_meetings_6 : decode cX4_meetings 6 = .ok (.if_icmp .eq 13, 3) := by decide +kernel
theorem dX4_meetings_9 : decode cX4_meetings 9 = .ok (.new 135, 3) := by decide +kernel
theorem dX4_meetings_12 : decode cX4_meetings 12 = .ok (.dup, 1) := by decide +kernel
theorem dX4_meetings_13 : decode cX4_meetings 13 = .ok (.ldc 178, 2) := by decide +kernel
theorem dX4_meetings_15 : decode cX4_meetings 15 = .ok (.invokespecial 139, 3) := by decide +kernel
theorem dX4_meetings_18 : decode cX4_meetings 18 = .ok (.athrow, 1) := by decide +kernel
theorem dX4_meetings_19 : decode cX4_meetings 19 = .ok (.iload_n 1, 1) := by decide +kernel
theorem dX4_meetings_20 : decode cX4_meetings 20 = .ok (.ifCond .ne 10, 3) := by decide +kernel
theorem dX4_meetings_23 : decode cX4_meetings 23 = .ok (.aload_n 0, 1) := by decide +kernel
theorem dX4_meetings_24 : decode cX4_meetings 24 = .ok (.getfield 25, 3) := by decide +kernel
theorem dX4_meetings_27 : decode cX4_meetings 27 = .ok (.goto 7, 3) := by decide +kernel
theorem dX4_meetings_30 : decode cX4_meetings 30 = .ok (.aload_n 0, 1) := by decide +kernel
theorem dX4_meetings_31 : decode cX4_meetings 31 = .ok (.getfield 29, 3) := by decide +kernel
theorem dX4_meetings_34 : decode cX4_meetings 34 = .ok (.astore_n 3, 1) := by decide +kernel
theorem dX4_meetings_35 : decode cX4_meetings 35 = .ok (.iload_n 2, 1) := by decide +kernel
theorem dX4_meetings_36 : decode cX4_meetings 36 = .ok (.ifCond .eq 10, 3) := by decide +kernel
theorem dX4_meetings_39 : decode cX4_meetings 39 = .ok (.aload_n 3, 1) := by decide +kernel
theorem dX4_meetings_40 : decode cX4_meetings 40 = .ok (.getfield 180, 3) := by decide +kernel
theorem dX4_meetings_43 : decode cX4_meetings 43 = .ok (.goto 7, 3) := by decide +kernel
theorem dX4_meetings_46 : decode cX4_meetings 46 = .ok (.aload_n 3, 1) := by decide +kernel
theorem dX4_meetings_47 : decode cX4_meetings 47 = .ok (.getfield 183, 3) := by decide +kernel
theorem dX4_meetings_50 : decode cX4_meetings 50 = .ok (.lreturn, 1) := by decide +kernel
theorem dX4_accuracy_0 : decode cX4_accuracy 0 = .ok (.aload_n 0, 1) := by decide +kernel
theorem dX4_accuracy_1 : decode cX4_accuracy 1 = .ok (.getfield 171, 3) := by decide +kernel
theorem dX4_accuracy_4 : decode cX4_accuracy 4 = .ok (.lconst 0, 1) := by decide +kernel
theorem dX4_accuracy_5 : decode cX4_accuracy 5 = .ok (.lcmp, 1) := by decide +kernel
theorem dX4_accuracy_6 : decode cX4_accuracy 6 = .ok (.ifCond .ne 5, 3) := by decide +kernel
theorem dX4_accuracy_9 : decode cX4_accuracy 9 = .ok (.dconst 1, 1) := by decide +kernel
theorem dX4_accuracy_10 : decode cX4_accuracy 10 = .ok (.dreturn, 1) := by decide +kernel
theorem dX4_accuracy_11 : decode cX4_accuracy 11 = .ok (.aload_n 0, 1) := by decide +kernel
theorem dX4_accuracy_12 : decode cX4_accuracy 12 = .ok (.getfield 171, 3) := by decide +kernel
theorem dX4_accuracy_15 : decode cX4_accuracy 15 = .ok (.aload_n 0, 1) := by decide +kernel
theorem dX4_accuracy_16 : decode cX4_accuracy 16 = .ok (.getfield 44, 3) := by decide +kernel
theorem dX4_accuracy_19 : decode cX4_accuracy 19 = .ok (.iconst 3, 1) := by decide +kernel
theorem dX4_accuracy_20 : decode cX4_accuracy 20 = .ok (.laload, 1) := by decide +kernel
theorem dX4_accuracy_21 : decode cX4_accuracy 21 = .ok (.lsub, 1) := by decide +kernel
theorem dX4_accuracy_22 : decode cX4_accuracy 22 = .ok (.lstore_n 1, 1) := by decide +kernel
theorem dX4_accuracy_23 : decode cX4_accuracy 23 = .ok (.lload_n 1, 1) := by decide +kernel
theorem dX4_accuracy_24 : decode cX4_accuracy 24 = .ok (.l2d, 1) := by decide +kernel
theorem dX4_accuracy_25 : decode cX4_accuracy 25 = .ok (.aload_n 0, 1) := by decide +kernel
theorem dX4_accuracy_26 : decode cX4_accuracy 26 = .ok (.getfield 171, 3) := by decide +kernel
theorem dX4_accuracy_29 : decode cX4_accuracy 29 = .ok (.l2d, 1) := by decide +kernel
theorem dX4_accuracy_30 : decode cX4_accuracy 30 = .ok (.ddiv, 1) := by decide +kernel
theorem dX4_accuracy_31 : decode cX4_accuracy 31 = .ok (.dreturn, 1) := by decide +kernel
set_option maxRecDepth 20000 in
theorem ggX4_digest_X4_mix : GoodIn wsX4_digest wsX4_mix := goodIn_r _ [21, 22] (by decide +kernel) (by decide +kernel)
set_option maxRecDepth 20000 in
theorem gX4_digest_X4_mix : GoodIn wsX4_digest (va_wsS RX4 188 yX4_mix wsX4_mix) := goodIn_app (goodIn_of _ (by decide +kernel)) ggX4_digest_X4_mix
set_option maxRecDepth 20000 in
theorem ggX4_digest_X2_mixInto : GoodIn wsX4_digest wsX2_mixInto := goodIn_r _ [27, 28, 29, 19, 20, 21, 22, 78, 79] (by decide +kernel) (by decide +kernel)
set_option maxRecDepth 20000 in
theorem gX4_digest_X2_mixInto : GoodIn wsX4_digest (wsV RX4 192 RX2 yX2_mixInto wsX2_mixInto) := goodIn_app (goodIn_of _ (by decide +kernel)) ggX4_digest_X2_mixInto
set_option maxRecDepth 20000 in
theorem ggX4_digest_X3_mixInto : GoodIn wsX4_digest wsX3_mixInto := goodIn_r _ [34, 35, 36, 37, 38, 39, 40, 41, 42, 33, 43, 19, 20, 21, 22, 80, 81, 82, 83] (by decide +kernel) (by decide +kernel)
set_option maxRecDepth 20000 in
theorem gX4_digest_X3_mixInto : GoodIn wsX4_digest (wsV RX4 196 RX3 yX3_mixInto wsX3_mixInto) := goodIn_app (goodIn_of _ (by decide +kernel)) ggX4_digest_X3_mixInto
set_option maxRecDepth 20000 in
theorem ggX4_digest_X4_branchAt : GoodIn wsX4_digest wsX4_branchAt := goodIn_r _ [47, 48, 49, 50, 51, 52, 53, 54, 55, 56, 57, 58, 59, 60, 61, 62, 63, 64, 65] (by decide +kernel) (by decide +kernel)
set_option maxRecDepth 20000 in
theorem gX4_digest_X4_branchAt : GoodIn wsX4_digest (wsV RX4 93 RX4 yX4_branchAt wsX4_branchAt) := goodIn_app (goodIn_of _ (by decide +kernel)) ggX4_digest_X4_branchAt
theorem dX4_digest_0 : decode cX4_digest 0 = .ok (.ldc2_w 186, 3) := by decide +kernel
theorem dX4_digest_3 : decode cX4_digest 3 = .ok (.lstore_n 1, 1) := by decide +kernel
theorem dX4_digest_4 : decode cX4_digest 4 = .ok (.lload_n 1, 1) := by decide +kernel
theorem dX4_digest_5 : decode cX4_digest 5 = .ok (.aload_n 0, 1) := by decide +kernel
theorem dX4_digest_6 : decode cX4_digest 6 = .ok (.getfield 48, 3) := by decide +kernel
theorem dX4_digest_9 : decode cX4_digest 9 = .ok (.i2l, 1) := by decide +kernel
theorem dX4_digest_10 : decode cX4_digest 10 = .ok (.invokestatic 188, 3) := by decide +kernel
theorem dX4_digest_13 : decode cX4_digest 13 = .ok (.lstore_n 1, 1) := by decide +kernel
theorem dX4_digest_14 : decode cX4_digest 14 = .ok (.lload_n 1, 1) := by decide +kernel
theorem dX4_digest_15 : decode cX4_digest 15 = .ok (.aload_n 0, 1) := by decide +kernel
theorem dX4_digest_16 : decode cX4_digest 16 = .ok (.getfield 52, 3) := by decide +kernel
theorem dX4_digest_19 : decode cX4_digest 19 = .ok (.i2l, 1) := by decide +kernel
theorem dX4_digest_20 : decode cX4_digest 20 = .ok (.invokestatic 188, 3) := by decide +kernel
theorem dX4_digest_23 : decode cX4_digest 23 = .ok (.lstore_n 1, 1) := by decide +kernel
theorem dX4_digest_24 : decode cX4_digest 24 = .ok (.lload_n 1, 1) := by decide +kernel
theorem dX4_digest_25 : decode cX4_digest 25 = .ok (.aload_n 0, 1) := by decide +kernel
theorem dX4_digest_26 : decode cX4_digest 26 = .ok (.getfield 55, 3) := by decide +kernel
theorem dX4_digest_29 : decode cX4_digest 29 = .ok (.i2l, 1) := by decide +kernel
theorem dX4_digest_30 : decode cX4_digest 30 = .ok (.invokestatic 188, 3) := by decide +kernel
theorem dX4_digest_33 : decode cX4_digest 33 = .ok (.lstore_n 1, 1) := by decide +kernel
theorem dX4_digest_34 : decode cX4_digest 34 = .ok (.lload_n 1, 1) := by decide +kernel
theorem dX4_digest_35 : decode cX4_digest 35 = .ok (.aload_n 0, 1) := by decide +kernel
theorem dX4_digest_36 : decode cX4_digest 36 = .ok (.getfield 119, 3) := by decide +kernel
theorem dX4_digest_39 : decode cX4_digest 39 = .ok (.i2l, 1) := by decide +kernel
theorem dX4_digest_40 : decode cX4_digest 40 = .ok (.invokestatic 188, 3) := by decide +kernel
theorem dX4_digest_43 : decode cX4_digest 43 = .ok (.lstore_n 1, 1) := by decide +kernel
theorem dX4_digest_44 : decode cX4_digest 44 = .ok (.aload_n 0, 1) := by decide +kernel
theorem dX4_digest_45 : decode cX4_digest 45 = .ok (.getfield 12, 3) := by decide +kernel
theorem dX4_digest_48 : decode cX4_digest 48 = .ok (.lload_n 1, 1) := by decide +kernel
theorem dX4_digest_49 : decode cX4_digest 49 = .ok (.invokevirtual 192, 3) := by decide +kernel
theorem dX4_digest_52 : decode cX4_digest 52 = .ok (.lstore_n 1, 1) := by decide +kernel
theorem dX4_digest_53 : decode cX4_digest 53 = .ok (.aload_n 0, 1) := by decide +kernel
theorem dX4_digest_54 : decode cX4_digest 54 = .ok (.getfield 16, 3) := by decide +kernel
theorem dX4_digest_57 : decode cX4_digest 57 = .ok (.lload_n 1, 1) := by decide +kernel
theorem dX4_digest_58 : decode cX4_digest 58 = .ok (.invokevirtual 192, 3) := by decide +kernel
theorem dX4_digest_61 : decode cX4_digest 61 = .ok (.lstore_n 1, 1) := by decide +kernel
theorem dX4_digest_62 : decode cX4_digest 62 = .ok (.aload_n 0, 1) := by decide +kernel
theorem dX4_digest_63 : decode cX4_digest 63 = .ok (.getfield 19, 3) := by decide +kernel
theorem dX4_digest_66 : decode cX4_digest 66 = .ok (.lload_n 1, 1) := by decide +kernel
theorem dX4_digest_67 : decode cX4_digest 67 = .ok (.invokevirtual 192, 3) := by decide +kernel
theorem dX4_digest_70 : decode cX4_digest 70 = .ok (.lstore_n 1, 1) := by decide +kernel
theorem dX4_digest_71 : decode cX4_digest 71 = .ok (.iconst 0, 1) := by decide +kernel
theorem dX4_digest_72 : decode cX4_digest 72 = .ok (.istore_n 3, 1) := by decide +kernel
theorem dX4_digest_73 : decode cX4_digest 73 = .ok (.iload_n 3, 1) := by decide +kernel
theorem dX4_digest_74 : decode cX4_digest 74 = .ok (.bipush 8, 2) := by decide +kernel
theorem dX4_digest_76 : decode cX4_digest 76 = .ok (.if_icmp .ge 20, 3) := by decide +kernel
theorem dX4_digest_79 : decode cX4_digest 79 = .ok (.aload_n 0, 1) := by decide +kernel
theorem dX4_digest_80 : decode cX4_digest 80 = .ok (.getfield 40, 3) := by decide +kernel
theorem dX4_digest_83 : decode cX4_digest 83 = .ok (.iload_n 3, 1) := by decide +kernel
theorem dX4_digest_84 : decode cX4_digest 84 = .ok (.aaload, 1) := by decide +kernel
theorem dX4_digest_85 : decode cX4_digest 85 = .ok (.lload_n 1, 1) := by decide +kernel
theorem dX4_digest_86 : decode cX4_digest 86 = .ok (.invokevirtual 196, 3) := by decide +kernel
theorem dX4_digest_89 : decode cX4_digest 89 = .ok (.lstore_n 1, 1) := by decide +kernel
theorem dX4_digest_90 : decode cX4_digest 90 = .ok (.iinc 3 1, 3) := by decide +kernel
theorem dX4_digest_93 : decode cX4_digest 93 = .ok (.goto (-20), 3) := by decide +kernel
theorem dX4_digest_96 : decode cX4_digest 96 = .ok (.iconst 0, 1) := by decide +kernel
theorem dX4_digest_97 : decode cX4_digest 97 = .ok (.istore_n 3, 1) := by decide +kernel
theorem dX4_digest_98 : decode cX4_digest 98 = .ok (.iload_n 3, 1) := by decide +kernel
theorem dX4_digest_99 : decode cX4_digest 99 = .ok (.aload_n 0, 1) := by decide +kernel
theorem dX4_digest_100 : decode cX4_digest 100 = .ok (.getfield 79, 3) := by decide +kernel
theorem dX4_digest_103 : decode cX4_digest 103 = .ok (.if_icmp .ge 37, 3) := by decide +kernel
theorem dX4_digest_106 : decode cX4_digest 106 = .ok (.lload_n 1, 1) := by decide +kernel
theorem dX4_digest_107 : decode cX4_digest 107 = .ok (.aload_n 0, 1) := by decide +kernel
theorem dX4_digest_108 : decode cX4_digest 108 = .ok (.iload_n 3, 1) := by decide +kernel
theorem dX4_digest_109 : decode cX4_digest 109 = .ok (.invokevirtual 93, 3) := by decide +kernel
theorem dX4_digest_112 : decode cX4_digest 112 = .ok (.getfield 126, 3) := by decide +kernel
theorem dX4_digest_115 : decode cX4_digest 115 = .ok (.i2l, 1) := by decide +kernel
theorem dX4_digest_116 : decode cX4_digest 116 = .ok (.invokestatic 188, 3) := by decide +kernel
theorem dX4_digest_119 : decode cX4_digest 119 = .ok (.lstore_n 1, 1) := by decide +kernel
theorem dX4_digest_120 : decode cX4_digest 120 = .ok (.lload_n 1, 1) := by decide +kernel
theorem dX4_digest_121 : decode cX4_digest 121 = .ok (.aload_n 0, 1) := by decide +kernel
theorem dX4_digest_122 : decode cX4_digest 122 = .ok (.iload_n 3, 1) := by decide +kernel
theorem dX4_digest_123 : decode cX4_digest 123 = .ok (.invokevirtual 93, 3) := by decide +kernel
theorem dX4_digest_126 : decode cX4_digest 126 = .ok (.getfield 97, 3) := by decide +kernel
theorem dX4_digest_129 : decode cX4_digest 129 = .ok (.i2l, 1) := by decide +kernel
theorem dX4_digest_130 : decode cX4_digest 130 = .ok (.invokestatic 188, 3) := by decide +kernel
theorem dX4_digest_133 : decode cX4_digest 133 = .ok (.lstore_n 1, 1) := by decide +kernel
theorem dX4_digest_134 : decode cX4_digest 134 = .ok (.iinc 3 1, 3) := by decide +kernel
theorem dX4_digest_137 : decode cX4_digest 137 = .ok (.goto (-39), 3) := by decide +kernel
theorem dX4_digest_140 : decode cX4_digest 140 = .ok (.lload_n 1, 1) := by decide +kernel
theorem dX4_digest_141 : decode cX4_digest 141 = .ok (.aload_n 0, 1) := by decide +kernel
theorem dX4_digest_142 : decode cX4_digest 142 = .ok (.getfield 171, 3) := by decide +kernel
theorem dX4_digest_145 : decode cX4_digest 145 = .ok (.invokestatic 188, 3) := by decide +kernel
theorem dX4_digest_148 : decode cX4_digest 148 = .ok (.lstore_n 1, 1) := by decide +kernel
theorem dX4_digest_149 : decode cX4_digest 149 = .ok (.lload_n 1, 1) := by decide +kernel
theorem dX4_digest_150 : decode cX4_digest 150 = .ok (.aload_n 0, 1) := by decide +kernel
theorem dX4_digest_151 : decode cX4_digest 151 = .ok (.getfield 175, 3) := by decide +kernel
theorem dX4_digest_154 : decode cX4_digest 154 = .ok (.invokestatic 188, 3) := by decide +kernel
theorem dX4_digest_157 : decode cX4_digest 157 = .ok (.lstore_n 1, 1) := by decide +kernel
theorem dX4_digest_158 : decode cX4_digest 158 = .ok (.lload_n 1, 1) := by decide +kernel
theorem dX4_digest_159 : decode cX4_digest 159 = .ok (.aload_n 0, 1) := by decide +kernel
theorem dX4_digest_160 : decode cX4_digest 160 = .ok (.getfield 25, 3) := by decide +kernel
theorem dX4_digest_163 : decode cX4_digest 163 = .ok (.getfield 183, 3) := by decide +kernel
theorem dX4_digest_166 : decode cX4_digest 166 = .ok (.invokestatic 188, 3) := by decide +kernel
theorem dX4_digest_169 : decode cX4_digest 169 = .ok (.lstore_n 1, 1) := by decide +kernel
theorem dX4_digest_170 : decode cX4_digest 170 = .ok (.lload_n 1, 1) := by decide +kernel
theorem dX4_digest_171 : decode cX4_digest 171 = .ok (.aload_n 0, 1) := by decide +kernel
theorem dX4_digest_172 : decode cX4_digest 172 = .ok (.getfield 29, 3) := by decide +kernel
theorem dX4_digest_175 : decode cX4_digest 175 = .ok (.getfield 183, 3) := by decide +kernel
theorem dX4_digest_178 : decode cX4_digest 178 = .ok (.invokestatic 188, 3) := by decide +kernel
theorem dX4_digest_181 : decode cX4_digest 181 = .ok (.lreturn, 1) := by decide +kernel
theorem dX4_mix_0 : decode cX4_mix 0 = .ok (.lload_n 0, 1) := by decide +kernel
theorem dX4_mix_1 : decode cX4_mix 1 = .ok (.ldc2_w 197, 3) := by decide +kernel
theorem dX4_mix_4 : decode cX4_mix 4 = .ok (.lmul, 1) := by decide +kernel
theorem dX4_mix_5 : decode cX4_mix 5 = .ok (.lload_n 2, 1) := by decide +kernel
theorem dX4_mix_6 : decode cX4_mix 6 = .ok (.ladd, 1) := by decide +kernel
theorem dX4_mix_7 : decode cX4_mix 7 = .ok (.lreturn, 1) := by decide +kernel
theorem dX4_isTableBits_0 : decode cX4_isTableBits 0 = .ok (.iload_n 0, 1) := by decide +kernel
theorem dX4_isTableBits_1 : decode cX4_isTableBits 1 = .ok (.iconst 2, 1) := by decide +kernel
theorem dX4_isTableBits_2 : decode cX4_isTableBits 2 = .ok (.if_icmp .lt 13, 3) := by decide +kernel
theorem dX4_isTableBits_5 : decode cX4_isTableBits 5 = .ok (.iload_n 0, 1) := by decide +kernel
theorem dX4_isTableBits_6 : decode cX4_isTableBits 6 = .ok (.bipush 8, 2) := by decide +kernel
theorem dX4_isTableBits_8 : decode cX4_isTableBits 8 = .ok (.if_icmp .gt 7, 3) := by decide +kernel
theorem dX4_isTableBits_11 : decode cX4_isTableBits 11 = .ok (.iconst 1, 1) := by decide +kernel
theorem dX4_isTableBits_12 : decode cX4_isTableBits 12 = .ok (.goto 4, 3) := by decide +kernel
theorem dX4_isTableBits_15 : decode cX4_isTableBits 15 = .ok (.iconst 0, 1) := by decide +kernel
theorem dX4_isTableBits_16 : decode cX4_isTableBits 16 = .ok (.ireturn, 1) := by decide +kernel
theorem dX4_requirePlace_0 : decode cX4_requirePlace 0 = .ok (.iload_n 0, 1) := by decide +kernel
theorem dX4_requirePlace_1 : decode cX4_requirePlace 1 = .ok (.ifCond .lt 9, 3) := by decide +kernel
theorem dX4_requirePlace_4 : decode cX4_requirePlace 4 = .ok (.iload_n 0, 1) := by decide +kernel
theorem dX4_requirePlace_5 : decode cX4_requirePlace 5 = .ok (.ldc 199, 2) := by decide +kernel
theorem dX4_requirePlace_7 : decode cX4_requirePlace 7 = .ok (.if_icmp .le 13, 3) := by decide +kernel
theorem dX4_requirePlace_10 : decode cX4_requirePlace 10 = .ok (.new 68, 3) := by decide +kernel
theorem dX4_requirePlace_13 : decode cX4_requirePlace 13 = .ok (.dup, 1) := by decide +kernel
theorem dX4_requirePlace_14 : decode cX4_requirePlace 14 = .ok (.ldc 200, 2) := by decide +kernel
theorem dX4_requirePlace_16 : decode cX4_requirePlace 16 = .ok (.invokespecial 72, 3) := by decide +kernel
theorem dX4_requirePlace_19 : decode cX4_requirePlace 19 = .ok (.athrow, 1) := by decide +kernel
theorem dX4_requirePlace_20 : decode cX4_requirePlace 20 = .ok (.return_, 1) := by decide +kernel
theorem dX4_requireKind_0 : decode cX4_requireKind 0 = .ok (.iload_n 0, 1) := by decide +kernel
theorem dX4_requireKind_1 : decode cX4_requireKind 1 = .ok (.ifCond .lt 8, 3) := by decide +kernel
theorem dX4_requireKind_4 : decode cX4_requireKind 4 = .ok (.iload_n 0, 1) := by decide +kernel
theorem dX4_requireKind_5 : decode cX4_requireKind 5 = .ok (.iconst 4, 1) := by decide +kernel
theorem dX4_requireKind_6 : decode cX4_requireKind 6 = .ok (.if_icmp .lt 13, 3) := by decide +kernel
theorem dX4_requireKind_9 : decode cX4_requireKind 9 = .ok (.new 135, 3) := by decide +kernel
theorem dX4_requireKind_12 : decode cX4_requireKind 12 = .ok (.dup, 1) := by decide +kernel
theorem dX4_requireKind_13 : decode cX4_requireKind 13 = .ok (.ldc 202, 2) := by decide +kernel
theorem dX4_requireKind_15 : decode cX4_requireKind 15 = .ok (.invokespecial 139, 3) := by decide +kernel
theorem dX4_requireKind_18 : decode cX4_requireKind 18 = .ok (.athrow, 1) := by decide +kernel
theorem dX4_requireKind_19 : decode cX4_requireKind 19 = .ok (.return_, 1) := by decide +kernel
theorem dX4_requireInFlight_0 : decode cX4_requireInFlight 0 = .ok (.iload_n 1, 1) := by decide +kernel
theorem dX4_requireInFlight_1 : decode cX4_requireInFlight 1 = .ok (.ifCond .lt 11, 3) := by decide +kernel
theorem dX4_requireInFlight_4 : decode cX4_requireInFlight 4 = .ok (.iload_n 1, 1) := by decide +kernel
theorem dX4_requireInFlight_5 : decode cX4_requireInFlight 5 = .ok (.aload_n 0, 1) := by decide +kernel
theorem dX4_requireInFlight_6 : decode cX4_requireInFlight 6 = .ok (.getfield 79, 3) := by decide +kernel
theorem dX4_requireInFlight_9 : decode cX4_requireInFlight 9 = .ok (.if_icmp .lt 13, 3) := by decide +kernel
theorem dX4_requireInFlight_12 : decode cX4_requireInFlight 12 = .ok (.new 135, 3) := by decide +kernel
theorem dX4_requireInFlight_15 : decode cX4_requireInFlight 15 = .ok (.dup, 1) := by decide +kernel
theorem dX4_requireInFlight_16 : decode cX4_requireInFlight 16 = .ok (.ldc 204, 2) := by decide +kernel
theorem dX4_requireInFlight_18 : decode cX4_requireInFlight 18 = .ok (.invokespecial 139, 3) := by decide +kernel
theorem dX4_requireInFlight_21 : decode cX4_requireInFlight 21 = .ok (.athrow, 1) := by decide +kernel
theorem dX4_requireInFlight_22 : decode cX4_requireInFlight 22 = .ok (.return_, 1) := by decide +kernel
set_option maxRecDepth 20000 in
theorem ggX4_startAnew_X2_startAnew : GoodIn wsX4_startAnew wsX2_startAnew := goodIn_r _ [21, 22, 23, 52, 53] (by decide +kernel) (by decide +kernel)
set_option maxRecDepth 20000 in
theorem gX4_startAnew_X2_startAnew : GoodIn wsX4_startAnew (wsV RX4 206 RX2 yX2_startAnew wsX2_startAnew) := goodIn_app (goodIn_of _ (by decide +kernel)) ggX4_startAnew_X2_startAnew
set_option maxRecDepth 20000 in
theorem ggX4_startAnew_X0_startAnew : GoodIn wsX4_startAnew wsX0_startAnew := goodIn_r _ [28, 29, 30, 31, 54, 55, 56] (by decide +kernel) (by decide +kernel)
set_option maxRecDepth 20000 in
theorem gX4_startAnew_X0_startAnew : GoodIn wsX4_startAnew (wsV RX4 208 RX0 yX0_startAnew wsX0_startAnew) := goodIn_app (goodIn_of _ (by decide +kernel)) ggX4_startAnew_X0_startAnew
theorem dX4_startAnew_0 : decode cX4_startAnew 0 = .ok (.aload_n 0, 1) := by decide +kernel
theorem dX4_startAnew_1 : decode cX4_startAnew 1 = .ok (.iload_n 1, 1) := by decide +kernel
theorem dX4_startAnew_2 : decode cX4_startAnew 2 = .ok (.putfield 48, 3) := by decide +kernel
theorem dX4_startAnew_5 : decode cX4_startAnew 5 = .ok (.aload_n 0, 1) := by decide +kernel
theorem dX4_startAnew_6 : decode cX4_startAnew 6 = .ok (.iload_n 2, 1) := by decide +kernel
theorem dX4_startAnew_7 : decode cX4_startAnew 7 = .ok (.putfield 52, 3) := by decide +kernel
theorem dX4_startAnew_10 : decode cX4_startAnew 10 = .ok (.aload_n 0, 1) := by decide +kernel
theorem dX4_startAnew_11 : decode cX4_startAnew 11 = .ok (.iload_n 3, 1) := by decide +kernel
theorem dX4_startAnew_12 : decode cX4_startAnew 12 = .ok (.putfield 55, 3) := by decide +kernel
theorem dX4_startAnew_15 : decode cX4_startAnew 15 = .ok (.aload_n 0, 1) := by decide +kernel
theorem dX4_startAnew_16 : decode cX4_startAnew 16 = .ok (.getfield 12, 3) := by decide +kernel
theorem dX4_startAnew_19 : decode cX4_startAnew 19 = .ok (.iload_n 1, 1) := by decide +kernel
theorem dX4_startAnew_20 : decode cX4_startAnew 20 = .ok (.invokevirtual 206, 3) := by decide +kernel
theorem dX4_startAnew_23 : decode cX4_startAnew 23 = .ok (.aload_n 0, 1) := by decide +kernel
theorem dX4_startAnew_24 : decode cX4_startAnew 24 = .ok (.getfield 16, 3) := by decide +kernel
theorem dX4_startAnew_27 : decode cX4_startAnew 27 = .ok (.iload_n 2, 1) := by decide +kernel
theorem dX4_startAnew_28 : decode cX4_startAnew 28 = .ok (.invokevirtual 206, 3) := by decide +kernel
theorem dX4_startAnew_31 : decode cX4_startAnew 31 = .ok (.aload_n 0, 1) := by decide +kernel
theorem dX4_startAnew_32 : decode cX4_startAnew 32 = .ok (.getfield 19, 3) := by decide +kernel
theorem dX4_startAnew_35 : decode cX4_startAnew 35 = .ok (.iload_n 1, 1) := by decide +kernel
theorem dX4_startAnew_36 : decode cX4_startAnew 36 = .ok (.invokevirtual 206, 3) := by decide +kernel
theorem dX4_startAnew_39 : decode cX4_startAnew 39 = .ok (.aload_n 0, 1) := by decide +kernel
theorem dX4_startAnew_40 : decode cX4_startAnew 40 = .ok (.getfield 25, 3) := by decide +kernel
theorem dX4_startAnew_43 : decode cX4_startAnew 43 = .ok (.invokevirtual 208, 3) := by decide +kernel
theorem dX4_startAnew_46 : decode cX4_startAnew 46 = .ok (.aload_n 0, 1) := by decide +kernel
theorem dX4_startAnew_47 : decode cX4_startAnew 47 = .ok (.getfield 29, 3) := by decide +kernel
theorem dX4_startAnew_50 : decode cX4_startAnew 50 = .ok (.invokevirtual 208, 3) := by decide +kernel
theorem dX4_startAnew_53 : decode cX4_startAnew 53 = .ok (.iconst 0, 1) := by decide +kernel
theorem dX4_startAnew_54 : decode cX4_startAnew 54 = .ok (.istore 4, 2) := by decide +kernel
theorem dX4_startAnew_56 : decode cX4_startAnew 56 = .ok (.iload 4, 2) := by decide +kernel
theorem dX4_startAnew_58 : decode cX4_startAnew 58 = .ok (.bipush 8, 2) := by decide +kernel
theorem dX4_startAnew_60 : decode cX4_startAnew 60 = .ok (.if_icmp .ge 20, 3) := by decide +kernel
theorem dX4_startAnew_63 : decode cX4_startAnew 63 = .ok (.aload_n 0, 1) := by decide +kernel
theorem dX4_startAnew_64 : decode cX4_startAnew 64 = .ok (.getfield 40, 3) := by decide +kernel
theorem dX4_startAnew_67 : decode cX4_startAnew 67 = .ok (.iload 4, 2) := by decide +kernel
theorem dX4_startAnew_69 : decode cX4_startAnew 69 = .ok (.aaload, 1) := by decide +kernel
theorem dX4_startAnew_70 : decode cX4_startAnew 70 = .ok (.iconst (-1), 1) := by decide +kernel
theorem dX4_startAnew_71 : decode cX4_startAnew 71 = .ok (.putfield 157, 3) := by decide +kernel
theorem dX4_startAnew_74 : decode cX4_startAnew 74 = .ok (.iinc 4 1, 3) := by decide +kernel
theorem dX4_startAnew_77 : decode cX4_startAnew 77 = .ok (.goto (-21), 3) := by decide +kernel
theorem dX4_startAnew_80 : decode cX4_startAnew 80 = .ok (.iconst 0, 1) := by decide +kernel
theorem dX4_startAnew_81 : decode cX4_startAnew 81 = .ok (.istore 4, 2) := by decide +kernel
theorem dX4_startAnew_83 : decode cX4_startAnew 83 = .ok (.iload 4, 2) := by decide +kernel
theorem dX4_startAnew_85 : decode cX4_startAnew 85 = .ok (.iconst 4, 1) := by decide +kernel
theorem dX4_startAnew_86 : decode cX4_startAnew 86 = .ok (.if_icmp .ge 17, 3) := by decide +kernel
theorem dX4_startAnew_89 : decode cX4_startAnew 89 = .ok (.aload_n 0, 1) := by decide +kernel
theorem dX4_startAnew_90 : decode cX4_startAnew 90 = .ok (.getfield 44, 3) := by decide +kernel
theorem dX4_startAnew_93 : decode cX4_startAnew 93 = .ok (.iload 4, 2) := by decide +kernel
theorem dX4_startAnew_95 : decode cX4_startAnew 95 = .ok (.lconst 0, 1) := by decide +kernel
theorem dX4_startAnew_96 : decode cX4_startAnew 96 = .ok (.lastore, 1) := by decide +kernel
theorem dX4_startAnew_97 : decode cX4_startAnew 97 = .ok (.iinc 4 1, 3) := by decide +kernel
theorem dX4_startAnew_100 : decode cX4_startAnew 100 = .ok (.goto (-17), 3) := by decide +kernel
theorem dX4_startAnew_103 : decode cX4_startAnew 103 = .ok (.aload_n 0, 1) := by decide +kernel
theorem dX4_startAnew_104 : decode cX4_startAnew 104 = .ok (.iconst 0, 1) := by decide +kernel
theorem dX4_startAnew_105 : decode cX4_startAnew 105 = .ok (.putfield 119, 3) := by decide +kernel
theorem dX4_startAnew_108 : decode cX4_startAnew 108 = .ok (.aload_n 0, 1) := by decide +kernel
theorem dX4_startAnew_109 : decode cX4_startAnew 109 = .ok (.iconst 0, 1) := by decide +kernel
theorem dX4_startAnew_110 : decode cX4_startAnew 110 = .ok (.putfield 210, 3) := by decide +kernel
theorem dX4_startAnew_113 : decode cX4_startAnew 113 = .ok (.aload_n 0, 1) := by decide +kernel
theorem dX4_startAnew_114 : decode cX4_startAnew 114 = .ok (.iconst 0, 1) := by decide +kernel
theorem dX4_startAnew_115 : decode cX4_startAnew 115 = .ok (.putfield 79, 3) := by decide +kernel
theorem dX4_startAnew_118 : decode cX4_startAnew 118 = .ok (.aload_n 0, 1) := by decide +kernel
theorem dX4_startAnew_119 : decode cX4_startAnew 119 = .ok (.lconst 0, 1) := by decide +kernel
theorem dX4_startAnew_120 : decode cX4_startAnew 120 = .ok (.putfield 171, 3) := by decide +kernel
theorem dX4_startAnew_123 : decode cX4_startAnew 123 = .ok (.aload_n 0, 1) := by decide +kernel
theorem dX4_startAnew_124 : decode cX4_startAnew 124 = .ok (.lconst 0, 1) := by decide +kernel
theorem dX4_startAnew_125 : decode cX4_startAnew 125 = .ok (.putfield 175, 3) := by decide +kernel
theorem dX4_startAnew_128 : decode cX4_startAnew 128 = .ok (.return_, 1) := by decide +kernel
theorem dX4_tableWith_0 : decode cX4_tableWith 0 = .ok (.iload_n 1, 1) := by decide +kernel
theorem dX4_tableWith_1 : decode cX4_tableWith 1 = .ok (.ifCond .ne 8, 3) := by decide +kernel
theorem dX4_tableWith_4 : decode cX4_tableWith 4 = .ok (.aload_n 0, 1) := by decide +kernel
theorem dX4_tableWith_5 : decode cX4_tableWith 5 = .ok (.getfield 12, 3) := by decide +kernel
theorem dX4_tableWith_8 : decode cX4_tableWith 8 = .ok (.areturn, 1) := by decide +kernel
theorem dX4_tableWith_9 : decode cX4_tableWith 9 = .ok (.iload_n 1, 1) := by decide +kernel
theorem dX4_tableWith_10 : decode cX4_tableWith 10 = .ok (.iconst 1, 1) := by decide +kernel
theorem dX4_tableWith_11 : decode cX4_tableWith 11 = .ok (.if_icmp .ne 10, 3) := by decide +kernel
theorem dX4_tableWith_14 : decode cX4_tableWith 14 = .ok (.aload_n 0, 1) := by decide +kernel
theorem dX4_tableWith_15 : decode cX4_tableWith 15 = .ok (.getfield 16, 3) := by decide +kernel
theorem dX4_tableWith_18 : decode cX4_tableWith 18 = .ok (.goto 7, 3) := by decide +kernel
theorem dX4_tableWith_21 : decode cX4_tableWith 21 = .ok (.aload_n 0, 1) := by decide +kernel
theorem dX4_tableWith_22 : decode cX4_tableWith 22 = .ok (.getfield 19, 3) := by decide +kernel
theorem dX4_tableWith_25 : decode cX4_tableWith 25 = .ok (.areturn, 1) := by decide +kernel
theorem dX4_branchAt_0 : decode cX4_branchAt 0 = .ok (.aload_n 0, 1) := by decide +kernel
theorem dX4_branchAt_1 : decode cX4_branchAt 1 = .ok (.getfield 34, 3) := by decide +kernel
theorem dX4_branchAt_4 : decode cX4_branchAt 4 = .ok (.aload_n 0, 1) := by decide +kernel
theorem dX4_branchAt_5 : decode cX4_branchAt 5 = .ok (.getfield 210, 3) := by decide +kernel
theorem dX4_branchAt_8 : decode cX4_branchAt 8 = .ok (.iload_n 1, 1) := by decide +kernel
theorem dX4_branchAt_9 : decode cX4_branchAt 9 = .ok (.iadd, 1) := by decide +kernel
theorem dX4_branchAt_10 : decode cX4_branchAt 10 = .ok (.bipush 15, 2) := by decide +kernel
theorem dX4_branchAt_12 : decode cX4_branchAt 12 = .ok (.iand, 1) := by decide +kernel
theorem dX4_branchAt_13 : decode cX4_branchAt 13 = .ok (.aaload, 1) := by decide +kernel
theorem dX4_branchAt_14 : decode cX4_branchAt 14 = .ok (.areturn, 1) := by decide +kernel
theorem dX4_appended_0 : decode cX4_appended 0 = .ok (.iconst 2, 1) := by decide +kernel
theorem dX4_appended_1 : decode cX4_appended 1 = .ok (.iload_n 1, 1) := by decide +kernel
theorem dX4_appended_2 : decode cX4_appended 2 = .ok (.imul, 1) := by decide +kernel
theorem dX4_appended_3 : decode cX4_appended 3 = .ok (.iload_n 2, 1) := by decide +kernel
theorem dX4_appended_4 : decode cX4_appended 4 = .ok (.ifCond .eq 7, 3) := by decide +kernel
theorem dX4_appended_7 : decode cX4_appended 7 = .ok (.iconst 1, 1) := by decide +kernel
theorem dX4_appended_8 : decode cX4_appended 8 = .ok (.goto 4, 3) := by decide +kernel
theorem dX4_appended_11 : decode cX4_appended 11 = .ok (.iconst 0, 1) := by decide +kernel
theorem dX4_appended_12 : decode cX4_appended 12 = .ok (.iadd, 1) := by decide +kernel
theorem dX4_appended_13 : decode cX4_appended 13 = .ok (.istore_n 3, 1) := by decide +kernel
theorem dX4_appended_14 : decode cX4_appended 14 = .ok (.iload_n 3, 1) := by decide +kernel
theorem dX4_appended_15 : decode cX4_appended 15 = .ok (.iconst 1, 1) := by decide +kernel
theorem dX4_appended_16 : decode cX4_appended 16 = .ok (.aload_n 0, 1) := by decide +kernel
theorem dX4_appended_17 : decode cX4_appended 17 = .ok (.getfield 55, 3) := by decide +kernel
theorem dX4_appended_20 : decode cX4_appended 20 = .ok (.ishl, 1) := by decide +kernel
theorem dX4_appended_21 : decode cX4_appended 21 = .ok (.iconst 1, 1) := by decide +kernel
theorem dX4_appended_22 : decode cX4_appended 22 = .ok (.isub, 1) := by decide +kernel
theorem dX4_appended_23 : decode cX4_appended 23 = .ok (.iand, 1) := by decide +kernel
theorem dX4_appended_24 : decode cX4_appended 24 = .ok (.ireturn, 1) := by decide +kernel
set_option maxRecDepth 20000 in
theorem ggX4_launch_X4_branchAt : GoodIn wsX4_launch wsX4_branchAt := goodIn_r _ [19, 20, 21, 66, 67, 68, 69, 70, 71, 72, 73, 74, 75, 76, 77, 78, 79, 80, 81] (by decide +kernel) (by decide +kernel)
set_option maxRecDepth 20000 in
theorem gX4_launch_X4_branchAt : GoodIn wsX4_launch (wsV RX4 93 RX4 yX4_branchAt wsX4_branchAt) := goodIn_app (goodIn_of _ (by decide +kernel)) ggX4_launch_X4_branchAt
set_option maxRecDepth 20000 in
theorem ggX4_launch_X2_indexFor : GoodIn wsX4_launch wsX2_indexFor := goodIn_r _ [26, 27, 91, 92] (by decide +kernel) (by decide +kernel)
set_option maxRecDepth 20000 in
theorem gX4_launch_X2_indexFor : GoodIn wsX4_launch (wsV RX4 213 RX2 yX2_indexFor wsX2_indexFor) := goodIn_app (goodIn_of _ (by decide +kernel)) ggX4_launch_X2_indexFor
set_option maxRecDepth 20000 in
theorem ggX4_launch_X2_saysTaken : GoodIn wsX4_launch wsX2_saysTaken := goodIn_r _ [31, 32, 33, 34, 25, 35, 36, 91, 92] (by decide +kernel) (by decide +kernel)
set_option maxRecDepth 20000 in
theorem gX4_launch_X2_saysTaken : GoodIn wsX4_launch (wsV RX4 222 RX2 yX2_saysTaken wsX2_saysTaken) := goodIn_app (goodIn_of _ (by decide +kernel)) ggX4_launch_X2_saysTaken
set_option maxRecDepth 20000 in
theorem ggX4_launch_X4_loopPrediction : GoodIn wsX4_launch wsX4_loopPrediction := goodIn_r _ [40, 41, 42, 43, 44, 45, 46, 18, 47, 48, 49, 50, 51, 52, 53, 1, 2, 15, 16, 17, 19, 20, 21, 54, 55, 56, 57, 58, 59, 60, 66, 67, 68, 69, 70, 71, 72, 73, 74, 75, 76, 77, 78, 79, 80, 81, 93, 94, 95, 96, 82, 83, 84, 85, 86, 87, 88, 89, 90] (by decide +kernel) (by decide +kernel)
set_option maxRecDepth 20000 in
theorem gX4_launch_X4_loopPrediction : GoodIn wsX4_launch (wsV RX4 235 RX4 yX4_loopPrediction wsX4_loopPrediction) := goodIn_app (goodIn_of _ (by decide +kernel)) ggX4_launch_X4_loopPrediction
set_option maxRecDepth 20000 in
theorem ggX4_launch_X4_appended : GoodIn wsX4_launch wsX4_appended := goodIn_r _ [64, 65, 66, 67, 68, 69, 70, 71, 72, 73, 74, 75, 76, 77, 78, 79, 80, 81] (by decide +kernel) (by decide +kernel)
set_option maxRecDepth 20000 in
theorem gX4_launch_X4_appended : GoodIn wsX4_launch (wsV RX4 242 RX4 yX4_appended wsX4_appended) := goodIn_app (goodIn_of _ (by decide +kernel)) ggX4_launch_X4_appended
theorem dX4_launch_0 : decode cX4_launch 0 = .ok (.aload_n 0, 1) := by decide +kernel
theorem dX4_launch_1 : decode cX4_launch 1 = .ok (.aload_n 0, 1) := by decide +kernel
theorem dX4_launch_2 : decode cX4_launch 2 = .ok (.getfield 79, 3) := by decide +kernel
theorem dX4_launch_5 : decode cX4_launch 5 = .ok (.invokevirtual 93, 3) := by decide +kernel
theorem dX4_launch_8 : decode cX4_launch 8 = .ok (.astore_n 2, 1) := by decide +kernel
theorem dX4_launch_9 : decode cX4_launch 9 = .ok (.aload_n 2, 1) := by decide +kernel
theorem dX4_launch_10 : decode cX4_launch 10 = .ok (.iload_n 1, 1) := by decide +kernel
theorem dX4_launch_11 : decode cX4_launch 11 = .ok (.putfield 126, 3) := by decide +kernel
theorem dX4_launch_14 : decode cX4_launch 14 = .ok (.aload_n 2, 1) := by decide +kernel
theorem dX4_launch_15 : decode cX4_launch 15 = .ok (.iconst 0, 1) := by decide +kernel
theorem dX4_launch_16 : decode cX4_launch 16 = .ok (.putfield 97, 3) := by decide +kernel
theorem dX4_launch_19 : decode cX4_launch 19 = .ok (.aload_n 2, 1) := by decide +kernel
theorem dX4_launch_20 : decode cX4_launch 20 = .ok (.aload_n 0, 1) := by decide +kernel
theorem dX4_launch_21 : decode cX4_launch 21 = .ok (.getfield 119, 3) := by decide +kernel
theorem dX4_launch_24 : decode cX4_launch 24 = .ok (.putfield 116, 3) := by decide +kernel
theorem dX4_launch_27 : decode cX4_launch 27 = .ok (.aload_n 2, 1) := by decide +kernel
theorem dX4_launch_28 : decode cX4_launch 28 = .ok (.aload_n 0, 1) := by decide +kernel
theorem dX4_launch_29 : decode cX4_launch 29 = .ok (.getfield 12, 3) := by decide +kernel
theorem dX4_launch_32 : decode cX4_launch 32 = .ok (.iload_n 1, 1) := by decide +kernel
theorem dX4_launch_33 : decode cX4_launch 33 = .ok (.invokevirtual 213, 3) := by decide +kernel
theorem dX4_launch_36 : decode cX4_launch 36 = .ok (.putfield 216, 3) := by decide +kernel
theorem dX4_launch_39 : decode cX4_launch 39 = .ok (.aload_n 2, 1) := by decide +kernel
theorem dX4_launch_40 : decode cX4_launch 40 = .ok (.aload_n 0, 1) := by decide +kernel
theorem dX4_launch_41 : decode cX4_launch 41 = .ok (.getfield 16, 3) := by decide +kernel
theorem dX4_launch_44 : decode cX4_launch 44 = .ok (.iload_n 1, 1) := by decide +kernel
theorem dX4_launch_45 : decode cX4_launch 45 = .ok (.aload_n 0, 1) := by decide +kernel
theorem dX4_launch_46 : decode cX4_launch 46 = .ok (.getfield 119, 3) := by decide +kernel
theorem dX4_launch_49 : decode cX4_launch 49 = .ok (.ixor, 1) := by decide +kernel
theorem dX4_launch_50 : decode cX4_launch 50 = .ok (.invokevirtual 213, 3) := by decide +kernel
theorem dX4_launch_53 : decode cX4_launch 53 = .ok (.putfield 219, 3) := by decide +kernel
theorem dX4_launch_56 : decode cX4_launch 56 = .ok (.aload_n 2, 1) := by decide +kernel
theorem dX4_launch_57 : decode cX4_launch 57 = .ok (.aload_n 0, 1) := by decide +kernel
theorem dX4_launch_58 : decode cX4_launch 58 = .ok (.getfield 12, 3) := by decide +kernel
theorem dX4_launch_61 : decode cX4_launch 61 = .ok (.aload_n 2, 1) := by decide +kernel
theorem dX4_launch_62 : decode cX4_launch 62 = .ok (.getfield 216, 3) := by decide +kernel
theorem dX4_launch_65 : decode cX4_launch 65 = .ok (.invokevirtual 222, 3) := by decide +kernel
theorem dX4_launch_68 : decode cX4_launch 68 = .ok (.putfield 225, 3) := by decide +kernel
theorem dX4_launch_71 : decode cX4_launch 71 = .ok (.aload_n 2, 1) := by decide +kernel
theorem dX4_launch_72 : decode cX4_launch 72 = .ok (.aload_n 0, 1) := by decide +kernel
theorem dX4_launch_73 : decode cX4_launch 73 = .ok (.getfield 16, 3) := by decide +kernel
theorem dX4_launch_76 : decode cX4_launch 76 = .ok (.aload_n 2, 1) := by decide +kernel
theorem dX4_launch_77 : decode cX4_launch 77 = .ok (.getfield 219, 3) := by decide +kernel
theorem dX4_launch_80 : decode cX4_launch 80 = .ok (.invokevirtual 222, 3) := by decide +kernel
theorem dX4_launch_83 : decode cX4_launch 83 = .ok (.putfield 229, 3) := by decide +kernel
theorem dX4_launch_86 : decode cX4_launch 86 = .ok (.aload_n 2, 1) := by decide +kernel
theorem dX4_launch_87 : decode cX4_launch 87 = .ok (.aload_n 0, 1) := by decide +kernel
theorem dX4_launch_88 : decode cX4_launch 88 = .ok (.getfield 19, 3) := by decide +kernel
theorem dX4_launch_91 : decode cX4_launch 91 = .ok (.aload_n 2, 1) := by decide +kernel
theorem dX4_launch_92 : decode cX4_launch 92 = .ok (.getfield 216, 3) := by decide +kernel
theorem dX4_launch_95 : decode cX4_launch 95 = .ok (.invokevirtual 222, 3) := by decide +kernel
theorem dX4_launch_98 : decode cX4_launch 98 = .ok (.ifCond .eq 10, 3) := by decide +kernel
theorem dX4_launch_101 : decode cX4_launch 101 = .ok (.aload_n 2, 1) := by decide +kernel
theorem dX4_launch_102 : decode cX4_launch 102 = .ok (.getfield 229, 3) := by decide +kernel
theorem dX4_launch_105 : decode cX4_launch 105 = .ok (.goto 7, 3) := by decide +kernel
theorem dX4_launch_108 : decode cX4_launch 108 = .ok (.aload_n 2, 1) := by decide +kernel
theorem dX4_launch_109 : decode cX4_launch 109 = .ok (.getfield 225, 3) := by decide +kernel
theorem dX4_launch_112 : decode cX4_launch 112 = .ok (.putfield 232, 3) := by decide +kernel
theorem dX4_launch_115 : decode cX4_launch 115 = .ok (.aload_n 2, 1) := by decide +kernel
theorem dX4_launch_116 : decode cX4_launch 116 = .ok (.aload_n 0, 1) := by decide +kernel
theorem dX4_launch_117 : decode cX4_launch 117 = .ok (.iload_n 1, 1) := by decide +kernel
theorem dX4_launch_118 : decode cX4_launch 118 = .ok (.aload_n 2, 1) := by decide +kernel
theorem dX4_launch_119 : decode cX4_launch 119 = .ok (.getfield 232, 3) := by decide +kernel
theorem dX4_launch_122 : decode cX4_launch 122 = .ok (.invokevirtual 235, 3) := by decide +kernel
theorem dX4_launch_125 : decode cX4_launch 125 = .ok (.putfield 239, 3) := by decide +kernel
theorem dX4_launch_128 : decode cX4_launch 128 = .ok (.aload_n 0, 1) := by decide +kernel
theorem dX4_launch_129 : decode cX4_launch 129 = .ok (.dup, 1) := by decide +kernel
theorem dX4_launch_130 : decode cX4_launch 130 = .ok (.getfield 79, 3) := by decide +kernel
theorem dX4_launch_133 : decode cX4_launch 133 = .ok (.iconst 1, 1) := by decide +kernel
theorem dX4_launch_134 : decode cX4_launch 134 = .ok (.iadd, 1) := by decide +kernel
theorem dX4_launch_135 : decode cX4_launch 135 = .ok (.putfield 79, 3) := by decide +kernel
theorem dX4_launch_138 : decode cX4_launch 138 = .ok (.aload_n 0, 1) := by decide +kernel
theorem dX4_launch_139 : decode cX4_launch 139 = .ok (.aload_n 0, 1) := by decide +kernel
theorem dX4_launch_140 : decode cX4_launch 140 = .ok (.aload_n 0, 1) := by decide +kernel
theorem dX4_launch_141 : decode cX4_launch 141 = .ok (.getfield 119, 3) := by decide +kernel
theorem dX4_launch_144 : decode cX4_launch 144 = .ok (.aload_n 2, 1) := by decide +kernel
theorem dX4_launch_145 : decode cX4_launch 145 = .ok (.getfield 239, 3) := by decide +kernel
theorem dX4_launch_148 : decode cX4_launch 148 = .ok (.invokevirtual 242, 3) := by decide +kernel
theorem dX4_launch_151 : decode cX4_launch 151 = .ok (.putfield 119, 3) := by decide +kernel
theorem dX4_launch_154 : decode cX4_launch 154 = .ok (.aload_n 2, 1) := by decide +kernel
theorem dX4_launch_155 : decode cX4_launch 155 = .ok (.getfield 239, 3) := by decide +kernel
theorem dX4_launch_158 : decode cX4_launch 158 = .ok (.ireturn, 1) := by decide +kernel
set_option maxRecDepth 20000 in
theorem ggX4_loopPrediction_X4_loopWith : GoodIn wsX4_loopPrediction wsX4_loopWith := goodIn_r _ [8, 1, 9, 30, 31, 32, 33, 34, 35, 36, 37, 38, 39, 40, 41, 42, 43, 44, 45, 46, 47, 48, 49] (by decide +kernel) (by decide +kernel)
set_option maxRecDepth 20000 in
theorem gX4_loopPrediction_X4_loopWith : GoodIn wsX4_loopPrediction (wsV RX4 245 RX4 yX4_loopWith wsX4_loopWith) := goodIn_app (goodIn_of _ (by decide +kernel)) ggX4_loopPrediction_X4_loopWith
set_option maxRecDepth 20000 in
theorem ggX4_loopPrediction_X4_presumedCount : GoodIn wsX4_loopPrediction wsX4_presumedCount := goodIn_r _ [13, 14, 15, 16, 9, 17, 18, 19, 7, 20, 21, 22, 23, 24, 25, 26, 27, 28, 29, 46, 47, 48, 49, 30, 31, 32, 33, 34, 35, 36, 37, 38, 39, 40, 41, 42, 43, 44, 45, 50, 51, 52, 53, 54, 55, 56, 57, 58] (by decide +kernel) (by decide +kernel)
set_option maxRecDepth 20000 in
theorem gX4_loopPrediction_X4_presumedCount : GoodIn wsX4_loopPrediction (wsV RX4 167 RX4 yX4_presumedCount wsX4_presumedCount) := goodIn_app (goodIn_of _ (by decide +kernel)) ggX4_loopPrediction_X4_presumedCount
theorem dX4_loopPrediction_0 : decode cX4_loopPrediction 0 = .ok (.aload_n 0, 1) := by decide +kernel
theorem dX4_loopPrediction_1 : decode cX4_loopPrediction 1 = .ok (.iload_n 1, 1) := by decide +kernel
theorem dX4_loopPrediction_2 : decode cX4_loopPrediction 2 = .ok (.invokevirtual 245, 3) := by decide +kernel
theorem dX4_loopPrediction_5 : decode cX4_loopPrediction 5 = .ok (.istore_n 3, 1) := by decide +kernel
theorem dX4_loopPrediction_6 : decode cX4_loopPrediction 6 = .ok (.iload_n 3, 1) := by decide +kernel
theorem dX4_loopPrediction_7 : decode cX4_loopPrediction 7 = .ok (.ifCond .lt 16, 3) := by decide +kernel
theorem dX4_loopPrediction_10 : decode cX4_loopPrediction 10 = .ok (.aload_n 0, 1) := by decide +kernel
theorem dX4_loopPrediction_11 : decode cX4_loopPrediction 11 = .ok (.getfield 40, 3) := by decide +kernel
theorem dX4_loopPrediction_14 : decode cX4_loopPrediction 14 = .ok (.iload_n 3, 1) := by decide +kernel
theorem dX4_loopPrediction_15 : decode cX4_loopPrediction 15 = .ok (.aaload, 1) := by decide +kernel
theorem dX4_loopPrediction_16 : decode cX4_loopPrediction 16 = .ok (.getfield 164, 3) := by decide +kernel
theorem dX4_loopPrediction_19 : decode cX4_loopPrediction 19 = .ok (.iconst 3, 1) := by decide +kernel
theorem dX4_loopPrediction_20 : decode cX4_loopPrediction 20 = .ok (.if_icmp .ge 5, 3) := by decide +kernel
theorem dX4_loopPrediction_23 : decode cX4_loopPrediction 23 = .ok (.iload_n 2, 1) := by decide +kernel
theorem dX4_loopPrediction_24 : decode cX4_loopPrediction 24 = .ok (.ireturn, 1) := by decide +kernel
theorem dX4_loopPrediction_25 : decode cX4_loopPrediction 25 = .ok (.aload_n 0, 1) := by decide +kernel
theorem dX4_loopPrediction_26 : decode cX4_loopPrediction 26 = .ok (.aload_n 0, 1) := by decide +kernel
theorem dX4_loopPrediction_27 : decode cX4_loopPrediction 27 = .ok (.getfield 40, 3) := by decide +kernel
theorem dX4_loopPrediction_30 : decode cX4_loopPrediction 30 = .ok (.iload_n 3, 1) := by decide +kernel
theorem dX4_loopPrediction_31 : decode cX4_loopPrediction 31 = .ok (.aaload, 1) := by decide +kernel
theorem dX4_loopPrediction_32 : decode cX4_loopPrediction 32 = .ok (.invokevirtual 167, 3) := by decide +kernel
theorem dX4_loopPrediction_35 : decode cX4_loopPrediction 35 = .ok (.aload_n 0, 1) := by decide +kernel
theorem dX4_loopPrediction_36 : decode cX4_loopPrediction 36 = .ok (.getfield 40, 3) := by decide +kernel
theorem dX4_loopPrediction_39 : decode cX4_loopPrediction 39 = .ok (.iload_n 3, 1) := by decide +kernel
theorem dX4_loopPrediction_40 : decode cX4_loopPrediction 40 = .ok (.aaload, 1) := by decide +kernel
theorem dX4_loopPrediction_41 : decode cX4_loopPrediction 41 = .ok (.getfield 161, 3) := by decide +kernel
theorem dX4_loopPrediction_44 : decode cX4_loopPrediction 44 = .ok (.if_icmp .ge 7, 3) := by decide +kernel
theorem dX4_loopPrediction_47 : decode cX4_loopPrediction 47 = .ok (.iconst 1, 1) := by decide +kernel
theorem dX4_loopPrediction_48 : decode cX4_loopPrediction 48 = .ok (.goto 4, 3) := by decide +kernel
theorem dX4_loopPrediction_51 : decode cX4_loopPrediction 51 = .ok (.iconst 0, 1) := by decide +kernel
theorem dX4_loopPrediction_52 : decode cX4_loopPrediction 52 = .ok (.ireturn, 1) := by decide +kernel
set_option maxRecDepth 20000 in
theorem ggX4_presumedCount_X4_branchAt : GoodIn wsX4_presumedCount wsX4_branchAt := goodIn_r _ [9, 10, 11, 23, 24, 25, 26, 27, 28, 29, 30, 31, 32, 33, 34, 35, 36, 37, 38] (by decide +kernel) (by decide +kernel)
set_option maxRecDepth 20000 in
theorem gX4_presumedCount_X4_branchAt : GoodIn wsX4_presumedCount (wsV RX4 93 RX4 yX4_branchAt wsX4_branchAt) := goodIn_app (goodIn_of _ (by decide +kernel)) ggX4_presumedCount_X4_branchAt
set_option maxRecDepth 20000 in
theorem ggX4_presumedCount_X1_isPresumedTaken : GoodIn wsX4_presumedCount wsX1_isPresumedTaken := goodIn_r _ [16, 17, 18, 39, 40, 41, 42, 43, 44, 45, 46, 47] (by decide +kernel) (by decide +kernel)
set_option maxRecDepth 20000 in
theorem gX4_presumedCount_X1_isPresumedTaken : GoodIn wsX4_presumedCount (wsV RX4 248 RX1 yX1_isPresumedTaken wsX1_isPresumedTaken) := goodIn_app (goodIn_of _ (by decide +kernel)) ggX4_presumedCount_X1_isPresumedTaken
theorem dX4_presumedCount_0 : decode cX4_presumedCount 0 = .ok (.aload_n 1, 1) := by decide +kernel
theorem dX4_presumedCount_1 : decode cX4_presumedCount 1 = .ok (.getfield 158, 3) := by decide +kernel
theorem dX4_presumedCount_4 : decode cX4_presumedCount 4 = .ok (.istore_n 2, 1) := by decide +kernel
theorem dX4_presumedCount_5 : decode cX4_presumedCount 5 = .ok (.iconst 0, 1) := by decide +kernel
theorem dX4_presumedCount_6 : decode cX4_presumedCount 6 = .ok (.istore_n 3, 1) := by decide +kernel
theorem dX4_presumedCount_7 : decode cX4_presumedCount 7 = .ok (.iload_n 3, 1) := by decide +kernel
theorem dX4_presumedCount_8 : decode cX4_presumedCount 8 = .ok (.aload_n 0, 1) := by decide +kernel
theorem dX4_presumedCount_9 : decode cX4_presumedCount 9 = .ok (.getfield 79, 3) := by decide +kernel
theorem dX4_presumedCount_12 : decode cX4_presumedCount 12 = .ok (.if_icmp .ge 44, 3) := by decide +kernel
theorem dX4_presumedCount_15 : decode cX4_presumedCount 15 = .ok (.aload_n 0, 1) := by decide +kernel
theorem dX4_presumedCount_16 : decode cX4_presumedCount 16 = .ok (.iload_n 3, 1) := by decide +kernel
theorem dX4_presumedCount_17 : decode cX4_presumedCount 17 = .ok (.invokevirtual 93, 3) := by decide +kernel
theorem dX4_presumedCount_20 : decode cX4_presumedCount 20 = .ok (.astore 4, 2) := by decide +kernel
theorem dX4_presumedCount_22 : decode cX4_presumedCount 22 = .ok (.aload 4, 2) := by decide +kernel
theorem dX4_presumedCount_24 : decode cX4_presumedCount 24 = .ok (.getfield 126, 3) := by decide +kernel
theorem dX4_presumedCount_27 : decode cX4_presumedCount 27 = .ok (.aload_n 1, 1) := by decide +kernel
theorem dX4_presumedCount_28 : decode cX4_presumedCount 28 = .ok (.getfield 157, 3) := by decide +kernel
theorem dX4_presumedCount_31 : decode cX4_presumedCount 31 = .ok (.if_icmp .ne 19, 3) := by decide +kernel
theorem dX4_presumedCount_34 : decode cX4_presumedCount 34 = .ok (.aload 4, 2) := by decide +kernel
theorem dX4_presumedCount_36 : decode cX4_presumedCount 36 = .ok (.invokevirtual 248, 3) := by decide +kernel
theorem dX4_presumedCount_39 : decode cX4_presumedCount 39 = .ok (.ifCond .eq 9, 3) := by decide +kernel
theorem dX4_presumedCount_42 : decode cX4_presumedCount 42 = .ok (.iload_n 2, 1) := by decide +kernel
theorem dX4_presumedCount_43 : decode cX4_presumedCount 43 = .ok (.iconst 1, 1) := by decide +kernel
theorem dX4_presumedCount_44 : decode cX4_presumedCount 44 = .ok (.iadd, 1) := by decide +kernel
theorem dX4_presumedCount_45 : decode cX4_presumedCount 45 = .ok (.goto 4, 3) := by decide +kernel
theorem dX4_presumedCount_48 : decode cX4_presumedCount 48 = .ok (.iconst 0, 1) := by decide +kernel
theorem dX4_presumedCount_49 : decode cX4_presumedCount 49 = .ok (.istore_n 2, 1) := by decide +kernel
theorem dX4_presumedCount_50 : decode cX4_presumedCount 50 = .ok (.iinc 3 1, 3) := by decide +kernel
theorem dX4_presumedCount_53 : decode cX4_presumedCount 53 = .ok (.goto (-46), 3) := by decide +kernel
theorem dX4_presumedCount_56 : decode cX4_presumedCount 56 = .ok (.iload_n 2, 1) := by decide +kernel
theorem dX4_presumedCount_57 : decode cX4_presumedCount 57 = .ok (.ireturn, 1) := by decide +kernel
set_option maxRecDepth 20000 in
theorem ggX4_settle_X4_branchAt : GoodIn wsX4_settle wsX4_branchAt := goodIn_r _ [9, 10, 11, 32, 33, 34, 35, 36, 37, 38, 39, 40, 41, 42, 43, 44, 45, 46, 47] (by decide +kernel) (by decide +kernel)
set_option maxRecDepth 20000 in
theorem gX4_settle_X4_branchAt : GoodIn wsX4_settle (wsV RX4 93 RX4 yX4_branchAt wsX4_branchAt) := goodIn_app (goodIn_of _ (by decide +kernel)) ggX4_settle_X4_branchAt
set_option maxRecDepth 20000 in
theorem ggX4_settle_X4_appended : GoodIn wsX4_settle wsX4_appended := goodIn_r _ [15, 16, 32, 33, 34, 35, 36, 37, 38, 39, 40, 41, 42, 43, 44, 45, 46, 47] (by decide +kernel) (by decide +kernel)
set_option maxRecDepth 20000 in
theorem gX4_settle_X4_appended : GoodIn wsX4_settle (wsV RX4 242 RX4 yX4_appended wsX4_appended) := goodIn_app (goodIn_of _ (by decide +kernel)) ggX4_settle_X4_appended
set_option maxRecDepth 20000 in
theorem ggX4_settle_X4_dropFrom : GoodIn wsX4_settle wsX4_dropFrom := goodIn_r _ [20, 21, 22, 32, 33, 34, 35, 36, 37, 38, 39, 40, 41, 42, 43, 44, 45, 46, 47] (by decide +kernel) (by decide +kernel)
set_option maxRecDepth 20000 in
theorem gX4_settle_X4_dropFrom : GoodIn wsX4_settle (wsV RX4 122 RX4 yX4_dropFrom wsX4_dropFrom) := goodIn_app (goodIn_of _ (by decide +kernel)) ggX4_settle_X4_dropFrom
theorem dX4_settle_0 : decode cX4_settle 0 = .ok (.aload_n 0, 1) := by decide +kernel
theorem dX4_settle_1 : decode cX4_settle 1 = .ok (.iload_n 1, 1) := by decide +kernel
theorem dX4_settle_2 : decode cX4_settle 2 = .ok (.invokevirtual 93, 3) := by decide +kernel
theorem dX4_settle_5 : decode cX4_settle 5 = .ok (.astore_n 3, 1) := by decide +kernel
theorem dX4_settle_6 : decode cX4_settle 6 = .ok (.aload_n 3, 1) := by decide +kernel
theorem dX4_settle_7 : decode cX4_settle 7 = .ok (.getfield 239, 3) := by decide +kernel
theorem dX4_settle_10 : decode cX4_settle 10 = .ok (.iload_n 2, 1) := by decide +kernel
theorem dX4_settle_11 : decode cX4_settle 11 = .ok (.if_icmp .ne 10, 3) := by decide +kernel
theorem dX4_settle_14 : decode cX4_settle 14 = .ok (.aload_n 3, 1) := by decide +kernel
theorem dX4_settle_15 : decode cX4_settle 15 = .ok (.iconst 1, 1) := by decide +kernel
theorem dX4_settle_16 : decode cX4_settle 16 = .ok (.putfield 97, 3) := by decide +kernel
theorem dX4_settle_19 : decode cX4_settle 19 = .ok (.iconst (-1), 1) := by decide +kernel
theorem dX4_settle_20 : decode cX4_settle 20 = .ok (.ireturn, 1) := by decide +kernel
theorem dX4_settle_21 : decode cX4_settle 21 = .ok (.aload_n 3, 1) := by decide +kernel
theorem dX4_settle_22 : decode cX4_settle 22 = .ok (.iconst 2, 1) := by decide +kernel
theorem dX4_settle_23 : decode cX4_settle 23 = .ok (.putfield 97, 3) := by decide +kernel
theorem dX4_settle_26 : decode cX4_settle 26 = .ok (.aload_n 0, 1) := by decide +kernel
theorem dX4_settle_27 : decode cX4_settle 27 = .ok (.aload_n 0, 1) := by decide +kernel
theorem dX4_settle_28 : decode cX4_settle 28 = .ok (.aload_n 3, 1) := by decide +kernel
theorem dX4_settle_29 : decode cX4_settle 29 = .ok (.getfield 116, 3) := by decide +kernel
theorem dX4_settle_32 : decode cX4_settle 32 = .ok (.iload_n 2, 1) := by decide +kernel
theorem dX4_settle_33 : decode cX4_settle 33 = .ok (.invokevirtual 242, 3) := by decide +kernel
theorem dX4_settle_36 : decode cX4_settle 36 = .ok (.putfield 119, 3) := by decide +kernel
theorem dX4_settle_39 : decode cX4_settle 39 = .ok (.aload_n 0, 1) := by decide +kernel
theorem dX4_settle_40 : decode cX4_settle 40 = .ok (.iload_n 1, 1) := by decide +kernel
theorem dX4_settle_41 : decode cX4_settle 41 = .ok (.iconst 1, 1) := by decide +kernel
theorem dX4_settle_42 : decode cX4_settle 42 = .ok (.iadd, 1) := by decide +kernel
theorem dX4_settle_43 : decode cX4_settle 43 = .ok (.invokevirtual 122, 3) := by decide +kernel
theorem dX4_settle_46 : decode cX4_settle 46 = .ok (.ireturn, 1) := by decide +kernel
theorem dX4_dropFrom_0 : decode cX4_dropFrom 0 = .ok (.aload_n 0, 1) := by decide +kernel
theorem dX4_dropFrom_1 : decode cX4_dropFrom 1 = .ok (.getfield 79, 3) := by decide +kernel
theorem dX4_dropFrom_4 : decode cX4_dropFrom 4 = .ok (.iload_n 1, 1) := by decide +kernel
theorem dX4_dropFrom_5 : decode cX4_dropFrom 5 = .ok (.isub, 1) := by decide +kernel
theorem dX4_dropFrom_6 : decode cX4_dropFrom 6 = .ok (.istore_n 2, 1) := by decide +kernel
theorem dX4_dropFrom_7 : decode cX4_dropFrom 7 = .ok (.aload_n 0, 1) := by decide +kernel
theorem dX4_dropFrom_8 : decode cX4_dropFrom 8 = .ok (.dup, 1) := by decide +kernel
theorem dX4_dropFrom_9 : decode cX4_dropFrom 9 = .ok (.getfield 175, 3) := by decide +kernel
theorem dX4_dropFrom_12 : decode cX4_dropFrom 12 = .ok (.iload_n 2, 1) := by decide +kernel
theorem dX4_dropFrom_13 : decode cX4_dropFrom 13 = .ok (.i2l, 1) := by decide +kernel
theorem dX4_dropFrom_14 : decode cX4_dropFrom 14 = .ok (.ladd, 1) := by decide +kernel
theorem dX4_dropFrom_15 : decode cX4_dropFrom 15 = .ok (.putfield 175, 3) := by decide +kernel
theorem dX4_dropFrom_18 : decode cX4_dropFrom 18 = .ok (.aload_n 0, 1) := by decide +kernel
theorem dX4_dropFrom_19 : decode cX4_dropFrom 19 = .ok (.iload_n 1, 1) := by decide +kernel
theorem dX4_dropFrom_20 : decode cX4_dropFrom 20 = .ok (.putfield 79, 3) := by decide +kernel
theorem dX4_dropFrom_23 : decode cX4_dropFrom 23 = .ok (.iload_n 2, 1) := by decide +kernel
theorem dX4_dropFrom_24 : decode cX4_dropFrom 24 = .ok (.ireturn, 1) := by decide +kernel
set_option maxRecDepth 20000 in
theorem ggX4_retire_X4_branchAt : GoodIn wsX4_retire wsX4_branchAt := goodIn_r _ [16, 17, 9, 109, 110, 111, 112, 113, 114, 115, 116, 117, 118, 119, 120, 121, 122, 123, 124] (by decide +kernel) (by decide +kernel)
set_option maxRecDepth 20000 in
theorem gX4_retire_X4_branchAt : GoodIn wsX4_retire (wsV RX4 93 RX4 yX4_branchAt wsX4_branchAt) := goodIn_app (goodIn_of _ (by decide +kernel)) ggX4_retire_X4_branchAt
set_option maxRecDepth 20000 in
theorem ggX4_retire_X1_isPresumedTaken : GoodIn wsX4_retire wsX1_isPresumedTaken := goodIn_r _ [22, 23, 24, 125, 126, 127, 128, 129, 130, 131, 132, 133] (by decide +kernel) (by decide +kernel)
set_option maxRecDepth 20000 in
theorem gX4_retire_X1_isPresumedTaken : GoodIn wsX4_retire (wsV RX4 248 RX1 yX1_isPresumedTaken wsX1_isPresumedTaken) := goodIn_app (goodIn_of _ (by decide +kernel)) ggX4_retire_X1_isPresumedTaken
set_option maxRecDepth 20000 in
theorem ggX4_retire_X4_countMisses : GoodIn wsX4_retire wsX4_countMisses := goodIn_r _ [28, 29, 30, 31, 32, 21, 33, 34, 35, 36, 24, 109, 110, 111, 112, 113, 114, 115, 116, 117, 118, 119, 120, 121, 122, 123, 124, 125, 126, 127, 128, 129, 130, 131, 132, 133] (by decide +kernel) (by decide +kernel)
set_option maxRecDepth 20000 in
theorem gX4_retire_X4_countMisses : GoodIn wsX4_retire (wsV RX4 251 RX4 yX4_countMisses wsX4_countMisses) := goodIn_app (goodIn_of _ (by decide +kernel)) ggX4_retire_X4_countMisses
set_option maxRecDepth 20000 in
theorem ggX4_retire_X4_learnChoice : GoodIn wsX4_retire wsX4_learnChoice := goodIn_r _ [40, 41, 42, 43, 3, 44, 45, 46, 47, 48, 49, 50, 51, 52, 53, 54, 55, 56, 57, 58, 59, 60, 125, 126, 127, 128, 129, 130, 131, 132, 133, 109, 110, 111, 112, 113, 114, 115, 116, 117, 118, 119, 120, 121, 122, 123, 124, 134, 135] (by decide +kernel) (by decide +kernel)
set_option maxRecDepth 20000 in
theorem gX4_retire_X4_learnChoice : GoodIn wsX4_retire (wsV RX4 255 RX4 yX4_learnChoice wsX4_learnChoice) := goodIn_app (goodIn_of _ (by decide +kernel)) ggX4_retire_X4_learnChoice
set_option maxRecDepth 20000 in
theorem ggX4_retire_X4_learnOutcome : GoodIn wsX4_retire wsX4_learnOutcome := goodIn_r _ [63, 64, 65, 66, 47, 67, 57, 58, 59, 60, 56, 68, 69, 70, 71, 72, 73, 74, 75, 44, 45, 46, 48, 49, 50, 51, 52, 53, 54, 55, 134, 135, 136, 137, 138] (by decide +kernel) (by decide +kernel)
set_option maxRecDepth 20000 in
theorem gX4_retire_X4_learnOutcome : GoodIn wsX4_retire (va_wsS RX4 258 yX4_learnOutcome wsX4_learnOutcome) := goodIn_app (goodIn_of _ (by decide +kernel)) ggX4_retire_X4_learnOutcome
set_option maxRecDepth 20000 in
theorem ggX4_retire_X4_learnLoop : GoodIn wsX4_retire wsX4_learnLoop := goodIn_r _ [79, 4, 80, 11, 81, 82, 83, 15, 84, 85, 86, 87, 88, 89, 90, 91, 92, 93, 94, 95, 50, 51, 52, 96, 97, 98, 99, 100, 101, 102, 103, 104, 105, 106, 107, 108, 125, 126, 127, 128, 129, 130, 131, 132, 133, 109, 110, 111, 112, 113, 114, 115, 116, 117, 118, 119, 120, 121, 122, 123, 124, 139, 140, 141, 142] (by decide +kernel) (by decide +kernel)
set_option maxRecDepth 20000 in
theorem gX4_retire_X4_learnLoop : GoodIn wsX4_retire (wsV RX4 262 RX4 yX4_learnLoop wsX4_learnLoop) := goodIn_app (goodIn_of _ (by decide +kernel)) ggX4_retire_X4_learnLoop
theorem dX4_retire_0 : decode cX4_retire 0 = .ok (.aload_n 0, 1) := by decide +kernel
theorem dX4_retire_1 : decode cX4_retire 1 = .ok (.iconst 0, 1) := by decide +kernel
theorem dX4_retire_2 : decode cX4_retire 2 = .ok (.invokevirtual 93, 3) := by decide +kernel
theorem dX4_retire_5 : decode cX4_retire 5 = .ok (.astore_n 1, 1) := by decide +kernel
theorem dX4_retire_6 : decode cX4_retire 6 = .ok (.aload_n 1, 1) := by decide +kernel
theorem dX4_retire_7 : decode cX4_retire 7 = .ok (.invokevirtual 248, 3) := by decide +kernel
theorem dX4_retire_10 : decode cX4_retire 10 = .ok (.istore_n 2, 1) := by decide +kernel
theorem dX4_retire_11 : decode cX4_retire 11 = .ok (.aload_n 0, 1) := by decide +kernel
theorem dX4_retire_12 : decode cX4_retire 12 = .ok (.aload_n 1, 1) := by decide +kernel
theorem dX4_retire_13 : decode cX4_retire 13 = .ok (.iload_n 2, 1) := by decide +kernel
theorem dX4_retire_14 : decode cX4_retire 14 = .ok (.invokevirtual 251, 3) := by decide +kernel
theorem dX4_retire_17 : decode cX4_retire 17 = .ok (.aload_n 0, 1) := by decide +kernel
theorem dX4_retire_18 : decode cX4_retire 18 = .ok (.aload_n 1, 1) := by decide +kernel
theorem dX4_retire_19 : decode cX4_retire 19 = .ok (.iload_n 2, 1) := by decide +kernel
theorem dX4_retire_20 : decode cX4_retire 20 = .ok (.invokevirtual 255, 3) := by decide +kernel
theorem dX4_retire_23 : decode cX4_retire 23 = .ok (.aload_n 0, 1) := by decide +kernel
theorem dX4_retire_24 : decode cX4_retire 24 = .ok (.getfield 12, 3) := by decide +kernel
theorem dX4_retire_27 : decode cX4_retire 27 = .ok (.aload_n 0, 1) := by decide +kernel
theorem dX4_retire_28 : decode cX4_retire 28 = .ok (.getfield 25, 3) := by decide +kernel
theorem dX4_retire_31 : decode cX4_retire 31 = .ok (.aload_n 1, 1) := by decide +kernel
theorem dX4_retire_32 : decode cX4_retire 32 = .ok (.getfield 216, 3) := by decide +kernel
theorem dX4_retire_35 : decode cX4_retire 35 = .ok (.aload_n 1, 1) := by decide +kernel
theorem dX4_retire_36 : decode cX4_retire 36 = .ok (.getfield 126, 3) := by decide +kernel
theorem dX4_retire_39 : decode cX4_retire 39 = .ok (.iload_n 2, 1) := by decide +kernel
theorem dX4_retire_40 : decode cX4_retire 40 = .ok (.invokestatic 258, 3) := by decide +kernel
theorem dX4_retire_43 : decode cX4_retire 43 = .ok (.aload_n 0, 1) := by decide +kernel
theorem dX4_retire_44 : decode cX4_retire 44 = .ok (.getfield 16, 3) := by decide +kernel
theorem dX4_retire_47 : decode cX4_retire 47 = .ok (.aload_n 0, 1) := by decide +kernel
theorem dX4_retire_48 : decode cX4_retire 48 = .ok (.getfield 29, 3) := by decide +kernel
theorem dX4_retire_51 : decode cX4_retire 51 = .ok (.aload_n 1, 1) := by decide +kernel
theorem dX4_retire_52 : decode cX4_retire 52 = .ok (.getfield 219, 3) := by decide +kernel
theorem dX4_retire_55 : decode cX4_retire 55 = .ok (.aload_n 1, 1) := by decide +kernel
theorem dX4_retire_56 : decode cX4_retire 56 = .ok (.getfield 126, 3) := by decide +kernel
theorem dX4_retire_59 : decode cX4_retire 59 = .ok (.iload_n 2, 1) := by decide +kernel
theorem dX4_retire_60 : decode cX4_retire 60 = .ok (.invokestatic 258, 3) := by decide +kernel
theorem dX4_retire_63 : decode cX4_retire 63 = .ok (.aload_n 0, 1) := by decide +kernel
theorem dX4_retire_64 : decode cX4_retire 64 = .ok (.aload_n 1, 1) := by decide +kernel
theorem dX4_retire_65 : decode cX4_retire 65 = .ok (.iload_n 2, 1) := by decide +kernel
theorem dX4_retire_66 : decode cX4_retire 66 = .ok (.invokevirtual 262, 3) := by decide +kernel
theorem dX4_retire_69 : decode cX4_retire 69 = .ok (.aload_n 0, 1) := by decide +kernel
theorem dX4_retire_70 : decode cX4_retire 70 = .ok (.dup, 1) := by decide +kernel
theorem dX4_retire_71 : decode cX4_retire 71 = .ok (.getfield 171, 3) := by decide +kernel
theorem dX4_retire_74 : decode cX4_retire 74 = .ok (.lconst 1, 1) := by decide +kernel
theorem dX4_retire_75 : decode cX4_retire 75 = .ok (.ladd, 1) := by decide +kernel
theorem dX4_retire_76 : decode cX4_retire 76 = .ok (.putfield 171, 3) := by decide +kernel
theorem dX4_retire_79 : decode cX4_retire 79 = .ok (.aload_n 0, 1) := by decide +kernel
theorem dX4_retire_80 : decode cX4_retire 80 = .ok (.aload_n 0, 1) := by decide +kernel
theorem dX4_retire_81 : decode cX4_retire 81 = .ok (.getfield 210, 3) := by decide +kernel
theorem dX4_retire_84 : decode cX4_retire 84 = .ok (.iconst 1, 1) := by decide +kernel
theorem dX4_retire_85 : decode cX4_retire 85 = .ok (.iadd, 1) := by decide +kernel
theorem dX4_retire_86 : decode cX4_retire 86 = .ok (.bipush 15, 2) := by decide +kernel
theorem dX4_retire_88 : decode cX4_retire 88 = .ok (.iand, 1) := by decide +kernel
theorem dX4_retire_89 : decode cX4_retire 89 = .ok (.putfield 210, 3) := by decide +kernel
theorem dX4_retire_92 : decode cX4_retire 92 = .ok (.aload_n 0, 1) := by decide +kernel
theorem dX4_retire_93 : decode cX4_retire 93 = .ok (.dup, 1) := by decide +kernel
theorem dX4_retire_94 : decode cX4_retire 94 = .ok (.getfield 79, 3) := by decide +kernel
theorem dX4_retire_97 : decode cX4_retire 97 = .ok (.iconst 1, 1) := by decide +kernel
theorem dX4_retire_98 : decode cX4_retire 98 = .ok (.isub, 1) := by decide +kernel
theorem dX4_retire_99 : decode cX4_retire 99 = .ok (.putfield 79, 3) := by decide +kernel
theorem dX4_retire_102 : decode cX4_retire 102 = .ok (.aload_n 1, 1) := by decide +kernel
theorem dX4_retire_103 : decode cX4_retire 103 = .ok (.getfield 97, 3) := by decide +kernel
theorem dX4_retire_106 : decode cX4_retire 106 = .ok (.iconst 2, 1) := by decide +kernel
theorem dX4_retire_107 : decode cX4_retire 107 = .ok (.if_icmp .ne 7, 3) := by decide +kernel
theorem dX4_retire_110 : decode cX4_retire 110 = .ok (.iconst 1, 1) := by decide +kernel
theorem dX4_retire_111 : decode cX4_retire 111 = .ok (.goto 4, 3) := by decide +kernel
theorem dX4_retire_114 : decode cX4_retire 114 = .ok (.iconst 0, 1) := by decide +kernel
theorem dX4_retire_115 : decode cX4_retire 115 = .ok (.ireturn, 1) := by decide +kernel
set_option maxRecDepth 20000 in
theorem ggX4_countMisses_X1_saidTaken : GoodIn wsX4_countMisses wsX1_saidTaken := goodIn_r _ [6, 7, 8, 9, 10, 27, 28, 29, 30, 31, 32, 33, 34, 35] (by decide +kernel) (by decide +kernel)
set_option maxRecDepth 20000 in
theorem gX4_countMisses_X1_saidTaken : GoodIn wsX4_countMisses (wsV RX4 132 RX1 yX1_saidTaken wsX1_saidTaken) := goodIn_app (goodIn_of _ (by decide +kernel)) ggX4_countMisses_X1_saidTaken
theorem dX4_countMisses_0 : decode cX4_countMisses 0 = .ok (.iconst 0, 1) := by decide +kernel
theorem dX4_countMisses_1 : decode cX4_countMisses 1 = .ok (.istore_n 3, 1) := by decide +kernel
theorem dX4_countMisses_2 : decode cX4_countMisses 2 = .ok (.iload_n 3, 1) := by decide +kernel
theorem dX4_countMisses_3 : decode cX4_countMisses 3 = .ok (.iconst 4, 1) := by decide +kernel
theorem dX4_countMisses_4 : decode cX4_countMisses 4 = .ok (.if_icmp .ge 28, 3) := by decide +kernel
theorem dX4_countMisses_7 : decode cX4_countMisses 7 = .ok (.aload_n 1, 1) := by decide +kernel
theorem dX4_countMisses_8 : decode cX4_countMisses 8 = .ok (.iload_n 3, 1) := by decide +kernel
theorem dX4_countMisses_9 : decode cX4_countMisses 9 = .ok (.invokevirtual 132, 3) := by decide +kernel
theorem dX4_countMisses_12 : decode cX4_countMisses 12 = .ok (.iload_n 2, 1) := by decide +kernel
theorem dX4_countMisses_13 : decode cX4_countMisses 13 = .ok (.if_icmp .eq 13, 3) := by decide +kernel
theorem dX4_countMisses_16 : decode cX4_countMisses 16 = .ok (.aload_n 0, 1) := by decide +kernel
theorem dX4_countMisses_17 : decode cX4_countMisses 17 = .ok (.getfield 44, 3) := by decide +kernel
theorem dX4_countMisses_20 : decode cX4_countMisses 20 = .ok (.iload_n 3, 1) := by decide +kernel
theorem dX4_countMisses_21 : decode cX4_countMisses 21 = .ok (.dup2, 1) := by decide +kernel
theorem dX4_countMisses_22 : decode cX4_countMisses 22 = .ok (.laload, 1) := by decide +kernel
theorem dX4_countMisses_23 : decode cX4_countMisses 23 = .ok (.lconst 1, 1) := by decide +kernel
theorem dX4_countMisses_24 : decode cX4_countMisses 24 = .ok (.ladd, 1) := by decide +kernel
theorem dX4_countMisses_25 : decode cX4_countMisses 25 = .ok (.lastore, 1) := by decide +kernel
theorem dX4_countMisses_26 : decode cX4_countMisses 26 = .ok (.iinc 3 1, 3) := by decide +kernel
theorem dX4_countMisses_29 : decode cX4_countMisses 29 = .ok (.goto (-27), 3) := by decide +kernel
theorem dX4_countMisses_32 : decode cX4_countMisses 32 = .ok (.return_, 1) := by decide +kernel
set_option maxRecDepth 20000 in
theorem ggX4_learnChoice_X2_move : GoodIn wsX4_learnChoice wsX2_move := goodIn_r _ [9, 10, 11, 12, 13, 14, 15, 16, 17, 18, 19, 20, 8, 21, 47, 48] (by decide +kernel) (by decide +kernel)
set_option maxRecDepth 20000 in
theorem gX4_learnChoice_X2_move : GoodIn wsX4_learnChoice (wsV RX4 265 RX2 yX2_move wsX2_move) := goodIn_app (goodIn_of _ (by decide +kernel)) ggX4_learnChoice_X2_move
theorem dX4_learnChoice_0 : decode cX4_learnChoice 0 = .ok (.aload_n 1, 1) := by decide +kernel
theorem dX4_learnChoice_1 : decode cX4_learnChoice 1 = .ok (.getfield 225, 3) := by decide +kernel
theorem dX4_learnChoice_4 : decode cX4_learnChoice 4 = .ok (.aload_n 1, 1) := by decide +kernel
theorem dX4_learnChoice_5 : decode cX4_learnChoice 5 = .ok (.getfield 229, 3) := by decide +kernel
theorem dX4_learnChoice_8 : decode cX4_learnChoice 8 = .ok (.if_icmp .eq 27, 3) := by decide +kernel
theorem dX4_learnChoice_11 : decode cX4_learnChoice 11 = .ok (.aload_n 0, 1) := by decide +kernel
theorem dX4_learnChoice_12 : decode cX4_learnChoice 12 = .ok (.getfield 19, 3) := by decide +kernel
theorem dX4_learnChoice_15 : decode cX4_learnChoice 15 = .ok (.aload_n 1, 1) := by decide +kernel
theorem dX4_learnChoice_16 : decode cX4_learnChoice 16 = .ok (.getfield 216, 3) := by decide +kernel
theorem dX4_learnChoice_19 : decode cX4_learnChoice 19 = .ok (.aload_n 1, 1) := by decide +kernel
theorem dX4_learnChoice_20 : decode cX4_learnChoice 20 = .ok (.getfield 229, 3) := by decide +kernel
theorem dX4_learnChoice_23 : decode cX4_learnChoice 23 = .ok (.iload_n 2, 1) := by decide +kernel
theorem dX4_learnChoice_24 : decode cX4_learnChoice 24 = .ok (.if_icmp .ne 7, 3) := by decide +kernel
theorem dX4_learnChoice_27 : decode cX4_learnChoice 27 = .ok (.iconst 1, 1) := by decide +kernel
theorem dX4_learnChoice_28 : decode cX4_learnChoice 28 = .ok (.goto 4, 3) := by decide +kernel
theorem dX4_learnChoice_31 : decode cX4_learnChoice 31 = .ok (.iconst 0, 1) := by decide +kernel
theorem dX4_learnChoice_32 : decode cX4_learnChoice 32 = .ok (.invokevirtual 265, 3) := by decide +kernel
theorem dX4_learnChoice_35 : decode cX4_learnChoice 35 = .ok (.return_, 1) := by decide +kernel
set_option maxRecDepth 20000 in
theorem ggX4_learnOutcome_X2_saysTaken : GoodIn wsX4_learnOutcome wsX2_saysTaken := goodIn_r _ [5, 6, 7, 8, 4, 9, 10, 30, 31] (by decide +kernel) (by decide +kernel)
set_option maxRecDepth 20000 in
theorem gX4_learnOutcome_X2_saysTaken : GoodIn wsX4_learnOutcome (wsV RX4 222 RX2 yX2_saysTaken wsX2_saysTaken) := goodIn_app (goodIn_of _ (by decide +kernel)) ggX4_learnOutcome_X2_saysTaken
set_option maxRecDepth 20000 in
theorem ggX4_learnOutcome_X0_note : GoodIn wsX4_learnOutcome wsX0_note := goodIn_r _ [15, 16, 17, 18, 32, 33, 34] (by decide +kernel) (by decide +kernel)
set_option maxRecDepth 20000 in
theorem gX4_learnOutcome_X0_note : GoodIn wsX4_learnOutcome (wsV RX4 269 RX0 yX0_note wsX0_note) := goodIn_app (goodIn_of _ (by decide +kernel)) ggX4_learnOutcome_X0_note
set_option maxRecDepth 20000 in
theorem ggX4_learnOutcome_X2_move : GoodIn wsX4_learnOutcome wsX2_move := goodIn_r _ [22, 23, 24, 25, 26, 27, 28, 29, 10, 6, 7, 8, 4, 9, 30, 31] (by decide +kernel) (by decide +kernel)
set_option maxRecDepth 20000 in
theorem gX4_learnOutcome_X2_move : GoodIn wsX4_learnOutcome (wsV RX4 265 RX2 yX2_move wsX2_move) := goodIn_app (goodIn_of _ (by decide +kernel)) ggX4_learnOutcome_X2_move
theorem dX4_learnOutcome_0 : decode cX4_learnOutcome 0 = .ok (.aload_n 1, 1) := by decide +kernel
theorem dX4_learnOutcome_1 : decode cX4_learnOutcome 1 = .ok (.iload_n 2, 1) := by decide +kernel
theorem dX4_learnOutcome_2 : decode cX4_learnOutcome 2 = .ok (.iload_n 3, 1) := by decide +kernel
theorem dX4_learnOutcome_3 : decode cX4_learnOutcome 3 = .ok (.aload_n 0, 1) := by decide +kernel
theorem dX4_learnOutcome_4 : decode cX4_learnOutcome 4 = .ok (.iload_n 2, 1) := by decide +kernel
theorem dX4_learnOutcome_5 : decode cX4_learnOutcome 5 = .ok (.invokevirtual 222, 3) := by decide +kernel
theorem dX4_learnOutcome_8 : decode cX4_learnOutcome 8 = .ok (.iload 4, 2) := by decide +kernel
theorem dX4_learnOutcome_10 : decode cX4_learnOutcome 10 = .ok (.if_icmp .eq 7, 3) := by decide +kernel
theorem dX4_learnOutcome_13 : decode cX4_learnOutcome 13 = .ok (.iconst 1, 1) := by decide +kernel
theorem dX4_learnOutcome_14 : decode cX4_learnOutcome 14 = .ok (.goto 4, 3) := by decide +kernel
theorem dX4_learnOutcome_17 : decode cX4_learnOutcome 17 = .ok (.iconst 0, 1) := by decide +kernel
theorem dX4_learnOutcome_18 : decode cX4_learnOutcome 18 = .ok (.invokevirtual 269, 3) := by decide +kernel
theorem dX4_learnOutcome_21 : decode cX4_learnOutcome 21 = .ok (.aload_n 0, 1) := by decide +kernel
theorem dX4_learnOutcome_22 : decode cX4_learnOutcome 22 = .ok (.iload_n 2, 1) := by decide +kernel
theorem dX4_learnOutcome_23 : decode cX4_learnOutcome 23 = .ok (.iload 4, 2) := by decide +kernel
theorem dX4_learnOutcome_25 : decode cX4_learnOutcome 25 = .ok (.invokevirtual 265, 3) := by decide +kernel
theorem dX4_learnOutcome_28 : decode cX4_learnOutcome 28 = .ok (.return_, 1) := by decide +kernel
set_option maxRecDepth 20000 in
theorem ggX4_learnLoop_X4_loopWith : GoodIn wsX4_learnLoop wsX4_loopWith := goodIn_r _ [8, 2, 9, 45, 46, 47, 48, 49, 50, 51, 52, 53, 54, 55, 56, 57, 58, 59, 60, 61, 62, 63, 64] (by decide +kernel) (by decide +kernel)
set_option maxRecDepth 20000 in
theorem gX4_learnLoop_X4_loopWith : GoodIn wsX4_learnLoop (wsV RX4 245 RX4 yX4_loopWith wsX4_loopWith) := goodIn_app (goodIn_of _ (by decide +kernel)) ggX4_learnLoop_X4_loopWith
set_option maxRecDepth 20000 in
theorem ggX4_learnLoop_X3_learn : GoodIn wsX4_learnLoop wsX3_learn := goodIn_r _ [14, 15, 16, 17, 18, 19, 20, 21, 22, 61, 62, 63, 64] (by decide +kernel) (by decide +kernel)
set_option maxRecDepth 20000 in
theorem gX4_learnLoop_X3_learn : GoodIn wsX4_learnLoop (wsV RX4 273 RX3 yX3_learn wsX3_learn) := goodIn_app (goodIn_of _ (by decide +kernel)) ggX4_learnLoop_X3_learn
set_option maxRecDepth 20000 in
theorem ggX4_learnLoop_X4_numberForNewLoop : GoodIn wsX4_learnLoop wsX4_numberForNewLoop := goodIn_r _ [26, 2, 27, 28, 29, 30, 13, 31, 16, 45, 46, 47, 48, 49, 50, 51, 52, 53, 54, 55, 56, 57, 58, 59, 60, 61, 62, 63, 64] (by decide +kernel) (by decide +kernel)
set_option maxRecDepth 20000 in
theorem gX4_learnLoop_X4_numberForNewLoop : GoodIn wsX4_learnLoop (wsV RX4 277 RX4 yX4_numberForNewLoop wsX4_numberForNewLoop) := goodIn_app (goodIn_of _ (by decide +kernel)) ggX4_learnLoop_X4_numberForNewLoop
set_option maxRecDepth 20000 in
theorem ggX4_learnLoop_X3_startAnew : GoodIn wsX4_learnLoop wsX3_startAnew := goodIn_r _ [35, 16, 15, 17, 18, 61, 62, 63, 64] (by decide +kernel) (by decide +kernel)
set_option maxRecDepth 20000 in
theorem gX4_learnLoop_X3_startAnew : GoodIn wsX4_learnLoop (wsV RX4 281 RX3 yX3_startAnew wsX3_startAnew) := goodIn_app (goodIn_of _ (by decide +kernel)) ggX4_learnLoop_X3_startAnew
theorem dX4_learnLoop_0 : decode cX4_learnLoop 0 = .ok (.aload_n 0, 1) := by decide +kernel
theorem dX4_learnLoop_1 : decode cX4_learnLoop 1 = .ok (.aload_n 1, 1) := by decide +kernel
theorem dX4_learnLoop_2 : decode cX4_learnLoop 2 = .ok (.getfield 126, 3) := by decide +kernel
theorem dX4_learnLoop_5 : decode cX4_learnLoop 5 = .ok (.invokevirtual 245, 3) := by decide +kernel
theorem dX4_learnLoop_8 : decode cX4_learnLoop 8 = .ok (.istore_n 3, 1) := by decide +kernel
theorem dX4_learnLoop_9 : decode cX4_learnLoop 9 = .ok (.iload_n 3, 1) := by decide +kernel
theorem dX4_learnLoop_10 : decode cX4_learnLoop 10 = .ok (.ifCond .lt 16, 3) := by decide +kernel
theorem dX4_learnLoop_13 : decode cX4_learnLoop 13 = .ok (.aload_n 0, 1) := by decide +kernel
theorem dX4_learnLoop_14 : decode cX4_learnLoop 14 = .ok (.getfield 40, 3) := by decide +kernel
theorem dX4_learnLoop_17 : decode cX4_learnLoop 17 = .ok (.iload_n 3, 1) := by decide +kernel
theorem dX4_learnLoop_18 : decode cX4_learnLoop 18 = .ok (.aaload, 1) := by decide +kernel
theorem dX4_learnLoop_19 : decode cX4_learnLoop 19 = .ok (.iload_n 2, 1) := by decide +kernel
theorem dX4_learnLoop_20 : decode cX4_learnLoop 20 = .ok (.invokevirtual 273, 3) := by decide +kernel
theorem dX4_learnLoop_23 : decode cX4_learnLoop 23 = .ok (.goto 31, 3) := by decide +kernel
theorem dX4_learnLoop_26 : decode cX4_learnLoop 26 = .ok (.iload_n 2, 1) := by decide +kernel
theorem dX4_learnLoop_27 : decode cX4_learnLoop 27 = .ok (.ifCond .ne 27, 3) := by decide +kernel
theorem dX4_learnLoop_30 : decode cX4_learnLoop 30 = .ok (.aload_n 1, 1) := by decide +kernel
theorem dX4_learnLoop_31 : decode cX4_learnLoop 31 = .ok (.getfield 97, 3) := by decide +kernel
theorem dX4_learnLoop_34 : decode cX4_learnLoop 34 = .ok (.iconst 2, 1) := by decide +kernel
theorem dX4_learnLoop_35 : decode cX4_learnLoop 35 = .ok (.if_icmp .ne 19, 3) := by decide +kernel
theorem dX4_learnLoop_38 : decode cX4_learnLoop 38 = .ok (.aload_n 0, 1) := by decide +kernel
theorem dX4_learnLoop_39 : decode cX4_learnLoop 39 = .ok (.getfield 40, 3) := by decide +kernel
theorem dX4_learnLoop_42 : decode cX4_learnLoop 42 = .ok (.aload_n 0, 1) := by decide +kernel
theorem dX4_learnLoop_43 : decode cX4_learnLoop 43 = .ok (.invokevirtual 277, 3) := by decide +kernel
theorem dX4_learnLoop_46 : decode cX4_learnLoop 46 = .ok (.aaload, 1) := by decide +kernel
theorem dX4_learnLoop_47 : decode cX4_learnLoop 47 = .ok (.aload_n 1, 1) := by decide +kernel
theorem dX4_learnLoop_48 : decode cX4_learnLoop 48 = .ok (.getfield 126, 3) := by decide +kernel
theorem dX4_learnLoop_51 : decode cX4_learnLoop 51 = .ok (.invokevirtual 281, 3) := by decide +kernel
theorem dX4_learnLoop_54 : decode cX4_learnLoop 54 = .ok (.return_, 1) := by decide +kernel
theorem dX4_loopWith_0 : decode cX4_loopWith 0 = .ok (.iconst 0, 1) := by decide +kernel
theorem dX4_loopWith_1 : decode cX4_loopWith 1 = .ok (.istore_n 2, 1) := by decide +kernel
theorem dX4_loopWith_2 : decode cX4_loopWith 2 = .ok (.iload_n 2, 1) := by decide +kernel
theorem dX4_loopWith_3 : decode cX4_loopWith 3 = .ok (.bipush 8, 2) := by decide +kernel
theorem dX4_loopWith_5 : decode cX4_loopWith 5 = .ok (.if_icmp .ge 24, 3) := by decide +kernel
theorem dX4_loopWith_8 : decode cX4_loopWith 8 = .ok (.aload_n 0, 1) := by decide +kernel
theorem dX4_loopWith_9 : decode cX4_loopWith 9 = .ok (.getfield 40, 3) := by decide +kernel
theorem dX4_loopWith_12 : decode cX4_loopWith 12 = .ok (.iload_n 2, 1) := by decide +kernel
theorem dX4_loopWith_13 : decode cX4_loopWith 13 = .ok (.aaload, 1) := by decide +kernel
theorem dX4_loopWith_14 : decode cX4_loopWith 14 = .ok (.getfield 157, 3) := by decide +kernel
theorem dX4_loopWith_17 : decode cX4_loopWith 17 = .ok (.iload_n 1, 1) := by decide +kernel
theorem dX4_loopWith_18 : decode cX4_loopWith 18 = .ok (.if_icmp .ne 5, 3) := by decide +kernel
theorem dX4_loopWith_21 : decode cX4_loopWith 21 = .ok (.iload_n 2, 1) := by decide +kernel
theorem dX4_loopWith_22 : decode cX4_loopWith 22 = .ok (.ireturn, 1) := by decide +kernel
theorem dX4_loopWith_23 : decode cX4_loopWith 23 = .ok (.iinc 2 1, 3) := by decide +kernel
theorem dX4_loopWith_26 : decode cX4_loopWith 26 = .ok (.goto (-24), 3) := by decide +kernel
theorem dX4_loopWith_29 : decode cX4_loopWith 29 = .ok (.iconst (-1), 1) := by decide +kernel
theorem dX4_loopWith_30 : decode cX4_loopWith 30 = .ok (.ireturn, 1) := by decide +kernel
set_option maxRecDepth 20000 in
theorem ggX4_numberForNewLoop_X3_isFree : GoodIn wsX4_numberForNewLoop wsX3_isFree := goodIn_r _ [7, 8, 25, 26, 27, 28] (by decide +kernel) (by decide +kernel)
set_option maxRecDepth 20000 in
theorem gX4_numberForNewLoop_X3_isFree : GoodIn wsX4_numberForNewLoop (wsV RX4 154 RX3 yX3_isFree wsX3_isFree) := goodIn_app (goodIn_of _ (by decide +kernel)) ggX4_numberForNewLoop_X3_isFree
theorem dX4_numberForNewLoop_0 : decode cX4_numberForNewLoop 0 = .ok (.iconst 0, 1) := by decide +kernel
theorem dX4_numberForNewLoop_1 : decode cX4_numberForNewLoop 1 = .ok (.istore_n 1, 1) := by decide +kernel
theorem dX4_numberForNewLoop_2 : decode cX4_numberForNewLoop 2 = .ok (.iconst 0, 1) := by decide +kernel
theorem dX4_numberForNewLoop_3 : decode cX4_numberForNewLoop 3 = .ok (.istore_n 2, 1) := by decide +kernel
theorem dX4_numberForNewLoop_4 : decode cX4_numberForNewLoop 4 = .ok (.iload_n 2, 1) := by decide +kernel
theorem dX4_numberForNewLoop_5 : decode cX4_numberForNewLoop 5 = .ok (.bipush 8, 2) := by decide +kernel
theorem dX4_numberForNewLoop_7 : decode cX4_numberForNewLoop 7 = .ok (.if_icmp .ge 46, 3) := by decide +kernel
theorem dX4_numberForNewLoop_10 : decode cX4_numberForNewLoop 10 = .ok (.aload_n 0, 1) := by decide +kernel
theorem dX4_numberForNewLoop_11 : decode cX4_numberForNewLoop 11 = .ok (.getfield 40, 3) := by decide +kernel
theorem dX4_numberForNewLoop_14 : decode cX4_numberForNewLoop 14 = .ok (.iload_n 2, 1) := by decide +kernel
theorem dX4_numberForNewLoop_15 : decode cX4_numberForNewLoop 15 = .ok (.aaload, 1) := by decide +kernel
theorem dX4_numberForNewLoop_16 : decode cX4_numberForNewLoop 16 = .ok (.invokevirtual 154, 3) := by decide +kernel
theorem dX4_numberForNewLoop_19 : decode cX4_numberForNewLoop 19 = .ok (.ifCond .eq 5, 3) := by decide +kernel
theorem dX4_numberForNewLoop_22 : decode cX4_numberForNewLoop 22 = .ok (.iload_n 2, 1) := by decide +kernel
theorem dX4_numberForNewLoop_23 : decode cX4_numberForNewLoop 23 = .ok (.ireturn, 1) := by decide +kernel
theorem dX4_numberForNewLoop_24 : decode cX4_numberForNewLoop 24 = .ok (.aload_n 0, 1) := by decide +kernel
theorem dX4_numberForNewLoop_25 : decode cX4_numberForNewLoop 25 = .ok (.getfield 40, 3) := by decide +kernel
theorem dX4_numberForNewLoop_28 : decode cX4_numberForNewLoop 28 = .ok (.iload_n 2, 1) := by decide +kernel
theorem dX4_numberForNewLoop_29 : decode cX4_numberForNewLoop 29 = .ok (.aaload, 1) := by decide +kernel
theorem dX4_numberForNewLoop_30 : decode cX4_numberForNewLoop 30 = .ok (.getfield 164, 3) := by decide +kernel
theorem dX4_numberForNewLoop_33 : decode cX4_numberForNewLoop 33 = .ok (.aload_n 0, 1) := by decide +kernel
theorem dX4_numberForNewLoop_34 : decode cX4_numberForNewLoop 34 = .ok (.getfield 40, 3) := by decide +kernel
theorem dX4_numberForNewLoop_37 : decode cX4_numberForNewLoop 37 = .ok (.iload_n 1, 1) := by decide +kernel
theorem dX4_numberForNewLoop_38 : decode cX4_numberForNewLoop 38 = .ok (.aaload, 1) := by decide +kernel
theorem dX4_numberForNewLoop_39 : decode cX4_numberForNewLoop 39 = .ok (.getfield 164, 3) := by decide +kernel
theorem dX4_numberForNewLoop_42 : decode cX4_numberForNewLoop 42 = .ok (.if_icmp .ge 5, 3) := by decide +kernel
theorem dX4_numberForNewLoop_45 : decode cX4_numberForNewLoop 45 = .ok (.iload_n 2, 1) := by decide +kernel
theorem dX4_numberForNewLoop_46 : decode cX4_numberForNewLoop 46 = .ok (.istore_n 1, 1) := by decide +kernel
theorem dX4_numberForNewLoop_47 : decode cX4_numberForNewLoop 47 = .ok (.iinc 2 1, 3) := by decide +kernel
theorem dX4_numberForNewLoop_50 : decode cX4_numberForNewLoop 50 = .ok (.goto (-46), 3) := by decide +kernel
theorem dX4_numberForNewLoop_53 : decode cX4_numberForNewLoop 53 = .ok (.iload_n 1, 1) := by decide +kernel
theorem dX4_numberForNewLoop_54 : decode cX4_numberForNewLoop 54 = .ok (.ireturn, 1) := by decide +kernel
set_option maxRecDepth 20000 in
theorem ggX5_init_X5_begin : GoodIn wsX5_init wsX5_begin := goodIn_r _ [25, 26, 27, 28, 29, 30, 31, 32, 5, 6, 13, 19, 20, 33, 34, 35, 36, 37, 38, 39, 40, 41, 42, 43, 44, 45, 46, 47, 48, 49, 50, 51, 52, 53, 54] (by decide +kernel) (by decide +kernel)
set_option maxRecDepth 20000 in
theorem gX5_init_X5_begin : GoodIn wsX5_init (wsV RX5 54 RX5 yX5_begin wsX5_begin) := goodIn_app (goodIn_of _ (by decide +kernel)) ggX5_init_X5_begin

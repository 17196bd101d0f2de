theorem dX3_freeOf_0 : decode cX3_freeOf 0 = .ok (.aload_n 0, 1) := by decide +kernel
theorem dX3_freeOf_1 : decode cX3_freeOf 1 = .ok (.iload_n 1, 1) := by decide +kernel
theorem dX3_freeOf_2 : decode cX3_freeOf 2 = .ok (.invokevirtual 52, 3) := by decide +kernel
theorem dX3_freeOf_5 : decode cX3_freeOf 5 = .ok (.ifCond .eq 26, 3) := by decide +kernel
theorem dX3_freeOf_8 : decode cX3_freeOf 8 = .ok (.aload_n 0, 1) := by decide +kernel
theorem dX3_freeOf_9 : decode cX3_freeOf 9 = .ok (.getfield 24, 3) := by decide +kernel
theorem dX3_freeOf_12 : decode cX3_freeOf 12 = .ok (.iload_n 1, 1) := by decide +kernel
theorem dX3_freeOf_13 : decode cX3_freeOf 13 = .ok (.iaload, 1) := by decide +kernel
theorem dX3_freeOf_14 : decode cX3_freeOf 14 = .ok (.aload_n 0, 1) := by decide +kernel
theorem dX3_freeOf_15 : decode cX3_freeOf 15 = .ok (.getfield 27, 3) := by decide +kernel
theorem dX3_freeOf_18 : decode cX3_freeOf 18 = .ok (.iload_n 1, 1) := by decide +kernel
theorem dX3_freeOf_19 : decode cX3_freeOf 19 = .ok (.iaload, 1) := by decide +kernel
theorem dX3_freeOf_20 : decode cX3_freeOf 20 = .ok (.isub, 1) := by decide +kernel
theorem dX3_freeOf_21 : decode cX3_freeOf 21 = .ok (.aload_n 0, 1) := by decide +kernel
theorem dX3_freeOf_22 : decode cX3_freeOf 22 = .ok (.getfield 30, 3) := by decide +kernel
theorem dX3_freeOf_25 : decode cX3_freeOf 25 = .ok (.iload_n 1, 1) := by decide +kernel
theorem dX3_freeOf_26 : decode cX3_freeOf 26 = .ok (.iaload, 1) := by decide +kernel
theorem dX3_freeOf_27 : decode cX3_freeOf 27 = .ok (.isub, 1) := by decide +kernel
theorem dX3_freeOf_28 : decode cX3_freeOf 28 = .ok (.goto 4, 3) := by decide +kernel
theorem dX3_freeOf_31 : decode cX3_freeOf 31 = .ok (.iconst 0, 1) := by decide +kernel
theorem dX3_freeOf_32 : decode cX3_freeOf 32 = .ok (.ireturn, 1) := by decide +kernel
set_option maxRecDepth 20000 in
theorem ggX3_isBarred_X3_has : GoodIn wsX3_isBarred wsX3_has := goodIn_r _ [7, 8, 9, 10, 11, 12, 13, 14, 15, 16, 17, 18, 19] (by decide +kernel) (by decide +kernel)
set_option maxRecDepth 20000 in
theorem gX3_isBarred_X3_has : GoodIn wsX3_isBarred (wsV RX3 52 RX3 yX3_has wsX3_has) := goodIn_app (goodIn_of _ (by decide +kernel)) ggX3_isBarred_X3_has
theorem dX3_isBarred_0 : decode cX3_isBarred 0 = .ok (.iload_n 1, 1) := by decide +kernel
theorem dX3_isBarred_1 : decode cX3_isBarred 1 = .ok (.istore_n 2, 1) := by decide +kernel
theorem dX3_isBarred_2 : decode cX3_isBarred 2 = .ok (.iconst 0, 1) := by decide +kernel
theorem dX3_isBarred_3 : decode cX3_isBarred 3 = .ok (.istore_n 3, 1) := by decide +kernel
theorem dX3_isBarred_4 : decode cX3_isBarred 4 = .ok (.iload_n 3, 1) := by decide +kernel
theorem dX3_isBarred_5 : decode cX3_isBarred 5 = .ok (.iconst 4, 1) := by decide +kernel
theorem dX3_isBarred_6 : decode cX3_isBarred 6 = .ok (.if_icmp .gt 36, 3) := by decide +kernel
theorem dX3_isBarred_9 : decode cX3_isBarred 9 = .ok (.aload_n 0, 1) := by decide +kernel
theorem dX3_isBarred_10 : decode cX3_isBarred 10 = .ok (.iload_n 2, 1) := by decide +kernel
theorem dX3_isBarred_11 : decode cX3_isBarred 11 = .ok (.invokevirtual 52, 3) := by decide +kernel
theorem dX3_isBarred_14 : decode cX3_isBarred 14 = .ok (.ifCond .eq 28, 3) := by decide +kernel
theorem dX3_isBarred_17 : decode cX3_isBarred 17 = .ok (.aload_n 0, 1) := by decide +kernel
theorem dX3_isBarred_18 : decode cX3_isBarred 18 = .ok (.getfield 21, 3) := by decide +kernel
theorem dX3_isBarred_21 : decode cX3_isBarred 21 = .ok (.iload_n 2, 1) := by decide +kernel
theorem dX3_isBarred_22 : decode cX3_isBarred 22 = .ok (.iaload, 1) := by decide +kernel
theorem dX3_isBarred_23 : decode cX3_isBarred 23 = .ok (.iconst 1, 1) := by decide +kernel
theorem dX3_isBarred_24 : decode cX3_isBarred 24 = .ok (.if_icmp .ne 5, 3) := by decide +kernel
theorem dX3_isBarred_27 : decode cX3_isBarred 27 = .ok (.iconst 1, 1) := by decide +kernel
theorem dX3_isBarred_28 : decode cX3_isBarred 28 = .ok (.ireturn, 1) := by decide +kernel
theorem dX3_isBarred_29 : decode cX3_isBarred 29 = .ok (.aload_n 0, 1) := by decide +kernel
theorem dX3_isBarred_30 : decode cX3_isBarred 30 = .ok (.getfield 9, 3) := by decide +kernel
theorem dX3_isBarred_33 : decode cX3_isBarred 33 = .ok (.iload_n 2, 1) := by decide +kernel
theorem dX3_isBarred_34 : decode cX3_isBarred 34 = .ok (.iaload, 1) := by decide +kernel
theorem dX3_isBarred_35 : decode cX3_isBarred 35 = .ok (.istore_n 2, 1) := by decide +kernel
theorem dX3_isBarred_36 : decode cX3_isBarred 36 = .ok (.iinc 3 1, 3) := by decide +kernel
theorem dX3_isBarred_39 : decode cX3_isBarred 39 = .ok (.goto (-35), 3) := by decide +kernel
theorem dX3_isBarred_42 : decode cX3_isBarred 42 = .ok (.iconst 0, 1) := by decide +kernel
theorem dX3_isBarred_43 : decode cX3_isBarred 43 = .ok (.ireturn, 1) := by decide +kernel
set_option maxRecDepth 20000 in
theorem ggX3_countBarred_X3_isBarred : GoodIn wsX3_countBarred wsX3_isBarred := goodIn_r _ [5, 6, 7, 8, 9, 10, 4, 11, 12, 13, 14, 15, 16, 17, 18, 19, 20, 21, 22, 23] (by decide +kernel) (by decide +kernel)
set_option maxRecDepth 20000 in
theorem gX3_countBarred_X3_isBarred : GoodIn wsX3_countBarred (wsV RX3 56 RX3 yX3_isBarred wsX3_isBarred) := goodIn_app (goodIn_of _ (by decide +kernel)) ggX3_countBarred_X3_isBarred
theorem dX3_countBarred_0 : decode cX3_countBarred 0 = .ok (.iconst 0, 1) := by decide +kernel
theorem dX3_countBarred_1 : decode cX3_countBarred 1 = .ok (.istore_n 1, 1) := by decide +kernel
theorem dX3_countBarred_2 : decode cX3_countBarred 2 = .ok (.iconst 0, 1) := by decide +kernel
theorem dX3_countBarred_3 : decode cX3_countBarred 3 = .ok (.istore_n 2, 1) := by decide +kernel
theorem dX3_countBarred_4 : decode cX3_countBarred 4 = .ok (.iload_n 2, 1) := by decide +kernel
theorem dX3_countBarred_5 : decode cX3_countBarred 5 = .ok (.bipush 20, 2) := by decide +kernel
theorem dX3_countBarred_7 : decode cX3_countBarred 7 = .ok (.if_icmp .ge 20, 3) := by decide +kernel
theorem dX3_countBarred_10 : decode cX3_countBarred 10 = .ok (.aload_n 0, 1) := by decide +kernel
theorem dX3_countBarred_11 : decode cX3_countBarred 11 = .ok (.iload_n 2, 1) := by decide +kernel
theorem dX3_countBarred_12 : decode cX3_countBarred 12 = .ok (.invokevirtual 56, 3) := by decide +kernel
theorem dX3_countBarred_15 : decode cX3_countBarred 15 = .ok (.ifCond .eq 6, 3) := by decide +kernel
theorem dX3_countBarred_18 : decode cX3_countBarred 18 = .ok (.iinc 1 1, 3) := by decide +kernel
theorem dX3_countBarred_21 : decode cX3_countBarred 21 = .ok (.iinc 2 1, 3) := by decide +kernel
theorem dX3_countBarred_24 : decode cX3_countBarred 24 = .ok (.goto (-20), 3) := by decide +kernel
theorem dX3_countBarred_27 : decode cX3_countBarred 27 = .ok (.iload_n 1, 1) := by decide +kernel
theorem dX3_countBarred_28 : decode cX3_countBarred 28 = .ok (.ireturn, 1) := by decide +kernel
set_option maxRecDepth 20000 in
theorem ggX3_isWithin_X3_has : GoodIn wsX3_isWithin wsX3_has := goodIn_r _ [6, 7, 8, 9, 10, 11, 12, 13, 14, 15, 16, 17, 18] (by decide +kernel) (by decide +kernel)
set_option maxRecDepth 20000 in
theorem gX3_isWithin_X3_has : GoodIn wsX3_isWithin (wsV RX3 52 RX3 yX3_has wsX3_has) := goodIn_app (goodIn_of _ (by decide +kernel)) ggX3_isWithin_X3_has
theorem dX3_isWithin_0 : decode cX3_isWithin 0 = .ok (.iload_n 1, 1) := by decide +kernel
theorem dX3_isWithin_1 : decode cX3_isWithin 1 = .ok (.istore_n 3, 1) := by decide +kernel
theorem dX3_isWithin_2 : decode cX3_isWithin 2 = .ok (.iconst 0, 1) := by decide +kernel
theorem dX3_isWithin_3 : decode cX3_isWithin 3 = .ok (.istore 4, 2) := by decide +kernel
theorem dX3_isWithin_5 : decode cX3_isWithin 5 = .ok (.iload 4, 2) := by decide +kernel
theorem dX3_isWithin_7 : decode cX3_isWithin 7 = .ok (.iconst 4, 1) := by decide +kernel
theorem dX3_isWithin_8 : decode cX3_isWithin 8 = .ok (.if_icmp .gt 31, 3) := by decide +kernel
theorem dX3_isWithin_11 : decode cX3_isWithin 11 = .ok (.aload_n 0, 1) := by decide +kernel
theorem dX3_isWithin_12 : decode cX3_isWithin 12 = .ok (.iload_n 3, 1) := by decide +kernel
theorem dX3_isWithin_13 : decode cX3_isWithin 13 = .ok (.invokevirtual 52, 3) := by decide +kernel
theorem dX3_isWithin_16 : decode cX3_isWithin 16 = .ok (.ifCond .eq 23, 3) := by decide +kernel
theorem dX3_isWithin_19 : decode cX3_isWithin 19 = .ok (.iload_n 3, 1) := by decide +kernel
theorem dX3_isWithin_20 : decode cX3_isWithin 20 = .ok (.iload_n 2, 1) := by decide +kernel
theorem dX3_isWithin_21 : decode cX3_isWithin 21 = .ok (.if_icmp .ne 5, 3) := by decide +kernel
theorem dX3_isWithin_24 : decode cX3_isWithin 24 = .ok (.iconst 1, 1) := by decide +kernel
theorem dX3_isWithin_25 : decode cX3_isWithin 25 = .ok (.ireturn, 1) := by decide +kernel
theorem dX3_isWithin_26 : decode cX3_isWithin 26 = .ok (.aload_n 0, 1) := by decide +kernel
theorem dX3_isWithin_27 : decode cX3_isWithin 27 = .ok (.getfield 9, 3) := by decide +kernel
theorem dX3_isWithin_30 : decode cX3_isWithin 30 = .ok (.iload_n 3, 1) := by decide +kernel
theorem dX3_isWithin_31 : decode cX3_isWithin 31 = .ok (.iaload, 1) := by decide +kernel
theorem dX3_isWithin_32 : decode cX3_isWithin 32 = .ok (.istore_n 3, 1) := by decide +kernel
theorem dX3_isWithin_33 : decode cX3_isWithin 33 = .ok (.iinc 4 1, 3) := by decide +kernel
theorem dX3_isWithin_36 : decode cX3_isWithin 36 = .ok (.goto (-31), 3) := by decide +kernel
theorem dX3_isWithin_39 : decode cX3_isWithin 39 = .ok (.iconst 0, 1) := by decide +kernel
theorem dX3_isWithin_40 : decode cX3_isWithin 40 = .ok (.ireturn, 1) := by decide +kernel
set_option maxRecDepth 20000 in
theorem ggX3_sumWithin_X3_isWithin : GoodIn wsX3_sumWithin wsX3_isWithin := goodIn_r _ [5, 6, 7, 8, 9, 4, 10, 11, 23, 24, 25, 26, 27, 28, 29, 30, 31, 32, 33] (by decide +kernel) (by decide +kernel)
set_option maxRecDepth 20000 in
theorem gX3_sumWithin_X3_isWithin : GoodIn wsX3_sumWithin (wsV RX3 59 RX3 yX3_isWithin wsX3_isWithin) := goodIn_app (goodIn_of _ (by decide +kernel)) ggX3_sumWithin_X3_isWithin
set_option maxRecDepth 20000 in
theorem ggX3_sumWithin_X3_summand : GoodIn wsX3_sumWithin wsX3_summand := goodIn_r _ [15, 16, 17, 18, 7, 8, 9, 4, 10, 11, 19, 20, 21, 22, 23, 24, 25, 26, 27, 28, 29, 30, 31, 32, 33] (by decide +kernel) (by decide +kernel)
set_option maxRecDepth 20000 in
theorem gX3_sumWithin_X3_summand : GoodIn wsX3_sumWithin (wsV RX3 63 RX3 yX3_summand wsX3_summand) := goodIn_app (goodIn_of _ (by decide +kernel)) ggX3_sumWithin_X3_summand
theorem dX3_sumWithin_0 : decode cX3_sumWithin 0 = .ok (.iconst 0, 1) := by decide +kernel
theorem dX3_sumWithin_1 : decode cX3_sumWithin 1 = .ok (.istore_n 3, 1) := by decide +kernel
theorem dX3_sumWithin_2 : decode cX3_sumWithin 2 = .ok (.iconst 0, 1) := by decide +kernel
theorem dX3_sumWithin_3 : decode cX3_sumWithin 3 = .ok (.istore 4, 2) := by decide +kernel
theorem dX3_sumWithin_5 : decode cX3_sumWithin 5 = .ok (.iload 4, 2) := by decide +kernel
theorem dX3_sumWithin_7 : decode cX3_sumWithin 7 = .ok (.bipush 20, 2) := by decide +kernel
theorem dX3_sumWithin_9 : decode cX3_sumWithin 9 = .ok (.if_icmp .ge 29, 3) := by decide +kernel
theorem dX3_sumWithin_12 : decode cX3_sumWithin 12 = .ok (.aload_n 0, 1) := by decide +kernel
theorem dX3_sumWithin_13 : decode cX3_sumWithin 13 = .ok (.iload 4, 2) := by decide +kernel
theorem dX3_sumWithin_15 : decode cX3_sumWithin 15 = .ok (.iload_n 1, 1) := by decide +kernel
theorem dX3_sumWithin_16 : decode cX3_sumWithin 16 = .ok (.invokevirtual 59, 3) := by decide +kernel
theorem dX3_sumWithin_19 : decode cX3_sumWithin 19 = .ok (.ifCond .eq 13, 3) := by decide +kernel
theorem dX3_sumWithin_22 : decode cX3_sumWithin 22 = .ok (.iload_n 3, 1) := by decide +kernel
theorem dX3_sumWithin_23 : decode cX3_sumWithin 23 = .ok (.aload_n 0, 1) := by decide +kernel
theorem dX3_sumWithin_24 : decode cX3_sumWithin 24 = .ok (.iload 4, 2) := by decide +kernel
theorem dX3_sumWithin_26 : decode cX3_sumWithin 26 = .ok (.iload_n 2, 1) := by decide +kernel
theorem dX3_sumWithin_27 : decode cX3_sumWithin 27 = .ok (.invokevirtual 63, 3) := by decide +kernel
theorem dX3_sumWithin_30 : decode cX3_sumWithin 30 = .ok (.iadd, 1) := by decide +kernel
theorem dX3_sumWithin_31 : decode cX3_sumWithin 31 = .ok (.istore_n 3, 1) := by decide +kernel
theorem dX3_sumWithin_32 : decode cX3_sumWithin 32 = .ok (.iinc 4 1, 3) := by decide +kernel
theorem dX3_sumWithin_35 : decode cX3_sumWithin 35 = .ok (.goto (-30), 3) := by decide +kernel
theorem dX3_sumWithin_38 : decode cX3_sumWithin 38 = .ok (.iload_n 3, 1) := by decide +kernel
theorem dX3_sumWithin_39 : decode cX3_sumWithin 39 = .ok (.ireturn, 1) := by decide +kernel
set_option maxRecDepth 20000 in
theorem ggX3_summand_X3_has : GoodIn wsX3_summand wsX3_has := goodIn_r _ [8, 9, 14, 15, 16, 17, 18, 19, 20, 21, 22, 23, 24] (by decide +kernel) (by decide +kernel)
set_option maxRecDepth 20000 in
theorem gX3_summand_X3_has : GoodIn wsX3_summand (wsV RX3 52 RX3 yX3_has wsX3_has) := goodIn_app (goodIn_of _ (by decide +kernel)) ggX3_summand_X3_has
set_option maxRecDepth 20000 in
theorem ggX3_summand_X3_freeOf : GoodIn wsX3_summand wsX3_freeOf := goodIn_r _ [13, 1, 2, 3, 4, 5, 6, 7, 8, 9, 14, 15, 16, 17, 18, 19, 20, 21, 22, 23, 24] (by decide +kernel) (by decide +kernel)
set_option maxRecDepth 20000 in
theorem gX3_summand_X3_freeOf : GoodIn wsX3_summand (wsV RX3 67 RX3 yX3_freeOf wsX3_freeOf) := goodIn_app (goodIn_of _ (by decide +kernel)) ggX3_summand_X3_freeOf
theorem dX3_summand_0 : decode cX3_summand 0 = .ok (.aload_n 0, 1) := by decide +kernel
theorem dX3_summand_1 : decode cX3_summand 1 = .ok (.iload_n 1, 1) := by decide +kernel
theorem dX3_summand_2 : decode cX3_summand 2 = .ok (.invokevirtual 52, 3) := by decide +kernel
theorem dX3_summand_5 : decode cX3_summand 5 = .ok (.ifCond .ne 5, 3) := by decide +kernel
theorem dX3_summand_8 : decode cX3_summand 8 = .ok (.iconst 0, 1) := by decide +kernel
theorem dX3_summand_9 : decode cX3_summand 9 = .ok (.ireturn, 1) := by decide +kernel
theorem dX3_summand_10 : decode cX3_summand 10 = .ok (.iload_n 2, 1) := by decide +kernel
theorem dX3_summand_11 : decode cX3_summand 11 = .ok (.tableswitch 56 0 3 #[29, 36, 43, 50], 29) := by decide +kernel
theorem dX3_summand_40 : decode cX3_summand 40 = .ok (.aload_n 0, 1) := by decide +kernel
theorem dX3_summand_41 : decode cX3_summand 41 = .ok (.getfield 24, 3) := by decide +kernel
theorem dX3_summand_44 : decode cX3_summand 44 = .ok (.iload_n 1, 1) := by decide +kernel
theorem dX3_summand_45 : decode cX3_summand 45 = .ok (.iaload, 1) := by decide +kernel
theorem dX3_summand_46 : decode cX3_summand 46 = .ok (.ireturn, 1) := by decide +kernel
theorem dX3_summand_47 : decode cX3_summand 47 = .ok (.aload_n 0, 1) := by decide +kernel
theorem dX3_summand_48 : decode cX3_summand 48 = .ok (.getfield 27, 3) := by decide +kernel
theorem dX3_summand_51 : decode cX3_summand 51 = .ok (.iload_n 1, 1) := by decide +kernel
theorem dX3_summand_52 : decode cX3_summand 52 = .ok (.iaload, 1) := by decide +kernel
theorem dX3_summand_53 : decode cX3_summand 53 = .ok (.ireturn, 1) := by decide +kernel
theorem dX3_summand_54 : decode cX3_summand 54 = .ok (.aload_n 0, 1) := by decide +kernel
theorem dX3_summand_55 : decode cX3_summand 55 = .ok (.getfield 30, 3) := by decide +kernel
theorem dX3_summand_58 : decode cX3_summand 58 = .ok (.iload_n 1, 1) := by decide +kernel
theorem dX3_summand_59 : decode cX3_summand 59 = .ok (.iaload, 1) := by decide +kernel
theorem dX3_summand_60 : decode cX3_summand 60 = .ok (.ireturn, 1) := by decide +kernel
theorem dX3_summand_61 : decode cX3_summand 61 = .ok (.aload_n 0, 1) := by decide +kernel
theorem dX3_summand_62 : decode cX3_summand 62 = .ok (.iload_n 1, 1) := by decide +kernel
theorem dX3_summand_63 : decode cX3_summand 63 = .ok (.invokevirtual 67, 3) := by decide +kernel
theorem dX3_summand_66 : decode cX3_summand 66 = .ok (.ireturn, 1) := by decide +kernel
theorem dX3_summand_67 : decode cX3_summand 67 = .ok (.iconst 1, 1) := by decide +kernel
theorem dX3_summand_68 : decode cX3_summand 68 = .ok (.ireturn, 1) := by decide +kernel
set_option maxRecDepth 20000 in
theorem ggX3_changeCommitted_X3_has : GoodIn wsX3_changeCommitted wsX3_has := goodIn_r _ [6, 7, 8, 9, 10, 11, 12, 13, 14, 15, 16, 17, 18] (by decide +kernel) (by decide +kernel)
set_option maxRecDepth 20000 in
theorem gX3_changeCommitted_X3_has : GoodIn wsX3_changeCommitted (wsV RX3 52 RX3 yX3_has wsX3_has) := goodIn_app (goodIn_of _ (by decide +kernel)) ggX3_changeCommitted_X3_has
theorem dX3_changeCommitted_0 : decode cX3_changeCommitted 0 = .ok (.aload_n 0, 1) := by decide +kernel
theorem dX3_changeCommitted_1 : decode cX3_changeCommitted 1 = .ok (.iload_n 1, 1) := by decide +kernel
theorem dX3_changeCommitted_2 : decode cX3_changeCommitted 2 = .ok (.invokevirtual 52, 3) := by decide +kernel
theorem dX3_changeCommitted_5 : decode cX3_changeCommitted 5 = .ok (.ifCond .eq 13, 3) := by decide +kernel
theorem dX3_changeCommitted_8 : decode cX3_changeCommitted 8 = .ok (.aload_n 0, 1) := by decide +kernel
theorem dX3_changeCommitted_9 : decode cX3_changeCommitted 9 = .ok (.getfield 27, 3) := by decide +kernel
theorem dX3_changeCommitted_12 : decode cX3_changeCommitted 12 = .ok (.iload_n 1, 1) := by decide +kernel
theorem dX3_changeCommitted_13 : decode cX3_changeCommitted 13 = .ok (.dup2, 1) := by decide +kernel
theorem dX3_changeCommitted_14 : decode cX3_changeCommitted 14 = .ok (.iaload, 1) := by decide +kernel
theorem dX3_changeCommitted_15 : decode cX3_changeCommitted 15 = .ok (.iload_n 2, 1) := by decide +kernel
theorem dX3_changeCommitted_16 : decode cX3_changeCommitted 16 = .ok (.iadd, 1) := by decide +kernel
theorem dX3_changeCommitted_17 : decode cX3_changeCommitted 17 = .ok (.iastore, 1) := by decide +kernel
theorem dX3_changeCommitted_18 : decode cX3_changeCommitted 18 = .ok (.return_, 1) := by decide +kernel
set_option maxRecDepth 20000 in
theorem ggX3_spendCommitted_X3_has : GoodIn wsX3_spendCommitted wsX3_has := goodIn_r _ [7, 8, 9, 10, 11, 12, 13, 14, 15, 16, 17, 18, 19] (by decide +kernel) (by decide +kernel)
set_option maxRecDepth 20000 in
theorem gX3_spendCommitted_X3_has : GoodIn wsX3_spendCommitted (wsV RX3 52 RX3 yX3_has wsX3_has) := goodIn_app (goodIn_of _ (by decide +kernel)) ggX3_spendCommitted_X3_has
theorem dX3_spendCommitted_0 : decode cX3_spendCommitted 0 = .ok (.aload_n 0, 1) := by decide +kernel
theorem dX3_spendCommitted_1 : decode cX3_spendCommitted 1 = .ok (.iload_n 1, 1) := by decide +kernel
theorem dX3_spendCommitted_2 : decode cX3_spendCommitted 2 = .ok (.invokevirtual 52, 3) := by decide +kernel
theorem dX3_spendCommitted_5 : decode cX3_spendCommitted 5 = .ok (.ifCond .eq 23, 3) := by decide +kernel
theorem dX3_spendCommitted_8 : decode cX3_spendCommitted 8 = .ok (.aload_n 0, 1) := by decide +kernel
theorem dX3_spendCommitted_9 : decode cX3_spendCommitted 9 = .ok (.getfield 27, 3) := by decide +kernel
theorem dX3_spendCommitted_12 : decode cX3_spendCommitted 12 = .ok (.iload_n 1, 1) := by decide +kernel
theorem dX3_spendCommitted_13 : decode cX3_spendCommitted 13 = .ok (.dup2, 1) := by decide +kernel
theorem dX3_spendCommitted_14 : decode cX3_spendCommitted 14 = .ok (.iaload, 1) := by decide +kernel
theorem dX3_spendCommitted_15 : decode cX3_spendCommitted 15 = .ok (.iload_n 2, 1) := by decide +kernel
theorem dX3_spendCommitted_16 : decode cX3_spendCommitted 16 = .ok (.isub, 1) := by decide +kernel
theorem dX3_spendCommitted_17 : decode cX3_spendCommitted 17 = .ok (.iastore, 1) := by decide +kernel
theorem dX3_spendCommitted_18 : decode cX3_spendCommitted 18 = .ok (.aload_n 0, 1) := by decide +kernel
theorem dX3_spendCommitted_19 : decode cX3_spendCommitted 19 = .ok (.getfield 30, 3) := by decide +kernel
theorem dX3_spendCommitted_22 : decode cX3_spendCommitted 22 = .ok (.iload_n 1, 1) := by decide +kernel
theorem dX3_spendCommitted_23 : decode cX3_spendCommitted 23 = .ok (.dup2, 1) := by decide +kernel
theorem dX3_spendCommitted_24 : decode cX3_spendCommitted 24 = .ok (.iaload, 1) := by decide +kernel
theorem dX3_spendCommitted_25 : decode cX3_spendCommitted 25 = .ok (.iload_n 2, 1) := by decide +kernel
theorem dX3_spendCommitted_26 : decode cX3_spendCommitted 26 = .ok (.iadd, 1) := by decide +kernel
theorem dX3_spendCommitted_27 : decode cX3_spendCommitted 27 = .ok (.iastore, 1) := by decide +kernel
theorem dX3_spendCommitted_28 : decode cX3_spendCommitted 28 = .ok (.return_, 1) := by decide +kernel
set_option maxRecDepth 20000 in
theorem ggX3_movable_X3_hasBoth : GoodIn wsX3_movable wsX3_hasBoth := goodIn_r _ [16, 17, 18, 19, 15, 20, 21, 48, 49, 50, 51, 52, 53, 54, 55, 56, 57, 58] (by decide +kernel) (by decide +kernel)
set_option maxRecDepth 20000 in
theorem gX3_movable_X3_hasBoth : GoodIn wsX3_movable (wsV RX3 71 RX3 yX3_hasBoth wsX3_hasBoth) := goodIn_app (goodIn_of _ (by decide +kernel)) ggX3_movable_X3_hasBoth
set_option maxRecDepth 20000 in
theorem ggX3_movable_X3_mayGive : GoodIn wsX3_movable wsX3_mayGive := goodIn_r _ [25, 26, 27, 12, 13, 14, 15, 16, 17, 18, 19, 20, 21, 28, 29, 30, 31, 32, 33, 34, 35, 36, 48, 49, 50, 51, 52, 53, 54, 55, 56, 57, 58] (by decide +kernel) (by decide +kernel)
set_option maxRecDepth 20000 in
theorem gX3_movable_X3_mayGive : GoodIn wsX3_movable (wsV RX3 74 RX3 yX3_mayGive wsX3_mayGive) := goodIn_app (goodIn_of _ (by decide +kernel)) ggX3_movable_X3_mayGive
set_option maxRecDepth 20000 in
theorem ggX3_movable_X5_partOf : GoodIn wsX3_movable wsX5_partOf := goodIn_r _ [39, 40] (by decide +kernel) (by decide +kernel)
set_option maxRecDepth 20000 in
theorem gX3_movable_X5_partOf_n77 : GoodIn wsX3_movable (wsX5_partOf) := ggX3_movable_X5_partOf
set_option maxRecDepth 20000 in
theorem ggX3_movable_X3_freeOf : GoodIn wsX3_movable wsX3_freeOf := goodIn_r _ [44, 45, 46, 47, 17, 18, 19, 15, 20, 21, 48, 49, 50, 51, 52, 53, 54, 55, 56, 57, 58] (by decide +kernel) (by decide +kernel)
set_option maxRecDepth 20000 in
theorem gX3_movable_X3_freeOf : GoodIn wsX3_movable (wsV RX3 67 RX3 yX3_freeOf wsX3_freeOf) := goodIn_app (goodIn_of _ (by decide +kernel)) ggX3_movable_X3_freeOf
theorem dX3_movable_0 : decode cX3_movable 0 = .ok (.aload_n 0, 1) := by decide +kernel
theorem dX3_movable_1 : decode cX3_movable 1 = .ok (.iload_n 1, 1) := by decide +kernel
theorem dX3_movable_2 : decode cX3_movable 2 = .ok (.iload_n 2, 1) := by decide +kernel
theorem dX3_movable_3 : decode cX3_movable 3 = .ok (.invokevirtual 71, 3) := by decide +kernel
theorem dX3_movable_6 : decode cX3_movable 6 = .ok (.ifCond .eq 12, 3) := by decide +kernel
theorem dX3_movable_9 : decode cX3_movable 9 = .ok (.aload_n 0, 1) := by decide +kernel
theorem dX3_movable_10 : decode cX3_movable 10 = .ok (.iload_n 1, 1) := by decide +kernel
theorem dX3_movable_11 : decode cX3_movable 11 = .ok (.iload_n 2, 1) := by decide +kernel
theorem dX3_movable_12 : decode cX3_movable 12 = .ok (.invokevirtual 74, 3) := by decide +kernel
theorem dX3_movable_15 : decode cX3_movable 15 = .ok (.ifCond .ne 5, 3) := by decide +kernel
theorem dX3_movable_18 : decode cX3_movable 18 = .ok (.iconst 0, 1) := by decide +kernel
theorem dX3_movable_19 : decode cX3_movable 19 = .ok (.ireturn, 1) := by decide +kernel
theorem dX3_movable_20 : decode cX3_movable 20 = .ok (.aload_n 0, 1) := by decide +kernel
theorem dX3_movable_21 : decode cX3_movable 21 = .ok (.getfield 33, 3) := by decide +kernel
theorem dX3_movable_24 : decode cX3_movable 24 = .ok (.iload_n 1, 1) := by decide +kernel
theorem dX3_movable_25 : decode cX3_movable 25 = .ok (.iaload, 1) := by decide +kernel
theorem dX3_movable_26 : decode cX3_movable 26 = .ok (.aload_n 0, 1) := by decide +kernel
theorem dX3_movable_27 : decode cX3_movable 27 = .ok (.getfield 39, 3) := by decide +kernel
theorem dX3_movable_30 : decode cX3_movable 30 = .ok (.iload_n 1, 1) := by decide +kernel
theorem dX3_movable_31 : decode cX3_movable 31 = .ok (.iaload, 1) := by decide +kernel
theorem dX3_movable_32 : decode cX3_movable 32 = .ok (.invokestatic 77, 3) := by decide +kernel
theorem dX3_movable_35 : decode cX3_movable 35 = .ok (.aload_n 0, 1) := by decide +kernel
theorem dX3_movable_36 : decode cX3_movable 36 = .ok (.getfield 36, 3) := by decide +kernel
theorem dX3_movable_39 : decode cX3_movable 39 = .ok (.iload_n 1, 1) := by decide +kernel
theorem dX3_movable_40 : decode cX3_movable 40 = .ok (.iaload, 1) := by decide +kernel
theorem dX3_movable_41 : decode cX3_movable 41 = .ok (.isub, 1) := by decide +kernel
theorem dX3_movable_42 : decode cX3_movable 42 = .ok (.istore_n 3, 1) := by decide +kernel
theorem dX3_movable_43 : decode cX3_movable 43 = .ok (.ldc 80, 2) := by decide +kernel
theorem dX3_movable_45 : decode cX3_movable 45 = .ok (.aload_n 0, 1) := by decide +kernel
theorem dX3_movable_46 : decode cX3_movable 46 = .ok (.iload_n 1, 1) := by decide +kernel
theorem dX3_movable_47 : decode cX3_movable 47 = .ok (.invokevirtual 67, 3) := by decide +kernel
theorem dX3_movable_50 : decode cX3_movable 50 = .ok (.iload_n 3, 1) := by decide +kernel
theorem dX3_movable_51 : decode cX3_movable 51 = .ok (.invokestatic 81, 3) := by decide +kernel
theorem dX3_movable_54 : decode cX3_movable 54 = .ok (.invokestatic 81, 3) := by decide +kernel
theorem dX3_movable_57 : decode cX3_movable 57 = .ok (.istore 4, 2) := by decide +kernel
theorem dX3_movable_59 : decode cX3_movable 59 = .ok (.iconst 0, 1) := by decide +kernel
theorem dX3_movable_60 : decode cX3_movable 60 = .ok (.iload 4, 2) := by decide +kernel
theorem dX3_movable_62 : decode cX3_movable 62 = .ok (.invokestatic 86, 3) := by decide +kernel
theorem dX3_movable_65 : decode cX3_movable 65 = .ok (.ireturn, 1) := by decide +kernel
set_option maxRecDepth 20000 in
theorem ggX3_mayGive_X3_hasBoth : GoodIn wsX3_mayGive wsX3_hasBoth := goodIn_r _ [7, 8, 9, 10, 6, 11, 12, 22, 23, 24, 25, 26, 27, 28, 29, 30, 31, 32] (by decide +kernel) (by decide +kernel)
set_option maxRecDepth 20000 in
theorem gX3_mayGive_X3_hasBoth : GoodIn wsX3_mayGive (wsV RX3 71 RX3 yX3_hasBoth wsX3_hasBoth) := goodIn_app (goodIn_of _ (by decide +kernel)) ggX3_mayGive_X3_hasBoth
set_option maxRecDepth 20000 in
theorem ggX3_mayGive_X3_isBarred : GoodIn wsX3_mayGive wsX3_isBarred := goodIn_r _ [16, 17, 1, 8, 9, 10, 6, 11, 12, 22, 23, 24, 25, 26, 27, 28, 29, 30, 31, 32] (by decide +kernel) (by decide +kernel)
set_option maxRecDepth 20000 in
theorem gX3_mayGive_X3_isBarred : GoodIn wsX3_mayGive (wsV RX3 56 RX3 yX3_isBarred wsX3_isBarred) := goodIn_app (goodIn_of _ (by decide +kernel)) ggX3_mayGive_X3_isBarred
set_option maxRecDepth 20000 in
theorem ggX3_mayGive_X3_isWithin : GoodIn wsX3_mayGive wsX3_isWithin := goodIn_r _ [21, 1, 8, 9, 10, 6, 11, 12, 22, 23, 24, 25, 26, 27, 28, 29, 30, 31, 32] (by decide +kernel) (by decide +kernel)
set_option maxRecDepth 20000 in
theorem gX3_mayGive_X3_isWithin : GoodIn wsX3_mayGive (wsV RX3 59 RX3 yX3_isWithin wsX3_isWithin) := goodIn_app (goodIn_of _ (by decide +kernel)) ggX3_mayGive_X3_isWithin
theorem dX3_mayGive_0 : decode cX3_mayGive 0 = .ok (.aload_n 0, 1) := by decide +kernel
theorem dX3_mayGive_1 : decode cX3_mayGive 1 = .ok (.iload_n 1, 1) := by decide +kernel
theorem dX3_mayGive_2 : decode cX3_mayGive 2 = .ok (.iload_n 2, 1) := by decide +kernel
theorem dX3_mayGive_3 : decode cX3_mayGive 3 = .ok (.invokevirtual 71, 3) := by decide +kernel
theorem dX3_mayGive_6 : decode cX3_mayGive 6 = .ok (.ifCond .eq 19, 3) := by decide +kernel
theorem dX3_mayGive_9 : decode cX3_mayGive 9 = .ok (.aload_n 0, 1) := by decide +kernel
theorem dX3_mayGive_10 : decode cX3_mayGive 10 = .ok (.iload_n 1, 1) := by decide +kernel
theorem dX3_mayGive_11 : decode cX3_mayGive 11 = .ok (.invokevirtual 56, 3) := by decide +kernel
theorem dX3_mayGive_14 : decode cX3_mayGive 14 = .ok (.ifCond .ne 11, 3) := by decide +kernel
theorem dX3_mayGive_17 : decode cX3_mayGive 17 = .ok (.aload_n 0, 1) := by decide +kernel
theorem dX3_mayGive_18 : decode cX3_mayGive 18 = .ok (.iload_n 2, 1) := by decide +kernel
theorem dX3_mayGive_19 : decode cX3_mayGive 19 = .ok (.invokevirtual 56, 3) := by decide +kernel
theorem dX3_mayGive_22 : decode cX3_mayGive 22 = .ok (.ifCond .eq 5, 3) := by decide +kernel
theorem dX3_mayGive_25 : decode cX3_mayGive 25 = .ok (.iconst 0, 1) := by decide +kernel
theorem dX3_mayGive_26 : decode cX3_mayGive 26 = .ok (.ireturn, 1) := by decide +kernel
theorem dX3_mayGive_27 : decode cX3_mayGive 27 = .ok (.aload_n 0, 1) := by decide +kernel
theorem dX3_mayGive_28 : decode cX3_mayGive 28 = .ok (.iload_n 1, 1) := by decide +kernel
theorem dX3_mayGive_29 : decode cX3_mayGive 29 = .ok (.iload_n 2, 1) := by decide +kernel
theorem dX3_mayGive_30 : decode cX3_mayGive 30 = .ok (.invokevirtual 59, 3) := by decide +kernel
theorem dX3_mayGive_33 : decode cX3_mayGive 33 = .ok (.ifCond .ne 27, 3) := by decide +kernel
theorem dX3_mayGive_36 : decode cX3_mayGive 36 = .ok (.aload_n 0, 1) := by decide +kernel
theorem dX3_mayGive_37 : decode cX3_mayGive 37 = .ok (.iload_n 2, 1) := by decide +kernel
theorem dX3_mayGive_38 : decode cX3_mayGive 38 = .ok (.iload_n 1, 1) := by decide +kernel
theorem dX3_mayGive_39 : decode cX3_mayGive 39 = .ok (.invokevirtual 59, 3) := by decide +kernel
theorem dX3_mayGive_42 : decode cX3_mayGive 42 = .ok (.ifCond .ne 18, 3) := by decide +kernel
theorem dX3_mayGive_45 : decode cX3_mayGive 45 = .ok (.aload_n 0, 1) := by decide +kernel
theorem dX3_mayGive_46 : decode cX3_mayGive 46 = .ok (.getfield 9, 3) := by decide +kernel
theorem dX3_mayGive_49 : decode cX3_mayGive 49 = .ok (.iload_n 1, 1) := by decide +kernel
theorem dX3_mayGive_50 : decode cX3_mayGive 50 = .ok (.iaload, 1) := by decide +kernel
theorem dX3_mayGive_51 : decode cX3_mayGive 51 = .ok (.aload_n 0, 1) := by decide +kernel
theorem dX3_mayGive_52 : decode cX3_mayGive 52 = .ok (.getfield 9, 3) := by decide +kernel
theorem dX3_mayGive_55 : decode cX3_mayGive 55 = .ok (.iload_n 2, 1) := by decide +kernel
theorem dX3_mayGive_56 : decode cX3_mayGive 56 = .ok (.iaload, 1) := by decide +kernel
theorem dX3_mayGive_57 : decode cX3_mayGive 57 = .ok (.if_icmp .ne 7, 3) := by decide +kernel
theorem dX3_mayGive_60 : decode cX3_mayGive 60 = .ok (.iconst 1, 1) := by decide +kernel
theorem dX3_mayGive_61 : decode cX3_mayGive 61 = .ok (.goto 4, 3) := by decide +kernel
theorem dX3_mayGive_64 : decode cX3_mayGive 64 = .ok (.iconst 0, 1) := by decide +kernel
theorem dX3_mayGive_65 : decode cX3_mayGive 65 = .ok (.istore_n 3, 1) := by decide +kernel
theorem dX3_mayGive_66 : decode cX3_mayGive 66 = .ok (.iload_n 3, 1) := by decide +kernel
theorem dX3_mayGive_67 : decode cX3_mayGive 67 = .ok (.ifCond .ne 18, 3) := by decide +kernel
theorem dX3_mayGive_70 : decode cX3_mayGive 70 = .ok (.aload_n 0, 1) := by decide +kernel
theorem dX3_mayGive_71 : decode cX3_mayGive 71 = .ok (.getfield 18, 3) := by decide +kernel
theorem dX3_mayGive_74 : decode cX3_mayGive 74 = .ok (.iload_n 1, 1) := by decide +kernel
theorem dX3_mayGive_75 : decode cX3_mayGive 75 = .ok (.iaload, 1) := by decide +kernel
theorem dX3_mayGive_76 : decode cX3_mayGive 76 = .ok (.aload_n 0, 1) := by decide +kernel
theorem dX3_mayGive_77 : decode cX3_mayGive 77 = .ok (.getfield 18, 3) := by decide +kernel
theorem dX3_mayGive_80 : decode cX3_mayGive 80 = .ok (.iload_n 2, 1) := by decide +kernel
theorem dX3_mayGive_81 : decode cX3_mayGive 81 = .ok (.iaload, 1) := by decide +kernel
theorem dX3_mayGive_82 : decode cX3_mayGive 82 = .ok (.if_icmp .gt 7, 3) := by decide +kernel
theorem dX3_mayGive_85 : decode cX3_mayGive 85 = .ok (.iconst 1, 1) := by decide +kernel
theorem dX3_mayGive_86 : decode cX3_mayGive 86 = .ok (.goto 4, 3) := by decide +kernel
theorem dX3_mayGive_89 : decode cX3_mayGive 89 = .ok (.iconst 0, 1) := by decide +kernel
theorem dX3_mayGive_90 : decode cX3_mayGive 90 = .ok (.ireturn, 1) := by decide +kernel
set_option maxRecDepth 20000 in
theorem ggX3_moveByVirement_X3_hasBoth : GoodIn wsX3_moveByVirement wsX3_hasBoth := goodIn_r _ [7, 8, 9, 10, 6, 11, 12, 13, 14, 15, 16, 17, 18, 19, 20, 21, 22, 23] (by decide +kernel) (by decide +kernel)
set_option maxRecDepth 20000 in
theorem gX3_moveByVirement_X3_hasBoth : GoodIn wsX3_moveByVirement (wsV RX3 71 RX3 yX3_hasBoth wsX3_hasBoth) := goodIn_app (goodIn_of _ (by decide +kernel)) ggX3_moveByVirement_X3_hasBoth
theorem dX3_moveByVirement_0 : decode cX3_moveByVirement 0 = .ok (.aload_n 0, 1) := by decide +kernel
theorem dX3_moveByVirement_1 : decode cX3_moveByVirement 1 = .ok (.iload_n 1, 1) := by decide +kernel
theorem dX3_moveByVirement_2 : decode cX3_moveByVirement 2 = .ok (.iload_n 2, 1) := by decide +kernel
theorem dX3_moveByVirement_3 : decode cX3_moveByVirement 3 = .ok (.invokevirtual 71, 3) := by decide +kernel
theorem dX3_moveByVirement_6 : decode cX3_moveByVirement 6 = .ok (.ifCond .eq 33, 3) := by decide +kernel
theorem dX3_moveByVirement_9 : decode cX3_moveByVirement 9 = .ok (.aload_n 0, 1) := by decide +kernel
theorem dX3_moveByVirement_10 : decode cX3_moveByVirement 10 = .ok (.getfield 24, 3) := by decide +kernel
theorem dX3_moveByVirement_13 : decode cX3_moveByVirement 13 = .ok (.iload_n 1, 1) := by decide +kernel
theorem dX3_moveByVirement_14 : decode cX3_moveByVirement 14 = .ok (.dup2, 1) := by decide +kernel
theorem dX3_moveByVirement_15 : decode cX3_moveByVirement 15 = .ok (.iaload, 1) := by decide +kernel
theorem dX3_moveByVirement_16 : decode cX3_moveByVirement 16 = .ok (.iload_n 3, 1) := by decide +kernel
theorem dX3_moveByVirement_17 : decode cX3_moveByVirement 17 = .ok (.isub, 1) := by decide +kernel
theorem dX3_moveByVirement_18 : decode cX3_moveByVirement 18 = .ok (.iastore, 1) := by decide +kernel
theorem dX3_moveByVirement_19 : decode cX3_moveByVirement 19 = .ok (.aload_n 0, 1) := by decide +kernel
theorem dX3_moveByVirement_20 : decode cX3_moveByVirement 20 = .ok (.getfield 36, 3) := by decide +kernel
theorem dX3_moveByVirement_23 : decode cX3_moveByVirement 23 = .ok (.iload_n 1, 1) := by decide +kernel
theorem dX3_moveByVirement_24 : decode cX3_moveByVirement 24 = .ok (.dup2, 1) := by decide +kernel
theorem dX3_moveByVirement_25 : decode cX3_moveByVirement 25 = .ok (.iaload, 1) := by decide +kernel
theorem dX3_moveByVirement_26 : decode cX3_moveByVirement 26 = .ok (.iload_n 3, 1) := by decide +kernel
theorem dX3_moveByVirement_27 : decode cX3_moveByVirement 27 = .ok (.iadd, 1) := by decide +kernel
theorem dX3_moveByVirement_28 : decode cX3_moveByVirement 28 = .ok (.iastore, 1) := by decide +kernel
theorem dX3_moveByVirement_29 : decode cX3_moveByVirement 29 = .ok (.aload_n 0, 1) := by decide +kernel
theorem dX3_moveByVirement_30 : decode cX3_moveByVirement 30 = .ok (.getfield 24, 3) := by decide +kernel
theorem dX3_moveByVirement_33 : decode cX3_moveByVirement 33 = .ok (.iload_n 2, 1) := by decide +kernel
theorem dX3_moveByVirement_34 : decode cX3_moveByVirement 34 = .ok (.dup2, 1) := by decide +kernel
theorem dX3_moveByVirement_35 : decode cX3_moveByVirement 35 = .ok (.iaload, 1) := by decide +kernel
theorem dX3_moveByVirement_36 : decode cX3_moveByVirement 36 = .ok (.iload_n 3, 1) := by decide +kernel
theorem dX3_moveByVirement_37 : decode cX3_moveByVirement 37 = .ok (.iadd, 1) := by decide +kernel
theorem dX3_moveByVirement_38 : decode cX3_moveByVirement 38 = .ok (.iastore, 1) := by decide +kernel
theorem dX3_moveByVirement_39 : decode cX3_moveByVirement 39 = .ok (.return_, 1) := by decide +kernel
set_option maxRecDepth 20000 in
theorem ggX3_giverOfMost_X3_movable : GoodIn wsX3_giverOfMost wsX3_movable := goodIn_r _ [6, 7, 8, 9, 10, 11, 12, 13, 14, 15, 16, 17, 18, 19, 20, 5, 21, 22, 23, 24, 25, 26, 27, 28, 29, 30, 31, 1, 32, 33, 34, 35, 36, 37, 38, 39, 40, 41, 42, 43, 44, 45, 46, 47, 48, 49, 50, 51, 52, 53, 54, 55, 56, 57, 58, 59, 60, 61, 62] (by decide +kernel) (by decide +kernel)
set_option maxRecDepth 20000 in
theorem gX3_giverOfMost_X3_movable : GoodIn wsX3_giverOfMost (wsV RX3 89 RX3 yX3_movable wsX3_movable) := goodIn_app (goodIn_of _ (by decide +kernel)) ggX3_giverOfMost_X3_movable
set_option maxRecDepth 20000 in
theorem ggX3_giverOfMost_X3_has : GoodIn wsX3_giverOfMost wsX3_has := goodIn_r _ [25, 26, 52, 53, 54, 55, 56, 57, 58, 59, 60, 61, 62] (by decide +kernel) (by decide +kernel)
set_option maxRecDepth 20000 in
theorem gX3_giverOfMost_X3_has : GoodIn wsX3_giverOfMost (wsV RX3 52 RX3 yX3_has wsX3_has) := goodIn_app (goodIn_of _ (by decide +kernel)) ggX3_giverOfMost_X3_has
theorem dX3_giverOfMost_0 : decode cX3_giverOfMost 0 = .ok (.bipush (-9), 2) := by decide +kernel
theorem dX3_giverOfMost_2 : decode cX3_giverOfMost 2 = .ok (.istore_n 2, 1) := by decide +kernel
theorem dX3_giverOfMost_3 : decode cX3_giverOfMost 3 = .ok (.iconst 0, 1) := by decide +kernel
theorem dX3_giverOfMost_4 : decode cX3_giverOfMost 4 = .ok (.istore_n 3, 1) := by decide +kernel
theorem dX3_giverOfMost_5 : decode cX3_giverOfMost 5 = .ok (.iconst 0, 1) := by decide +kernel
theorem dX3_giverOfMost_6 : decode cX3_giverOfMost 6 = .ok (.istore 4, 2) := by decide +kernel
theorem dX3_giverOfMost_8 : decode cX3_giverOfMost 8 = .ok (.iload 4, 2) := by decide +kernel
theorem dX3_giverOfMost_10 : decode cX3_giverOfMost 10 = .ok (.bipush 20, 2) := by decide +kernel
theorem dX3_giverOfMost_12 : decode cX3_giverOfMost 12 = .ok (.if_icmp .ge 60, 3) := by decide +kernel
theorem dX3_giverOfMost_15 : decode cX3_giverOfMost 15 = .ok (.aload_n 0, 1) := by decide +kernel
theorem dX3_giverOfMost_16 : decode cX3_giverOfMost 16 = .ok (.iload 4, 2) := by decide +kernel
theorem dX3_giverOfMost_18 : decode cX3_giverOfMost 18 = .ok (.iload_n 1, 1) := by decide +kernel
theorem dX3_giverOfMost_19 : decode cX3_giverOfMost 19 = .ok (.invokevirtual 89, 3) := by decide +kernel
theorem dX3_giverOfMost_22 : decode cX3_giverOfMost 22 = .ok (.istore 5, 2) := by decide +kernel
theorem dX3_giverOfMost_24 : decode cX3_giverOfMost 24 = .ok (.iload 5, 2) := by decide +kernel
theorem dX3_giverOfMost_26 : decode cX3_giverOfMost 26 = .ok (.iload_n 3, 1) := by decide +kernel
theorem dX3_giverOfMost_27 : decode cX3_giverOfMost 27 = .ok (.if_icmp .gt 33, 3) := by decide +kernel
theorem dX3_giverOfMost_30 : decode cX3_giverOfMost 30 = .ok (.iload 5, 2) := by decide +kernel
theorem dX3_giverOfMost_32 : decode cX3_giverOfMost 32 = .ok (.iload_n 3, 1) := by decide +kernel
theorem dX3_giverOfMost_33 : decode cX3_giverOfMost 33 = .ok (.if_icmp .ne 33, 3) := by decide +kernel
theorem dX3_giverOfMost_36 : decode cX3_giverOfMost 36 = .ok (.aload_n 0, 1) := by decide +kernel
theorem dX3_giverOfMost_37 : decode cX3_giverOfMost 37 = .ok (.iload_n 2, 1) := by decide +kernel
theorem dX3_giverOfMost_38 : decode cX3_giverOfMost 38 = .ok (.invokevirtual 52, 3) := by decide +kernel
theorem dX3_giverOfMost_41 : decode cX3_giverOfMost 41 = .ok (.ifCond .eq 25, 3) := by decide +kernel
theorem dX3_giverOfMost_44 : decode cX3_giverOfMost 44 = .ok (.aload_n 0, 1) := by decide +kernel
theorem dX3_giverOfMost_45 : decode cX3_giverOfMost 45 = .ok (.getfield 18, 3) := by decide +kernel
theorem dX3_giverOfMost_48 : decode cX3_giverOfMost 48 = .ok (.iload 4, 2) := by decide +kernel
theorem dX3_giverOfMost_50 : decode cX3_giverOfMost 50 = .ok (.iaload, 1) := by decide +kernel
theorem dX3_giverOfMost_51 : decode cX3_giverOfMost 51 = .ok (.aload_n 0, 1) := by decide +kernel
theorem dX3_giverOfMost_52 : decode cX3_giverOfMost 52 = .ok (.getfield 18, 3) := by decide +kernel
theorem dX3_giverOfMost_55 : decode cX3_giverOfMost 55 = .ok (.iload_n 2, 1) := by decide +kernel
theorem dX3_giverOfMost_56 : decode cX3_giverOfMost 56 = .ok (.iaload, 1) := by decide +kernel
theorem dX3_giverOfMost_57 : decode cX3_giverOfMost 57 = .ok (.if_icmp .le 9, 3) := by decide +kernel
theorem dX3_giverOfMost_60 : decode cX3_giverOfMost 60 = .ok (.iload 4, 2) := by decide +kernel
theorem dX3_giverOfMost_62 : decode cX3_giverOfMost 62 = .ok (.istore_n 2, 1) := by decide +kernel
theorem dX3_giverOfMost_63 : decode cX3_giverOfMost 63 = .ok (.iload 5, 2) := by decide +kernel
theorem dX3_giverOfMost_65 : decode cX3_giverOfMost 65 = .ok (.istore_n 3, 1) := by decide +kernel
theorem dX3_giverOfMost_66 : decode cX3_giverOfMost 66 = .ok (.iinc 4 1, 3) := by decide +kernel
theorem dX3_giverOfMost_69 : decode cX3_giverOfMost 69 = .ok (.goto (-61), 3) := by decide +kernel
theorem dX3_giverOfMost_72 : decode cX3_giverOfMost 72 = .ok (.iload_n 2, 1) := by decide +kernel
theorem dX3_giverOfMost_73 : decode cX3_giverOfMost 73 = .ok (.ireturn, 1) := by decide +kernel
set_option maxRecDepth 20000 in
theorem ggX3_lapseWithin_X3_isWithin : GoodIn wsX3_lapseWithin wsX3_isWithin := goodIn_r _ [5, 6, 7, 8, 9, 4, 10, 11, 23, 24, 25, 26, 27, 28, 29, 30, 31, 32, 33] (by decide +kernel) (by decide +kernel)
set_option maxRecDepth 20000 in
theorem gX3_lapseWithin_X3_isWithin : GoodIn wsX3_lapseWithin (wsV RX3 59 RX3 yX3_isWithin wsX3_isWithin) := goodIn_app (goodIn_of _ (by decide +kernel)) ggX3_lapseWithin_X3_isWithin
set_option maxRecDepth 20000 in
theorem ggX3_lapseWithin_X3_freeOf : GoodIn wsX3_lapseWithin wsX3_freeOf := goodIn_r _ [15, 16, 17, 18, 7, 8, 9, 4, 10, 11, 23, 24, 25, 26, 27, 28, 29, 30, 31, 32, 33] (by decide +kernel) (by decide +kernel)
set_option maxRecDepth 20000 in
theorem gX3_lapseWithin_X3_freeOf : GoodIn wsX3_lapseWithin (wsV RX3 67 RX3 yX3_freeOf wsX3_freeOf) := goodIn_app (goodIn_of _ (by decide +kernel)) ggX3_lapseWithin_X3_freeOf
set_option maxRecDepth 20000 in
theorem ggX3_lapseWithin_X5_partOf : GoodIn wsX3_lapseWithin wsX5_partOf := goodIn_r _ [21, 22] (by decide +kernel) (by decide +kernel)
set_option maxRecDepth 20000 in
theorem gX3_lapseWithin_X5_partOf_n77 : GoodIn wsX3_lapseWithin (wsX5_partOf) := ggX3_lapseWithin_X5_partOf
theorem dX3_lapseWithin_0 : decode cX3_lapseWithin 0 = .ok (.iconst 0, 1) := by decide +kernel
theorem dX3_lapseWithin_1 : decode cX3_lapseWithin 1 = .ok (.istore_n 3, 1) := by decide +kernel
theorem dX3_lapseWithin_2 : decode cX3_lapseWithin 2 = .ok (.iconst 0, 1) := by decide +kernel
theorem dX3_lapseWithin_3 : decode cX3_lapseWithin 3 = .ok (.istore 4, 2) := by decide +kernel
theorem dX3_lapseWithin_5 : decode cX3_lapseWithin 5 = .ok (.iload 4, 2) := by decide +kernel
theorem dX3_lapseWithin_7 : decode cX3_lapseWithin 7 = .ok (.bipush 20, 2) := by decide +kernel
theorem dX3_lapseWithin_9 : decode cX3_lapseWithin 9 = .ok (.if_icmp .ge 39, 3) := by decide +kernel
theorem dX3_lapseWithin_12 : decode cX3_lapseWithin 12 = .ok (.aload_n 0, 1) := by decide +kernel
theorem dX3_lapseWithin_13 : decode cX3_lapseWithin 13 = .ok (.iload 4, 2) := by decide +kernel
theorem dX3_lapseWithin_15 : decode cX3_lapseWithin 15 = .ok (.iload_n 1, 1) := by decide +kernel
theorem dX3_lapseWithin_16 : decode cX3_lapseWithin 16 = .ok (.invokevirtual 59, 3) := by decide +kernel
theorem dX3_lapseWithin_19 : decode cX3_lapseWithin 19 = .ok (.ifCond .eq 23, 3) := by decide +kernel
theorem dX3_lapseWithin_22 : decode cX3_lapseWithin 22 = .ok (.aload_n 0, 1) := by decide +kernel
theorem dX3_lapseWithin_23 : decode cX3_lapseWithin 23 = .ok (.iload 4, 2) := by decide +kernel
theorem dX3_lapseWithin_25 : decode cX3_lapseWithin 25 = .ok (.invokevirtual 67, 3) := by decide +kernel
theorem dX3_lapseWithin_28 : decode cX3_lapseWithin 28 = .ok (.istore 5, 2) := by decide +kernel
theorem dX3_lapseWithin_30 : decode cX3_lapseWithin 30 = .ok (.iload_n 3, 1) := by decide +kernel
theorem dX3_lapseWithin_31 : decode cX3_lapseWithin 31 = .ok (.iload 5, 2) := by decide +kernel
theorem dX3_lapseWithin_33 : decode cX3_lapseWithin 33 = .ok (.iload 5, 2) := by decide +kernel
theorem dX3_lapseWithin_35 : decode cX3_lapseWithin 35 = .ok (.iload_n 2, 1) := by decide +kernel
theorem dX3_lapseWithin_36 : decode cX3_lapseWithin 36 = .ok (.invokestatic 77, 3) := by decide +kernel
theorem dX3_lapseWithin_39 : decode cX3_lapseWithin 39 = .ok (.isub, 1) := by decide +kernel
theorem dX3_lapseWithin_40 : decode cX3_lapseWithin 40 = .ok (.iadd, 1) := by decide +kernel
theorem dX3_lapseWithin_41 : decode cX3_lapseWithin 41 = .ok (.istore_n 3, 1) := by decide +kernel
theorem dX3_lapseWithin_42 : decode cX3_lapseWithin 42 = .ok (.iinc 4 1, 3) := by decide +kernel
theorem dX3_lapseWithin_45 : decode cX3_lapseWithin 45 = .ok (.goto (-40), 3) := by decide +kernel
theorem dX3_lapseWithin_48 : decode cX3_lapseWithin 48 = .ok (.iload_n 3, 1) := by decide +kernel
theorem dX3_lapseWithin_49 : decode cX3_lapseWithin 49 = .ok (.ireturn, 1) := by decide +kernel
set_option maxRecDepth 20000 in
theorem ggX3_carryForward_X3_freeOf : GoodIn wsX3_carryForward wsX3_freeOf := goodIn_r _ [10, 1, 2, 4, 11, 12, 13, 9, 14, 15, 20, 21, 22, 23, 24, 25, 26, 27, 28, 29, 30] (by decide +kernel) (by decide +kernel)
set_option maxRecDepth 20000 in
theorem gX3_carryForward_X3_freeOf : GoodIn wsX3_carryForward (wsV RX3 67 RX3 yX3_freeOf wsX3_freeOf) := goodIn_app (goodIn_of _ (by decide +kernel)) ggX3_carryForward_X3_freeOf
set_option maxRecDepth 20000 in
theorem ggX3_carryForward_X5_partOf : GoodIn wsX3_carryForward wsX5_partOf := goodIn_r _ [18, 19] (by decide +kernel) (by decide +kernel)
set_option maxRecDepth 20000 in
theorem gX3_carryForward_X5_partOf_n77 : GoodIn wsX3_carryForward (wsX5_partOf) := ggX3_carryForward_X5_partOf

theorem dX6_aboveOf_0 : decode cX6_aboveOf 0 = .ok (.aload_n 0, 1) := by decide +kernel
theorem dX6_aboveOf_1 : decode cX6_aboveOf 1 = .ok (.getfield 7, 3) := by decide +kernel
theorem dX6_aboveOf_4 : decode cX6_aboveOf 4 = .ok (.iload_n 1, 1) := by decide +kernel
theorem dX6_aboveOf_5 : decode cX6_aboveOf 5 = .ok (.iconst 0, 1) := by decide +kernel
theorem dX6_aboveOf_6 : decode cX6_aboveOf 6 = .ok (.invokestatic 34, 3) := by decide +kernel
theorem dX6_aboveOf_9 : decode cX6_aboveOf 9 = .ok (.iaload, 1) := by decide +kernel
theorem dX6_aboveOf_10 : decode cX6_aboveOf 10 = .ok (.ireturn, 1) := by decide +kernel
set_option maxRecDepth 20000 in
theorem ggX6_depth_X6_aboveOf : GoodIn wsX6_depth wsX6_aboveOf := goodIn_r _ [5, 6, 7, 8, 4, 9, 10, 11, 12, 13, 14, 15, 16, 17, 18, 19] (by decide +kernel) (by decide +kernel)
set_option maxRecDepth 20000 in
theorem gX6_depth_X6_aboveOf : GoodIn wsX6_depth (wsV RX6 57 RX6 yX6_aboveOf wsX6_aboveOf) := goodIn_app (goodIn_of _ (by decide +kernel)) ggX6_depth_X6_aboveOf
theorem dX6_depth_0 : decode cX6_depth 0 = .ok (.iconst 0, 1) := by decide +kernel
theorem dX6_depth_1 : decode cX6_depth 1 = .ok (.istore_n 2, 1) := by decide +kernel
theorem dX6_depth_2 : decode cX6_depth 2 = .ok (.aload_n 0, 1) := by decide +kernel
theorem dX6_depth_3 : decode cX6_depth 3 = .ok (.iload_n 1, 1) := by decide +kernel
theorem dX6_depth_4 : decode cX6_depth 4 = .ok (.invokevirtual 57, 3) := by decide +kernel
theorem dX6_depth_7 : decode cX6_depth 7 = .ok (.istore_n 3, 1) := by decide +kernel
theorem dX6_depth_8 : decode cX6_depth 8 = .ok (.iload_n 3, 1) := by decide +kernel
theorem dX6_depth_9 : decode cX6_depth 9 = .ok (.bipush (-9), 2) := by decide +kernel
theorem dX6_depth_11 : decode cX6_depth 11 = .ok (.if_icmp .eq 15, 3) := by decide +kernel
theorem dX6_depth_14 : decode cX6_depth 14 = .ok (.iinc 2 1, 3) := by decide +kernel
theorem dX6_depth_17 : decode cX6_depth 17 = .ok (.aload_n 0, 1) := by decide +kernel
theorem dX6_depth_18 : decode cX6_depth 18 = .ok (.iload_n 3, 1) := by decide +kernel
theorem dX6_depth_19 : decode cX6_depth 19 = .ok (.invokevirtual 57, 3) := by decide +kernel
theorem dX6_depth_22 : decode cX6_depth 22 = .ok (.istore_n 3, 1) := by decide +kernel
theorem dX6_depth_23 : decode cX6_depth 23 = .ok (.goto (-15), 3) := by decide +kernel
theorem dX6_depth_26 : decode cX6_depth 26 = .ok (.iload_n 2, 1) := by decide +kernel
theorem dX6_depth_27 : decode cX6_depth 27 = .ok (.ireturn, 1) := by decide +kernel
set_option maxRecDepth 20000 in
theorem ggX6_isBelow_X6_aboveOf : GoodIn wsX6_isBelow wsX6_aboveOf := goodIn_r _ [5, 6, 7, 8, 4, 9, 10, 11, 12, 13, 14, 15, 16, 17, 18, 19] (by decide +kernel) (by decide +kernel)
set_option maxRecDepth 20000 in
theorem gX6_isBelow_X6_aboveOf : GoodIn wsX6_isBelow (wsV RX6 57 RX6 yX6_aboveOf wsX6_aboveOf) := goodIn_app (goodIn_of _ (by decide +kernel)) ggX6_isBelow_X6_aboveOf
theorem dX6_isBelow_0 : decode cX6_isBelow 0 = .ok (.aload_n 0, 1) := by decide +kernel
theorem dX6_isBelow_1 : decode cX6_isBelow 1 = .ok (.iload_n 1, 1) := by decide +kernel
theorem dX6_isBelow_2 : decode cX6_isBelow 2 = .ok (.invokevirtual 57, 3) := by decide +kernel
theorem dX6_isBelow_5 : decode cX6_isBelow 5 = .ok (.istore_n 3, 1) := by decide +kernel
theorem dX6_isBelow_6 : decode cX6_isBelow 6 = .ok (.iload_n 3, 1) := by decide +kernel
theorem dX6_isBelow_7 : decode cX6_isBelow 7 = .ok (.bipush (-9), 2) := by decide +kernel
theorem dX6_isBelow_9 : decode cX6_isBelow 9 = .ok (.if_icmp .eq 17, 3) := by decide +kernel
theorem dX6_isBelow_12 : decode cX6_isBelow 12 = .ok (.iload_n 3, 1) := by decide +kernel
theorem dX6_isBelow_13 : decode cX6_isBelow 13 = .ok (.iload_n 2, 1) := by decide +kernel
theorem dX6_isBelow_14 : decode cX6_isBelow 14 = .ok (.if_icmp .eq 12, 3) := by decide +kernel
theorem dX6_isBelow_17 : decode cX6_isBelow 17 = .ok (.aload_n 0, 1) := by decide +kernel
theorem dX6_isBelow_18 : decode cX6_isBelow 18 = .ok (.iload_n 3, 1) := by decide +kernel
theorem dX6_isBelow_19 : decode cX6_isBelow 19 = .ok (.invokevirtual 57, 3) := by decide +kernel
theorem dX6_isBelow_22 : decode cX6_isBelow 22 = .ok (.istore_n 3, 1) := by decide +kernel
theorem dX6_isBelow_23 : decode cX6_isBelow 23 = .ok (.goto (-17), 3) := by decide +kernel
theorem dX6_isBelow_26 : decode cX6_isBelow 26 = .ok (.iload_n 3, 1) := by decide +kernel
theorem dX6_isBelow_27 : decode cX6_isBelow 27 = .ok (.iload_n 2, 1) := by decide +kernel
theorem dX6_isBelow_28 : decode cX6_isBelow 28 = .ok (.if_icmp .ne 7, 3) := by decide +kernel
theorem dX6_isBelow_31 : decode cX6_isBelow 31 = .ok (.iconst 1, 1) := by decide +kernel
theorem dX6_isBelow_32 : decode cX6_isBelow 32 = .ok (.goto 4, 3) := by decide +kernel
theorem dX6_isBelow_35 : decode cX6_isBelow 35 = .ok (.iconst 0, 1) := by decide +kernel
theorem dX6_isBelow_36 : decode cX6_isBelow 36 = .ok (.ireturn, 1) := by decide +kernel
set_option maxRecDepth 20000 in
theorem ggX6_isBarred_X6_of : GoodIn wsX6_isBarred wsX6_of := goodIn_r _ [5] (by decide +kernel) (by decide +kernel)
set_option maxRecDepth 20000 in
theorem gX6_isBarred_X6_of : GoodIn wsX6_isBarred (va_wsS RX6 34 yX6_of wsX6_of) := goodIn_app (goodIn_of _ (by decide +kernel)) ggX6_isBarred_X6_of
set_option maxRecDepth 20000 in
theorem ggX6_isBarred_X6_aboveOf : GoodIn wsX6_isBarred wsX6_aboveOf := goodIn_r _ [9, 1, 2, 3, 4, 5, 10, 11, 12, 13, 14, 15, 16, 17, 18, 19] (by decide +kernel) (by decide +kernel)
set_option maxRecDepth 20000 in
theorem gX6_isBarred_X6_aboveOf : GoodIn wsX6_isBarred (wsV RX6 57 RX6 yX6_aboveOf wsX6_aboveOf) := goodIn_app (goodIn_of _ (by decide +kernel)) ggX6_isBarred_X6_aboveOf
theorem dX6_isBarred_0 : decode cX6_isBarred 0 = .ok (.iload_n 1, 1) := by decide +kernel
theorem dX6_isBarred_1 : decode cX6_isBarred 1 = .ok (.istore_n 2, 1) := by decide +kernel
theorem dX6_isBarred_2 : decode cX6_isBarred 2 = .ok (.iload_n 2, 1) := by decide +kernel
theorem dX6_isBarred_3 : decode cX6_isBarred 3 = .ok (.bipush (-9), 2) := by decide +kernel
theorem dX6_isBarred_5 : decode cX6_isBarred 5 = .ok (.if_icmp .eq 25, 3) := by decide +kernel
theorem dX6_isBarred_8 : decode cX6_isBarred 8 = .ok (.aload_n 0, 1) := by decide +kernel
theorem dX6_isBarred_9 : decode cX6_isBarred 9 = .ok (.getfield 7, 3) := by decide +kernel
theorem dX6_isBarred_12 : decode cX6_isBarred 12 = .ok (.iload_n 2, 1) := by decide +kernel
theorem dX6_isBarred_13 : decode cX6_isBarred 13 = .ok (.iconst 2, 1) := by decide +kernel
theorem dX6_isBarred_14 : decode cX6_isBarred 14 = .ok (.invokestatic 34, 3) := by decide +kernel
theorem dX6_isBarred_17 : decode cX6_isBarred 17 = .ok (.iaload, 1) := by decide +kernel
theorem dX6_isBarred_18 : decode cX6_isBarred 18 = .ok (.ifCond .ne 12, 3) := by decide +kernel
theorem dX6_isBarred_21 : decode cX6_isBarred 21 = .ok (.aload_n 0, 1) := by decide +kernel
theorem dX6_isBarred_22 : decode cX6_isBarred 22 = .ok (.iload_n 2, 1) := by decide +kernel
theorem dX6_isBarred_23 : decode cX6_isBarred 23 = .ok (.invokevirtual 57, 3) := by decide +kernel
theorem dX6_isBarred_26 : decode cX6_isBarred 26 = .ok (.istore_n 2, 1) := by decide +kernel
theorem dX6_isBarred_27 : decode cX6_isBarred 27 = .ok (.goto (-25), 3) := by decide +kernel
theorem dX6_isBarred_30 : decode cX6_isBarred 30 = .ok (.iload_n 2, 1) := by decide +kernel
theorem dX6_isBarred_31 : decode cX6_isBarred 31 = .ok (.bipush (-9), 2) := by decide +kernel
theorem dX6_isBarred_33 : decode cX6_isBarred 33 = .ok (.if_icmp .eq 7, 3) := by decide +kernel
theorem dX6_isBarred_36 : decode cX6_isBarred 36 = .ok (.iconst 1, 1) := by decide +kernel
theorem dX6_isBarred_37 : decode cX6_isBarred 37 = .ok (.goto 4, 3) := by decide +kernel
theorem dX6_isBarred_40 : decode cX6_isBarred 40 = .ok (.iconst 0, 1) := by decide +kernel
theorem dX6_isBarred_41 : decode cX6_isBarred 41 = .ok (.ireturn, 1) := by decide +kernel
set_option maxRecDepth 20000 in
theorem ggX6_barred_X6_isBarred : GoodIn wsX6_barred wsX6_isBarred := goodIn_r _ [6, 1, 7, 8, 5, 9, 10, 11, 12, 13, 14, 15, 16, 17, 18, 19, 20, 21, 22, 23] (by decide +kernel) (by decide +kernel)
set_option maxRecDepth 20000 in
theorem gX6_barred_X6_isBarred : GoodIn wsX6_barred (wsV RX6 61 RX6 yX6_isBarred wsX6_isBarred) := goodIn_app (goodIn_of _ (by decide +kernel)) ggX6_barred_X6_isBarred
theorem dX6_barred_0 : decode cX6_barred 0 = .ok (.iconst 0, 1) := by decide +kernel
theorem dX6_barred_1 : decode cX6_barred 1 = .ok (.istore_n 1, 1) := by decide +kernel
theorem dX6_barred_2 : decode cX6_barred 2 = .ok (.iconst 0, 1) := by decide +kernel
theorem dX6_barred_3 : decode cX6_barred 3 = .ok (.istore_n 2, 1) := by decide +kernel
theorem dX6_barred_4 : decode cX6_barred 4 = .ok (.iload_n 2, 1) := by decide +kernel
theorem dX6_barred_5 : decode cX6_barred 5 = .ok (.aload_n 0, 1) := by decide +kernel
theorem dX6_barred_6 : decode cX6_barred 6 = .ok (.getfield 7, 3) := by decide +kernel
theorem dX6_barred_9 : decode cX6_barred 9 = .ok (.iconst 1, 1) := by decide +kernel
theorem dX6_barred_10 : decode cX6_barred 10 = .ok (.iaload, 1) := by decide +kernel
theorem dX6_barred_11 : decode cX6_barred 11 = .ok (.if_icmp .ge 25, 3) := by decide +kernel
theorem dX6_barred_14 : decode cX6_barred 14 = .ok (.iload_n 1, 1) := by decide +kernel
theorem dX6_barred_15 : decode cX6_barred 15 = .ok (.aload_n 0, 1) := by decide +kernel
theorem dX6_barred_16 : decode cX6_barred 16 = .ok (.iload_n 2, 1) := by decide +kernel
theorem dX6_barred_17 : decode cX6_barred 17 = .ok (.invokevirtual 61, 3) := by decide +kernel
theorem dX6_barred_20 : decode cX6_barred 20 = .ok (.ifCond .eq 7, 3) := by decide +kernel
theorem dX6_barred_23 : decode cX6_barred 23 = .ok (.iconst 1, 1) := by decide +kernel
theorem dX6_barred_24 : decode cX6_barred 24 = .ok (.goto 4, 3) := by decide +kernel
theorem dX6_barred_27 : decode cX6_barred 27 = .ok (.iconst 0, 1) := by decide +kernel
theorem dX6_barred_28 : decode cX6_barred 28 = .ok (.iadd, 1) := by decide +kernel
theorem dX6_barred_29 : decode cX6_barred 29 = .ok (.istore_n 1, 1) := by decide +kernel
theorem dX6_barred_30 : decode cX6_barred 30 = .ok (.iinc 2 1, 3) := by decide +kernel
theorem dX6_barred_33 : decode cX6_barred 33 = .ok (.goto (-29), 3) := by decide +kernel
theorem dX6_barred_36 : decode cX6_barred 36 = .ok (.iload_n 1, 1) := by decide +kernel
theorem dX6_barred_37 : decode cX6_barred 37 = .ok (.ireturn, 1) := by decide +kernel
set_option maxRecDepth 20000 in
theorem ggX6_free_X6_of : GoodIn wsX6_free wsX6_of := goodIn_r _ [5] (by decide +kernel) (by decide +kernel)
set_option maxRecDepth 20000 in
theorem gX6_free_X6_of : GoodIn wsX6_free (va_wsS RX6 34 yX6_of wsX6_of) := goodIn_app (goodIn_of _ (by decide +kernel)) ggX6_free_X6_of
theorem dX6_free_0 : decode cX6_free 0 = .ok (.aload_n 0, 1) := by decide +kernel
theorem dX6_free_1 : decode cX6_free 1 = .ok (.getfield 7, 3) := by decide +kernel
theorem dX6_free_4 : decode cX6_free 4 = .ok (.iload_n 1, 1) := by decide +kernel
theorem dX6_free_5 : decode cX6_free 5 = .ok (.iconst 3, 1) := by decide +kernel
theorem dX6_free_6 : decode cX6_free 6 = .ok (.invokestatic 34, 3) := by decide +kernel
theorem dX6_free_9 : decode cX6_free 9 = .ok (.iaload, 1) := by decide +kernel
theorem dX6_free_10 : decode cX6_free 10 = .ok (.aload_n 0, 1) := by decide +kernel
theorem dX6_free_11 : decode cX6_free 11 = .ok (.getfield 7, 3) := by decide +kernel
theorem dX6_free_14 : decode cX6_free 14 = .ok (.iload_n 1, 1) := by decide +kernel
theorem dX6_free_15 : decode cX6_free 15 = .ok (.iconst 4, 1) := by decide +kernel
theorem dX6_free_16 : decode cX6_free 16 = .ok (.invokestatic 34, 3) := by decide +kernel
theorem dX6_free_19 : decode cX6_free 19 = .ok (.iaload, 1) := by decide +kernel
theorem dX6_free_20 : decode cX6_free 20 = .ok (.isub, 1) := by decide +kernel
theorem dX6_free_21 : decode cX6_free 21 = .ok (.aload_n 0, 1) := by decide +kernel
theorem dX6_free_22 : decode cX6_free 22 = .ok (.getfield 7, 3) := by decide +kernel
theorem dX6_free_25 : decode cX6_free 25 = .ok (.iload_n 1, 1) := by decide +kernel
theorem dX6_free_26 : decode cX6_free 26 = .ok (.iconst 5, 1) := by decide +kernel
theorem dX6_free_27 : decode cX6_free 27 = .ok (.invokestatic 34, 3) := by decide +kernel
theorem dX6_free_30 : decode cX6_free 30 = .ok (.iaload, 1) := by decide +kernel
theorem dX6_free_31 : decode cX6_free 31 = .ok (.isub, 1) := by decide +kernel
theorem dX6_free_32 : decode cX6_free 32 = .ok (.ireturn, 1) := by decide +kernel
set_option maxRecDepth 20000 in
theorem ggX6_make_X6_isHead : GoodIn wsX6_make wsX6_isHead := goodIn_r _ [6, 1, 7, 8, 5, 9, 42, 43, 44, 45, 46, 47, 48, 49, 50, 51] (by decide +kernel) (by decide +kernel)
set_option maxRecDepth 20000 in
theorem gX6_make_X6_isHead : GoodIn wsX6_make (wsV RX6 65 RX6 yX6_isHead wsX6_isHead) := goodIn_app (goodIn_of _ (by decide +kernel)) ggX6_make_X6_isHead
set_option maxRecDepth 20000 in
theorem ggX6_make_X6_in : GoodIn wsX6_make wsX6_in := goodIn_r _ [9] (by decide +kernel) (by decide +kernel)
set_option maxRecDepth 20000 in
theorem gX6_make_X6_in : GoodIn wsX6_make (va_wsS RX6 38 yX6_in wsX6_in) := goodIn_app (goodIn_of _ (by decide +kernel)) ggX6_make_X6_in
set_option maxRecDepth 20000 in
theorem ggX6_make_X6_depth : GoodIn wsX6_make wsX6_depth := goodIn_r _ [13, 14, 15, 16, 5, 17, 1, 18, 19, 20, 42, 43, 44, 45, 46, 47, 48, 49, 50, 51] (by decide +kernel) (by decide +kernel)
set_option maxRecDepth 20000 in
theorem gX6_make_X6_depth : GoodIn wsX6_make (wsV RX6 68 RX6 yX6_depth wsX6_depth) := goodIn_app (goodIn_of _ (by decide +kernel)) ggX6_make_X6_depth
set_option maxRecDepth 20000 in
theorem ggX6_make_X6_remember : GoodIn wsX6_make wsX6_remember := goodIn_r _ [24, 25, 26, 27, 28, 29, 30, 1, 31, 32, 33, 34, 35, 36, 5, 37, 38, 39, 40, 41, 42, 43, 44, 45, 46, 47, 48, 49, 50, 51] (by decide +kernel) (by decide +kernel)
set_option maxRecDepth 20000 in
theorem gX6_make_X6_remember : GoodIn wsX6_make (wsV RX6 71 RX6 yX6_remember wsX6_remember) := goodIn_app (goodIn_of _ (by decide +kernel)) ggX6_make_X6_remember
set_option maxRecDepth 20000 in
theorem ggX6_make_X6_of : GoodIn wsX6_make wsX6_of := goodIn_r _ [20] (by decide +kernel) (by decide +kernel)
set_option maxRecDepth 20000 in
theorem gX6_make_X6_of : GoodIn wsX6_make (va_wsS RX6 34 yX6_of wsX6_of) := goodIn_app (goodIn_of _ (by decide +kernel)) ggX6_make_X6_of
theorem dX6_make_0 : decode cX6_make 0 = .ok (.aload_n 0, 1) := by decide +kernel
theorem dX6_make_1 : decode cX6_make 1 = .ok (.iload_n 1, 1) := by decide +kernel
theorem dX6_make_2 : decode cX6_make 2 = .ok (.invokevirtual 65, 3) := by decide +kernel
theorem dX6_make_5 : decode cX6_make 5 = .ok (.ifCond .eq 13, 3) := by decide +kernel
theorem dX6_make_8 : decode cX6_make 8 = .ok (.iload_n 2, 1) := by decide +kernel
theorem dX6_make_9 : decode cX6_make 9 = .ok (.iconst 0, 1) := by decide +kernel
theorem dX6_make_10 : decode cX6_make 10 = .ok (.bipush 9, 2) := by decide +kernel
theorem dX6_make_12 : decode cX6_make 12 = .ok (.invokestatic 38, 3) := by decide +kernel
theorem dX6_make_15 : decode cX6_make 15 = .ok (.ifCond .ne 5, 3) := by decide +kernel
theorem dX6_make_18 : decode cX6_make 18 = .ok (.iconst (-1), 1) := by decide +kernel
theorem dX6_make_19 : decode cX6_make 19 = .ok (.ireturn, 1) := by decide +kernel
theorem dX6_make_20 : decode cX6_make 20 = .ok (.aload_n 0, 1) := by decide +kernel
theorem dX6_make_21 : decode cX6_make 21 = .ok (.iload_n 1, 1) := by decide +kernel
theorem dX6_make_22 : decode cX6_make 22 = .ok (.invokevirtual 68, 3) := by decide +kernel
theorem dX6_make_25 : decode cX6_make 25 = .ok (.iconst 4, 1) := by decide +kernel
theorem dX6_make_26 : decode cX6_make 26 = .ok (.if_icmp .ne 6, 3) := by decide +kernel
theorem dX6_make_29 : decode cX6_make 29 = .ok (.bipush (-2), 2) := by decide +kernel
theorem dX6_make_31 : decode cX6_make 31 = .ok (.ireturn, 1) := by decide +kernel
theorem dX6_make_32 : decode cX6_make 32 = .ok (.aload_n 0, 1) := by decide +kernel
theorem dX6_make_33 : decode cX6_make 33 = .ok (.getfield 7, 3) := by decide +kernel
theorem dX6_make_36 : decode cX6_make 36 = .ok (.iconst 1, 1) := by decide +kernel
theorem dX6_make_37 : decode cX6_make 37 = .ok (.iaload, 1) := by decide +kernel
theorem dX6_make_38 : decode cX6_make 38 = .ok (.bipush 20, 2) := by decide +kernel
theorem dX6_make_40 : decode cX6_make 40 = .ok (.if_icmp .ne 6, 3) := by decide +kernel
theorem dX6_make_43 : decode cX6_make 43 = .ok (.bipush (-3), 2) := by decide +kernel
theorem dX6_make_45 : decode cX6_make 45 = .ok (.ireturn, 1) := by decide +kernel
theorem dX6_make_46 : decode cX6_make 46 = .ok (.aload_n 0, 1) := by decide +kernel
theorem dX6_make_47 : decode cX6_make 47 = .ok (.iconst 0, 1) := by decide +kernel
theorem dX6_make_48 : decode cX6_make 48 = .ok (.iload_n 1, 1) := by decide +kernel
theorem dX6_make_49 : decode cX6_make 49 = .ok (.iload_n 2, 1) := by decide +kernel
theorem dX6_make_50 : decode cX6_make 50 = .ok (.iconst 0, 1) := by decide +kernel
theorem dX6_make_51 : decode cX6_make 51 = .ok (.invokevirtual 71, 3) := by decide +kernel
theorem dX6_make_54 : decode cX6_make 54 = .ok (.aload_n 0, 1) := by decide +kernel
theorem dX6_make_55 : decode cX6_make 55 = .ok (.getfield 7, 3) := by decide +kernel
theorem dX6_make_58 : decode cX6_make 58 = .ok (.iconst 1, 1) := by decide +kernel
theorem dX6_make_59 : decode cX6_make 59 = .ok (.iaload, 1) := by decide +kernel
theorem dX6_make_60 : decode cX6_make 60 = .ok (.istore_n 3, 1) := by decide +kernel
theorem dX6_make_61 : decode cX6_make 61 = .ok (.aload_n 0, 1) := by decide +kernel
theorem dX6_make_62 : decode cX6_make 62 = .ok (.getfield 7, 3) := by decide +kernel
theorem dX6_make_65 : decode cX6_make 65 = .ok (.iload_n 3, 1) := by decide +kernel
theorem dX6_make_66 : decode cX6_make 66 = .ok (.iconst 0, 1) := by decide +kernel
theorem dX6_make_67 : decode cX6_make 67 = .ok (.invokestatic 34, 3) := by decide +kernel
theorem dX6_make_70 : decode cX6_make 70 = .ok (.iload_n 1, 1) := by decide +kernel
theorem dX6_make_71 : decode cX6_make 71 = .ok (.iastore, 1) := by decide +kernel
theorem dX6_make_72 : decode cX6_make 72 = .ok (.aload_n 0, 1) := by decide +kernel
theorem dX6_make_73 : decode cX6_make 73 = .ok (.getfield 7, 3) := by decide +kernel
theorem dX6_make_76 : decode cX6_make 76 = .ok (.iload_n 3, 1) := by decide +kernel
theorem dX6_make_77 : decode cX6_make 77 = .ok (.iconst 1, 1) := by decide +kernel
theorem dX6_make_78 : decode cX6_make 78 = .ok (.invokestatic 34, 3) := by decide +kernel
theorem dX6_make_81 : decode cX6_make 81 = .ok (.iload_n 2, 1) := by decide +kernel
theorem dX6_make_82 : decode cX6_make 82 = .ok (.iastore, 1) := by decide +kernel
theorem dX6_make_83 : decode cX6_make 83 = .ok (.aload_n 0, 1) := by decide +kernel
theorem dX6_make_84 : decode cX6_make 84 = .ok (.getfield 7, 3) := by decide +kernel
theorem dX6_make_87 : decode cX6_make 87 = .ok (.iload_n 3, 1) := by decide +kernel
theorem dX6_make_88 : decode cX6_make 88 = .ok (.bipush 8, 2) := by decide +kernel
theorem dX6_make_90 : decode cX6_make 90 = .ok (.invokestatic 34, 3) := by decide +kernel
theorem dX6_make_93 : decode cX6_make 93 = .ok (.bipush 50, 2) := by decide +kernel
theorem dX6_make_95 : decode cX6_make 95 = .ok (.iastore, 1) := by decide +kernel
theorem dX6_make_96 : decode cX6_make 96 = .ok (.aload_n 0, 1) := by decide +kernel
theorem dX6_make_97 : decode cX6_make 97 = .ok (.getfield 7, 3) := by decide +kernel
theorem dX6_make_100 : decode cX6_make 100 = .ok (.iconst 1, 1) := by decide +kernel
theorem dX6_make_101 : decode cX6_make 101 = .ok (.dup2, 1) := by decide +kernel
theorem dX6_make_102 : decode cX6_make 102 = .ok (.iaload, 1) := by decide +kernel
theorem dX6_make_103 : decode cX6_make 103 = .ok (.iconst 1, 1) := by decide +kernel
theorem dX6_make_104 : decode cX6_make 104 = .ok (.iadd, 1) := by decide +kernel
theorem dX6_make_105 : decode cX6_make 105 = .ok (.iastore, 1) := by decide +kernel
theorem dX6_make_106 : decode cX6_make 106 = .ok (.iload_n 3, 1) := by decide +kernel
theorem dX6_make_107 : decode cX6_make 107 = .ok (.ireturn, 1) := by decide +kernel
set_option maxRecDepth 20000 in
theorem ggX6_allot_X6_isHead : GoodIn wsX6_allot wsX6_isHead := goodIn_r _ [7, 1, 8, 9, 6, 10, 39, 40, 41, 42, 43, 44, 45, 46, 47, 48] (by decide +kernel) (by decide +kernel)
set_option maxRecDepth 20000 in
theorem gX6_allot_X6_isHead : GoodIn wsX6_allot (wsV RX6 65 RX6 yX6_isHead wsX6_isHead) := goodIn_app (goodIn_of _ (by decide +kernel)) ggX6_allot_X6_isHead
set_option maxRecDepth 20000 in
theorem ggX6_allot_X6_isAmount : GoodIn wsX6_allot wsX6_isAmount := goodIn_r _ [13, 14, 8, 9, 6, 10] (by decide +kernel) (by decide +kernel)
set_option maxRecDepth 20000 in
theorem gX6_allot_X6_isAmount : GoodIn wsX6_allot (va_wsS RX6 75 yX6_isAmount wsX6_isAmount) := goodIn_app (goodIn_of _ (by decide +kernel)) ggX6_allot_X6_isAmount
set_option maxRecDepth 20000 in
theorem ggX6_allot_X6_of : GoodIn wsX6_allot wsX6_of := goodIn_r _ [17] (by decide +kernel) (by decide +kernel)
set_option maxRecDepth 20000 in
theorem gX6_allot_X6_of : GoodIn wsX6_allot (va_wsS RX6 34 yX6_of wsX6_of) := goodIn_app (goodIn_of _ (by decide +kernel)) ggX6_allot_X6_of
set_option maxRecDepth 20000 in
theorem ggX6_allot_X6_remember : GoodIn wsX6_allot wsX6_remember := goodIn_r _ [21, 22, 23, 24, 25, 26, 27, 1, 28, 29, 30, 31, 32, 33, 6, 34, 35, 36, 37, 38, 39, 40, 41, 42, 43, 44, 45, 46, 47, 48] (by decide +kernel) (by decide +kernel)
set_option maxRecDepth 20000 in
theorem gX6_allot_X6_remember : GoodIn wsX6_allot (wsV RX6 71 RX6 yX6_remember wsX6_remember) := goodIn_app (goodIn_of _ (by decide +kernel)) ggX6_allot_X6_remember
theorem dX6_allot_0 : decode cX6_allot 0 = .ok (.aload_n 0, 1) := by decide +kernel
theorem dX6_allot_1 : decode cX6_allot 1 = .ok (.iload_n 1, 1) := by decide +kernel
theorem dX6_allot_2 : decode cX6_allot 2 = .ok (.invokevirtual 65, 3) := by decide +kernel
theorem dX6_allot_5 : decode cX6_allot 5 = .ok (.ifCond .eq 10, 3) := by decide +kernel
theorem dX6_allot_8 : decode cX6_allot 8 = .ok (.iload_n 2, 1) := by decide +kernel
theorem dX6_allot_9 : decode cX6_allot 9 = .ok (.invokestatic 75, 3) := by decide +kernel
theorem dX6_allot_12 : decode cX6_allot 12 = .ok (.ifCond .ne 5, 3) := by decide +kernel
theorem dX6_allot_15 : decode cX6_allot 15 = .ok (.iconst (-1), 1) := by decide +kernel
theorem dX6_allot_16 : decode cX6_allot 16 = .ok (.ireturn, 1) := by decide +kernel
theorem dX6_allot_17 : decode cX6_allot 17 = .ok (.aload_n 0, 1) := by decide +kernel
theorem dX6_allot_18 : decode cX6_allot 18 = .ok (.getfield 7, 3) := by decide +kernel
theorem dX6_allot_21 : decode cX6_allot 21 = .ok (.iload_n 1, 1) := by decide +kernel
theorem dX6_allot_22 : decode cX6_allot 22 = .ok (.iconst 3, 1) := by decide +kernel
theorem dX6_allot_23 : decode cX6_allot 23 = .ok (.invokestatic 34, 3) := by decide +kernel
theorem dX6_allot_26 : decode cX6_allot 26 = .ok (.iaload, 1) := by decide +kernel
theorem dX6_allot_27 : decode cX6_allot 27 = .ok (.iload_n 2, 1) := by decide +kernel
theorem dX6_allot_28 : decode cX6_allot 28 = .ok (.iadd, 1) := by decide +kernel
theorem dX6_allot_29 : decode cX6_allot 29 = .ok (.ldc 78, 2) := by decide +kernel
theorem dX6_allot_31 : decode cX6_allot 31 = .ok (.if_icmp .le 6, 3) := by decide +kernel
theorem dX6_allot_34 : decode cX6_allot 34 = .ok (.bipush (-3), 2) := by decide +kernel
theorem dX6_allot_36 : decode cX6_allot 36 = .ok (.ireturn, 1) := by decide +kernel
theorem dX6_allot_37 : decode cX6_allot 37 = .ok (.aload_n 0, 1) := by decide +kernel
theorem dX6_allot_38 : decode cX6_allot 38 = .ok (.iconst 1, 1) := by decide +kernel
theorem dX6_allot_39 : decode cX6_allot 39 = .ok (.iload_n 1, 1) := by decide +kernel
theorem dX6_allot_40 : decode cX6_allot 40 = .ok (.iconst 0, 1) := by decide +kernel
theorem dX6_allot_41 : decode cX6_allot 41 = .ok (.iload_n 2, 1) := by decide +kernel
theorem dX6_allot_42 : decode cX6_allot 42 = .ok (.invokevirtual 71, 3) := by decide +kernel
theorem dX6_allot_45 : decode cX6_allot 45 = .ok (.aload_n 0, 1) := by decide +kernel
theorem dX6_allot_46 : decode cX6_allot 46 = .ok (.getfield 7, 3) := by decide +kernel
theorem dX6_allot_49 : decode cX6_allot 49 = .ok (.iload_n 1, 1) := by decide +kernel
theorem dX6_allot_50 : decode cX6_allot 50 = .ok (.iconst 3, 1) := by decide +kernel
theorem dX6_allot_51 : decode cX6_allot 51 = .ok (.invokestatic 34, 3) := by decide +kernel
theorem dX6_allot_54 : decode cX6_allot 54 = .ok (.dup2, 1) := by decide +kernel
theorem dX6_allot_55 : decode cX6_allot 55 = .ok (.iaload, 1) := by decide +kernel
theorem dX6_allot_56 : decode cX6_allot 56 = .ok (.iload_n 2, 1) := by decide +kernel
theorem dX6_allot_57 : decode cX6_allot 57 = .ok (.iadd, 1) := by decide +kernel
theorem dX6_allot_58 : decode cX6_allot 58 = .ok (.iastore, 1) := by decide +kernel
theorem dX6_allot_59 : decode cX6_allot 59 = .ok (.aload_n 0, 1) := by decide +kernel
theorem dX6_allot_60 : decode cX6_allot 60 = .ok (.getfield 7, 3) := by decide +kernel
theorem dX6_allot_63 : decode cX6_allot 63 = .ok (.iload_n 1, 1) := by decide +kernel
theorem dX6_allot_64 : decode cX6_allot 64 = .ok (.bipush 6, 2) := by decide +kernel
theorem dX6_allot_66 : decode cX6_allot 66 = .ok (.invokestatic 34, 3) := by decide +kernel
theorem dX6_allot_69 : decode cX6_allot 69 = .ok (.dup2, 1) := by decide +kernel
theorem dX6_allot_70 : decode cX6_allot 70 = .ok (.iaload, 1) := by decide +kernel
theorem dX6_allot_71 : decode cX6_allot 71 = .ok (.iload_n 2, 1) := by decide +kernel
theorem dX6_allot_72 : decode cX6_allot 72 = .ok (.iadd, 1) := by decide +kernel
theorem dX6_allot_73 : decode cX6_allot 73 = .ok (.iastore, 1) := by decide +kernel
theorem dX6_allot_74 : decode cX6_allot 74 = .ok (.aload_n 0, 1) := by decide +kernel
theorem dX6_allot_75 : decode cX6_allot 75 = .ok (.getfield 7, 3) := by decide +kernel
theorem dX6_allot_78 : decode cX6_allot 78 = .ok (.iload_n 1, 1) := by decide +kernel
theorem dX6_allot_79 : decode cX6_allot 79 = .ok (.iconst 3, 1) := by decide +kernel
theorem dX6_allot_80 : decode cX6_allot 80 = .ok (.invokestatic 34, 3) := by decide +kernel
theorem dX6_allot_83 : decode cX6_allot 83 = .ok (.iaload, 1) := by decide +kernel
theorem dX6_allot_84 : decode cX6_allot 84 = .ok (.ireturn, 1) := by decide +kernel
set_option maxRecDepth 20000 in
theorem ggX6_freeze_X6_isHead : GoodIn wsX6_freeze wsX6_isHead := goodIn_r _ [6, 1, 7, 8, 5, 9, 46, 47, 48, 49, 50, 51, 52, 53, 54, 55] (by decide +kernel) (by decide +kernel)
set_option maxRecDepth 20000 in
theorem gX6_freeze_X6_isHead : GoodIn wsX6_freeze (wsV RX6 65 RX6 yX6_isHead wsX6_isHead) := goodIn_app (goodIn_of _ (by decide +kernel)) ggX6_freeze_X6_isHead
set_option maxRecDepth 20000 in
theorem ggX6_freeze_X6_in : GoodIn wsX6_freeze wsX6_in := goodIn_r _ [9] (by decide +kernel) (by decide +kernel)
set_option maxRecDepth 20000 in
theorem gX6_freeze_X6_in : GoodIn wsX6_freeze (va_wsS RX6 38 yX6_in wsX6_in) := goodIn_app (goodIn_of _ (by decide +kernel)) ggX6_freeze_X6_in
set_option maxRecDepth 20000 in
theorem ggX6_freeze_X6_of : GoodIn wsX6_freeze wsX6_of := goodIn_r _ [12] (by decide +kernel) (by decide +kernel)
set_option maxRecDepth 20000 in
theorem gX6_freeze_X6_of : GoodIn wsX6_freeze (va_wsS RX6 34 yX6_of wsX6_of) := goodIn_app (goodIn_of _ (by decide +kernel)) ggX6_freeze_X6_of
set_option maxRecDepth 20000 in
theorem ggX6_freeze_X6_remember : GoodIn wsX6_freeze wsX6_remember := goodIn_r _ [16, 17, 18, 19, 20, 21, 22, 1, 23, 24, 25, 26, 27, 28, 5, 29, 30, 31, 32, 33, 46, 47, 48, 49, 50, 51, 52, 53, 54, 55] (by decide +kernel) (by decide +kernel)
set_option maxRecDepth 20000 in
theorem gX6_freeze_X6_remember : GoodIn wsX6_freeze (wsV RX6 71 RX6 yX6_remember wsX6_remember) := goodIn_app (goodIn_of _ (by decide +kernel)) ggX6_freeze_X6_remember
set_option maxRecDepth 20000 in
theorem ggX6_freeze_X6_barred : GoodIn wsX6_freeze wsX6_barred := goodIn_r _ [37, 1, 38, 39, 40, 5, 41, 10, 11, 12, 42, 43, 44, 45, 46, 47, 48, 49, 50, 51, 52, 53, 54, 55] (by decide +kernel) (by decide +kernel)
set_option maxRecDepth 20000 in
theorem gX6_freeze_X6_barred : GoodIn wsX6_freeze (wsV RX6 79 RX6 yX6_barred wsX6_barred) := goodIn_app (goodIn_of _ (by decide +kernel)) ggX6_freeze_X6_barred
theorem dX6_freeze_0 : decode cX6_freeze 0 = .ok (.aload_n 0, 1) := by decide +kernel
theorem dX6_freeze_1 : decode cX6_freeze 1 = .ok (.iload_n 1, 1) := by decide +kernel
theorem dX6_freeze_2 : decode cX6_freeze 2 = .ok (.invokevirtual 65, 3) := by decide +kernel
theorem dX6_freeze_5 : decode cX6_freeze 5 = .ok (.ifCond .eq 12, 3) := by decide +kernel
theorem dX6_freeze_8 : decode cX6_freeze 8 = .ok (.iload_n 2, 1) := by decide +kernel
theorem dX6_freeze_9 : decode cX6_freeze 9 = .ok (.iconst 0, 1) := by decide +kernel
theorem dX6_freeze_10 : decode cX6_freeze 10 = .ok (.iconst 1, 1) := by decide +kernel
theorem dX6_freeze_11 : decode cX6_freeze 11 = .ok (.invokestatic 38, 3) := by decide +kernel
theorem dX6_freeze_14 : decode cX6_freeze 14 = .ok (.ifCond .ne 5, 3) := by decide +kernel
theorem dX6_freeze_17 : decode cX6_freeze 17 = .ok (.iconst (-1), 1) := by decide +kernel
theorem dX6_freeze_18 : decode cX6_freeze 18 = .ok (.ireturn, 1) := by decide +kernel
theorem dX6_freeze_19 : decode cX6_freeze 19 = .ok (.aload_n 0, 1) := by decide +kernel
theorem dX6_freeze_20 : decode cX6_freeze 20 = .ok (.getfield 7, 3) := by decide +kernel
theorem dX6_freeze_23 : decode cX6_freeze 23 = .ok (.iload_n 1, 1) := by decide +kernel
theorem dX6_freeze_24 : decode cX6_freeze 24 = .ok (.iconst 2, 1) := by decide +kernel
theorem dX6_freeze_25 : decode cX6_freeze 25 = .ok (.invokestatic 34, 3) := by decide +kernel
theorem dX6_freeze_28 : decode cX6_freeze 28 = .ok (.iaload, 1) := by decide +kernel
theorem dX6_freeze_29 : decode cX6_freeze 29 = .ok (.iload_n 2, 1) := by decide +kernel
theorem dX6_freeze_30 : decode cX6_freeze 30 = .ok (.if_icmp .ne 6, 3) := by decide +kernel
theorem dX6_freeze_33 : decode cX6_freeze 33 = .ok (.bipush (-2), 2) := by decide +kernel
theorem dX6_freeze_35 : decode cX6_freeze 35 = .ok (.ireturn, 1) := by decide +kernel
theorem dX6_freeze_36 : decode cX6_freeze 36 = .ok (.aload_n 0, 1) := by decide +kernel
theorem dX6_freeze_37 : decode cX6_freeze 37 = .ok (.iconst 2, 1) := by decide +kernel
theorem dX6_freeze_38 : decode cX6_freeze 38 = .ok (.iload_n 1, 1) := by decide +kernel
theorem dX6_freeze_39 : decode cX6_freeze 39 = .ok (.iconst 0, 1) := by decide +kernel
theorem dX6_freeze_40 : decode cX6_freeze 40 = .ok (.iload_n 2, 1) := by decide +kernel
theorem dX6_freeze_41 : decode cX6_freeze 41 = .ok (.invokevirtual 71, 3) := by decide +kernel
theorem dX6_freeze_44 : decode cX6_freeze 44 = .ok (.aload_n 0, 1) := by decide +kernel
theorem dX6_freeze_45 : decode cX6_freeze 45 = .ok (.getfield 7, 3) := by decide +kernel
theorem dX6_freeze_48 : decode cX6_freeze 48 = .ok (.iload_n 1, 1) := by decide +kernel
theorem dX6_freeze_49 : decode cX6_freeze 49 = .ok (.iconst 2, 1) := by decide +kernel
theorem dX6_freeze_50 : decode cX6_freeze 50 = .ok (.invokestatic 34, 3) := by decide +kernel
theorem dX6_freeze_53 : decode cX6_freeze 53 = .ok (.iload_n 2, 1) := by decide +kernel
theorem dX6_freeze_54 : decode cX6_freeze 54 = .ok (.iastore, 1) := by decide +kernel
theorem dX6_freeze_55 : decode cX6_freeze 55 = .ok (.aload_n 0, 1) := by decide +kernel
theorem dX6_freeze_56 : decode cX6_freeze 56 = .ok (.invokevirtual 79, 3) := by decide +kernel
theorem dX6_freeze_59 : decode cX6_freeze 59 = .ok (.ireturn, 1) := by decide +kernel
set_option maxRecDepth 20000 in
theorem ggX6_setShare_X6_isHead : GoodIn wsX6_setShare wsX6_isHead := goodIn_r _ [6, 1, 7, 8, 5, 9, 34, 35, 36, 37, 38, 39, 40, 41, 42, 43] (by decide +kernel) (by decide +kernel)
set_option maxRecDepth 20000 in
theorem gX6_setShare_X6_isHead : GoodIn wsX6_setShare (wsV RX6 65 RX6 yX6_isHead wsX6_isHead) := goodIn_app (goodIn_of _ (by decide +kernel)) ggX6_setShare_X6_isHead
set_option maxRecDepth 20000 in
theorem ggX6_setShare_X6_in : GoodIn wsX6_setShare wsX6_in := goodIn_r _ [9] (by decide +kernel) (by decide +kernel)
set_option maxRecDepth 20000 in
theorem gX6_setShare_X6_in : GoodIn wsX6_setShare (va_wsS RX6 38 yX6_in wsX6_in) := goodIn_app (goodIn_of _ (by decide +kernel)) ggX6_setShare_X6_in
set_option maxRecDepth 20000 in
theorem ggX6_setShare_X6_remember : GoodIn wsX6_setShare wsX6_remember := goodIn_r _ [13, 14, 15, 16, 17, 18, 19, 1, 20, 21, 22, 23, 24, 25, 5, 26, 27, 28, 29, 30, 34, 35, 36, 37, 38, 39, 40, 41, 42, 43] (by decide +kernel) (by decide +kernel)
set_option maxRecDepth 20000 in
theorem gX6_setShare_X6_remember : GoodIn wsX6_setShare (wsV RX6 71 RX6 yX6_remember wsX6_remember) := goodIn_app (goodIn_of _ (by decide +kernel)) ggX6_setShare_X6_remember
set_option maxRecDepth 20000 in
theorem ggX6_setShare_X6_of : GoodIn wsX6_setShare wsX6_of := goodIn_r _ [33] (by decide +kernel) (by decide +kernel)
set_option maxRecDepth 20000 in
theorem gX6_setShare_X6_of : GoodIn wsX6_setShare (va_wsS RX6 34 yX6_of wsX6_of) := goodIn_app (goodIn_of _ (by decide +kernel)) ggX6_setShare_X6_of
theorem dX6_setShare_0 : decode cX6_setShare 0 = .ok (.aload_n 0, 1) := by decide +kernel
theorem dX6_setShare_1 : decode cX6_setShare 1 = .ok (.iload_n 1, 1) := by decide +kernel
theorem dX6_setShare_2 : decode cX6_setShare 2 = .ok (.invokevirtual 65, 3) := by decide +kernel
theorem dX6_setShare_5 : decode cX6_setShare 5 = .ok (.ifCond .eq 13, 3) := by decide +kernel
theorem dX6_setShare_8 : decode cX6_setShare 8 = .ok (.iload_n 2, 1) := by decide +kernel
theorem dX6_setShare_9 : decode cX6_setShare 9 = .ok (.iconst 0, 1) := by decide +kernel
theorem dX6_setShare_10 : decode cX6_setShare 10 = .ok (.bipush 100, 2) := by decide +kernel
theorem dX6_setShare_12 : decode cX6_setShare 12 = .ok (.invokestatic 38, 3) := by decide +kernel
theorem dX6_setShare_15 : decode cX6_setShare 15 = .ok (.ifCond .ne 5, 3) := by decide +kernel
theorem dX6_setShare_18 : decode cX6_setShare 18 = .ok (.iconst (-1), 1) := by decide +kernel
theorem dX6_setShare_19 : decode cX6_setShare 19 = .ok (.ireturn, 1) := by decide +kernel
theorem dX6_setShare_20 : decode cX6_setShare 20 = .ok (.aload_n 0, 1) := by decide +kernel
theorem dX6_setShare_21 : decode cX6_setShare 21 = .ok (.iconst 3, 1) := by decide +kernel
theorem dX6_setShare_22 : decode cX6_setShare 22 = .ok (.iload_n 1, 1) := by decide +kernel
theorem dX6_setShare_23 : decode cX6_setShare 23 = .ok (.iconst 0, 1) := by decide +kernel
theorem dX6_setShare_24 : decode cX6_setShare 24 = .ok (.iload_n 2, 1) := by decide +kernel
theorem dX6_setShare_25 : decode cX6_setShare 25 = .ok (.invokevirtual 71, 3) := by decide +kernel
theorem dX6_setShare_28 : decode cX6_setShare 28 = .ok (.aload_n 0, 1) := by decide +kernel
theorem dX6_setShare_29 : decode cX6_setShare 29 = .ok (.getfield 7, 3) := by decide +kernel
theorem dX6_setShare_32 : decode cX6_setShare 32 = .ok (.iload_n 1, 1) := by decide +kernel
theorem dX6_setShare_33 : decode cX6_setShare 33 = .ok (.bipush 8, 2) := by decide +kernel
theorem dX6_setShare_35 : decode cX6_setShare 35 = .ok (.invokestatic 34, 3) := by decide +kernel
theorem dX6_setShare_38 : decode cX6_setShare 38 = .ok (.iaload, 1) := by decide +kernel
theorem dX6_setShare_39 : decode cX6_setShare 39 = .ok (.istore_n 3, 1) := by decide +kernel
theorem dX6_setShare_40 : decode cX6_setShare 40 = .ok (.aload_n 0, 1) := by decide +kernel
theorem dX6_setShare_41 : decode cX6_setShare 41 = .ok (.getfield 7, 3) := by decide +kernel
theorem dX6_setShare_44 : decode cX6_setShare 44 = .ok (.iload_n 1, 1) := by decide +kernel
theorem dX6_setShare_45 : decode cX6_setShare 45 = .ok (.bipush 8, 2) := by decide +kernel
theorem dX6_setShare_47 : decode cX6_setShare 47 = .ok (.invokestatic 34, 3) := by decide +kernel
theorem dX6_setShare_50 : decode cX6_setShare 50 = .ok (.iload_n 2, 1) := by decide +kernel
theorem dX6_setShare_51 : decode cX6_setShare 51 = .ok (.iastore, 1) := by decide +kernel
theorem dX6_setShare_52 : decode cX6_setShare 52 = .ok (.iload_n 3, 1) := by decide +kernel
theorem dX6_setShare_53 : decode cX6_setShare 53 = .ok (.ireturn, 1) := by decide +kernel
set_option maxRecDepth 20000 in
theorem ggX6_setCarried_X6_in : GoodIn wsX6_setCarried wsX6_in := goodIn_r _ [5] (by decide +kernel) (by decide +kernel)
set_option maxRecDepth 20000 in
theorem gX6_setCarried_X6_in : GoodIn wsX6_setCarried (va_wsS RX6 38 yX6_in wsX6_in) := goodIn_app (goodIn_of _ (by decide +kernel)) ggX6_setCarried_X6_in
set_option maxRecDepth 20000 in
theorem ggX6_setCarried_X6_remember : GoodIn wsX6_setCarried wsX6_remember := goodIn_r _ [9, 10, 11, 12, 13, 14, 15, 1, 16, 17, 18, 19, 20, 21, 4, 22, 23, 24, 25, 26, 27, 28, 29, 30, 31, 32, 33, 34, 35, 36] (by decide +kernel) (by decide +kernel)
set_option maxRecDepth 20000 in
theorem gX6_setCarried_X6_remember : GoodIn wsX6_setCarried (wsV RX6 71 RX6 yX6_remember wsX6_remember) := goodIn_app (goodIn_of _ (by decide +kernel)) ggX6_setCarried_X6_remember
theorem dX6_setCarried_0 : decode cX6_setCarried 0 = .ok (.iload_n 1, 1) := by decide +kernel
theorem dX6_setCarried_1 : decode cX6_setCarried 1 = .ok (.iconst 0, 1) := by decide +kernel
theorem dX6_setCarried_2 : decode cX6_setCarried 2 = .ok (.bipush 100, 2) := by decide +kernel
theorem dX6_setCarried_4 : decode cX6_setCarried 4 = .ok (.invokestatic 38, 3) := by decide +kernel
theorem dX6_setCarried_7 : decode cX6_setCarried 7 = .ok (.ifCond .ne 5, 3) := by decide +kernel
theorem dX6_setCarried_10 : decode cX6_setCarried 10 = .ok (.iconst (-1), 1) := by decide +kernel
theorem dX6_setCarried_11 : decode cX6_setCarried 11 = .ok (.ireturn, 1) := by decide +kernel
theorem dX6_setCarried_12 : decode cX6_setCarried 12 = .ok (.aload_n 0, 1) := by decide +kernel
theorem dX6_setCarried_13 : decode cX6_setCarried 13 = .ok (.iconst 4, 1) := by decide +kernel
theorem dX6_setCarried_14 : decode cX6_setCarried 14 = .ok (.iconst 0, 1) := by decide +kernel
theorem dX6_setCarried_15 : decode cX6_setCarried 15 = .ok (.iconst 0, 1) := by decide +kernel
theorem dX6_setCarried_16 : decode cX6_setCarried 16 = .ok (.iload_n 1, 1) := by decide +kernel
theorem dX6_setCarried_17 : decode cX6_setCarried 17 = .ok (.invokevirtual 71, 3) := by decide +kernel
theorem dX6_setCarried_20 : decode cX6_setCarried 20 = .ok (.aload_n 0, 1) := by decide +kernel
theorem dX6_setCarried_21 : decode cX6_setCarried 21 = .ok (.getfield 7, 3) := by decide +kernel
theorem dX6_setCarried_24 : decode cX6_setCarried 24 = .ok (.iconst 3, 1) := by decide +kernel
theorem dX6_setCarried_25 : decode cX6_setCarried 25 = .ok (.iaload, 1) := by decide +kernel
theorem dX6_setCarried_26 : decode cX6_setCarried 26 = .ok (.istore_n 2, 1) := by decide +kernel
theorem dX6_setCarried_27 : decode cX6_setCarried 27 = .ok (.aload_n 0, 1) := by decide +kernel
theorem dX6_setCarried_28 : decode cX6_setCarried 28 = .ok (.getfield 7, 3) := by decide +kernel
theorem dX6_setCarried_31 : decode cX6_setCarried 31 = .ok (.iconst 3, 1) := by decide +kernel
theorem dX6_setCarried_32 : decode cX6_setCarried 32 = .ok (.iload_n 1, 1) := by decide +kernel
theorem dX6_setCarried_33 : decode cX6_setCarried 33 = .ok (.iastore, 1) := by decide +kernel
theorem dX6_setCarried_34 : decode cX6_setCarried 34 = .ok (.iload_n 2, 1) := by decide +kernel
theorem dX6_setCarried_35 : decode cX6_setCarried 35 = .ok (.ireturn, 1) := by decide +kernel
set_option maxRecDepth 20000 in
theorem ggX6_commit_X6_isHead : GoodIn wsX6_commit wsX6_isHead := goodIn_r _ [6, 1, 7, 8, 5, 9, 53, 54, 55, 56, 57, 58, 59, 60, 61, 62] (by decide +kernel) (by decide +kernel)
set_option maxRecDepth 20000 in
theorem gX6_commit_X6_isHead : GoodIn wsX6_commit (wsV RX6 65 RX6 yX6_isHead wsX6_isHead) := goodIn_app (goodIn_of _ (by decide +kernel)) ggX6_commit_X6_isHead
set_option maxRecDepth 20000 in
theorem ggX6_commit_X6_isAmount : GoodIn wsX6_commit wsX6_isAmount := goodIn_r _ [12, 13, 7, 8, 5, 9] (by decide +kernel) (by decide +kernel)
set_option maxRecDepth 20000 in
theorem gX6_commit_X6_isAmount : GoodIn wsX6_commit (va_wsS RX6 75 yX6_isAmount wsX6_isAmount) := goodIn_app (goodIn_of _ (by decide +kernel)) ggX6_commit_X6_isAmount
set_option maxRecDepth 20000 in
theorem ggX6_commit_X6_isBarred : GoodIn wsX6_commit wsX6_isBarred := goodIn_r _ [17, 1, 18, 19, 5, 20, 21, 22, 23, 24, 53, 54, 55, 56, 57, 58, 59, 60, 61, 62] (by decide +kernel) (by decide +kernel)
set_option maxRecDepth 20000 in
theorem gX6_commit_X6_isBarred : GoodIn wsX6_commit (wsV RX6 61 RX6 yX6_isBarred wsX6_isBarred) := goodIn_app (goodIn_of _ (by decide +kernel)) ggX6_commit_X6_isBarred
set_option maxRecDepth 20000 in
theorem ggX6_commit_X6_free : GoodIn wsX6_commit wsX6_free := goodIn_r _ [28, 1, 18, 19, 5, 20, 53, 54, 55, 56, 57, 58, 59, 60, 61, 62] (by decide +kernel) (by decide +kernel)
set_option maxRecDepth 20000 in
theorem gX6_commit_X6_free : GoodIn wsX6_commit (wsV RX6 83 RX6 yX6_free wsX6_free) := goodIn_app (goodIn_of _ (by decide +kernel)) ggX6_commit_X6_free
set_option maxRecDepth 20000 in
theorem ggX6_commit_X6_remember : GoodIn wsX6_commit wsX6_remember := goodIn_r _ [32, 33, 34, 35, 36, 37, 38, 1, 39, 40, 41, 42, 43, 44, 5, 45, 46, 47, 48, 49, 53, 54, 55, 56, 57, 58, 59, 60, 61, 62] (by decide +kernel) (by decide +kernel)
set_option maxRecDepth 20000 in
theorem gX6_commit_X6_remember : GoodIn wsX6_commit (wsV RX6 71 RX6 yX6_remember wsX6_remember) := goodIn_app (goodIn_of _ (by decide +kernel)) ggX6_commit_X6_remember
set_option maxRecDepth 20000 in
theorem ggX6_commit_X6_ofCommitment : GoodIn wsX6_commit wsX6_ofCommitment := goodIn_r _ [52] (by decide +kernel) (by decide +kernel)
set_option maxRecDepth 20000 in
theorem gX6_commit_X6_ofCommitment : GoodIn wsX6_commit (va_wsS RX6 86 yX6_ofCommitment wsX6_ofCommitment) := goodIn_app (goodIn_of _ (by decide +kernel)) ggX6_commit_X6_ofCommitment
set_option maxRecDepth 20000 in
theorem ggX6_commit_X6_of : GoodIn wsX6_commit wsX6_of := goodIn_r _ [20] (by decide +kernel) (by decide +kernel)
set_option maxRecDepth 20000 in
theorem gX6_commit_X6_of : GoodIn wsX6_commit (va_wsS RX6 34 yX6_of wsX6_of) := goodIn_app (goodIn_of _ (by decide +kernel)) ggX6_commit_X6_of
theorem dX6_commit_0 : decode cX6_commit 0 = .ok (.aload_n 0, 1) := by decide +kernel
theorem dX6_commit_1 : decode cX6_commit 1 = .ok (.iload_n 1, 1) := by decide +kernel
theorem dX6_commit_2 : decode cX6_commit 2 = .ok (.invokevirtual 65, 3) := by decide +kernel
theorem dX6_commit_5 : decode cX6_commit 5 = .ok (.ifCond .eq 10, 3) := by decide +kernel
theorem dX6_commit_8 : decode cX6_commit 8 = .ok (.iload_n 2, 1) := by decide +kernel
theorem dX6_commit_9 : decode cX6_commit 9 = .ok (.invokestatic 75, 3) := by decide +kernel
theorem dX6_commit_12 : decode cX6_commit 12 = .ok (.ifCond .ne 5, 3) := by decide +kernel
theorem dX6_commit_15 : decode cX6_commit 15 = .ok (.iconst (-1), 1) := by decide +kernel
theorem dX6_commit_16 : decode cX6_commit 16 = .ok (.ireturn, 1) := by decide +kernel
theorem dX6_commit_17 : decode cX6_commit 17 = .ok (.aload_n 0, 1) := by decide +kernel
theorem dX6_commit_18 : decode cX6_commit 18 = .ok (.iload_n 1, 1) := by decide +kernel
theorem dX6_commit_19 : decode cX6_commit 19 = .ok (.invokevirtual 61, 3) := by decide +kernel
theorem dX6_commit_22 : decode cX6_commit 22 = .ok (.ifCond .ne 12, 3) := by decide +kernel
theorem dX6_commit_25 : decode cX6_commit 25 = .ok (.iload_n 2, 1) := by decide +kernel
theorem dX6_commit_26 : decode cX6_commit 26 = .ok (.aload_n 0, 1) := by decide +kernel
theorem dX6_commit_27 : decode cX6_commit 27 = .ok (.iload_n 1, 1) := by decide +kernel
theorem dX6_commit_28 : decode cX6_commit 28 = .ok (.invokevirtual 83, 3) := by decide +kernel
theorem dX6_commit_31 : decode cX6_commit 31 = .ok (.if_icmp .le 6, 3) := by decide +kernel
theorem dX6_commit_34 : decode cX6_commit 34 = .ok (.bipush (-2), 2) := by decide +kernel
theorem dX6_commit_36 : decode cX6_commit 36 = .ok (.ireturn, 1) := by decide +kernel
theorem dX6_commit_37 : decode cX6_commit 37 = .ok (.aload_n 0, 1) := by decide +kernel
theorem dX6_commit_38 : decode cX6_commit 38 = .ok (.getfield 7, 3) := by decide +kernel
theorem dX6_commit_41 : decode cX6_commit 41 = .ok (.iconst 2, 1) := by decide +kernel
theorem dX6_commit_42 : decode cX6_commit 42 = .ok (.iaload, 1) := by decide +kernel
theorem dX6_commit_43 : decode cX6_commit 43 = .ok (.bipush 40, 2) := by decide +kernel
theorem dX6_commit_45 : decode cX6_commit 45 = .ok (.if_icmp .ne 6, 3) := by decide +kernel
theorem dX6_commit_48 : decode cX6_commit 48 = .ok (.bipush (-3), 2) := by decide +kernel
theorem dX6_commit_50 : decode cX6_commit 50 = .ok (.ireturn, 1) := by decide +kernel
theorem dX6_commit_51 : decode cX6_commit 51 = .ok (.aload_n 0, 1) := by decide +kernel
theorem dX6_commit_52 : decode cX6_commit 52 = .ok (.getfield 7, 3) := by decide +kernel
theorem dX6_commit_55 : decode cX6_commit 55 = .ok (.iconst 2, 1) := by decide +kernel
theorem dX6_commit_56 : decode cX6_commit 56 = .ok (.iaload, 1) := by decide +kernel
theorem dX6_commit_57 : decode cX6_commit 57 = .ok (.istore_n 3, 1) := by decide +kernel
theorem dX6_commit_58 : decode cX6_commit 58 = .ok (.aload_n 0, 1) := by decide +kernel
theorem dX6_commit_59 : decode cX6_commit 59 = .ok (.iconst 5, 1) := by decide +kernel
theorem dX6_commit_60 : decode cX6_commit 60 = .ok (.iload_n 3, 1) := by decide +kernel
theorem dX6_commit_61 : decode cX6_commit 61 = .ok (.iconst 0, 1) := by decide +kernel
theorem dX6_commit_62 : decode cX6_commit 62 = .ok (.iload_n 2, 1) := by decide +kernel
theorem dX6_commit_63 : decode cX6_commit 63 = .ok (.invokevirtual 71, 3) := by decide +kernel
theorem dX6_commit_66 : decode cX6_commit 66 = .ok (.aload_n 0, 1) := by decide +kernel
theorem dX6_commit_67 : decode cX6_commit 67 = .ok (.getfield 7, 3) := by decide +kernel
theorem dX6_commit_70 : decode cX6_commit 70 = .ok (.iload_n 3, 1) := by decide +kernel
theorem dX6_commit_71 : decode cX6_commit 71 = .ok (.iconst 0, 1) := by decide +kernel
theorem dX6_commit_72 : decode cX6_commit 72 = .ok (.invokestatic 86, 3) := by decide +kernel
theorem dX6_commit_75 : decode cX6_commit 75 = .ok (.iload_n 1, 1) := by decide +kernel
theorem dX6_commit_76 : decode cX6_commit 76 = .ok (.iastore, 1) := by decide +kernel
theorem dX6_commit_77 : decode cX6_commit 77 = .ok (.aload_n 0, 1) := by decide +kernel
theorem dX6_commit_78 : decode cX6_commit 78 = .ok (.getfield 7, 3) := by decide +kernel
theorem dX6_commit_81 : decode cX6_commit 81 = .ok (.iload_n 3, 1) := by decide +kernel
theorem dX6_commit_82 : decode cX6_commit 82 = .ok (.iconst 1, 1) := by decide +kernel
theorem dX6_commit_83 : decode cX6_commit 83 = .ok (.invokestatic 86, 3) := by decide +kernel
theorem dX6_commit_86 : decode cX6_commit 86 = .ok (.iload_n 2, 1) := by decide +kernel
theorem dX6_commit_87 : decode cX6_commit 87 = .ok (.iastore, 1) := by decide +kernel
theorem dX6_commit_88 : decode cX6_commit 88 = .ok (.aload_n 0, 1) := by decide +kernel
theorem dX6_commit_89 : decode cX6_commit 89 = .ok (.getfield 7, 3) := by decide +kernel
theorem dX6_commit_92 : decode cX6_commit 92 = .ok (.iload_n 3, 1) := by decide +kernel
theorem dX6_commit_93 : decode cX6_commit 93 = .ok (.iconst 2, 1) := by decide +kernel
theorem dX6_commit_94 : decode cX6_commit 94 = .ok (.invokestatic 86, 3) := by decide +kernel
theorem dX6_commit_97 : decode cX6_commit 97 = .ok (.iconst 0, 1) := by decide +kernel
theorem dX6_commit_98 : decode cX6_commit 98 = .ok (.iastore, 1) := by decide +kernel
theorem dX6_commit_99 : decode cX6_commit 99 = .ok (.aload_n 0, 1) := by decide +kernel
theorem dX6_commit_100 : decode cX6_commit 100 = .ok (.getfield 7, 3) := by decide +kernel
theorem dX6_commit_103 : decode cX6_commit 103 = .ok (.iload_n 3, 1) := by decide +kernel
theorem dX6_commit_104 : decode cX6_commit 104 = .ok (.iconst 3, 1) := by decide +kernel
theorem dX6_commit_105 : decode cX6_commit 105 = .ok (.invokestatic 86, 3) := by decide +kernel
theorem dX6_commit_108 : decode cX6_commit 108 = .ok (.aload_n 0, 1) := by decide +kernel
theorem dX6_commit_109 : decode cX6_commit 109 = .ok (.getfield 7, 3) := by decide +kernel
theorem dX6_commit_112 : decode cX6_commit 112 = .ok (.iconst 0, 1) := by decide +kernel
theorem dX6_commit_113 : decode cX6_commit 113 = .ok (.iaload, 1) := by decide +kernel
theorem dX6_commit_114 : decode cX6_commit 114 = .ok (.iastore, 1) := by decide +kernel
theorem dX6_commit_115 : decode cX6_commit 115 = .ok (.aload_n 0, 1) := by decide +kernel
theorem dX6_commit_116 : decode cX6_commit 116 = .ok (.getfield 7, 3) := by decide +kernel
theorem dX6_commit_119 : decode cX6_commit 119 = .ok (.iload_n 1, 1) := by decide +kernel
theorem dX6_commit_120 : decode cX6_commit 120 = .ok (.iconst 4, 1) := by decide +kernel
theorem dX6_commit_121 : decode cX6_commit 121 = .ok (.invokestatic 34, 3) := by decide +kernel
theorem dX6_commit_124 : decode cX6_commit 124 = .ok (.dup2, 1) := by decide +kernel
theorem dX6_commit_125 : decode cX6_commit 125 = .ok (.iaload, 1) := by decide +kernel
theorem dX6_commit_126 : decode cX6_commit 126 = .ok (.iload_n 2, 1) := by decide +kernel
theorem dX6_commit_127 : decode cX6_commit 127 = .ok (.iadd, 1) := by decide +kernel
theorem dX6_commit_128 : decode cX6_commit 128 = .ok (.iastore, 1) := by decide +kernel
theorem dX6_commit_129 : decode cX6_commit 129 = .ok (.aload_n 0, 1) := by decide +kernel
theorem dX6_commit_130 : decode cX6_commit 130 = .ok (.getfield 7, 3) := by decide +kernel
theorem dX6_commit_133 : decode cX6_commit 133 = .ok (.iconst 2, 1) := by decide +kernel
theorem dX6_commit_134 : decode cX6_commit 134 = .ok (.dup2, 1) := by decide +kernel
theorem dX6_commit_135 : decode cX6_commit 135 = .ok (.iaload, 1) := by decide +kernel
theorem dX6_commit_136 : decode cX6_commit 136 = .ok (.iconst 1, 1) := by decide +kernel
theorem dX6_commit_137 : decode cX6_commit 137 = .ok (.iadd, 1) := by decide +kernel
theorem dX6_commit_138 : decode cX6_commit 138 = .ok (.iastore, 1) := by decide +kernel
theorem dX6_commit_139 : decode cX6_commit 139 = .ok (.iload_n 3, 1) := by decide +kernel
theorem dX6_commit_140 : decode cX6_commit 140 = .ok (.ireturn, 1) := by decide +kernel
set_option maxRecDepth 20000 in
theorem ggX6_pay_X6_isCommitment : GoodIn wsX6_pay wsX6_isCommitment := goodIn_r _ [6, 1, 7, 8, 5, 9, 41, 42, 43, 44, 45, 46, 47, 48, 49, 50] (by decide +kernel) (by decide +kernel)
set_option maxRecDepth 20000 in
theorem gX6_pay_X6_isCommitment : GoodIn wsX6_pay (wsV RX6 89 RX6 yX6_isCommitment wsX6_isCommitment) := goodIn_app (goodIn_of _ (by decide +kernel)) ggX6_pay_X6_isCommitment
set_option maxRecDepth 20000 in
theorem ggX6_pay_X6_isAmount : GoodIn wsX6_pay wsX6_isAmount := goodIn_r _ [12, 13, 7, 8, 5, 9] (by decide +kernel) (by decide +kernel)
set_option maxRecDepth 20000 in
theorem gX6_pay_X6_isAmount : GoodIn wsX6_pay (va_wsS RX6 75 yX6_isAmount wsX6_isAmount) := goodIn_app (goodIn_of _ (by decide +kernel)) ggX6_pay_X6_isAmount
set_option maxRecDepth 20000 in
theorem ggX6_pay_X6_ofCommitment : GoodIn wsX6_pay wsX6_ofCommitment := goodIn_r _ [16] (by decide +kernel) (by decide +kernel)
set_option maxRecDepth 20000 in
theorem gX6_pay_X6_ofCommitment : GoodIn wsX6_pay (va_wsS RX6 86 yX6_ofCommitment wsX6_ofCommitment) := goodIn_app (goodIn_of _ (by decide +kernel)) ggX6_pay_X6_ofCommitment
set_option maxRecDepth 20000 in
theorem ggX6_pay_X6_remember : GoodIn wsX6_pay wsX6_remember := goodIn_r _ [20, 21, 22, 23, 24, 25, 26, 1, 27, 28, 29, 30, 31, 32, 5, 33, 34, 35, 36, 37, 41, 42, 43, 44, 45, 46, 47, 48, 49, 50] (by decide +kernel) (by decide +kernel)
set_option maxRecDepth 20000 in
theorem gX6_pay_X6_remember : GoodIn wsX6_pay (wsV RX6 71 RX6 yX6_remember wsX6_remember) := goodIn_app (goodIn_of _ (by decide +kernel)) ggX6_pay_X6_remember
set_option maxRecDepth 20000 in
theorem ggX6_pay_X6_of : GoodIn wsX6_pay wsX6_of := goodIn_r _ [40] (by decide +kernel) (by decide +kernel)
set_option maxRecDepth 20000 in
theorem gX6_pay_X6_of : GoodIn wsX6_pay (va_wsS RX6 34 yX6_of wsX6_of) := goodIn_app (goodIn_of _ (by decide +kernel)) ggX6_pay_X6_of
theorem dX6_pay_0 : decode cX6_pay 0 = .ok (.aload_n 0, 1) := by decide +kernel
theorem dX6_pay_1 : decode cX6_pay 1 = .ok (.iload_n 1, 1) := by decide +kernel
theorem dX6_pay_2 : decode cX6_pay 2 = .ok (.invokevirtual 89, 3) := by decide +kernel
theorem dX6_pay_5 : decode cX6_pay 5 = .ok (.ifCond .eq 10, 3) := by decide +kernel
theorem dX6_pay_8 : decode cX6_pay 8 = .ok (.iload_n 2, 1) := by decide +kernel
theorem dX6_pay_9 : decode cX6_pay 9 = .ok (.invokestatic 75, 3) := by decide +kernel
theorem dX6_pay_12 : decode cX6_pay 12 = .ok (.ifCond .ne 5, 3) := by decide +kernel
theorem dX6_pay_15 : decode cX6_pay 15 = .ok (.iconst (-1), 1) := by decide +kernel
theorem dX6_pay_16 : decode cX6_pay 16 = .ok (.ireturn, 1) := by decide +kernel
theorem dX6_pay_17 : decode cX6_pay 17 = .ok (.aload_n 0, 1) := by decide +kernel
theorem dX6_pay_18 : decode cX6_pay 18 = .ok (.getfield 7, 3) := by decide +kernel
theorem dX6_pay_21 : decode cX6_pay 21 = .ok (.iload_n 1, 1) := by decide +kernel
theorem dX6_pay_22 : decode cX6_pay 22 = .ok (.iconst 1, 1) := by decide +kernel
theorem dX6_pay_23 : decode cX6_pay 23 = .ok (.invokestatic 86, 3) := by decide +kernel
theorem dX6_pay_26 : decode cX6_pay 26 = .ok (.iaload, 1) := by decide +kernel
theorem dX6_pay_27 : decode cX6_pay 27 = .ok (.iload_n 2, 1) := by decide +kernel
theorem dX6_pay_28 : decode cX6_pay 28 = .ok (.if_icmp .ge 6, 3) := by decide +kernel
theorem dX6_pay_31 : decode cX6_pay 31 = .ok (.bipush (-2), 2) := by decide +kernel
theorem dX6_pay_33 : decode cX6_pay 33 = .ok (.ireturn, 1) := by decide +kernel
theorem dX6_pay_34 : decode cX6_pay 34 = .ok (.aload_n 0, 1) := by decide +kernel
theorem dX6_pay_35 : decode cX6_pay 35 = .ok (.bipush 6, 2) := by decide +kernel
theorem dX6_pay_37 : decode cX6_pay 37 = .ok (.iload_n 1, 1) := by decide +kernel
theorem dX6_pay_38 : decode cX6_pay 38 = .ok (.iconst 0, 1) := by decide +kernel
theorem dX6_pay_39 : decode cX6_pay 39 = .ok (.iload_n 2, 1) := by decide +kernel
theorem dX6_pay_40 : decode cX6_pay 40 = .ok (.invokevirtual 71, 3) := by decide +kernel
theorem dX6_pay_43 : decode cX6_pay 43 = .ok (.aload_n 0, 1) := by decide +kernel
theorem dX6_pay_44 : decode cX6_pay 44 = .ok (.getfield 7, 3) := by decide +kernel
theorem dX6_pay_47 : decode cX6_pay 47 = .ok (.iload_n 1, 1) := by decide +kernel
theorem dX6_pay_48 : decode cX6_pay 48 = .ok (.iconst 0, 1) := by decide +kernel
theorem dX6_pay_49 : decode cX6_pay 49 = .ok (.invokestatic 86, 3) := by decide +kernel
theorem dX6_pay_52 : decode cX6_pay 52 = .ok (.iaload, 1) := by decide +kernel
theorem dX6_pay_53 : decode cX6_pay 53 = .ok (.istore_n 3, 1) := by decide +kernel
theorem dX6_pay_54 : decode cX6_pay 54 = .ok (.aload_n 0, 1) := by decide +kernel
theorem dX6_pay_55 : decode cX6_pay 55 = .ok (.getfield 7, 3) := by decide +kernel
theorem dX6_pay_58 : decode cX6_pay 58 = .ok (.iload_n 1, 1) := by decide +kernel
theorem dX6_pay_59 : decode cX6_pay 59 = .ok (.iconst 1, 1) := by decide +kernel
theorem dX6_pay_60 : decode cX6_pay 60 = .ok (.invokestatic 86, 3) := by decide +kernel
theorem dX6_pay_63 : decode cX6_pay 63 = .ok (.dup2, 1) := by decide +kernel
theorem dX6_pay_64 : decode cX6_pay 64 = .ok (.iaload, 1) := by decide +kernel
theorem dX6_pay_65 : decode cX6_pay 65 = .ok (.iload_n 2, 1) := by decide +kernel
theorem dX6_pay_66 : decode cX6_pay 66 = .ok (.isub, 1) := by decide +kernel
theorem dX6_pay_67 : decode cX6_pay 67 = .ok (.iastore, 1) := by decide +kernel
theorem dX6_pay_68 : decode cX6_pay 68 = .ok (.aload_n 0, 1) := by decide +kernel
theorem dX6_pay_69 : decode cX6_pay 69 = .ok (.getfield 7, 3) := by decide +kernel
theorem dX6_pay_72 : decode cX6_pay 72 = .ok (.iload_n 1, 1) := by decide +kernel
theorem dX6_pay_73 : decode cX6_pay 73 = .ok (.iconst 2, 1) := by decide +kernel
theorem dX6_pay_74 : decode cX6_pay 74 = .ok (.invokestatic 86, 3) := by decide +kernel
theorem dX6_pay_77 : decode cX6_pay 77 = .ok (.dup2, 1) := by decide +kernel
theorem dX6_pay_78 : decode cX6_pay 78 = .ok (.iaload, 1) := by decide +kernel
theorem dX6_pay_79 : decode cX6_pay 79 = .ok (.iload_n 2, 1) := by decide +kernel
theorem dX6_pay_80 : decode cX6_pay 80 = .ok (.iadd, 1) := by decide +kernel
theorem dX6_pay_81 : decode cX6_pay 81 = .ok (.iastore, 1) := by decide +kernel
theorem dX6_pay_82 : decode cX6_pay 82 = .ok (.aload_n 0, 1) := by decide +kernel
theorem dX6_pay_83 : decode cX6_pay 83 = .ok (.getfield 7, 3) := by decide +kernel
theorem dX6_pay_86 : decode cX6_pay 86 = .ok (.iload_n 3, 1) := by decide +kernel
theorem dX6_pay_87 : decode cX6_pay 87 = .ok (.iconst 4, 1) := by decide +kernel
theorem dX6_pay_88 : decode cX6_pay 88 = .ok (.invokestatic 34, 3) := by decide +kernel
theorem dX6_pay_91 : decode cX6_pay 91 = .ok (.dup2, 1) := by decide +kernel
theorem dX6_pay_92 : decode cX6_pay 92 = .ok (.iaload, 1) := by decide +kernel
theorem dX6_pay_93 : decode cX6_pay 93 = .ok (.iload_n 2, 1) := by decide +kernel
theorem dX6_pay_94 : decode cX6_pay 94 = .ok (.isub, 1) := by decide +kernel
theorem dX6_pay_95 : decode cX6_pay 95 = .ok (.iastore, 1) := by decide +kernel
theorem dX6_pay_96 : decode cX6_pay 96 = .ok (.aload_n 0, 1) := by decide +kernel
theorem dX6_pay_97 : decode cX6_pay 97 = .ok (.getfield 7, 3) := by decide +kernel
theorem dX6_pay_100 : decode cX6_pay 100 = .ok (.iload_n 3, 1) := by decide +kernel
theorem dX6_pay_101 : decode cX6_pay 101 = .ok (.iconst 5, 1) := by decide +kernel
theorem dX6_pay_102 : decode cX6_pay 102 = .ok (.invokestatic 34, 3) := by decide +kernel
theorem dX6_pay_105 : decode cX6_pay 105 = .ok (.dup2, 1) := by decide +kernel
theorem dX6_pay_106 : decode cX6_pay 106 = .ok (.iaload, 1) := by decide +kernel
theorem dX6_pay_107 : decode cX6_pay 107 = .ok (.iload_n 2, 1) := by decide +kernel
theorem dX6_pay_108 : decode cX6_pay 108 = .ok (.iadd, 1) := by decide +kernel
theorem dX6_pay_109 : decode cX6_pay 109 = .ok (.iastore, 1) := by decide +kernel
theorem dX6_pay_110 : decode cX6_pay 110 = .ok (.aload_n 0, 1) := by decide +kernel
theorem dX6_pay_111 : decode cX6_pay 111 = .ok (.getfield 7, 3) := by decide +kernel
theorem dX6_pay_114 : decode cX6_pay 114 = .ok (.iconst 5, 1) := by decide +kernel
theorem dX6_pay_115 : decode cX6_pay 115 = .ok (.dup2, 1) := by decide +kernel
theorem dX6_pay_116 : decode cX6_pay 116 = .ok (.iaload, 1) := by decide +kernel
theorem dX6_pay_117 : decode cX6_pay 117 = .ok (.iload_n 2, 1) := by decide +kernel
theorem dX6_pay_118 : decode cX6_pay 118 = .ok (.iadd, 1) := by decide +kernel
theorem dX6_pay_119 : decode cX6_pay 119 = .ok (.iastore, 1) := by decide +kernel
theorem dX6_pay_120 : decode cX6_pay 120 = .ok (.aload_n 0, 1) := by decide +kernel
theorem dX6_pay_121 : decode cX6_pay 121 = .ok (.getfield 7, 3) := by decide +kernel
theorem dX6_pay_124 : decode cX6_pay 124 = .ok (.iload_n 1, 1) := by decide +kernel
theorem dX6_pay_125 : decode cX6_pay 125 = .ok (.iconst 1, 1) := by decide +kernel
theorem dX6_pay_126 : decode cX6_pay 126 = .ok (.invokestatic 86, 3) := by decide +kernel
theorem dX6_pay_129 : decode cX6_pay 129 = .ok (.iaload, 1) := by decide +kernel
theorem dX6_pay_130 : decode cX6_pay 130 = .ok (.ireturn, 1) := by decide +kernel
set_option maxRecDepth 20000 in
theorem ggX6_free0_X6_ofCommitment : GoodIn wsX6_free0 wsX6_ofCommitment := goodIn_r _ [5] (by decide +kernel) (by decide +kernel)
set_option maxRecDepth 20000 in
theorem gX6_free0_X6_ofCommitment : GoodIn wsX6_free0 (va_wsS RX6 86 yX6_ofCommitment wsX6_ofCommitment) := goodIn_app (goodIn_of _ (by decide +kernel)) ggX6_free0_X6_ofCommitment
set_option maxRecDepth 20000 in
theorem ggX6_free0_X6_of : GoodIn wsX6_free0 wsX6_of := goodIn_r _ [8] (by decide +kernel) (by decide +kernel)
set_option maxRecDepth 20000 in
theorem gX6_free0_X6_of : GoodIn wsX6_free0 (va_wsS RX6 34 yX6_of wsX6_of) := goodIn_app (goodIn_of _ (by decide +kernel)) ggX6_free0_X6_of
theorem dX6_free0_0 : decode cX6_free0 0 = .ok (.aload_n 0, 1) := by decide +kernel
theorem dX6_free0_1 : decode cX6_free0 1 = .ok (.getfield 7, 3) := by decide +kernel
theorem dX6_free0_4 : decode cX6_free0 4 = .ok (.iload_n 1, 1) := by decide +kernel
theorem dX6_free0_5 : decode cX6_free0 5 = .ok (.iconst 1, 1) := by decide +kernel
theorem dX6_free0_6 : decode cX6_free0 6 = .ok (.invokestatic 86, 3) := by decide +kernel
theorem dX6_free0_9 : decode cX6_free0 9 = .ok (.iaload, 1) := by decide +kernel
theorem dX6_free0_10 : decode cX6_free0 10 = .ok (.istore_n 2, 1) := by decide +kernel
theorem dX6_free0_11 : decode cX6_free0 11 = .ok (.aload_n 0, 1) := by decide +kernel
theorem dX6_free0_12 : decode cX6_free0 12 = .ok (.getfield 7, 3) := by decide +kernel
theorem dX6_free0_15 : decode cX6_free0 15 = .ok (.aload_n 0, 1) := by decide +kernel
theorem dX6_free0_16 : decode cX6_free0 16 = .ok (.getfield 7, 3) := by decide +kernel
theorem dX6_free0_19 : decode cX6_free0 19 = .ok (.iload_n 1, 1) := by decide +kernel
theorem dX6_free0_20 : decode cX6_free0 20 = .ok (.iconst 0, 1) := by decide +kernel
theorem dX6_free0_21 : decode cX6_free0 21 = .ok (.invokestatic 86, 3) := by decide +kernel
theorem dX6_free0_24 : decode cX6_free0 24 = .ok (.iaload, 1) := by decide +kernel
theorem dX6_free0_25 : decode cX6_free0 25 = .ok (.iconst 4, 1) := by decide +kernel
theorem dX6_free0_26 : decode cX6_free0 26 = .ok (.invokestatic 34, 3) := by decide +kernel
theorem dX6_free0_29 : decode cX6_free0 29 = .ok (.dup2, 1) := by decide +kernel
theorem dX6_free0_30 : decode cX6_free0 30 = .ok (.iaload, 1) := by decide +kernel
theorem dX6_free0_31 : decode cX6_free0 31 = .ok (.iload_n 2, 1) := by decide +kernel
theorem dX6_free0_32 : decode cX6_free0 32 = .ok (.isub, 1) := by decide +kernel
theorem dX6_free0_33 : decode cX6_free0 33 = .ok (.iastore, 1) := by decide +kernel
theorem dX6_free0_34 : decode cX6_free0 34 = .ok (.aload_n 0, 1) := by decide +kernel
theorem dX6_free0_35 : decode cX6_free0 35 = .ok (.getfield 7, 3) := by decide +kernel
theorem dX6_free0_38 : decode cX6_free0 38 = .ok (.iload_n 1, 1) := by decide +kernel
theorem dX6_free0_39 : decode cX6_free0 39 = .ok (.iconst 1, 1) := by decide +kernel
theorem dX6_free0_40 : decode cX6_free0 40 = .ok (.invokestatic 86, 3) := by decide +kernel
theorem dX6_free0_43 : decode cX6_free0 43 = .ok (.iconst 0, 1) := by decide +kernel
theorem dX6_free0_44 : decode cX6_free0 44 = .ok (.iastore, 1) := by decide +kernel
theorem dX6_free0_45 : decode cX6_free0 45 = .ok (.iload_n 2, 1) := by decide +kernel
theorem dX6_free0_46 : decode cX6_free0 46 = .ok (.ireturn, 1) := by decide +kernel
set_option maxRecDepth 20000 in
theorem ggX6_release_X6_isCommitment : GoodIn wsX6_release wsX6_isCommitment := goodIn_r _ [6, 1, 7, 8, 5, 9, 41, 42, 43, 44, 45, 46, 47, 48, 49, 50] (by decide +kernel) (by decide +kernel)
set_option maxRecDepth 20000 in
theorem gX6_release_X6_isCommitment : GoodIn wsX6_release (wsV RX6 89 RX6 yX6_isCommitment wsX6_isCommitment) := goodIn_app (goodIn_of _ (by decide +kernel)) ggX6_release_X6_isCommitment
set_option maxRecDepth 20000 in
theorem ggX6_release_X6_ofCommitment : GoodIn wsX6_release wsX6_ofCommitment := goodIn_r _ [12] (by decide +kernel) (by decide +kernel)
set_option maxRecDepth 20000 in
theorem gX6_release_X6_ofCommitment : GoodIn wsX6_release (va_wsS RX6 86 yX6_ofCommitment wsX6_ofCommitment) := goodIn_app (goodIn_of _ (by decide +kernel)) ggX6_release_X6_ofCommitment
set_option maxRecDepth 20000 in
theorem ggX6_release_X6_remember : GoodIn wsX6_release wsX6_remember := goodIn_r _ [16, 17, 18, 19, 20, 21, 22, 1, 23, 24, 25, 26, 27, 28, 5, 29, 30, 31, 32, 33, 41, 42, 43, 44, 45, 46, 47, 48, 49, 50] (by decide +kernel) (by decide +kernel)
set_option maxRecDepth 20000 in
theorem gX6_release_X6_remember : GoodIn wsX6_release (wsV RX6 71 RX6 yX6_remember wsX6_remember) := goodIn_app (goodIn_of _ (by decide +kernel)) ggX6_release_X6_remember
set_option maxRecDepth 20000 in
theorem ggX6_release_X6_free0 : GoodIn wsX6_release wsX6_free0 := goodIn_r _ [37, 1, 10, 11, 5, 12, 38, 39, 40, 41, 42, 43, 44, 45, 46, 47, 48, 49, 50] (by decide +kernel) (by decide +kernel)
set_option maxRecDepth 20000 in
theorem gX6_release_X6_free0 : GoodIn wsX6_release (wsV RX6 92 RX6 yX6_free0 wsX6_free0) := goodIn_app (goodIn_of _ (by decide +kernel)) ggX6_release_X6_free0
theorem dX6_release_0 : decode cX6_release 0 = .ok (.aload_n 0, 1) := by decide +kernel
theorem dX6_release_1 : decode cX6_release 1 = .ok (.iload_n 1, 1) := by decide +kernel
theorem dX6_release_2 : decode cX6_release 2 = .ok (.invokevirtual 89, 3) := by decide +kernel
theorem dX6_release_5 : decode cX6_release 5 = .ok (.ifCond .ne 5, 3) := by decide +kernel
theorem dX6_release_8 : decode cX6_release 8 = .ok (.iconst (-1), 1) := by decide +kernel
theorem dX6_release_9 : decode cX6_release 9 = .ok (.ireturn, 1) := by decide +kernel
theorem dX6_release_10 : decode cX6_release 10 = .ok (.aload_n 0, 1) := by decide +kernel
theorem dX6_release_11 : decode cX6_release 11 = .ok (.getfield 7, 3) := by decide +kernel
theorem dX6_release_14 : decode cX6_release 14 = .ok (.iload_n 1, 1) := by decide +kernel
theorem dX6_release_15 : decode cX6_release 15 = .ok (.iconst 1, 1) := by decide +kernel
theorem dX6_release_16 : decode cX6_release 16 = .ok (.invokestatic 86, 3) := by decide +kernel
theorem dX6_release_19 : decode cX6_release 19 = .ok (.iaload, 1) := by decide +kernel
theorem dX6_release_20 : decode cX6_release 20 = .ok (.ifCond .ne 6, 3) := by decide +kernel
theorem dX6_release_23 : decode cX6_release 23 = .ok (.bipush (-2), 2) := by decide +kernel
theorem dX6_release_25 : decode cX6_release 25 = .ok (.ireturn, 1) := by decide +kernel
theorem dX6_release_26 : decode cX6_release 26 = .ok (.aload_n 0, 1) := by decide +kernel
theorem dX6_release_27 : decode cX6_release 27 = .ok (.bipush 7, 2) := by decide +kernel
theorem dX6_release_29 : decode cX6_release 29 = .ok (.iload_n 1, 1) := by decide +kernel
theorem dX6_release_30 : decode cX6_release 30 = .ok (.iconst 0, 1) := by decide +kernel
theorem dX6_release_31 : decode cX6_release 31 = .ok (.iconst 0, 1) := by decide +kernel
theorem dX6_release_32 : decode cX6_release 32 = .ok (.invokevirtual 71, 3) := by decide +kernel
theorem dX6_release_35 : decode cX6_release 35 = .ok (.aload_n 0, 1) := by decide +kernel
theorem dX6_release_36 : decode cX6_release 36 = .ok (.iload_n 1, 1) := by decide +kernel
theorem dX6_release_37 : decode cX6_release 37 = .ok (.invokevirtual 92, 3) := by decide +kernel
theorem dX6_release_40 : decode cX6_release 40 = .ok (.ireturn, 1) := by decide +kernel
set_option maxRecDepth 20000 in
theorem ggX6_isAllowed_X6_isBelow : GoodIn wsX6_isAllowed wsX6_isBelow := goodIn_r _ [6, 7, 8, 9, 5, 10, 1, 11, 12, 13, 18, 19, 20, 21, 22, 23, 24, 25, 26, 27] (by decide +kernel) (by decide +kernel)
set_option maxRecDepth 20000 in
theorem gX6_isAllowed_X6_isBelow : GoodIn wsX6_isAllowed (wsV RX6 95 RX6 yX6_isBelow wsX6_isBelow) := goodIn_app (goodIn_of _ (by decide +kernel)) ggX6_isAllowed_X6_isBelow
set_option maxRecDepth 20000 in
theorem ggX6_isAllowed_X6_aboveOf : GoodIn wsX6_isAllowed wsX6_aboveOf := goodIn_r _ [10, 1, 11, 12, 5, 13, 18, 19, 20, 21, 22, 23, 24, 25, 26, 27] (by decide +kernel) (by decide +kernel)
set_option maxRecDepth 20000 in
theorem gX6_isAllowed_X6_aboveOf : GoodIn wsX6_isAllowed (wsV RX6 57 RX6 yX6_aboveOf wsX6_aboveOf) := goodIn_app (goodIn_of _ (by decide +kernel)) ggX6_isAllowed_X6_aboveOf
set_option maxRecDepth 20000 in
theorem ggX6_isAllowed_X6_isBarred : GoodIn wsX6_isAllowed wsX6_isBarred := goodIn_r _ [17, 1, 11, 12, 5, 13, 7, 8, 9, 10, 18, 19, 20, 21, 22, 23, 24, 25, 26, 27] (by decide +kernel) (by decide +kernel)
set_option maxRecDepth 20000 in
theorem gX6_isAllowed_X6_isBarred : GoodIn wsX6_isAllowed (wsV RX6 61 RX6 yX6_isBarred wsX6_isBarred) := goodIn_app (goodIn_of _ (by decide +kernel)) ggX6_isAllowed_X6_isBarred
set_option maxRecDepth 20000 in
theorem ggX6_isAllowed_X6_of : GoodIn wsX6_isAllowed wsX6_of := goodIn_r _ [13] (by decide +kernel) (by decide +kernel)
set_option maxRecDepth 20000 in
theorem gX6_isAllowed_X6_of : GoodIn wsX6_isAllowed (va_wsS RX6 34 yX6_of wsX6_of) := goodIn_app (goodIn_of _ (by decide +kernel)) ggX6_isAllowed_X6_of
theorem dX6_isAllowed_0 : decode cX6_isAllowed 0 = .ok (.aload_n 0, 1) := by decide +kernel
theorem dX6_isAllowed_1 : decode cX6_isAllowed 1 = .ok (.iload_n 1, 1) := by decide +kernel
theorem dX6_isAllowed_2 : decode cX6_isAllowed 2 = .ok (.iload_n 2, 1) := by decide +kernel
theorem dX6_isAllowed_3 : decode cX6_isAllowed 3 = .ok (.invokevirtual 95, 3) := by decide +kernel
theorem dX6_isAllowed_6 : decode cX6_isAllowed 6 = .ok (.ifCond .ne 25, 3) := by decide +kernel
theorem dX6_isAllowed_9 : decode cX6_isAllowed 9 = .ok (.aload_n 0, 1) := by decide +kernel
theorem dX6_isAllowed_10 : decode cX6_isAllowed 10 = .ok (.iload_n 2, 1) := by decide +kernel
theorem dX6_isAllowed_11 : decode cX6_isAllowed 11 = .ok (.iload_n 1, 1) := by decide +kernel
theorem dX6_isAllowed_12 : decode cX6_isAllowed 12 = .ok (.invokevirtual 95, 3) := by decide +kernel
theorem dX6_isAllowed_15 : decode cX6_isAllowed 15 = .ok (.ifCond .ne 16, 3) := by decide +kernel
theorem dX6_isAllowed_18 : decode cX6_isAllowed 18 = .ok (.aload_n 0, 1) := by decide +kernel
theorem dX6_isAllowed_19 : decode cX6_isAllowed 19 = .ok (.iload_n 1, 1) := by decide +kernel
theorem dX6_isAllowed_20 : decode cX6_isAllowed 20 = .ok (.invokevirtual 57, 3) := by decide +kernel
theorem dX6_isAllowed_23 : decode cX6_isAllowed 23 = .ok (.aload_n 0, 1) := by decide +kernel
theorem dX6_isAllowed_24 : decode cX6_isAllowed 24 = .ok (.iload_n 2, 1) := by decide +kernel
theorem dX6_isAllowed_25 : decode cX6_isAllowed 25 = .ok (.invokevirtual 57, 3) := by decide +kernel
theorem dX6_isAllowed_28 : decode cX6_isAllowed 28 = .ok (.if_icmp .ne 7, 3) := by decide +kernel
theorem dX6_isAllowed_31 : decode cX6_isAllowed 31 = .ok (.iconst 1, 1) := by decide +kernel
theorem dX6_isAllowed_32 : decode cX6_isAllowed 32 = .ok (.goto 4, 3) := by decide +kernel
theorem dX6_isAllowed_35 : decode cX6_isAllowed 35 = .ok (.iconst 0, 1) := by decide +kernel
theorem dX6_isAllowed_36 : decode cX6_isAllowed 36 = .ok (.istore_n 3, 1) := by decide +kernel
theorem dX6_isAllowed_37 : decode cX6_isAllowed 37 = .ok (.aload_n 0, 1) := by decide +kernel
theorem dX6_isAllowed_38 : decode cX6_isAllowed 38 = .ok (.iload_n 1, 1) := by decide +kernel
theorem dX6_isAllowed_39 : decode cX6_isAllowed 39 = .ok (.invokevirtual 61, 3) := by decide +kernel
theorem dX6_isAllowed_42 : decode cX6_isAllowed 42 = .ok (.ifCond .ne 42, 3) := by decide +kernel
theorem dX6_isAllowed_45 : decode cX6_isAllowed 45 = .ok (.aload_n 0, 1) := by decide +kernel
theorem dX6_isAllowed_46 : decode cX6_isAllowed 46 = .ok (.iload_n 2, 1) := by decide +kernel
theorem dX6_isAllowed_47 : decode cX6_isAllowed 47 = .ok (.invokevirtual 61, 3) := by decide +kernel
theorem dX6_isAllowed_50 : decode cX6_isAllowed 50 = .ok (.ifCond .ne 34, 3) := by decide +kernel
theorem dX6_isAllowed_53 : decode cX6_isAllowed 53 = .ok (.iload_n 3, 1) := by decide +kernel
theorem dX6_isAllowed_54 : decode cX6_isAllowed 54 = .ok (.ifCond .ne 26, 3) := by decide +kernel
theorem dX6_isAllowed_57 : decode cX6_isAllowed 57 = .ok (.aload_n 0, 1) := by decide +kernel
theorem dX6_isAllowed_58 : decode cX6_isAllowed 58 = .ok (.getfield 7, 3) := by decide +kernel
theorem dX6_isAllowed_61 : decode cX6_isAllowed 61 = .ok (.iload_n 1, 1) := by decide +kernel
theorem dX6_isAllowed_62 : decode cX6_isAllowed 62 = .ok (.iconst 1, 1) := by decide +kernel
theorem dX6_isAllowed_63 : decode cX6_isAllowed 63 = .ok (.invokestatic 34, 3) := by decide +kernel
theorem dX6_isAllowed_66 : decode cX6_isAllowed 66 = .ok (.iaload, 1) := by decide +kernel
theorem dX6_isAllowed_67 : decode cX6_isAllowed 67 = .ok (.aload_n 0, 1) := by decide +kernel
theorem dX6_isAllowed_68 : decode cX6_isAllowed 68 = .ok (.getfield 7, 3) := by decide +kernel
theorem dX6_isAllowed_71 : decode cX6_isAllowed 71 = .ok (.iload_n 2, 1) := by decide +kernel
theorem dX6_isAllowed_72 : decode cX6_isAllowed 72 = .ok (.iconst 1, 1) := by decide +kernel
theorem dX6_isAllowed_73 : decode cX6_isAllowed 73 = .ok (.invokestatic 34, 3) := by decide +kernel
theorem dX6_isAllowed_76 : decode cX6_isAllowed 76 = .ok (.iaload, 1) := by decide +kernel
theorem dX6_isAllowed_77 : decode cX6_isAllowed 77 = .ok (.if_icmp .gt 7, 3) := by decide +kernel
theorem dX6_isAllowed_80 : decode cX6_isAllowed 80 = .ok (.iconst 1, 1) := by decide +kernel
theorem dX6_isAllowed_81 : decode cX6_isAllowed 81 = .ok (.goto 4, 3) := by decide +kernel
theorem dX6_isAllowed_84 : decode cX6_isAllowed 84 = .ok (.iconst 0, 1) := by decide +kernel
theorem dX6_isAllowed_85 : decode cX6_isAllowed 85 = .ok (.ireturn, 1) := by decide +kernel
set_option maxRecDepth 20000 in
theorem ggX6_leaveOf_X6_of : GoodIn wsX6_leaveOf wsX6_of := goodIn_r _ [6] (by decide +kernel) (by decide +kernel)
set_option maxRecDepth 20000 in
theorem gX6_leaveOf_X6_of : GoodIn wsX6_leaveOf (va_wsS RX6 34 yX6_of wsX6_of) := goodIn_app (goodIn_of _ (by decide +kernel)) ggX6_leaveOf_X6_of
theorem dX6_leaveOf_0 : decode cX6_leaveOf 0 = .ok (.aload_n 0, 1) := by decide +kernel
theorem dX6_leaveOf_1 : decode cX6_leaveOf 1 = .ok (.getfield 7, 3) := by decide +kernel
theorem dX6_leaveOf_4 : decode cX6_leaveOf 4 = .ok (.iload_n 1, 1) := by decide +kernel
theorem dX6_leaveOf_5 : decode cX6_leaveOf 5 = .ok (.bipush 8, 2) := by decide +kernel
theorem dX6_leaveOf_7 : decode cX6_leaveOf 7 = .ok (.invokestatic 34, 3) := by decide +kernel
theorem dX6_leaveOf_10 : decode cX6_leaveOf 10 = .ok (.iaload, 1) := by decide +kernel
theorem dX6_leaveOf_11 : decode cX6_leaveOf 11 = .ok (.i2l, 1) := by decide +kernel
theorem dX6_leaveOf_12 : decode cX6_leaveOf 12 = .ok (.aload_n 0, 1) := by decide +kernel
theorem dX6_leaveOf_13 : decode cX6_leaveOf 13 = .ok (.getfield 7, 3) := by decide +kernel
theorem dX6_leaveOf_16 : decode cX6_leaveOf 16 = .ok (.iload_n 1, 1) := by decide +kernel
theorem dX6_leaveOf_17 : decode cX6_leaveOf 17 = .ok (.bipush 6, 2) := by decide +kernel
theorem dX6_leaveOf_19 : decode cX6_leaveOf 19 = .ok (.invokestatic 34, 3) := by decide +kernel
theorem dX6_leaveOf_22 : decode cX6_leaveOf 22 = .ok (.iaload, 1) := by decide +kernel
theorem dX6_leaveOf_23 : decode cX6_leaveOf 23 = .ok (.i2l, 1) := by decide +kernel
theorem dX6_leaveOf_24 : decode cX6_leaveOf 24 = .ok (.lmul, 1) := by decide +kernel
theorem dX6_leaveOf_25 : decode cX6_leaveOf 25 = .ok (.ldc2_w 99, 3) := by decide +kernel
theorem dX6_leaveOf_28 : decode cX6_leaveOf 28 = .ok (.ldiv, 1) := by decide +kernel
theorem dX6_leaveOf_29 : decode cX6_leaveOf 29 = .ok (.l2i, 1) := by decide +kernel
theorem dX6_leaveOf_30 : decode cX6_leaveOf 30 = .ok (.aload_n 0, 1) := by decide +kernel
theorem dX6_leaveOf_31 : decode cX6_leaveOf 31 = .ok (.getfield 7, 3) := by decide +kernel
theorem dX6_leaveOf_34 : decode cX6_leaveOf 34 = .ok (.iload_n 1, 1) := by decide +kernel
theorem dX6_leaveOf_35 : decode cX6_leaveOf 35 = .ok (.bipush 7, 2) := by decide +kernel
theorem dX6_leaveOf_37 : decode cX6_leaveOf 37 = .ok (.invokestatic 34, 3) := by decide +kernel
theorem dX6_leaveOf_40 : decode cX6_leaveOf 40 = .ok (.iaload, 1) := by decide +kernel
theorem dX6_leaveOf_41 : decode cX6_leaveOf 41 = .ok (.isub, 1) := by decide +kernel
theorem dX6_leaveOf_42 : decode cX6_leaveOf 42 = .ok (.ireturn, 1) := by decide +kernel
set_option maxRecDepth 20000 in
theorem ggX6_areTwo_X6_isHead : GoodIn wsX6_areTwo wsX6_isHead := goodIn_r _ [5, 6, 7, 8, 4, 9, 10, 11, 12, 13, 14, 15, 16, 17, 18, 19] (by decide +kernel) (by decide +kernel)
set_option maxRecDepth 20000 in
theorem gX6_areTwo_X6_isHead : GoodIn wsX6_areTwo (wsV RX6 65 RX6 yX6_isHead wsX6_isHead) := goodIn_app (goodIn_of _ (by decide +kernel)) ggX6_areTwo_X6_isHead
theorem dX6_areTwo_0 : decode cX6_areTwo 0 = .ok (.aload_n 0, 1) := by decide +kernel
theorem dX6_areTwo_1 : decode cX6_areTwo 1 = .ok (.iload_n 1, 1) := by decide +kernel
theorem dX6_areTwo_2 : decode cX6_areTwo 2 = .ok (.invokevirtual 65, 3) := by decide +kernel
theorem dX6_areTwo_5 : decode cX6_areTwo 5 = .ok (.ifCond .eq 20, 3) := by decide +kernel
theorem dX6_areTwo_8 : decode cX6_areTwo 8 = .ok (.aload_n 0, 1) := by decide +kernel
theorem dX6_areTwo_9 : decode cX6_areTwo 9 = .ok (.iload_n 2, 1) := by decide +kernel
theorem dX6_areTwo_10 : decode cX6_areTwo 10 = .ok (.invokevirtual 65, 3) := by decide +kernel
theorem dX6_areTwo_13 : decode cX6_areTwo 13 = .ok (.ifCond .eq 12, 3) := by decide +kernel
theorem dX6_areTwo_16 : decode cX6_areTwo 16 = .ok (.iload_n 1, 1) := by decide +kernel
theorem dX6_areTwo_17 : decode cX6_areTwo 17 = .ok (.iload_n 2, 1) := by decide +kernel
theorem dX6_areTwo_18 : decode cX6_areTwo 18 = .ok (.if_icmp .eq 7, 3) := by decide +kernel
theorem dX6_areTwo_21 : decode cX6_areTwo 21 = .ok (.iconst 1, 1) := by decide +kernel
theorem dX6_areTwo_22 : decode cX6_areTwo 22 = .ok (.goto 4, 3) := by decide +kernel
theorem dX6_areTwo_25 : decode cX6_areTwo 25 = .ok (.iconst 0, 1) := by decide +kernel
theorem dX6_areTwo_26 : decode cX6_areTwo 26 = .ok (.ireturn, 1) := by decide +kernel
set_option maxRecDepth 20000 in
theorem ggX6_moves_X6_of : GoodIn wsX6_moves wsX6_of := goodIn_r _ [5] (by decide +kernel) (by decide +kernel)
set_option maxRecDepth 20000 in
theorem gX6_moves_X6_of : GoodIn wsX6_moves (va_wsS RX6 34 yX6_of wsX6_of) := goodIn_app (goodIn_of _ (by decide +kernel)) ggX6_moves_X6_of
theorem dX6_moves_0 : decode cX6_moves 0 = .ok (.aload_n 0, 1) := by decide +kernel
theorem dX6_moves_1 : decode cX6_moves 1 = .ok (.getfield 7, 3) := by decide +kernel
theorem dX6_moves_4 : decode cX6_moves 4 = .ok (.iload_n 1, 1) := by decide +kernel
theorem dX6_moves_5 : decode cX6_moves 5 = .ok (.iconst 3, 1) := by decide +kernel
theorem dX6_moves_6 : decode cX6_moves 6 = .ok (.invokestatic 34, 3) := by decide +kernel
theorem dX6_moves_9 : decode cX6_moves 9 = .ok (.dup2, 1) := by decide +kernel
theorem dX6_moves_10 : decode cX6_moves 10 = .ok (.iaload, 1) := by decide +kernel
theorem dX6_moves_11 : decode cX6_moves 11 = .ok (.iload_n 3, 1) := by decide +kernel
theorem dX6_moves_12 : decode cX6_moves 12 = .ok (.isub, 1) := by decide +kernel
theorem dX6_moves_13 : decode cX6_moves 13 = .ok (.iastore, 1) := by decide +kernel
theorem dX6_moves_14 : decode cX6_moves 14 = .ok (.aload_n 0, 1) := by decide +kernel
theorem dX6_moves_15 : decode cX6_moves 15 = .ok (.getfield 7, 3) := by decide +kernel
theorem dX6_moves_18 : decode cX6_moves 18 = .ok (.iload_n 2, 1) := by decide +kernel
theorem dX6_moves_19 : decode cX6_moves 19 = .ok (.iconst 3, 1) := by decide +kernel
theorem dX6_moves_20 : decode cX6_moves 20 = .ok (.invokestatic 34, 3) := by decide +kernel
theorem dX6_moves_23 : decode cX6_moves 23 = .ok (.dup2, 1) := by decide +kernel
theorem dX6_moves_24 : decode cX6_moves 24 = .ok (.iaload, 1) := by decide +kernel
theorem dX6_moves_25 : decode cX6_moves 25 = .ok (.iload_n 3, 1) := by decide +kernel
theorem dX6_moves_26 : decode cX6_moves 26 = .ok (.iadd, 1) := by decide +kernel
theorem dX6_moves_27 : decode cX6_moves 27 = .ok (.iastore, 1) := by decide +kernel
theorem dX6_moves_28 : decode cX6_moves 28 = .ok (.return_, 1) := by decide +kernel
set_option maxRecDepth 20000 in
theorem ggX6_vire_X6_areTwo : GoodIn wsX6_vire wsX6_areTwo := goodIn_r _ [6, 7, 8, 9, 5, 10, 1, 11, 12, 13, 71, 72, 73, 74, 75, 76, 77, 78, 79, 80] (by decide +kernel) (by decide +kernel)
set_option maxRecDepth 20000 in
theorem gX6_vire_X6_areTwo : GoodIn wsX6_vire (wsV RX6 101 RX6 yX6_areTwo wsX6_areTwo) := goodIn_app (goodIn_of _ (by decide +kernel)) ggX6_vire_X6_areTwo
set_option maxRecDepth 20000 in
theorem ggX6_vire_X6_isAmount : GoodIn wsX6_vire wsX6_isAmount := goodIn_r _ [16, 17, 11, 12, 5, 13] (by decide +kernel) (by decide +kernel)
set_option maxRecDepth 20000 in
theorem gX6_vire_X6_isAmount : GoodIn wsX6_vire (va_wsS RX6 75 yX6_isAmount wsX6_isAmount) := goodIn_app (goodIn_of _ (by decide +kernel)) ggX6_vire_X6_isAmount
set_option maxRecDepth 20000 in
theorem ggX6_vire_X6_free : GoodIn wsX6_vire wsX6_free := goodIn_r _ [21, 1, 22, 23, 5, 24, 71, 72, 73, 74, 75, 76, 77, 78, 79, 80] (by decide +kernel) (by decide +kernel)
set_option maxRecDepth 20000 in
theorem gX6_vire_X6_free : GoodIn wsX6_vire (wsV RX6 83 RX6 yX6_free wsX6_free) := goodIn_app (goodIn_of _ (by decide +kernel)) ggX6_vire_X6_free
set_option maxRecDepth 20000 in
theorem ggX6_vire_X6_isAllowed : GoodIn wsX6_vire wsX6_isAllowed := goodIn_r _ [28, 1, 29, 30, 31, 5, 32, 33, 34, 35, 36, 22, 23, 24, 37, 38, 39, 40, 71, 72, 73, 74, 75, 76, 77, 78, 79, 80] (by decide +kernel) (by decide +kernel)
set_option maxRecDepth 20000 in
theorem gX6_vire_X6_isAllowed : GoodIn wsX6_vire (wsV RX6 104 RX6 yX6_isAllowed wsX6_isAllowed) := goodIn_app (goodIn_of _ (by decide +kernel)) ggX6_vire_X6_isAllowed
set_option maxRecDepth 20000 in
theorem ggX6_vire_X6_leaveOf : GoodIn wsX6_vire wsX6_leaveOf := goodIn_r _ [44, 1, 45, 22, 23, 5, 24, 71, 72, 73, 74, 75, 76, 77, 78, 79, 80] (by decide +kernel) (by decide +kernel)
set_option maxRecDepth 20000 in
theorem gX6_vire_X6_leaveOf : GoodIn wsX6_vire (wsV RX6 107 RX6 yX6_leaveOf wsX6_leaveOf) := goodIn_app (goodIn_of _ (by decide +kernel)) ggX6_vire_X6_leaveOf
set_option maxRecDepth 20000 in
theorem ggX6_vire_X6_remember : GoodIn wsX6_vire wsX6_remember := goodIn_r _ [49, 50, 51, 52, 53, 54, 55, 1, 56, 57, 58, 59, 60, 61, 5, 62, 63, 64, 65, 66, 71, 72, 73, 74, 75, 76, 77, 78, 79, 80] (by decide +kernel) (by decide +kernel)
set_option maxRecDepth 20000 in
theorem gX6_vire_X6_remember : GoodIn wsX6_vire (wsV RX6 71 RX6 yX6_remember wsX6_remember) := goodIn_app (goodIn_of _ (by decide +kernel)) ggX6_vire_X6_remember
set_option maxRecDepth 20000 in
theorem ggX6_vire_X6_moves : GoodIn wsX6_vire wsX6_moves := goodIn_r _ [70, 1, 22, 23, 5, 24, 71, 72, 73, 74, 75, 76, 77, 78, 79, 80] (by decide +kernel) (by decide +kernel)
set_option maxRecDepth 20000 in
theorem gX6_vire_X6_moves : GoodIn wsX6_vire (wsV RX6 110 RX6 yX6_moves wsX6_moves) := goodIn_app (goodIn_of _ (by decide +kernel)) ggX6_vire_X6_moves
set_option maxRecDepth 20000 in
theorem ggX6_vire_X6_of : GoodIn wsX6_vire wsX6_of := goodIn_r _ [24] (by decide +kernel) (by decide +kernel)
set_option maxRecDepth 20000 in
theorem gX6_vire_X6_of : GoodIn wsX6_vire (va_wsS RX6 34 yX6_of wsX6_of) := goodIn_app (goodIn_of _ (by decide +kernel)) ggX6_vire_X6_of
theorem dX6_vire_0 : decode cX6_vire 0 = .ok (.aload_n 0, 1) := by decide +kernel
theorem dX6_vire_1 : decode cX6_vire 1 = .ok (.iload_n 1, 1) := by decide +kernel
theorem dX6_vire_2 : decode cX6_vire 2 = .ok (.iload_n 2, 1) := by decide +kernel
theorem dX6_vire_3 : decode cX6_vire 3 = .ok (.invokevirtual 101, 3) := by decide +kernel
theorem dX6_vire_6 : decode cX6_vire 6 = .ok (.ifCond .eq 10, 3) := by decide +kernel
theorem dX6_vire_9 : decode cX6_vire 9 = .ok (.iload_n 3, 1) := by decide +kernel
theorem dX6_vire_10 : decode cX6_vire 10 = .ok (.invokestatic 75, 3) := by decide +kernel
theorem dX6_vire_13 : decode cX6_vire 13 = .ok (.ifCond .ne 5, 3) := by decide +kernel
theorem dX6_vire_16 : decode cX6_vire 16 = .ok (.iconst (-1), 1) := by decide +kernel
theorem dX6_vire_17 : decode cX6_vire 17 = .ok (.ireturn, 1) := by decide +kernel
theorem dX6_vire_18 : decode cX6_vire 18 = .ok (.iload_n 3, 1) := by decide +kernel
theorem dX6_vire_19 : decode cX6_vire 19 = .ok (.aload_n 0, 1) := by decide +kernel
theorem dX6_vire_20 : decode cX6_vire 20 = .ok (.iload_n 1, 1) := by decide +kernel
theorem dX6_vire_21 : decode cX6_vire 21 = .ok (.invokevirtual 83, 3) := by decide +kernel
theorem dX6_vire_24 : decode cX6_vire 24 = .ok (.if_icmp .gt 21, 3) := by decide +kernel
theorem dX6_vire_27 : decode cX6_vire 27 = .ok (.aload_n 0, 1) := by decide +kernel
theorem dX6_vire_28 : decode cX6_vire 28 = .ok (.iload_n 1, 1) := by decide +kernel
theorem dX6_vire_29 : decode cX6_vire 29 = .ok (.iload_n 2, 1) := by decide +kernel
theorem dX6_vire_30 : decode cX6_vire 30 = .ok (.invokevirtual 104, 3) := by decide +kernel
theorem dX6_vire_33 : decode cX6_vire 33 = .ok (.ifCond .eq 12, 3) := by decide +kernel
theorem dX6_vire_36 : decode cX6_vire 36 = .ok (.iload_n 3, 1) := by decide +kernel
theorem dX6_vire_37 : decode cX6_vire 37 = .ok (.aload_n 0, 1) := by decide +kernel
theorem dX6_vire_38 : decode cX6_vire 38 = .ok (.iload_n 1, 1) := by decide +kernel
theorem dX6_vire_39 : decode cX6_vire 39 = .ok (.invokevirtual 107, 3) := by decide +kernel
theorem dX6_vire_42 : decode cX6_vire 42 = .ok (.if_icmp .le 6, 3) := by decide +kernel
theorem dX6_vire_45 : decode cX6_vire 45 = .ok (.bipush (-2), 2) := by decide +kernel
theorem dX6_vire_47 : decode cX6_vire 47 = .ok (.ireturn, 1) := by decide +kernel
theorem dX6_vire_48 : decode cX6_vire 48 = .ok (.aload_n 0, 1) := by decide +kernel
theorem dX6_vire_49 : decode cX6_vire 49 = .ok (.bipush 8, 2) := by decide +kernel
theorem dX6_vire_51 : decode cX6_vire 51 = .ok (.iload_n 1, 1) := by decide +kernel
theorem dX6_vire_52 : decode cX6_vire 52 = .ok (.iload_n 2, 1) := by decide +kernel
theorem dX6_vire_53 : decode cX6_vire 53 = .ok (.iload_n 3, 1) := by decide +kernel
theorem dX6_vire_54 : decode cX6_vire 54 = .ok (.invokevirtual 71, 3) := by decide +kernel
theorem dX6_vire_57 : decode cX6_vire 57 = .ok (.aload_n 0, 1) := by decide +kernel
theorem dX6_vire_58 : decode cX6_vire 58 = .ok (.iload_n 1, 1) := by decide +kernel
theorem dX6_vire_59 : decode cX6_vire 59 = .ok (.iload_n 2, 1) := by decide +kernel
theorem dX6_vire_60 : decode cX6_vire 60 = .ok (.iload_n 3, 1) := by decide +kernel
theorem dX6_vire_61 : decode cX6_vire 61 = .ok (.invokevirtual 110, 3) := by decide +kernel
theorem dX6_vire_64 : decode cX6_vire 64 = .ok (.aload_n 0, 1) := by decide +kernel
theorem dX6_vire_65 : decode cX6_vire 65 = .ok (.getfield 7, 3) := by decide +kernel
theorem dX6_vire_68 : decode cX6_vire 68 = .ok (.iload_n 1, 1) := by decide +kernel
theorem dX6_vire_69 : decode cX6_vire 69 = .ok (.bipush 7, 2) := by decide +kernel
theorem dX6_vire_71 : decode cX6_vire 71 = .ok (.invokestatic 34, 3) := by decide +kernel
theorem dX6_vire_74 : decode cX6_vire 74 = .ok (.dup2, 1) := by decide +kernel
theorem dX6_vire_75 : decode cX6_vire 75 = .ok (.iaload, 1) := by decide +kernel
theorem dX6_vire_76 : decode cX6_vire 76 = .ok (.iload_n 3, 1) := by decide +kernel
theorem dX6_vire_77 : decode cX6_vire 77 = .ok (.iadd, 1) := by decide +kernel
theorem dX6_vire_78 : decode cX6_vire 78 = .ok (.iastore, 1) := by decide +kernel
theorem dX6_vire_79 : decode cX6_vire 79 = .ok (.aload_n 0, 1) := by decide +kernel
theorem dX6_vire_80 : decode cX6_vire 80 = .ok (.iload_n 1, 1) := by decide +kernel
theorem dX6_vire_81 : decode cX6_vire 81 = .ok (.invokevirtual 83, 3) := by decide +kernel
theorem dX6_vire_84 : decode cX6_vire 84 = .ok (.ireturn, 1) := by decide +kernel
set_option maxRecDepth 20000 in
theorem ggX6_lapseOf_X6_free : GoodIn wsX6_lapseOf wsX6_free := goodIn_r _ [7, 1, 8, 9, 6, 10, 11, 12, 13, 14, 15, 16, 17, 18, 19, 20] (by decide +kernel) (by decide +kernel)
set_option maxRecDepth 20000 in
theorem gX6_lapseOf_X6_free : GoodIn wsX6_lapseOf (wsV RX6 83 RX6 yX6_free wsX6_free) := goodIn_app (goodIn_of _ (by decide +kernel)) ggX6_lapseOf_X6_free
theorem dX6_lapseOf_0 : decode cX6_lapseOf 0 = .ok (.aload_n 0, 1) := by decide +kernel
theorem dX6_lapseOf_1 : decode cX6_lapseOf 1 = .ok (.iload_n 1, 1) := by decide +kernel
theorem dX6_lapseOf_2 : decode cX6_lapseOf 2 = .ok (.invokevirtual 83, 3) := by decide +kernel
theorem dX6_lapseOf_5 : decode cX6_lapseOf 5 = .ok (.aload_n 0, 1) := by decide +kernel
theorem dX6_lapseOf_6 : decode cX6_lapseOf 6 = .ok (.iload_n 1, 1) := by decide +kernel
theorem dX6_lapseOf_7 : decode cX6_lapseOf 7 = .ok (.invokevirtual 83, 3) := by decide +kernel
theorem dX6_lapseOf_10 : decode cX6_lapseOf 10 = .ok (.i2l, 1) := by decide +kernel
theorem dX6_lapseOf_11 : decode cX6_lapseOf 11 = .ok (.aload_n 0, 1) := by decide +kernel
theorem dX6_lapseOf_12 : decode cX6_lapseOf 12 = .ok (.getfield 7, 3) := by decide +kernel
theorem dX6_lapseOf_15 : decode cX6_lapseOf 15 = .ok (.iconst 3, 1) := by decide +kernel
theorem dX6_lapseOf_16 : decode cX6_lapseOf 16 = .ok (.iaload, 1) := by decide +kernel
theorem dX6_lapseOf_17 : decode cX6_lapseOf 17 = .ok (.i2l, 1) := by decide +kernel
theorem dX6_lapseOf_18 : decode cX6_lapseOf 18 = .ok (.lmul, 1) := by decide +kernel
theorem dX6_lapseOf_19 : decode cX6_lapseOf 19 = .ok (.ldc2_w 99, 3) := by decide +kernel
theorem dX6_lapseOf_22 : decode cX6_lapseOf 22 = .ok (.ldiv, 1) := by decide +kernel
theorem dX6_lapseOf_23 : decode cX6_lapseOf 23 = .ok (.l2i, 1) := by decide +kernel
theorem dX6_lapseOf_24 : decode cX6_lapseOf 24 = .ok (.isub, 1) := by decide +kernel
theorem dX6_lapseOf_25 : decode cX6_lapseOf 25 = .ok (.ireturn, 1) := by decide +kernel
set_option maxRecDepth 20000 in
theorem ggX6_endYear_X6_remember : GoodIn wsX6_endYear wsX6_remember := goodIn_r _ [6, 7, 8, 9, 10, 11, 12, 1, 13, 14, 15, 16, 17, 18, 5, 19, 20, 21, 22, 23, 36, 37, 38, 39, 40, 41, 42, 43, 44, 45] (by decide +kernel) (by decide +kernel)
set_option maxRecDepth 20000 in
theorem gX6_endYear_X6_remember : GoodIn wsX6_endYear (wsV RX6 71 RX6 yX6_remember wsX6_remember) := goodIn_app (goodIn_of _ (by decide +kernel)) ggX6_endYear_X6_remember
set_option maxRecDepth 20000 in
theorem ggX6_endYear_X6_lapseOf : GoodIn wsX6_endYear wsX6_lapseOf := goodIn_r _ [27, 1, 28, 29, 30, 31, 5, 32, 33, 34, 35, 36, 37, 38, 39, 40, 41, 42, 43, 44, 45] (by decide +kernel) (by decide +kernel)
set_option maxRecDepth 20000 in
theorem gX6_endYear_X6_lapseOf : GoodIn wsX6_endYear (wsV RX6 114 RX6 yX6_lapseOf wsX6_lapseOf) := goodIn_app (goodIn_of _ (by decide +kernel)) ggX6_endYear_X6_lapseOf
set_option maxRecDepth 20000 in
theorem ggX6_endYear_X6_of : GoodIn wsX6_endYear wsX6_of := goodIn_r _ [35] (by decide +kernel) (by decide +kernel)
set_option maxRecDepth 20000 in
theorem gX6_endYear_X6_of : GoodIn wsX6_endYear (va_wsS RX6 34 yX6_of wsX6_of) := goodIn_app (goodIn_of _ (by decide +kernel)) ggX6_endYear_X6_of
set_option maxRecDepth 20000 in
theorem ggX6_endYear_X6_free : GoodIn wsX6_endYear wsX6_free := goodIn_r _ [32, 1, 33, 34, 5, 35, 36, 37, 38, 39, 40, 41, 42, 43, 44, 45] (by decide +kernel) (by decide +kernel)
set_option maxRecDepth 20000 in
theorem gX6_endYear_X6_free : GoodIn wsX6_endYear (wsV RX6 83 RX6 yX6_free wsX6_free) := goodIn_app (goodIn_of _ (by decide +kernel)) ggX6_endYear_X6_free

theorem dX5_setShare_0 : decode cX5_setShare 0 = .ok (.aload_n 0, 1) := by decide +kernel
theorem dX5_setShare_1 : decode cX5_setShare 1 = .ok (.getfield 10, 3) := by decide +kernel
theorem dX5_setShare_4 : decode cX5_setShare 4 = .ok (.getfield 23, 3) := by decide +kernel
theorem dX5_setShare_7 : decode cX5_setShare 7 = .ok (.astore_n 3, 1) := by decide +kernel
theorem dX5_setShare_8 : decode cX5_setShare 8 = .ok (.aload_n 3, 1) := by decide +kernel
theorem dX5_setShare_9 : decode cX5_setShare 9 = .ok (.iload_n 1, 1) := by decide +kernel
theorem dX5_setShare_10 : decode cX5_setShare 10 = .ok (.invokevirtual 33, 3) := by decide +kernel
theorem dX5_setShare_13 : decode cX5_setShare 13 = .ok (.ifCond .eq 10, 3) := by decide +kernel
theorem dX5_setShare_16 : decode cX5_setShare 16 = .ok (.iload_n 2, 1) := by decide +kernel
theorem dX5_setShare_17 : decode cX5_setShare 17 = .ok (.invokestatic 66, 3) := by decide +kernel
theorem dX5_setShare_20 : decode cX5_setShare 20 = .ok (.ifCond .ne 5, 3) := by decide +kernel
theorem dX5_setShare_23 : decode cX5_setShare 23 = .ok (.iconst (-1), 1) := by decide +kernel
theorem dX5_setShare_24 : decode cX5_setShare 24 = .ok (.ireturn, 1) := by decide +kernel
theorem dX5_setShare_25 : decode cX5_setShare 25 = .ok (.aload_n 0, 1) := by decide +kernel
theorem dX5_setShare_26 : decode cX5_setShare 26 = .ok (.getfield 19, 3) := by decide +kernel
theorem dX5_setShare_29 : decode cX5_setShare 29 = .ok (.iconst 3, 1) := by decide +kernel
theorem dX5_setShare_30 : decode cX5_setShare 30 = .ok (.aload_n 0, 1) := by decide +kernel
theorem dX5_setShare_31 : decode cX5_setShare 31 = .ok (.getfield 10, 3) := by decide +kernel
theorem dX5_setShare_34 : decode cX5_setShare 34 = .ok (.invokevirtual 45, 3) := by decide +kernel
theorem dX5_setShare_37 : decode cX5_setShare 37 = .ok (.aload_n 3, 1) := by decide +kernel
theorem dX5_setShare_38 : decode cX5_setShare 38 = .ok (.getfield 69, 3) := by decide +kernel
theorem dX5_setShare_41 : decode cX5_setShare 41 = .ok (.iload_n 1, 1) := by decide +kernel
theorem dX5_setShare_42 : decode cX5_setShare 42 = .ok (.iaload, 1) := by decide +kernel
theorem dX5_setShare_43 : decode cX5_setShare 43 = .ok (.istore 4, 2) := by decide +kernel
theorem dX5_setShare_45 : decode cX5_setShare 45 = .ok (.aload_n 3, 1) := by decide +kernel
theorem dX5_setShare_46 : decode cX5_setShare 46 = .ok (.getfield 69, 3) := by decide +kernel
theorem dX5_setShare_49 : decode cX5_setShare 49 = .ok (.iload_n 1, 1) := by decide +kernel
theorem dX5_setShare_50 : decode cX5_setShare 50 = .ok (.iload_n 2, 1) := by decide +kernel
theorem dX5_setShare_51 : decode cX5_setShare 51 = .ok (.iastore, 1) := by decide +kernel
theorem dX5_setShare_52 : decode cX5_setShare 52 = .ok (.iload 4, 2) := by decide +kernel
theorem dX5_setShare_54 : decode cX5_setShare 54 = .ok (.ireturn, 1) := by decide +kernel
set_option maxRecDepth 20000 in
theorem ggX5_setCarried_X5_isPercentage : GoodIn wsX5_setCarried wsX5_isPercentage := goodIn_r _ [7] (by decide +kernel) (by decide +kernel)
set_option maxRecDepth 20000 in
theorem gX5_setCarried_X5_isPercentage : GoodIn wsX5_setCarried (va_wsS RX5 66 yX5_isPercentage wsX5_isPercentage) := goodIn_app (goodIn_of _ (by decide +kernel)) ggX5_setCarried_X5_isPercentage
set_option maxRecDepth 20000 in
theorem ggX5_setCarried_X4_remember : GoodIn wsX5_setCarried wsX4_remember := goodIn_r _ [12, 13, 14, 15, 11, 16, 17, 18, 19, 20, 21, 22, 23, 24, 25, 26, 27, 28, 29, 30, 31, 32, 33, 34, 35, 36, 37, 38, 39, 40, 41, 42, 43, 44, 45, 46, 47, 48, 49, 50, 51, 52, 53, 54, 55, 56, 57, 58, 59, 60, 61, 62, 63, 64, 65, 66, 67, 68, 69, 70, 71, 72, 73, 74, 75, 76, 85, 86, 87, 88, 89, 90, 91, 92, 93, 94, 79, 80, 81, 82, 83, 84, 95, 96, 97, 98, 99, 100, 101, 102, 103, 104, 105, 106, 107, 108, 109, 110] (by decide +kernel) (by decide +kernel)
set_option maxRecDepth 20000 in
theorem gX5_setCarried_X4_remember : GoodIn wsX5_setCarried (wsV RX5 45 RX4 yX4_remember wsX4_remember) := goodIn_app (goodIn_of _ (by decide +kernel)) ggX5_setCarried_X4_remember
theorem dX5_setCarried_0 : decode cX5_setCarried 0 = .ok (.iload_n 1, 1) := by decide +kernel
theorem dX5_setCarried_1 : decode cX5_setCarried 1 = .ok (.invokestatic 66, 3) := by decide +kernel
theorem dX5_setCarried_4 : decode cX5_setCarried 4 = .ok (.ifCond .ne 5, 3) := by decide +kernel
theorem dX5_setCarried_7 : decode cX5_setCarried 7 = .ok (.iconst (-1), 1) := by decide +kernel
theorem dX5_setCarried_8 : decode cX5_setCarried 8 = .ok (.ireturn, 1) := by decide +kernel
theorem dX5_setCarried_9 : decode cX5_setCarried 9 = .ok (.aload_n 0, 1) := by decide +kernel
theorem dX5_setCarried_10 : decode cX5_setCarried 10 = .ok (.getfield 19, 3) := by decide +kernel
theorem dX5_setCarried_13 : decode cX5_setCarried 13 = .ok (.iconst 4, 1) := by decide +kernel
theorem dX5_setCarried_14 : decode cX5_setCarried 14 = .ok (.aload_n 0, 1) := by decide +kernel
theorem dX5_setCarried_15 : decode cX5_setCarried 15 = .ok (.getfield 10, 3) := by decide +kernel
theorem dX5_setCarried_18 : decode cX5_setCarried 18 = .ok (.invokevirtual 45, 3) := by decide +kernel
theorem dX5_setCarried_21 : decode cX5_setCarried 21 = .ok (.aload_n 0, 1) := by decide +kernel
theorem dX5_setCarried_22 : decode cX5_setCarried 22 = .ok (.getfield 10, 3) := by decide +kernel
theorem dX5_setCarried_25 : decode cX5_setCarried 25 = .ok (.getfield 72, 3) := by decide +kernel
theorem dX5_setCarried_28 : decode cX5_setCarried 28 = .ok (.istore_n 2, 1) := by decide +kernel
theorem dX5_setCarried_29 : decode cX5_setCarried 29 = .ok (.aload_n 0, 1) := by decide +kernel
theorem dX5_setCarried_30 : decode cX5_setCarried 30 = .ok (.getfield 10, 3) := by decide +kernel
theorem dX5_setCarried_33 : decode cX5_setCarried 33 = .ok (.iload_n 1, 1) := by decide +kernel
theorem dX5_setCarried_34 : decode cX5_setCarried 34 = .ok (.putfield 72, 3) := by decide +kernel
theorem dX5_setCarried_37 : decode cX5_setCarried 37 = .ok (.iload_n 2, 1) := by decide +kernel
theorem dX5_setCarried_38 : decode cX5_setCarried 38 = .ok (.ireturn, 1) := by decide +kernel
set_option maxRecDepth 20000 in
theorem ggX5_commit_X3_has : GoodIn wsX5_commit wsX3_has := goodIn_r _ [11, 12, 115, 116, 117, 118, 119, 120, 121, 122, 123, 124, 125] (by decide +kernel) (by decide +kernel)
set_option maxRecDepth 20000 in
theorem gX5_commit_X3_has : GoodIn wsX5_commit (wsV RX5 33 RX3 yX3_has wsX3_has) := goodIn_app (goodIn_of _ (by decide +kernel)) ggX5_commit_X3_has
set_option maxRecDepth 20000 in
theorem ggX5_commit_X5_isAmount : GoodIn wsX5_commit wsX5_isAmount := goodIn_r _ [16, 17] (by decide +kernel) (by decide +kernel)
set_option maxRecDepth 20000 in
theorem gX5_commit_X5_isAmount : GoodIn wsX5_commit (va_wsS RX5 49 yX5_isAmount wsX5_isAmount) := goodIn_app (goodIn_of _ (by decide +kernel)) ggX5_commit_X5_isAmount
set_option maxRecDepth 20000 in
theorem ggX5_commit_X3_isBarred : GoodIn wsX5_commit wsX3_isBarred := goodIn_r _ [21, 22, 23, 24, 8, 9, 10, 11, 12, 115, 116, 117, 118, 119, 120, 121, 122, 123, 124, 125] (by decide +kernel) (by decide +kernel)
set_option maxRecDepth 20000 in
theorem gX5_commit_X3_isBarred : GoodIn wsX5_commit (wsV RX5 75 RX3 yX3_isBarred wsX3_isBarred) := goodIn_app (goodIn_of _ (by decide +kernel)) ggX5_commit_X3_isBarred
set_option maxRecDepth 20000 in
theorem ggX5_commit_X3_freeOf : GoodIn wsX5_commit wsX3_freeOf := goodIn_r _ [28, 29, 30, 31, 24, 8, 9, 10, 11, 12, 115, 116, 117, 118, 119, 120, 121, 122, 123, 124, 125] (by decide +kernel) (by decide +kernel)
set_option maxRecDepth 20000 in
theorem gX5_commit_X3_freeOf : GoodIn wsX5_commit (wsV RX5 78 RX3 yX3_freeOf wsX3_freeOf) := goodIn_app (goodIn_of _ (by decide +kernel)) ggX5_commit_X3_freeOf
set_option maxRecDepth 20000 in
theorem ggX5_commit_X4_rememberCommitment : GoodIn wsX5_commit wsX4_rememberCommitment := goodIn_r _ [36, 37, 38, 39, 35, 40, 41, 42, 43, 44, 45, 46, 47, 48, 49, 50, 51, 52, 53, 54, 55, 56, 57, 58, 59, 60, 61, 62, 63, 64, 65, 66, 67, 68, 69, 70, 71, 72, 10, 73, 23, 74, 75, 76, 77, 78, 79, 22, 29, 30, 31, 80, 81, 82, 12, 83, 84, 85, 86, 87, 88, 89, 90, 91, 92, 93, 126, 127, 128, 129, 130, 131, 132, 133, 134, 135, 104, 105, 106, 107, 108, 109, 115, 116, 117, 118, 119, 120, 121, 122, 123, 124, 125, 110, 111, 112, 113, 114] (by decide +kernel) (by decide +kernel)
set_option maxRecDepth 20000 in
theorem gX5_commit_X4_rememberCommitment : GoodIn wsX5_commit (wsV RX5 89 RX4 yX4_rememberCommitment wsX4_rememberCommitment) := goodIn_app (goodIn_of _ (by decide +kernel)) ggX5_commit_X4_rememberCommitment
set_option maxRecDepth 20000 in
theorem ggX5_commit_X3_changeCommitted : GoodIn wsX5_commit wsX3_changeCommitted := goodIn_r _ [97, 30, 24, 8, 9, 10, 11, 12, 115, 116, 117, 118, 119, 120, 121, 122, 123, 124, 125] (by decide +kernel) (by decide +kernel)
set_option maxRecDepth 20000 in
theorem gX5_commit_X3_changeCommitted : GoodIn wsX5_commit (wsV RX5 93 RX3 yX3_changeCommitted wsX3_changeCommitted) := goodIn_app (goodIn_of _ (by decide +kernel)) ggX5_commit_X3_changeCommitted
set_option maxRecDepth 20000 in
theorem ggX5_commit_X1_add : GoodIn wsX5_commit wsX1_add := goodIn_r _ [101, 93, 88, 90, 92, 110, 111, 112, 113, 114] (by decide +kernel) (by decide +kernel)
set_option maxRecDepth 20000 in
theorem gX5_commit_X1_add : GoodIn wsX5_commit (wsV RX5 100 RX1 yX1_add wsX1_add) := goodIn_app (goodIn_of _ (by decide +kernel)) ggX5_commit_X1_add
theorem dX5_commit_0 : decode cX5_commit 0 = .ok (.aload_n 0, 1) := by decide +kernel
theorem dX5_commit_1 : decode cX5_commit 1 = .ok (.getfield 10, 3) := by decide +kernel
theorem dX5_commit_4 : decode cX5_commit 4 = .ok (.getfield 23, 3) := by decide +kernel
theorem dX5_commit_7 : decode cX5_commit 7 = .ok (.astore_n 3, 1) := by decide +kernel
theorem dX5_commit_8 : decode cX5_commit 8 = .ok (.aload_n 3, 1) := by decide +kernel
theorem dX5_commit_9 : decode cX5_commit 9 = .ok (.iload_n 1, 1) := by decide +kernel
theorem dX5_commit_10 : decode cX5_commit 10 = .ok (.invokevirtual 33, 3) := by decide +kernel
theorem dX5_commit_13 : decode cX5_commit 13 = .ok (.ifCond .eq 10, 3) := by decide +kernel
theorem dX5_commit_16 : decode cX5_commit 16 = .ok (.iload_n 2, 1) := by decide +kernel
theorem dX5_commit_17 : decode cX5_commit 17 = .ok (.invokestatic 49, 3) := by decide +kernel
theorem dX5_commit_20 : decode cX5_commit 20 = .ok (.ifCond .ne 5, 3) := by decide +kernel
theorem dX5_commit_23 : decode cX5_commit 23 = .ok (.iconst (-1), 1) := by decide +kernel
theorem dX5_commit_24 : decode cX5_commit 24 = .ok (.ireturn, 1) := by decide +kernel
theorem dX5_commit_25 : decode cX5_commit 25 = .ok (.aload_n 3, 1) := by decide +kernel
theorem dX5_commit_26 : decode cX5_commit 26 = .ok (.iload_n 1, 1) := by decide +kernel
theorem dX5_commit_27 : decode cX5_commit 27 = .ok (.invokevirtual 75, 3) := by decide +kernel
theorem dX5_commit_30 : decode cX5_commit 30 = .ok (.ifCond .ne 12, 3) := by decide +kernel
theorem dX5_commit_33 : decode cX5_commit 33 = .ok (.iload_n 2, 1) := by decide +kernel
theorem dX5_commit_34 : decode cX5_commit 34 = .ok (.aload_n 3, 1) := by decide +kernel
theorem dX5_commit_35 : decode cX5_commit 35 = .ok (.iload_n 1, 1) := by decide +kernel
theorem dX5_commit_36 : decode cX5_commit 36 = .ok (.invokevirtual 78, 3) := by decide +kernel
theorem dX5_commit_39 : decode cX5_commit 39 = .ok (.if_icmp .le 6, 3) := by decide +kernel
theorem dX5_commit_42 : decode cX5_commit 42 = .ok (.bipush (-2), 2) := by decide +kernel
theorem dX5_commit_44 : decode cX5_commit 44 = .ok (.ireturn, 1) := by decide +kernel
theorem dX5_commit_45 : decode cX5_commit 45 = .ok (.aload_n 0, 1) := by decide +kernel
theorem dX5_commit_46 : decode cX5_commit 46 = .ok (.getfield 10, 3) := by decide +kernel
theorem dX5_commit_49 : decode cX5_commit 49 = .ok (.getfield 82, 3) := by decide +kernel
theorem dX5_commit_52 : decode cX5_commit 52 = .ok (.getfield 86, 3) := by decide +kernel
theorem dX5_commit_55 : decode cX5_commit 55 = .ok (.bipush 40, 2) := by decide +kernel
theorem dX5_commit_57 : decode cX5_commit 57 = .ok (.if_icmp .lt 6, 3) := by decide +kernel
theorem dX5_commit_60 : decode cX5_commit 60 = .ok (.bipush (-3), 2) := by decide +kernel
theorem dX5_commit_62 : decode cX5_commit 62 = .ok (.ireturn, 1) := by decide +kernel
theorem dX5_commit_63 : decode cX5_commit 63 = .ok (.aload_n 0, 1) := by decide +kernel
theorem dX5_commit_64 : decode cX5_commit 64 = .ok (.getfield 19, 3) := by decide +kernel
theorem dX5_commit_67 : decode cX5_commit 67 = .ok (.aload_n 0, 1) := by decide +kernel
theorem dX5_commit_68 : decode cX5_commit 68 = .ok (.getfield 10, 3) := by decide +kernel
theorem dX5_commit_71 : decode cX5_commit 71 = .ok (.aload_n 0, 1) := by decide +kernel
theorem dX5_commit_72 : decode cX5_commit 72 = .ok (.getfield 10, 3) := by decide +kernel
theorem dX5_commit_75 : decode cX5_commit 75 = .ok (.getfield 82, 3) := by decide +kernel
theorem dX5_commit_78 : decode cX5_commit 78 = .ok (.getfield 86, 3) := by decide +kernel
theorem dX5_commit_81 : decode cX5_commit 81 = .ok (.invokevirtual 89, 3) := by decide +kernel
theorem dX5_commit_84 : decode cX5_commit 84 = .ok (.aload_n 3, 1) := by decide +kernel
theorem dX5_commit_85 : decode cX5_commit 85 = .ok (.iload_n 1, 1) := by decide +kernel
theorem dX5_commit_86 : decode cX5_commit 86 = .ok (.iload_n 2, 1) := by decide +kernel
theorem dX5_commit_87 : decode cX5_commit 87 = .ok (.invokevirtual 93, 3) := by decide +kernel
theorem dX5_commit_90 : decode cX5_commit 90 = .ok (.aload_n 0, 1) := by decide +kernel
theorem dX5_commit_91 : decode cX5_commit 91 = .ok (.getfield 10, 3) := by decide +kernel
theorem dX5_commit_94 : decode cX5_commit 94 = .ok (.getfield 82, 3) := by decide +kernel
theorem dX5_commit_97 : decode cX5_commit 97 = .ok (.iload_n 1, 1) := by decide +kernel
theorem dX5_commit_98 : decode cX5_commit 98 = .ok (.iload_n 2, 1) := by decide +kernel
theorem dX5_commit_99 : decode cX5_commit 99 = .ok (.aload_n 0, 1) := by decide +kernel
theorem dX5_commit_100 : decode cX5_commit 100 = .ok (.getfield 10, 3) := by decide +kernel
theorem dX5_commit_103 : decode cX5_commit 103 = .ok (.getfield 97, 3) := by decide +kernel
theorem dX5_commit_106 : decode cX5_commit 106 = .ok (.invokevirtual 100, 3) := by decide +kernel
theorem dX5_commit_109 : decode cX5_commit 109 = .ok (.ireturn, 1) := by decide +kernel
set_option maxRecDepth 20000 in
theorem ggX5_pay_X1_has : GoodIn wsX5_pay wsX1_has := goodIn_r _ [13, 14, 103, 104, 105, 106, 107] (by decide +kernel) (by decide +kernel)
set_option maxRecDepth 20000 in
theorem gX5_pay_X1_has : GoodIn wsX5_pay (wsV RX5 103 RX1 yX1_has wsX1_has) := goodIn_app (goodIn_of _ (by decide +kernel)) ggX5_pay_X1_has
set_option maxRecDepth 20000 in
theorem ggX5_pay_X5_isAmount : GoodIn wsX5_pay wsX5_isAmount := goodIn_r _ [18, 19] (by decide +kernel) (by decide +kernel)
set_option maxRecDepth 20000 in
theorem gX5_pay_X5_isAmount : GoodIn wsX5_pay (va_wsS RX5 49 yX5_isAmount wsX5_isAmount) := goodIn_app (goodIn_of _ (by decide +kernel)) ggX5_pay_X5_isAmount
set_option maxRecDepth 20000 in
theorem ggX5_pay_X4_remember : GoodIn wsX5_pay wsX4_remember := goodIn_r _ [24, 25, 26, 27, 23, 28, 29, 30, 31, 32, 33, 34, 35, 36, 37, 38, 39, 40, 41, 42, 43, 44, 45, 46, 47, 48, 49, 50, 51, 52, 53, 54, 55, 56, 57, 58, 59, 60, 61, 62, 63, 64, 65, 66, 67, 68, 69, 70, 71, 72, 73, 74, 75, 76, 77, 78, 79, 80, 12, 81, 82, 83, 84, 85, 86, 14, 108, 109, 110, 111, 112, 113, 114, 115, 116, 117, 97, 98, 99, 100, 101, 102, 118, 119, 120, 121, 122, 123, 124, 125, 126, 127, 128, 103, 104, 105, 106, 107] (by decide +kernel) (by decide +kernel)
set_option maxRecDepth 20000 in
theorem gX5_pay_X4_remember : GoodIn wsX5_pay (wsV RX5 45 RX4 yX4_remember wsX4_remember) := goodIn_app (goodIn_of _ (by decide +kernel)) ggX5_pay_X4_remember
set_option maxRecDepth 20000 in
theorem ggX5_pay_X3_spendCommitted : GoodIn wsX5_pay wsX3_spendCommitted := goodIn_r _ [90, 72, 73, 91, 92, 93, 61, 94, 77, 118, 119, 120, 121, 122, 123, 124, 125, 126, 127, 128] (by decide +kernel) (by decide +kernel)
set_option maxRecDepth 20000 in
theorem gX5_pay_X3_spendCommitted : GoodIn wsX5_pay (wsV RX5 113 RX3 yX3_spendCommitted wsX3_spendCommitted) := goodIn_app (goodIn_of _ (by decide +kernel)) ggX5_pay_X3_spendCommitted
theorem dX5_pay_0 : decode cX5_pay 0 = .ok (.aload_n 0, 1) := by decide +kernel
theorem dX5_pay_1 : decode cX5_pay 1 = .ok (.getfield 10, 3) := by decide +kernel
theorem dX5_pay_4 : decode cX5_pay 4 = .ok (.getfield 82, 3) := by decide +kernel
theorem dX5_pay_7 : decode cX5_pay 7 = .ok (.astore_n 3, 1) := by decide +kernel
theorem dX5_pay_8 : decode cX5_pay 8 = .ok (.aload_n 3, 1) := by decide +kernel
theorem dX5_pay_9 : decode cX5_pay 9 = .ok (.iload_n 1, 1) := by decide +kernel
theorem dX5_pay_10 : decode cX5_pay 10 = .ok (.invokevirtual 103, 3) := by decide +kernel
theorem dX5_pay_13 : decode cX5_pay 13 = .ok (.ifCond .eq 10, 3) := by decide +kernel
theorem dX5_pay_16 : decode cX5_pay 16 = .ok (.iload_n 2, 1) := by decide +kernel
theorem dX5_pay_17 : decode cX5_pay 17 = .ok (.invokestatic 49, 3) := by decide +kernel
theorem dX5_pay_20 : decode cX5_pay 20 = .ok (.ifCond .ne 5, 3) := by decide +kernel
theorem dX5_pay_23 : decode cX5_pay 23 = .ok (.iconst (-1), 1) := by decide +kernel
theorem dX5_pay_24 : decode cX5_pay 24 = .ok (.ireturn, 1) := by decide +kernel
theorem dX5_pay_25 : decode cX5_pay 25 = .ok (.iload_n 2, 1) := by decide +kernel
theorem dX5_pay_26 : decode cX5_pay 26 = .ok (.aload_n 3, 1) := by decide +kernel
theorem dX5_pay_27 : decode cX5_pay 27 = .ok (.getfield 104, 3) := by decide +kernel
theorem dX5_pay_30 : decode cX5_pay 30 = .ok (.iload_n 1, 1) := by decide +kernel
theorem dX5_pay_31 : decode cX5_pay 31 = .ok (.iaload, 1) := by decide +kernel
theorem dX5_pay_32 : decode cX5_pay 32 = .ok (.if_icmp .le 6, 3) := by decide +kernel
theorem dX5_pay_35 : decode cX5_pay 35 = .ok (.bipush (-2), 2) := by decide +kernel
theorem dX5_pay_37 : decode cX5_pay 37 = .ok (.ireturn, 1) := by decide +kernel
theorem dX5_pay_38 : decode cX5_pay 38 = .ok (.aload_n 0, 1) := by decide +kernel
theorem dX5_pay_39 : decode cX5_pay 39 = .ok (.getfield 19, 3) := by decide +kernel
theorem dX5_pay_42 : decode cX5_pay 42 = .ok (.bipush 6, 2) := by decide +kernel
theorem dX5_pay_44 : decode cX5_pay 44 = .ok (.aload_n 0, 1) := by decide +kernel
theorem dX5_pay_45 : decode cX5_pay 45 = .ok (.getfield 10, 3) := by decide +kernel
theorem dX5_pay_48 : decode cX5_pay 48 = .ok (.invokevirtual 45, 3) := by decide +kernel
theorem dX5_pay_51 : decode cX5_pay 51 = .ok (.aload_n 3, 1) := by decide +kernel
theorem dX5_pay_52 : decode cX5_pay 52 = .ok (.getfield 104, 3) := by decide +kernel
theorem dX5_pay_55 : decode cX5_pay 55 = .ok (.iload_n 1, 1) := by decide +kernel
theorem dX5_pay_56 : decode cX5_pay 56 = .ok (.dup2, 1) := by decide +kernel
theorem dX5_pay_57 : decode cX5_pay 57 = .ok (.iaload, 1) := by decide +kernel
theorem dX5_pay_58 : decode cX5_pay 58 = .ok (.iload_n 2, 1) := by decide +kernel
theorem dX5_pay_59 : decode cX5_pay 59 = .ok (.isub, 1) := by decide +kernel
theorem dX5_pay_60 : decode cX5_pay 60 = .ok (.iastore, 1) := by decide +kernel
theorem dX5_pay_61 : decode cX5_pay 61 = .ok (.aload_n 3, 1) := by decide +kernel
theorem dX5_pay_62 : decode cX5_pay 62 = .ok (.getfield 107, 3) := by decide +kernel
theorem dX5_pay_65 : decode cX5_pay 65 = .ok (.iload_n 1, 1) := by decide +kernel
theorem dX5_pay_66 : decode cX5_pay 66 = .ok (.dup2, 1) := by decide +kernel
theorem dX5_pay_67 : decode cX5_pay 67 = .ok (.iaload, 1) := by decide +kernel
theorem dX5_pay_68 : decode cX5_pay 68 = .ok (.iload_n 2, 1) := by decide +kernel
theorem dX5_pay_69 : decode cX5_pay 69 = .ok (.iadd, 1) := by decide +kernel
theorem dX5_pay_70 : decode cX5_pay 70 = .ok (.iastore, 1) := by decide +kernel
theorem dX5_pay_71 : decode cX5_pay 71 = .ok (.aload_n 0, 1) := by decide +kernel
theorem dX5_pay_72 : decode cX5_pay 72 = .ok (.getfield 10, 3) := by decide +kernel
theorem dX5_pay_75 : decode cX5_pay 75 = .ok (.getfield 23, 3) := by decide +kernel
theorem dX5_pay_78 : decode cX5_pay 78 = .ok (.aload_n 3, 1) := by decide +kernel
theorem dX5_pay_79 : decode cX5_pay 79 = .ok (.getfield 110, 3) := by decide +kernel
theorem dX5_pay_82 : decode cX5_pay 82 = .ok (.iload_n 1, 1) := by decide +kernel
theorem dX5_pay_83 : decode cX5_pay 83 = .ok (.iaload, 1) := by decide +kernel
theorem dX5_pay_84 : decode cX5_pay 84 = .ok (.iload_n 2, 1) := by decide +kernel
theorem dX5_pay_85 : decode cX5_pay 85 = .ok (.invokevirtual 113, 3) := by decide +kernel
theorem dX5_pay_88 : decode cX5_pay 88 = .ok (.aload_n 0, 1) := by decide +kernel
theorem dX5_pay_89 : decode cX5_pay 89 = .ok (.getfield 10, 3) := by decide +kernel
theorem dX5_pay_92 : decode cX5_pay 92 = .ok (.dup, 1) := by decide +kernel
theorem dX5_pay_93 : decode cX5_pay 93 = .ok (.getfield 116, 3) := by decide +kernel
theorem dX5_pay_96 : decode cX5_pay 96 = .ok (.iload_n 2, 1) := by decide +kernel
theorem dX5_pay_97 : decode cX5_pay 97 = .ok (.iadd, 1) := by decide +kernel
theorem dX5_pay_98 : decode cX5_pay 98 = .ok (.putfield 116, 3) := by decide +kernel
theorem dX5_pay_101 : decode cX5_pay 101 = .ok (.aload_n 3, 1) := by decide +kernel
theorem dX5_pay_102 : decode cX5_pay 102 = .ok (.getfield 104, 3) := by decide +kernel
theorem dX5_pay_105 : decode cX5_pay 105 = .ok (.iload_n 1, 1) := by decide +kernel
theorem dX5_pay_106 : decode cX5_pay 106 = .ok (.iaload, 1) := by decide +kernel
theorem dX5_pay_107 : decode cX5_pay 107 = .ok (.ireturn, 1) := by decide +kernel
set_option maxRecDepth 20000 in
theorem ggX5_release_X1_has : GoodIn wsX5_release wsX1_has := goodIn_r _ [9, 10, 101, 102, 103, 104, 105] (by decide +kernel) (by decide +kernel)
set_option maxRecDepth 20000 in
theorem gX5_release_X1_has : GoodIn wsX5_release (wsV RX5 103 RX1 yX1_has wsX1_has) := goodIn_app (goodIn_of _ (by decide +kernel)) ggX5_release_X1_has
set_option maxRecDepth 20000 in
theorem ggX5_release_X4_remember : GoodIn wsX5_release wsX4_remember := goodIn_r _ [15, 16, 17, 18, 14, 19, 20, 21, 22, 23, 24, 25, 26, 27, 28, 29, 30, 31, 32, 33, 34, 35, 36, 37, 38, 39, 40, 41, 42, 43, 44, 45, 46, 47, 48, 49, 50, 51, 52, 53, 54, 55, 56, 57, 58, 59, 60, 61, 62, 63, 64, 65, 66, 67, 68, 69, 70, 71, 8, 72, 73, 74, 75, 76, 77, 10, 106, 107, 108, 109, 110, 111, 112, 113, 114, 115, 95, 96, 97, 98, 99, 100, 116, 117, 118, 119, 120, 121, 122, 123, 124, 125, 126, 101, 102, 103, 104, 105] (by decide +kernel) (by decide +kernel)
set_option maxRecDepth 20000 in
theorem gX5_release_X4_remember : GoodIn wsX5_release (wsV RX5 45 RX4 yX4_remember wsX4_remember) := goodIn_app (goodIn_of _ (by decide +kernel)) ggX5_release_X4_remember
set_option maxRecDepth 20000 in
theorem ggX5_release_X0_freeOpenOf : GoodIn wsX5_release wsX0_freeOpenOf := goodIn_r _ [81, 44, 82, 43, 83, 84, 6, 7, 8, 9, 10, 85, 86, 87, 52, 88, 63, 89, 90, 91, 92, 68, 95, 96, 97, 98, 99, 100, 101, 102, 103, 104, 105, 116, 117, 118, 119, 120, 121, 122, 123, 124, 125, 126] (by decide +kernel) (by decide +kernel)
set_option maxRecDepth 20000 in
theorem gX5_release_X0_freeOpenOf : GoodIn wsX5_release (wsV RX5 119 RX0 yX0_freeOpenOf wsX0_freeOpenOf) := goodIn_app (goodIn_of _ (by decide +kernel)) ggX5_release_X0_freeOpenOf
theorem dX5_release_0 : decode cX5_release 0 = .ok (.aload_n 0, 1) := by decide +kernel
theorem dX5_release_1 : decode cX5_release 1 = .ok (.getfield 10, 3) := by decide +kernel
theorem dX5_release_4 : decode cX5_release 4 = .ok (.getfield 82, 3) := by decide +kernel
theorem dX5_release_7 : decode cX5_release 7 = .ok (.iload_n 1, 1) := by decide +kernel
theorem dX5_release_8 : decode cX5_release 8 = .ok (.invokevirtual 103, 3) := by decide +kernel
theorem dX5_release_11 : decode cX5_release 11 = .ok (.ifCond .ne 5, 3) := by decide +kernel
theorem dX5_release_14 : decode cX5_release 14 = .ok (.iconst (-1), 1) := by decide +kernel
theorem dX5_release_15 : decode cX5_release 15 = .ok (.ireturn, 1) := by decide +kernel
theorem dX5_release_16 : decode cX5_release 16 = .ok (.aload_n 0, 1) := by decide +kernel
theorem dX5_release_17 : decode cX5_release 17 = .ok (.getfield 10, 3) := by decide +kernel
theorem dX5_release_20 : decode cX5_release 20 = .ok (.getfield 82, 3) := by decide +kernel
theorem dX5_release_23 : decode cX5_release 23 = .ok (.getfield 104, 3) := by decide +kernel
theorem dX5_release_26 : decode cX5_release 26 = .ok (.iload_n 1, 1) := by decide +kernel
theorem dX5_release_27 : decode cX5_release 27 = .ok (.iaload, 1) := by decide +kernel
theorem dX5_release_28 : decode cX5_release 28 = .ok (.ifCond .ne 6, 3) := by decide +kernel
theorem dX5_release_31 : decode cX5_release 31 = .ok (.bipush (-2), 2) := by decide +kernel
theorem dX5_release_33 : decode cX5_release 33 = .ok (.ireturn, 1) := by decide +kernel
theorem dX5_release_34 : decode cX5_release 34 = .ok (.aload_n 0, 1) := by decide +kernel
theorem dX5_release_35 : decode cX5_release 35 = .ok (.getfield 19, 3) := by decide +kernel
theorem dX5_release_38 : decode cX5_release 38 = .ok (.bipush 7, 2) := by decide +kernel
theorem dX5_release_40 : decode cX5_release 40 = .ok (.aload_n 0, 1) := by decide +kernel
theorem dX5_release_41 : decode cX5_release 41 = .ok (.getfield 10, 3) := by decide +kernel
theorem dX5_release_44 : decode cX5_release 44 = .ok (.invokevirtual 45, 3) := by decide +kernel
theorem dX5_release_47 : decode cX5_release 47 = .ok (.aload_n 0, 1) := by decide +kernel
theorem dX5_release_48 : decode cX5_release 48 = .ok (.getfield 10, 3) := by decide +kernel
theorem dX5_release_51 : decode cX5_release 51 = .ok (.iload_n 1, 1) := by decide +kernel
theorem dX5_release_52 : decode cX5_release 52 = .ok (.invokevirtual 119, 3) := by decide +kernel
theorem dX5_release_55 : decode cX5_release 55 = .ok (.ireturn, 1) := by decide +kernel
set_option maxRecDepth 20000 in
theorem ggX5_vire_X3_hasBoth : GoodIn wsX5_vire wsX3_hasBoth := goodIn_r _ [8, 9, 10, 11, 7, 12, 13, 131, 132, 133, 134, 135, 136, 137, 138, 139, 140, 141] (by decide +kernel) (by decide +kernel)
set_option maxRecDepth 20000 in
theorem gX5_vire_X3_hasBoth : GoodIn wsX5_vire (wsV RX5 122 RX3 yX3_hasBoth wsX3_hasBoth) := goodIn_app (goodIn_of _ (by decide +kernel)) ggX5_vire_X3_hasBoth
set_option maxRecDepth 20000 in
theorem ggX5_vire_X5_isAmount : GoodIn wsX5_vire wsX5_isAmount := goodIn_r _ [17, 18] (by decide +kernel) (by decide +kernel)
set_option maxRecDepth 20000 in
theorem gX5_vire_X5_isAmount : GoodIn wsX5_vire (va_wsS RX5 49 yX5_isAmount wsX5_isAmount) := goodIn_app (goodIn_of _ (by decide +kernel)) ggX5_vire_X5_isAmount
set_option maxRecDepth 20000 in
theorem ggX5_vire_X3_movable : GoodIn wsX5_vire wsX3_movable := goodIn_r _ [22, 23, 24, 25, 26, 27, 28, 29, 30, 31, 32, 33, 34, 5, 6, 7, 8, 9, 10, 11, 12, 13, 35, 36, 37, 38, 39, 40, 41, 42, 43, 44, 45, 46, 47, 48, 49, 50, 16, 51, 52, 53, 54, 55, 56, 57, 58, 59, 131, 132, 133, 134, 135, 136, 137, 138, 139, 140, 141] (by decide +kernel) (by decide +kernel)
set_option maxRecDepth 20000 in
theorem gX5_vire_X3_movable : GoodIn wsX5_vire (wsV RX5 126 RX3 yX3_movable wsX3_movable) := goodIn_app (goodIn_of _ (by decide +kernel)) ggX5_vire_X3_movable
set_option maxRecDepth 20000 in
theorem ggX5_vire_X4_rememberVirement : GoodIn wsX5_vire wsX4_rememberVirement := goodIn_r _ [64, 65, 66, 67, 63, 68, 69, 70, 71, 72, 73, 74, 75, 76, 77, 78, 79, 80, 81, 82, 83, 84, 85, 86, 87, 88, 89, 90, 91, 92, 93, 94, 95, 96, 97, 98, 99, 100, 7, 101, 39, 102, 103, 104, 105, 106, 40, 45, 57, 58, 59, 23, 25, 24, 13, 107, 108, 109, 110, 111, 112, 113, 114, 115, 116, 117, 142, 143, 144, 145, 146, 147, 148, 149, 150, 151, 125, 126, 127, 128, 129, 130, 131, 132, 133, 134, 135, 136, 137, 138, 139, 140, 141, 152, 153, 154, 155, 156] (by decide +kernel) (by decide +kernel)
set_option maxRecDepth 20000 in
theorem gX5_vire_X4_rememberVirement : GoodIn wsX5_vire (wsV RX5 129 RX4 yX4_rememberVirement wsX4_rememberVirement) := goodIn_app (goodIn_of _ (by decide +kernel)) ggX5_vire_X4_rememberVirement
set_option maxRecDepth 20000 in
theorem ggX5_vire_X3_moveByVirement : GoodIn wsX5_vire wsX3_moveByVirement := goodIn_r _ [121, 57, 25, 34, 5, 6, 7, 8, 9, 10, 11, 12, 13, 131, 132, 133, 134, 135, 136, 137, 138, 139, 140, 141] (by decide +kernel) (by decide +kernel)
set_option maxRecDepth 20000 in
theorem gX5_vire_X3_moveByVirement : GoodIn wsX5_vire (wsV RX5 133 RX3 yX3_moveByVirement wsX3_moveByVirement) := goodIn_app (goodIn_of _ (by decide +kernel)) ggX5_vire_X3_moveByVirement
set_option maxRecDepth 20000 in
theorem ggX5_vire_X3_freeOf : GoodIn wsX5_vire wsX3_freeOf := goodIn_r _ [56, 57, 58, 59, 9, 10, 11, 7, 12, 13, 131, 132, 133, 134, 135, 136, 137, 138, 139, 140, 141] (by decide +kernel) (by decide +kernel)
set_option maxRecDepth 20000 in
theorem gX5_vire_X3_freeOf : GoodIn wsX5_vire (wsV RX5 78 RX3 yX3_freeOf wsX3_freeOf) := goodIn_app (goodIn_of _ (by decide +kernel)) ggX5_vire_X3_freeOf
theorem dX5_vire_0 : decode cX5_vire 0 = .ok (.aload_n 0, 1) := by decide +kernel
theorem dX5_vire_1 : decode cX5_vire 1 = .ok (.getfield 10, 3) := by decide +kernel
theorem dX5_vire_4 : decode cX5_vire 4 = .ok (.getfield 23, 3) := by decide +kernel
theorem dX5_vire_7 : decode cX5_vire 7 = .ok (.astore 4, 2) := by decide +kernel
theorem dX5_vire_9 : decode cX5_vire 9 = .ok (.aload 4, 2) := by decide +kernel
theorem dX5_vire_11 : decode cX5_vire 11 = .ok (.iload_n 1, 1) := by decide +kernel
theorem dX5_vire_12 : decode cX5_vire 12 = .ok (.iload_n 2, 1) := by decide +kernel
theorem dX5_vire_13 : decode cX5_vire 13 = .ok (.invokevirtual 122, 3) := by decide +kernel
theorem dX5_vire_16 : decode cX5_vire 16 = .ok (.ifCond .eq 10, 3) := by decide +kernel
theorem dX5_vire_19 : decode cX5_vire 19 = .ok (.iload_n 3, 1) := by decide +kernel
theorem dX5_vire_20 : decode cX5_vire 20 = .ok (.invokestatic 49, 3) := by decide +kernel
theorem dX5_vire_23 : decode cX5_vire 23 = .ok (.ifCond .ne 5, 3) := by decide +kernel
theorem dX5_vire_26 : decode cX5_vire 26 = .ok (.iconst (-1), 1) := by decide +kernel
theorem dX5_vire_27 : decode cX5_vire 27 = .ok (.ireturn, 1) := by decide +kernel
theorem dX5_vire_28 : decode cX5_vire 28 = .ok (.iload_n 3, 1) := by decide +kernel
theorem dX5_vire_29 : decode cX5_vire 29 = .ok (.aload 4, 2) := by decide +kernel
theorem dX5_vire_31 : decode cX5_vire 31 = .ok (.iload_n 1, 1) := by decide +kernel
theorem dX5_vire_32 : decode cX5_vire 32 = .ok (.iload_n 2, 1) := by decide +kernel
theorem dX5_vire_33 : decode cX5_vire 33 = .ok (.invokevirtual 126, 3) := by decide +kernel
theorem dX5_vire_36 : decode cX5_vire 36 = .ok (.if_icmp .le 6, 3) := by decide +kernel
theorem dX5_vire_39 : decode cX5_vire 39 = .ok (.bipush (-2), 2) := by decide +kernel
theorem dX5_vire_41 : decode cX5_vire 41 = .ok (.ireturn, 1) := by decide +kernel
theorem dX5_vire_42 : decode cX5_vire 42 = .ok (.aload_n 0, 1) := by decide +kernel
theorem dX5_vire_43 : decode cX5_vire 43 = .ok (.getfield 19, 3) := by decide +kernel
theorem dX5_vire_46 : decode cX5_vire 46 = .ok (.aload_n 0, 1) := by decide +kernel
theorem dX5_vire_47 : decode cX5_vire 47 = .ok (.getfield 10, 3) := by decide +kernel
theorem dX5_vire_50 : decode cX5_vire 50 = .ok (.iload_n 1, 1) := by decide +kernel
theorem dX5_vire_51 : decode cX5_vire 51 = .ok (.iload_n 2, 1) := by decide +kernel
theorem dX5_vire_52 : decode cX5_vire 52 = .ok (.iload_n 3, 1) := by decide +kernel
theorem dX5_vire_53 : decode cX5_vire 53 = .ok (.invokevirtual 129, 3) := by decide +kernel
theorem dX5_vire_56 : decode cX5_vire 56 = .ok (.aload 4, 2) := by decide +kernel
theorem dX5_vire_58 : decode cX5_vire 58 = .ok (.iload_n 1, 1) := by decide +kernel
theorem dX5_vire_59 : decode cX5_vire 59 = .ok (.iload_n 2, 1) := by decide +kernel
theorem dX5_vire_60 : decode cX5_vire 60 = .ok (.iload_n 3, 1) := by decide +kernel
theorem dX5_vire_61 : decode cX5_vire 61 = .ok (.invokevirtual 133, 3) := by decide +kernel
theorem dX5_vire_64 : decode cX5_vire 64 = .ok (.aload 4, 2) := by decide +kernel
theorem dX5_vire_66 : decode cX5_vire 66 = .ok (.iload_n 1, 1) := by decide +kernel
theorem dX5_vire_67 : decode cX5_vire 67 = .ok (.invokevirtual 78, 3) := by decide +kernel
theorem dX5_vire_70 : decode cX5_vire 70 = .ok (.ireturn, 1) := by decide +kernel
set_option maxRecDepth 20000 in
theorem ggX5_endYear_X4_remember : GoodIn wsX5_endYear wsX4_remember := goodIn_r _ [11, 12, 13, 14, 10, 15, 16, 17, 18, 19, 20, 21, 22, 23, 24, 25, 26, 27, 28, 29, 30, 31, 32, 33, 34, 35, 36, 37, 38, 39, 40, 41, 42, 43, 44, 45, 46, 47, 48, 49, 50, 51, 52, 53, 54, 55, 56, 57, 58, 59, 60, 61, 62, 63, 64, 65, 66, 67, 68, 69, 70, 71, 72, 73, 74, 75, 108, 109, 110, 111, 112, 113, 114, 115, 116, 117, 102, 103, 104, 105, 106, 107, 118, 119, 120, 121, 122, 123, 124, 125, 126, 127, 128, 129, 130, 131, 132, 133] (by decide +kernel) (by decide +kernel)
set_option maxRecDepth 20000 in
theorem gX5_endYear_X4_remember : GoodIn wsX5_endYear (wsV RX5 45 RX4 yX4_remember wsX4_remember) := goodIn_app (goodIn_of _ (by decide +kernel)) ggX5_endYear_X4_remember
set_option maxRecDepth 20000 in
theorem ggX5_endYear_X3_lapseWithin : GoodIn wsX5_endYear wsX3_lapseWithin := goodIn_r _ [79, 80, 81, 82, 48, 83, 50, 84, 85, 86, 87, 64, 88, 89, 90, 91, 58, 59, 60, 92, 93, 94, 95, 118, 119, 120, 121, 122, 123, 124, 125, 126, 127, 128] (by decide +kernel) (by decide +kernel)
set_option maxRecDepth 20000 in
theorem gX5_endYear_X3_lapseWithin : GoodIn wsX5_endYear (wsV RX5 137 RX3 yX3_lapseWithin wsX3_lapseWithin) := goodIn_app (goodIn_of _ (by decide +kernel)) ggX5_endYear_X3_lapseWithin
set_option maxRecDepth 20000 in
theorem ggX5_endYear_X3_carryForward : GoodIn wsX5_endYear wsX3_carryForward := goodIn_r _ [99, 58, 59, 61, 60, 62, 88, 89, 90, 48, 91, 84, 85, 86, 87, 64, 92, 93, 94, 95, 118, 119, 120, 121, 122, 123, 124, 125, 126, 127, 128] (by decide +kernel) (by decide +kernel)
set_option maxRecDepth 20000 in
theorem gX5_endYear_X3_carryForward : GoodIn wsX5_endYear (wsV RX5 140 RX3 yX3_carryForward wsX3_carryForward) := goodIn_app (goodIn_of _ (by decide +kernel)) ggX5_endYear_X3_carryForward
theorem dX5_endYear_0 : decode cX5_endYear 0 = .ok (.aload_n 0, 1) := by decide +kernel
theorem dX5_endYear_1 : decode cX5_endYear 1 = .ok (.getfield 10, 3) := by decide +kernel
theorem dX5_endYear_4 : decode cX5_endYear 4 = .ok (.getfield 97, 3) := by decide +kernel
theorem dX5_endYear_7 : decode cX5_endYear 7 = .ok (.bipush 99, 2) := by decide +kernel
theorem dX5_endYear_9 : decode cX5_endYear 9 = .ok (.if_icmp .lt 6, 3) := by decide +kernel
theorem dX5_endYear_12 : decode cX5_endYear 12 = .ok (.bipush (-2), 2) := by decide +kernel
theorem dX5_endYear_14 : decode cX5_endYear 14 = .ok (.ireturn, 1) := by decide +kernel
theorem dX5_endYear_15 : decode cX5_endYear 15 = .ok (.aload_n 0, 1) := by decide +kernel
theorem dX5_endYear_16 : decode cX5_endYear 16 = .ok (.getfield 19, 3) := by decide +kernel
theorem dX5_endYear_19 : decode cX5_endYear 19 = .ok (.bipush 9, 2) := by decide +kernel
theorem dX5_endYear_21 : decode cX5_endYear 21 = .ok (.aload_n 0, 1) := by decide +kernel
theorem dX5_endYear_22 : decode cX5_endYear 22 = .ok (.getfield 10, 3) := by decide +kernel
theorem dX5_endYear_25 : decode cX5_endYear 25 = .ok (.invokevirtual 45, 3) := by decide +kernel
theorem dX5_endYear_28 : decode cX5_endYear 28 = .ok (.aload_n 0, 1) := by decide +kernel
theorem dX5_endYear_29 : decode cX5_endYear 29 = .ok (.getfield 10, 3) := by decide +kernel
theorem dX5_endYear_32 : decode cX5_endYear 32 = .ok (.getfield 23, 3) := by decide +kernel
theorem dX5_endYear_35 : decode cX5_endYear 35 = .ok (.iconst 0, 1) := by decide +kernel
theorem dX5_endYear_36 : decode cX5_endYear 36 = .ok (.aload_n 0, 1) := by decide +kernel
theorem dX5_endYear_37 : decode cX5_endYear 37 = .ok (.getfield 10, 3) := by decide +kernel
theorem dX5_endYear_40 : decode cX5_endYear 40 = .ok (.getfield 72, 3) := by decide +kernel
theorem dX5_endYear_43 : decode cX5_endYear 43 = .ok (.invokevirtual 137, 3) := by decide +kernel
theorem dX5_endYear_46 : decode cX5_endYear 46 = .ok (.istore_n 1, 1) := by decide +kernel
theorem dX5_endYear_47 : decode cX5_endYear 47 = .ok (.aload_n 0, 1) := by decide +kernel
theorem dX5_endYear_48 : decode cX5_endYear 48 = .ok (.getfield 10, 3) := by decide +kernel
theorem dX5_endYear_51 : decode cX5_endYear 51 = .ok (.getfield 23, 3) := by decide +kernel
theorem dX5_endYear_54 : decode cX5_endYear 54 = .ok (.aload_n 0, 1) := by decide +kernel
theorem dX5_endYear_55 : decode cX5_endYear 55 = .ok (.getfield 10, 3) := by decide +kernel
theorem dX5_endYear_58 : decode cX5_endYear 58 = .ok (.getfield 72, 3) := by decide +kernel
theorem dX5_endYear_61 : decode cX5_endYear 61 = .ok (.invokevirtual 140, 3) := by decide +kernel
theorem dX5_endYear_64 : decode cX5_endYear 64 = .ok (.aload_n 0, 1) := by decide +kernel
theorem dX5_endYear_65 : decode cX5_endYear 65 = .ok (.getfield 10, 3) := by decide +kernel
theorem dX5_endYear_68 : decode cX5_endYear 68 = .ok (.dup, 1) := by decide +kernel
theorem dX5_endYear_69 : decode cX5_endYear 69 = .ok (.getfield 144, 3) := by decide +kernel
theorem dX5_endYear_72 : decode cX5_endYear 72 = .ok (.iload_n 1, 1) := by decide +kernel
theorem dX5_endYear_73 : decode cX5_endYear 73 = .ok (.iadd, 1) := by decide +kernel
theorem dX5_endYear_74 : decode cX5_endYear 74 = .ok (.putfield 144, 3) := by decide +kernel
theorem dX5_endYear_77 : decode cX5_endYear 77 = .ok (.aload_n 0, 1) := by decide +kernel
theorem dX5_endYear_78 : decode cX5_endYear 78 = .ok (.getfield 10, 3) := by decide +kernel
theorem dX5_endYear_81 : decode cX5_endYear 81 = .ok (.dup, 1) := by decide +kernel
theorem dX5_endYear_82 : decode cX5_endYear 82 = .ok (.getfield 97, 3) := by decide +kernel
theorem dX5_endYear_85 : decode cX5_endYear 85 = .ok (.iconst 1, 1) := by decide +kernel
theorem dX5_endYear_86 : decode cX5_endYear 86 = .ok (.iadd, 1) := by decide +kernel
theorem dX5_endYear_87 : decode cX5_endYear 87 = .ok (.putfield 97, 3) := by decide +kernel
theorem dX5_endYear_90 : decode cX5_endYear 90 = .ok (.iload_n 1, 1) := by decide +kernel
theorem dX5_endYear_91 : decode cX5_endYear 91 = .ok (.ireturn, 1) := by decide +kernel
set_option maxRecDepth 20000 in
theorem ggX5_undo_X4_recall : GoodIn wsX5_undo wsX4_recall := goodIn_r _ [8, 9, 10, 11, 12, 13, 14, 15, 70, 71, 72, 73] (by decide +kernel) (by decide +kernel)
set_option maxRecDepth 20000 in
theorem gX5_undo_X4_recall : GoodIn wsX5_undo (wsV RX5 147 RX4 yX4_recall wsX4_recall) := goodIn_app (goodIn_of _ (by decide +kernel)) ggX5_undo_X4_recall
set_option maxRecDepth 20000 in
theorem ggX5_undo_X0_copyFrom : GoodIn wsX5_undo wsX0_copyFrom := goodIn_r _ [20, 21, 22, 23, 24, 25, 26, 27, 28, 29, 30, 31, 32, 33, 34, 35, 36, 37, 38, 39, 40, 41, 42, 43, 44, 45, 46, 47, 48, 49, 50, 51, 52, 53, 54, 55, 56, 57, 74, 75, 76, 77, 78, 79, 80, 81, 82, 83, 84, 85, 86, 87, 88, 89, 90, 91, 92, 93, 94, 95] (by decide +kernel) (by decide +kernel)
set_option maxRecDepth 20000 in
theorem gX5_undo_X0_copyFrom : GoodIn wsX5_undo (wsV RX5 156 RX0 yX0_copyFrom wsX0_copyFrom) := goodIn_app (goodIn_of _ (by decide +kernel)) ggX5_undo_X0_copyFrom
set_option maxRecDepth 20000 in
theorem ggX5_undo_X4_forgetLatest : GoodIn wsX5_undo wsX4_forgetLatest := goodIn_r _ [61, 9, 70, 71, 72, 73] (by decide +kernel) (by decide +kernel)
set_option maxRecDepth 20000 in
theorem gX5_undo_X4_forgetLatest : GoodIn wsX5_undo (wsV RX5 160 RX4 yX4_forgetLatest wsX4_forgetLatest) := goodIn_app (goodIn_of _ (by decide +kernel)) ggX5_undo_X4_forgetLatest
theorem dX5_undo_0 : decode cX5_undo 0 = .ok (.aload_n 0, 1) := by decide +kernel
theorem dX5_undo_1 : decode cX5_undo 1 = .ok (.getfield 19, 3) := by decide +kernel
theorem dX5_undo_4 : decode cX5_undo 4 = .ok (.iconst 0, 1) := by decide +kernel
theorem dX5_undo_5 : decode cX5_undo 5 = .ok (.invokevirtual 147, 3) := by decide +kernel
theorem dX5_undo_8 : decode cX5_undo 8 = .ok (.astore_n 1, 1) := by decide +kernel
theorem dX5_undo_9 : decode cX5_undo 9 = .ok (.aload_n 1, 1) := by decide +kernel
theorem dX5_undo_10 : decode cX5_undo 10 = .ok (.ifnonnull 6, 3) := by decide +kernel
theorem dX5_undo_13 : decode cX5_undo 13 = .ok (.bipush (-2), 2) := by decide +kernel
theorem dX5_undo_15 : decode cX5_undo 15 = .ok (.ireturn, 1) := by decide +kernel
theorem dX5_undo_16 : decode cX5_undo 16 = .ok (.aload_n 0, 1) := by decide +kernel
theorem dX5_undo_17 : decode cX5_undo 17 = .ok (.getfield 10, 3) := by decide +kernel
theorem dX5_undo_20 : decode cX5_undo 20 = .ok (.aload_n 1, 1) := by decide +kernel
theorem dX5_undo_21 : decode cX5_undo 21 = .ok (.getfield 151, 3) := by decide +kernel
theorem dX5_undo_24 : decode cX5_undo 24 = .ok (.invokevirtual 156, 3) := by decide +kernel
theorem dX5_undo_27 : decode cX5_undo 27 = .ok (.aload_n 0, 1) := by decide +kernel
theorem dX5_undo_28 : decode cX5_undo 28 = .ok (.getfield 19, 3) := by decide +kernel
theorem dX5_undo_31 : decode cX5_undo 31 = .ok (.invokevirtual 160, 3) := by decide +kernel
theorem dX5_undo_34 : decode cX5_undo 34 = .ok (.ireturn, 1) := by decide +kernel
set_option maxRecDepth 20000 in
theorem ggX5_revoke_X4_recall : GoodIn wsX5_revoke wsX4_recall := goodIn_r _ [14, 15, 16, 17, 18, 19, 20, 21, 141, 142, 143, 144] (by decide +kernel) (by decide +kernel)
set_option maxRecDepth 20000 in
theorem gX5_revoke_X4_recall : GoodIn wsX5_revoke (wsV RX5 147 RX4 yX4_recall wsX4_recall) := goodIn_app (goodIn_of _ (by decide +kernel)) ggX5_revoke_X4_recall
set_option maxRecDepth 20000 in
theorem ggX5_revoke_X4_wasRevoked : GoodIn wsX5_revoke wsX4_wasRevoked := goodIn_r _ [25, 26, 27, 28, 11, 12, 13, 14, 15, 16, 17, 18, 19, 20, 21, 129, 130, 131, 132, 133, 134, 141, 142, 143, 144] (by decide +kernel) (by decide +kernel)
set_option maxRecDepth 20000 in
theorem gX5_revoke_X4_wasRevoked : GoodIn wsX5_revoke (wsV RX5 166 RX4 yX4_wasRevoked wsX4_wasRevoked) := goodIn_app (goodIn_of _ (by decide +kernel)) ggX5_revoke_X4_wasRevoked
set_option maxRecDepth 20000 in
theorem ggX5_revoke_X5_revokeVirement : GoodIn wsX5_revoke wsX5_revokeVirement := goodIn_r _ [33, 4, 34, 1, 35, 36, 37, 38, 39, 40, 41, 42, 43, 44, 45, 46, 47, 48, 49, 50, 13, 51, 52, 53, 54, 55, 15, 17, 56, 57, 58, 26, 27, 59, 60, 18, 19, 20, 21, 28, 11, 12, 14, 16, 61, 62, 63, 64, 65, 66, 67, 68, 69, 70, 71, 72, 73, 74, 75, 76, 77, 78, 79, 80, 81, 82, 83, 84, 85, 86, 87, 88, 89, 90, 91, 92, 93, 94, 95, 96, 97, 98, 99, 100, 101, 102, 103, 104, 105, 127, 128, 135, 136, 137, 138, 139, 140, 145, 146, 147, 148, 149, 150, 151, 152, 153, 154, 155, 141, 142, 143, 144, 129, 130, 131, 132, 133, 134, 156, 157, 158, 159, 160] (by decide +kernel) (by decide +kernel)
set_option maxRecDepth 20000 in
theorem gX5_revoke_X5_revokeVirement : GoodIn wsX5_revoke (wsV RX5 181 RX5 yX5_revokeVirement wsX5_revokeVirement) := goodIn_app (goodIn_of _ (by decide +kernel)) ggX5_revoke_X5_revokeVirement
set_option maxRecDepth 20000 in
theorem ggX5_revoke_X5_revokeCommitment : GoodIn wsX5_revoke wsX5_revokeCommitment := goodIn_r _ [109, 4, 110, 111, 1, 112, 113, 114, 90, 115, 97, 48, 49, 50, 13, 51, 52, 53, 54, 55, 15, 17, 56, 57, 58, 26, 27, 59, 60, 18, 19, 20, 21, 28, 11, 12, 14, 16, 61, 62, 63, 64, 65, 66, 67, 68, 69, 70, 71, 72, 73, 74, 38, 75, 76, 77, 78, 79, 80, 81, 82, 83, 40, 41, 42, 84, 85, 86, 47, 87, 88, 89, 91, 92, 93, 94, 95, 96, 116, 117, 118, 119, 120, 121, 122, 123, 124, 125, 126, 43, 44, 45, 46, 127, 128, 135, 136, 137, 138, 139, 140, 156, 157, 158, 159, 160, 141, 142, 143, 144, 129, 130, 131, 132, 133, 134, 145, 146, 147, 148, 149, 150, 151, 152, 153, 154, 155] (by decide +kernel) (by decide +kernel)
set_option maxRecDepth 20000 in
theorem gX5_revoke_X5_revokeCommitment : GoodIn wsX5_revoke (wsV RX5 185 RX5 yX5_revokeCommitment wsX5_revokeCommitment) := goodIn_app (goodIn_of _ (by decide +kernel)) ggX5_revoke_X5_revokeCommitment
theorem dX5_revoke_0 : decode cX5_revoke 0 = .ok (.iload_n 1, 1) := by decide +kernel
theorem dX5_revoke_1 : decode cX5_revoke 1 = .ok (.ifCond .ge 5, 3) := by decide +kernel
theorem dX5_revoke_4 : decode cX5_revoke 4 = .ok (.iconst (-1), 1) := by decide +kernel
theorem dX5_revoke_5 : decode cX5_revoke 5 = .ok (.ireturn, 1) := by decide +kernel
theorem dX5_revoke_6 : decode cX5_revoke 6 = .ok (.aload_n 0, 1) := by decide +kernel
theorem dX5_revoke_7 : decode cX5_revoke 7 = .ok (.getfield 19, 3) := by decide +kernel
theorem dX5_revoke_10 : decode cX5_revoke 10 = .ok (.iload_n 1, 1) := by decide +kernel
theorem dX5_revoke_11 : decode cX5_revoke 11 = .ok (.invokevirtual 147, 3) := by decide +kernel
theorem dX5_revoke_14 : decode cX5_revoke 14 = .ok (.astore_n 2, 1) := by decide +kernel
theorem dX5_revoke_15 : decode cX5_revoke 15 = .ok (.aload_n 2, 1) := by decide +kernel
theorem dX5_revoke_16 : decode cX5_revoke 16 = .ok (.ifnull 34, 3) := by decide +kernel
theorem dX5_revoke_19 : decode cX5_revoke 19 = .ok (.aload_n 2, 1) := by decide +kernel
theorem dX5_revoke_20 : decode cX5_revoke 20 = .ok (.getfield 151, 3) := by decide +kernel
theorem dX5_revoke_23 : decode cX5_revoke 23 = .ok (.getfield 97, 3) := by decide +kernel
theorem dX5_revoke_26 : decode cX5_revoke 26 = .ok (.aload_n 0, 1) := by decide +kernel
theorem dX5_revoke_27 : decode cX5_revoke 27 = .ok (.getfield 10, 3) := by decide +kernel
theorem dX5_revoke_30 : decode cX5_revoke 30 = .ok (.getfield 97, 3) := by decide +kernel
theorem dX5_revoke_33 : decode cX5_revoke 33 = .ok (.if_icmp .ne 17, 3) := by decide +kernel
theorem dX5_revoke_36 : decode cX5_revoke 36 = .ok (.aload_n 0, 1) := by decide +kernel
theorem dX5_revoke_37 : decode cX5_revoke 37 = .ok (.getfield 19, 3) := by decide +kernel
theorem dX5_revoke_40 : decode cX5_revoke 40 = .ok (.aload_n 2, 1) := by decide +kernel
theorem dX5_revoke_41 : decode cX5_revoke 41 = .ok (.getfield 163, 3) := by decide +kernel
theorem dX5_revoke_44 : decode cX5_revoke 44 = .ok (.invokevirtual 166, 3) := by decide +kernel
theorem dX5_revoke_47 : decode cX5_revoke 47 = .ok (.ifCond .eq 6, 3) := by decide +kernel
theorem dX5_revoke_50 : decode cX5_revoke 50 = .ok (.bipush (-2), 2) := by decide +kernel
theorem dX5_revoke_52 : decode cX5_revoke 52 = .ok (.ireturn, 1) := by decide +kernel
theorem dX5_revoke_53 : decode cX5_revoke 53 = .ok (.aload_n 2, 1) := by decide +kernel
theorem dX5_revoke_54 : decode cX5_revoke 54 = .ok (.getfield 169, 3) := by decide +kernel
theorem dX5_revoke_57 : decode cX5_revoke 57 = .ok (.bipush 8, 2) := by decide +kernel
theorem dX5_revoke_59 : decode cX5_revoke 59 = .ok (.if_icmp .ne 24, 3) := by decide +kernel
theorem dX5_revoke_62 : decode cX5_revoke 62 = .ok (.aload_n 0, 1) := by decide +kernel
theorem dX5_revoke_63 : decode cX5_revoke 63 = .ok (.aload_n 2, 1) := by decide +kernel
theorem dX5_revoke_64 : decode cX5_revoke 64 = .ok (.getfield 163, 3) := by decide +kernel
theorem dX5_revoke_67 : decode cX5_revoke 67 = .ok (.aload_n 2, 1) := by decide +kernel
theorem dX5_revoke_68 : decode cX5_revoke 68 = .ok (.getfield 172, 3) := by decide +kernel
theorem dX5_revoke_71 : decode cX5_revoke 71 = .ok (.aload_n 2, 1) := by decide +kernel
theorem dX5_revoke_72 : decode cX5_revoke 72 = .ok (.getfield 175, 3) := by decide +kernel
theorem dX5_revoke_75 : decode cX5_revoke 75 = .ok (.aload_n 2, 1) := by decide +kernel
theorem dX5_revoke_76 : decode cX5_revoke 76 = .ok (.getfield 178, 3) := by decide +kernel
theorem dX5_revoke_79 : decode cX5_revoke 79 = .ok (.invokevirtual 181, 3) := by decide +kernel
theorem dX5_revoke_82 : decode cX5_revoke 82 = .ok (.ireturn, 1) := by decide +kernel
theorem dX5_revoke_83 : decode cX5_revoke 83 = .ok (.aload_n 2, 1) := by decide +kernel
theorem dX5_revoke_84 : decode cX5_revoke 84 = .ok (.getfield 169, 3) := by decide +kernel
theorem dX5_revoke_87 : decode cX5_revoke 87 = .ok (.iconst 5, 1) := by decide +kernel
theorem dX5_revoke_88 : decode cX5_revoke 88 = .ok (.if_icmp .ne 16, 3) := by decide +kernel
theorem dX5_revoke_91 : decode cX5_revoke 91 = .ok (.aload_n 0, 1) := by decide +kernel
theorem dX5_revoke_92 : decode cX5_revoke 92 = .ok (.aload_n 2, 1) := by decide +kernel
theorem dX5_revoke_93 : decode cX5_revoke 93 = .ok (.getfield 163, 3) := by decide +kernel
theorem dX5_revoke_96 : decode cX5_revoke 96 = .ok (.aload_n 2, 1) := by decide +kernel
theorem dX5_revoke_97 : decode cX5_revoke 97 = .ok (.getfield 172, 3) := by decide +kernel
theorem dX5_revoke_100 : decode cX5_revoke 100 = .ok (.invokevirtual 185, 3) := by decide +kernel
theorem dX5_revoke_103 : decode cX5_revoke 103 = .ok (.ireturn, 1) := by decide +kernel
theorem dX5_revoke_104 : decode cX5_revoke 104 = .ok (.bipush (-2), 2) := by decide +kernel
theorem dX5_revoke_106 : decode cX5_revoke 106 = .ok (.ireturn, 1) := by decide +kernel
set_option maxRecDepth 20000 in
theorem ggX5_revokeVirement_X3_freeOf : GoodIn wsX5_revokeVirement wsX3_freeOf := goodIn_r _ [8, 9, 10, 11, 12, 13, 14, 7, 15, 16, 97, 98, 99, 100, 101, 102, 103, 104, 105, 106, 107] (by decide +kernel) (by decide +kernel)
set_option maxRecDepth 20000 in
theorem gX5_revokeVirement_X3_freeOf : GoodIn wsX5_revokeVirement (wsV RX5 78 RX3 yX3_freeOf wsX3_freeOf) := goodIn_app (goodIn_of _ (by decide +kernel)) ggX5_revokeVirement_X3_freeOf
set_option maxRecDepth 20000 in
theorem ggX5_revokeVirement_X4_rememberRevoking : GoodIn wsX5_revokeVirement wsX4_rememberRevoking := goodIn_r _ [21, 22, 23, 24, 20, 25, 26, 27, 28, 29, 30, 31, 32, 33, 34, 35, 36, 37, 38, 39, 40, 41, 42, 43, 44, 45, 46, 47, 48, 49, 50, 51, 52, 53, 54, 55, 56, 57, 7, 58, 59, 60, 61, 62, 63, 64, 65, 66, 9, 10, 11, 67, 68, 69, 16, 70, 71, 72, 73, 74, 75, 76, 77, 78, 79, 80, 108, 109, 110, 111, 112, 113, 114, 115, 116, 117, 91, 92, 93, 94, 95, 96, 97, 98, 99, 100, 101, 102, 103, 104, 105, 106, 107, 118, 119, 120, 121, 122] (by decide +kernel) (by decide +kernel)
set_option maxRecDepth 20000 in
theorem gX5_revokeVirement_X4_rememberRevoking : GoodIn wsX5_revokeVirement (wsV RX5 188 RX4 yX4_rememberRevoking wsX4_rememberRevoking) := goodIn_app (goodIn_of _ (by decide +kernel)) ggX5_revokeVirement_X4_rememberRevoking
set_option maxRecDepth 20000 in
theorem ggX5_revokeVirement_X3_moveByVirement : GoodIn wsX5_revokeVirement wsX3_moveByVirement := goodIn_r _ [84, 9, 68, 85, 86, 87, 7, 88, 12, 13, 14, 15, 16, 97, 98, 99, 100, 101, 102, 103, 104, 105, 106, 107] (by decide +kernel) (by decide +kernel)
set_option maxRecDepth 20000 in
theorem gX5_revokeVirement_X3_moveByVirement : GoodIn wsX5_revokeVirement (wsV RX5 133 RX3 yX3_moveByVirement wsX3_moveByVirement) := goodIn_app (goodIn_of _ (by decide +kernel)) ggX5_revokeVirement_X3_moveByVirement

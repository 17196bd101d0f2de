theorem dX6_endYear_0 : decode cX6_endYear 0 = .ok (.aload_n 0, 1) := by decide +kernel
theorem dX6_endYear_1 : decode cX6_endYear 1 = .ok (.getfield 7, 3) := by decide +kernel
theorem dX6_endYear_4 : decode cX6_endYear 4 = .ok (.iconst 0, 1) := by decide +kernel
theorem dX6_endYear_5 : decode cX6_endYear 5 = .ok (.iaload, 1) := by decide +kernel
theorem dX6_endYear_6 : decode cX6_endYear 6 = .ok (.bipush 99, 2) := by decide +kernel
theorem dX6_endYear_8 : decode cX6_endYear 8 = .ok (.if_icmp .ne 6, 3) := by decide +kernel
theorem dX6_endYear_11 : decode cX6_endYear 11 = .ok (.bipush (-2), 2) := by decide +kernel
theorem dX6_endYear_13 : decode cX6_endYear 13 = .ok (.ireturn, 1) := by decide +kernel
theorem dX6_endYear_14 : decode cX6_endYear 14 = .ok (.aload_n 0, 1) := by decide +kernel
theorem dX6_endYear_15 : decode cX6_endYear 15 = .ok (.bipush 9, 2) := by decide +kernel
theorem dX6_endYear_17 : decode cX6_endYear 17 = .ok (.iconst 0, 1) := by decide +kernel
theorem dX6_endYear_18 : decode cX6_endYear 18 = .ok (.iconst 0, 1) := by decide +kernel
theorem dX6_endYear_19 : decode cX6_endYear 19 = .ok (.iconst 0, 1) := by decide +kernel
theorem dX6_endYear_20 : decode cX6_endYear 20 = .ok (.invokevirtual 71, 3) := by decide +kernel
theorem dX6_endYear_23 : decode cX6_endYear 23 = .ok (.iconst 0, 1) := by decide +kernel
theorem dX6_endYear_24 : decode cX6_endYear 24 = .ok (.istore_n 1, 1) := by decide +kernel
theorem dX6_endYear_25 : decode cX6_endYear 25 = .ok (.iconst 0, 1) := by decide +kernel
theorem dX6_endYear_26 : decode cX6_endYear 26 = .ok (.istore_n 2, 1) := by decide +kernel
theorem dX6_endYear_27 : decode cX6_endYear 27 = .ok (.iload_n 2, 1) := by decide +kernel
theorem dX6_endYear_28 : decode cX6_endYear 28 = .ok (.aload_n 0, 1) := by decide +kernel
theorem dX6_endYear_29 : decode cX6_endYear 29 = .ok (.getfield 7, 3) := by decide +kernel
theorem dX6_endYear_32 : decode cX6_endYear 32 = .ok (.iconst 1, 1) := by decide +kernel
theorem dX6_endYear_33 : decode cX6_endYear 33 = .ok (.iaload, 1) := by decide +kernel
theorem dX6_endYear_34 : decode cX6_endYear 34 = .ok (.if_icmp .ge 85, 3) := by decide +kernel
theorem dX6_endYear_37 : decode cX6_endYear 37 = .ok (.aload_n 0, 1) := by decide +kernel
theorem dX6_endYear_38 : decode cX6_endYear 38 = .ok (.iload_n 2, 1) := by decide +kernel
theorem dX6_endYear_39 : decode cX6_endYear 39 = .ok (.invokevirtual 114, 3) := by decide +kernel
theorem dX6_endYear_42 : decode cX6_endYear 42 = .ok (.istore_n 3, 1) := by decide +kernel
theorem dX6_endYear_43 : decode cX6_endYear 43 = .ok (.iload_n 1, 1) := by decide +kernel
theorem dX6_endYear_44 : decode cX6_endYear 44 = .ok (.iload_n 3, 1) := by decide +kernel
theorem dX6_endYear_45 : decode cX6_endYear 45 = .ok (.iadd, 1) := by decide +kernel
theorem dX6_endYear_46 : decode cX6_endYear 46 = .ok (.istore_n 1, 1) := by decide +kernel
theorem dX6_endYear_47 : decode cX6_endYear 47 = .ok (.aload_n 0, 1) := by decide +kernel
theorem dX6_endYear_48 : decode cX6_endYear 48 = .ok (.getfield 7, 3) := by decide +kernel
theorem dX6_endYear_51 : decode cX6_endYear 51 = .ok (.iload_n 2, 1) := by decide +kernel
theorem dX6_endYear_52 : decode cX6_endYear 52 = .ok (.bipush 6, 2) := by decide +kernel
theorem dX6_endYear_54 : decode cX6_endYear 54 = .ok (.invokestatic 34, 3) := by decide +kernel
theorem dX6_endYear_57 : decode cX6_endYear 57 = .ok (.aload_n 0, 1) := by decide +kernel
theorem dX6_endYear_58 : decode cX6_endYear 58 = .ok (.iload_n 2, 1) := by decide +kernel
theorem dX6_endYear_59 : decode cX6_endYear 59 = .ok (.invokevirtual 83, 3) := by decide +kernel
theorem dX6_endYear_62 : decode cX6_endYear 62 = .ok (.iload_n 3, 1) := by decide +kernel
theorem dX6_endYear_63 : decode cX6_endYear 63 = .ok (.isub, 1) := by decide +kernel
theorem dX6_endYear_64 : decode cX6_endYear 64 = .ok (.iastore, 1) := by decide +kernel
theorem dX6_endYear_65 : decode cX6_endYear 65 = .ok (.aload_n 0, 1) := by decide +kernel
theorem dX6_endYear_66 : decode cX6_endYear 66 = .ok (.getfield 7, 3) := by decide +kernel
theorem dX6_endYear_69 : decode cX6_endYear 69 = .ok (.iload_n 2, 1) := by decide +kernel
theorem dX6_endYear_70 : decode cX6_endYear 70 = .ok (.iconst 3, 1) := by decide +kernel
theorem dX6_endYear_71 : decode cX6_endYear 71 = .ok (.invokestatic 34, 3) := by decide +kernel
theorem dX6_endYear_74 : decode cX6_endYear 74 = .ok (.dup2, 1) := by decide +kernel
theorem dX6_endYear_75 : decode cX6_endYear 75 = .ok (.iaload, 1) := by decide +kernel
theorem dX6_endYear_76 : decode cX6_endYear 76 = .ok (.iload_n 3, 1) := by decide +kernel
theorem dX6_endYear_77 : decode cX6_endYear 77 = .ok (.aload_n 0, 1) := by decide +kernel
theorem dX6_endYear_78 : decode cX6_endYear 78 = .ok (.getfield 7, 3) := by decide +kernel
theorem dX6_endYear_81 : decode cX6_endYear 81 = .ok (.iload_n 2, 1) := by decide +kernel
theorem dX6_endYear_82 : decode cX6_endYear 82 = .ok (.iconst 5, 1) := by decide +kernel
theorem dX6_endYear_83 : decode cX6_endYear 83 = .ok (.invokestatic 34, 3) := by decide +kernel
theorem dX6_endYear_86 : decode cX6_endYear 86 = .ok (.iaload, 1) := by decide +kernel
theorem dX6_endYear_87 : decode cX6_endYear 87 = .ok (.iadd, 1) := by decide +kernel
theorem dX6_endYear_88 : decode cX6_endYear 88 = .ok (.isub, 1) := by decide +kernel
theorem dX6_endYear_89 : decode cX6_endYear 89 = .ok (.iastore, 1) := by decide +kernel
theorem dX6_endYear_90 : decode cX6_endYear 90 = .ok (.aload_n 0, 1) := by decide +kernel
theorem dX6_endYear_91 : decode cX6_endYear 91 = .ok (.getfield 7, 3) := by decide +kernel
theorem dX6_endYear_94 : decode cX6_endYear 94 = .ok (.iload_n 2, 1) := by decide +kernel
theorem dX6_endYear_95 : decode cX6_endYear 95 = .ok (.iconst 5, 1) := by decide +kernel
theorem dX6_endYear_96 : decode cX6_endYear 96 = .ok (.invokestatic 34, 3) := by decide +kernel
theorem dX6_endYear_99 : decode cX6_endYear 99 = .ok (.iconst 0, 1) := by decide +kernel
theorem dX6_endYear_100 : decode cX6_endYear 100 = .ok (.iastore, 1) := by decide +kernel
theorem dX6_endYear_101 : decode cX6_endYear 101 = .ok (.aload_n 0, 1) := by decide +kernel
theorem dX6_endYear_102 : decode cX6_endYear 102 = .ok (.getfield 7, 3) := by decide +kernel
theorem dX6_endYear_105 : decode cX6_endYear 105 = .ok (.iload_n 2, 1) := by decide +kernel
theorem dX6_endYear_106 : decode cX6_endYear 106 = .ok (.bipush 7, 2) := by decide +kernel
theorem dX6_endYear_108 : decode cX6_endYear 108 = .ok (.invokestatic 34, 3) := by decide +kernel
theorem dX6_endYear_111 : decode cX6_endYear 111 = .ok (.iconst 0, 1) := by decide +kernel
theorem dX6_endYear_112 : decode cX6_endYear 112 = .ok (.iastore, 1) := by decide +kernel
theorem dX6_endYear_113 : decode cX6_endYear 113 = .ok (.iinc 2 1, 3) := by decide +kernel
theorem dX6_endYear_116 : decode cX6_endYear 116 = .ok (.goto (-89), 3) := by decide +kernel
theorem dX6_endYear_119 : decode cX6_endYear 119 = .ok (.aload_n 0, 1) := by decide +kernel
theorem dX6_endYear_120 : decode cX6_endYear 120 = .ok (.getfield 7, 3) := by decide +kernel
theorem dX6_endYear_123 : decode cX6_endYear 123 = .ok (.iconst 4, 1) := by decide +kernel
theorem dX6_endYear_124 : decode cX6_endYear 124 = .ok (.dup2, 1) := by decide +kernel
theorem dX6_endYear_125 : decode cX6_endYear 125 = .ok (.iaload, 1) := by decide +kernel
theorem dX6_endYear_126 : decode cX6_endYear 126 = .ok (.iload_n 1, 1) := by decide +kernel
theorem dX6_endYear_127 : decode cX6_endYear 127 = .ok (.iadd, 1) := by decide +kernel
theorem dX6_endYear_128 : decode cX6_endYear 128 = .ok (.iastore, 1) := by decide +kernel
theorem dX6_endYear_129 : decode cX6_endYear 129 = .ok (.aload_n 0, 1) := by decide +kernel
theorem dX6_endYear_130 : decode cX6_endYear 130 = .ok (.getfield 7, 3) := by decide +kernel
theorem dX6_endYear_133 : decode cX6_endYear 133 = .ok (.iconst 0, 1) := by decide +kernel
theorem dX6_endYear_134 : decode cX6_endYear 134 = .ok (.dup2, 1) := by decide +kernel
theorem dX6_endYear_135 : decode cX6_endYear 135 = .ok (.iaload, 1) := by decide +kernel
theorem dX6_endYear_136 : decode cX6_endYear 136 = .ok (.iconst 1, 1) := by decide +kernel
theorem dX6_endYear_137 : decode cX6_endYear 137 = .ok (.iadd, 1) := by decide +kernel
theorem dX6_endYear_138 : decode cX6_endYear 138 = .ok (.iastore, 1) := by decide +kernel
theorem dX6_endYear_139 : decode cX6_endYear 139 = .ok (.iload_n 1, 1) := by decide +kernel
theorem dX6_endYear_140 : decode cX6_endYear 140 = .ok (.ireturn, 1) := by decide +kernel
set_option maxRecDepth 20000 in
theorem ggX6_canRevoke_X6_free : GoodIn wsX6_canRevoke wsX6_free := goodIn_r _ [12, 3, 13, 14, 11, 15, 19, 20, 21, 22, 23, 24, 25, 26, 27, 28] (by decide +kernel) (by decide +kernel)
set_option maxRecDepth 20000 in
theorem gX6_canRevoke_X6_free : GoodIn wsX6_canRevoke (wsV RX6 83 RX6 yX6_free wsX6_free) := goodIn_app (goodIn_of _ (by decide +kernel)) ggX6_canRevoke_X6_free
set_option maxRecDepth 20000 in
theorem ggX6_canRevoke_X6_ofCommitment : GoodIn wsX6_canRevoke wsX6_ofCommitment := goodIn_r _ [18] (by decide +kernel) (by decide +kernel)
set_option maxRecDepth 20000 in
theorem gX6_canRevoke_X6_ofCommitment : GoodIn wsX6_canRevoke (va_wsS RX6 86 yX6_ofCommitment wsX6_ofCommitment) := goodIn_app (goodIn_of _ (by decide +kernel)) ggX6_canRevoke_X6_ofCommitment
theorem dX6_canRevoke_0 : decode cX6_canRevoke 0 = .ok (.aload_n 0, 1) := by decide +kernel
theorem dX6_canRevoke_1 : decode cX6_canRevoke 1 = .ok (.getfield 28, 3) := by decide +kernel
theorem dX6_canRevoke_4 : decode cX6_canRevoke 4 = .ok (.iload_n 1, 1) := by decide +kernel
theorem dX6_canRevoke_5 : decode cX6_canRevoke 5 = .ok (.iaload, 1) := by decide +kernel
theorem dX6_canRevoke_6 : decode cX6_canRevoke 6 = .ok (.iconst 1, 1) := by decide +kernel
theorem dX6_canRevoke_7 : decode cX6_canRevoke 7 = .ok (.if_icmp .eq 18, 3) := by decide +kernel
theorem dX6_canRevoke_10 : decode cX6_canRevoke 10 = .ok (.aload_n 0, 1) := by decide +kernel
theorem dX6_canRevoke_11 : decode cX6_canRevoke 11 = .ok (.getfield 25, 3) := by decide +kernel
theorem dX6_canRevoke_14 : decode cX6_canRevoke 14 = .ok (.iload_n 1, 1) := by decide +kernel
theorem dX6_canRevoke_15 : decode cX6_canRevoke 15 = .ok (.iaload, 1) := by decide +kernel
theorem dX6_canRevoke_16 : decode cX6_canRevoke 16 = .ok (.aload_n 0, 1) := by decide +kernel
theorem dX6_canRevoke_17 : decode cX6_canRevoke 17 = .ok (.getfield 7, 3) := by decide +kernel
theorem dX6_canRevoke_20 : decode cX6_canRevoke 20 = .ok (.iconst 0, 1) := by decide +kernel
theorem dX6_canRevoke_21 : decode cX6_canRevoke 21 = .ok (.iaload, 1) := by decide +kernel
theorem dX6_canRevoke_22 : decode cX6_canRevoke 22 = .ok (.if_icmp .eq 5, 3) := by decide +kernel
theorem dX6_canRevoke_25 : decode cX6_canRevoke 25 = .ok (.iconst 0, 1) := by decide +kernel
theorem dX6_canRevoke_26 : decode cX6_canRevoke 26 = .ok (.ireturn, 1) := by decide +kernel
theorem dX6_canRevoke_27 : decode cX6_canRevoke 27 = .ok (.aload_n 0, 1) := by decide +kernel
theorem dX6_canRevoke_28 : decode cX6_canRevoke 28 = .ok (.getfield 13, 3) := by decide +kernel
theorem dX6_canRevoke_31 : decode cX6_canRevoke 31 = .ok (.iload_n 1, 1) := by decide +kernel
theorem dX6_canRevoke_32 : decode cX6_canRevoke 32 = .ok (.iaload, 1) := by decide +kernel
theorem dX6_canRevoke_33 : decode cX6_canRevoke 33 = .ok (.bipush 8, 2) := by decide +kernel
theorem dX6_canRevoke_35 : decode cX6_canRevoke 35 = .ok (.if_icmp .ne 30, 3) := by decide +kernel
theorem dX6_canRevoke_38 : decode cX6_canRevoke 38 = .ok (.aload_n 0, 1) := by decide +kernel
theorem dX6_canRevoke_39 : decode cX6_canRevoke 39 = .ok (.getfield 22, 3) := by decide +kernel
theorem dX6_canRevoke_42 : decode cX6_canRevoke 42 = .ok (.iload_n 1, 1) := by decide +kernel
theorem dX6_canRevoke_43 : decode cX6_canRevoke 43 = .ok (.iaload, 1) := by decide +kernel
theorem dX6_canRevoke_44 : decode cX6_canRevoke 44 = .ok (.aload_n 0, 1) := by decide +kernel
theorem dX6_canRevoke_45 : decode cX6_canRevoke 45 = .ok (.aload_n 0, 1) := by decide +kernel
theorem dX6_canRevoke_46 : decode cX6_canRevoke 46 = .ok (.getfield 19, 3) := by decide +kernel
theorem dX6_canRevoke_49 : decode cX6_canRevoke 49 = .ok (.iload_n 1, 1) := by decide +kernel
theorem dX6_canRevoke_50 : decode cX6_canRevoke 50 = .ok (.iaload, 1) := by decide +kernel
theorem dX6_canRevoke_51 : decode cX6_canRevoke 51 = .ok (.invokevirtual 83, 3) := by decide +kernel
theorem dX6_canRevoke_54 : decode cX6_canRevoke 54 = .ok (.if_icmp .gt 7, 3) := by decide +kernel
theorem dX6_canRevoke_57 : decode cX6_canRevoke 57 = .ok (.iconst 1, 1) := by decide +kernel
theorem dX6_canRevoke_58 : decode cX6_canRevoke 58 = .ok (.goto 40, 3) := by decide +kernel
theorem dX6_canRevoke_61 : decode cX6_canRevoke 61 = .ok (.iconst 0, 1) := by decide +kernel
theorem dX6_canRevoke_62 : decode cX6_canRevoke 62 = .ok (.goto 36, 3) := by decide +kernel
theorem dX6_canRevoke_65 : decode cX6_canRevoke 65 = .ok (.aload_n 0, 1) := by decide +kernel
theorem dX6_canRevoke_66 : decode cX6_canRevoke 66 = .ok (.getfield 13, 3) := by decide +kernel
theorem dX6_canRevoke_69 : decode cX6_canRevoke 69 = .ok (.iload_n 1, 1) := by decide +kernel
theorem dX6_canRevoke_70 : decode cX6_canRevoke 70 = .ok (.iaload, 1) := by decide +kernel
theorem dX6_canRevoke_71 : decode cX6_canRevoke 71 = .ok (.iconst 5, 1) := by decide +kernel
theorem dX6_canRevoke_72 : decode cX6_canRevoke 72 = .ok (.if_icmp .ne 25, 3) := by decide +kernel
theorem dX6_canRevoke_75 : decode cX6_canRevoke 75 = .ok (.aload_n 0, 1) := by decide +kernel
theorem dX6_canRevoke_76 : decode cX6_canRevoke 76 = .ok (.getfield 7, 3) := by decide +kernel
theorem dX6_canRevoke_79 : decode cX6_canRevoke 79 = .ok (.aload_n 0, 1) := by decide +kernel
theorem dX6_canRevoke_80 : decode cX6_canRevoke 80 = .ok (.getfield 16, 3) := by decide +kernel
theorem dX6_canRevoke_83 : decode cX6_canRevoke 83 = .ok (.iload_n 1, 1) := by decide +kernel
theorem dX6_canRevoke_84 : decode cX6_canRevoke 84 = .ok (.iaload, 1) := by decide +kernel
theorem dX6_canRevoke_85 : decode cX6_canRevoke 85 = .ok (.iconst 1, 1) := by decide +kernel
theorem dX6_canRevoke_86 : decode cX6_canRevoke 86 = .ok (.invokestatic 86, 3) := by decide +kernel
theorem dX6_canRevoke_89 : decode cX6_canRevoke 89 = .ok (.iaload, 1) := by decide +kernel
theorem dX6_canRevoke_90 : decode cX6_canRevoke 90 = .ok (.ifCond .le 7, 3) := by decide +kernel
theorem dX6_canRevoke_93 : decode cX6_canRevoke 93 = .ok (.iconst 1, 1) := by decide +kernel
theorem dX6_canRevoke_94 : decode cX6_canRevoke 94 = .ok (.goto 4, 3) := by decide +kernel
theorem dX6_canRevoke_97 : decode cX6_canRevoke 97 = .ok (.iconst 0, 1) := by decide +kernel
theorem dX6_canRevoke_98 : decode cX6_canRevoke 98 = .ok (.ireturn, 1) := by decide +kernel
set_option maxRecDepth 20000 in
theorem ggX6_revoke_X6_canRevoke : GoodIn wsX6_revoke wsX6_canRevoke := goodIn_r _ [13, 6, 14, 8, 2, 5, 4, 3, 15, 16, 17, 12, 18, 19, 20, 21, 22, 23, 24, 46, 47, 48, 49, 50, 51, 52, 53, 54, 55] (by decide +kernel) (by decide +kernel)
set_option maxRecDepth 20000 in
theorem gX6_revoke_X6_canRevoke : GoodIn wsX6_revoke (wsV RX6 117 RX6 yX6_canRevoke wsX6_canRevoke) := goodIn_app (goodIn_of _ (by decide +kernel)) ggX6_revoke_X6_canRevoke
set_option maxRecDepth 20000 in
theorem ggX6_revoke_X6_remember : GoodIn wsX6_revoke wsX6_remember := goodIn_r _ [28, 1, 2, 3, 4, 5, 14, 8, 6, 7, 29, 30, 31, 32, 12, 33, 34, 35, 36, 37, 46, 47, 48, 49, 50, 51, 52, 53, 54, 55] (by decide +kernel) (by decide +kernel)
set_option maxRecDepth 20000 in
theorem gX6_revoke_X6_remember : GoodIn wsX6_revoke (wsV RX6 71 RX6 yX6_remember wsX6_remember) := goodIn_app (goodIn_of _ (by decide +kernel)) ggX6_revoke_X6_remember
set_option maxRecDepth 20000 in
theorem ggX6_revoke_X6_free0 : GoodIn wsX6_revoke wsX6_free0 := goodIn_r _ [41, 8, 22, 23, 12, 24, 19, 20, 21, 46, 47, 48, 49, 50, 51, 52, 53, 54, 55] (by decide +kernel) (by decide +kernel)
set_option maxRecDepth 20000 in
theorem gX6_revoke_X6_free0 : GoodIn wsX6_revoke (wsV RX6 92 RX6 yX6_free0 wsX6_free0) := goodIn_app (goodIn_of _ (by decide +kernel)) ggX6_revoke_X6_free0
set_option maxRecDepth 20000 in
theorem ggX6_revoke_X6_moves : GoodIn wsX6_revoke wsX6_moves := goodIn_r _ [45, 8, 19, 20, 12, 21, 46, 47, 48, 49, 50, 51, 52, 53, 54, 55] (by decide +kernel) (by decide +kernel)
set_option maxRecDepth 20000 in
theorem gX6_revoke_X6_moves : GoodIn wsX6_revoke (wsV RX6 110 RX6 yX6_moves wsX6_moves) := goodIn_app (goodIn_of _ (by decide +kernel)) ggX6_revoke_X6_moves
set_option maxRecDepth 20000 in
theorem ggX6_revoke_X6_of : GoodIn wsX6_revoke wsX6_of := goodIn_r _ [21] (by decide +kernel) (by decide +kernel)
set_option maxRecDepth 20000 in
theorem gX6_revoke_X6_of : GoodIn wsX6_revoke (va_wsS RX6 34 yX6_of wsX6_of) := goodIn_app (goodIn_of _ (by decide +kernel)) ggX6_revoke_X6_of
theorem dX6_revoke_0 : decode cX6_revoke 0 = .ok (.iload_n 1, 1) := by decide +kernel
theorem dX6_revoke_1 : decode cX6_revoke 1 = .ok (.ifCond .ge 5, 3) := by decide +kernel
theorem dX6_revoke_4 : decode cX6_revoke 4 = .ok (.iconst (-1), 1) := by decide +kernel
theorem dX6_revoke_5 : decode cX6_revoke 5 = .ok (.ireturn, 1) := by decide +kernel
theorem dX6_revoke_6 : decode cX6_revoke 6 = .ok (.iload_n 1, 1) := by decide +kernel
theorem dX6_revoke_7 : decode cX6_revoke 7 = .ok (.aload_n 0, 1) := by decide +kernel
theorem dX6_revoke_8 : decode cX6_revoke 8 = .ok (.getfield 47, 3) := by decide +kernel
theorem dX6_revoke_11 : decode cX6_revoke 11 = .ok (.if_icmp .ge 18, 3) := by decide +kernel
theorem dX6_revoke_14 : decode cX6_revoke 14 = .ok (.aload_n 0, 1) := by decide +kernel
theorem dX6_revoke_15 : decode cX6_revoke 15 = .ok (.aload_n 0, 1) := by decide +kernel
theorem dX6_revoke_16 : decode cX6_revoke 16 = .ok (.getfield 47, 3) := by decide +kernel
theorem dX6_revoke_19 : decode cX6_revoke 19 = .ok (.iconst 1, 1) := by decide +kernel
theorem dX6_revoke_20 : decode cX6_revoke 20 = .ok (.isub, 1) := by decide +kernel
theorem dX6_revoke_21 : decode cX6_revoke 21 = .ok (.iload_n 1, 1) := by decide +kernel
theorem dX6_revoke_22 : decode cX6_revoke 22 = .ok (.isub, 1) := by decide +kernel
theorem dX6_revoke_23 : decode cX6_revoke 23 = .ok (.invokevirtual 117, 3) := by decide +kernel
theorem dX6_revoke_26 : decode cX6_revoke 26 = .ok (.ifCond .ne 6, 3) := by decide +kernel
theorem dX6_revoke_29 : decode cX6_revoke 29 = .ok (.bipush (-2), 2) := by decide +kernel
theorem dX6_revoke_31 : decode cX6_revoke 31 = .ok (.ireturn, 1) := by decide +kernel
theorem dX6_revoke_32 : decode cX6_revoke 32 = .ok (.aload_n 0, 1) := by decide +kernel
theorem dX6_revoke_33 : decode cX6_revoke 33 = .ok (.getfield 47, 3) := by decide +kernel
theorem dX6_revoke_36 : decode cX6_revoke 36 = .ok (.iconst 1, 1) := by decide +kernel
theorem dX6_revoke_37 : decode cX6_revoke 37 = .ok (.isub, 1) := by decide +kernel
theorem dX6_revoke_38 : decode cX6_revoke 38 = .ok (.iload_n 1, 1) := by decide +kernel
theorem dX6_revoke_39 : decode cX6_revoke 39 = .ok (.isub, 1) := by decide +kernel
theorem dX6_revoke_40 : decode cX6_revoke 40 = .ok (.istore_n 2, 1) := by decide +kernel
theorem dX6_revoke_41 : decode cX6_revoke 41 = .ok (.aload_n 0, 1) := by decide +kernel
theorem dX6_revoke_42 : decode cX6_revoke 42 = .ok (.getfield 13, 3) := by decide +kernel
theorem dX6_revoke_45 : decode cX6_revoke 45 = .ok (.iload_n 2, 1) := by decide +kernel
theorem dX6_revoke_46 : decode cX6_revoke 46 = .ok (.iaload, 1) := by decide +kernel
theorem dX6_revoke_47 : decode cX6_revoke 47 = .ok (.istore_n 3, 1) := by decide +kernel
theorem dX6_revoke_48 : decode cX6_revoke 48 = .ok (.aload_n 0, 1) := by decide +kernel
theorem dX6_revoke_49 : decode cX6_revoke 49 = .ok (.getfield 16, 3) := by decide +kernel
theorem dX6_revoke_52 : decode cX6_revoke 52 = .ok (.iload_n 2, 1) := by decide +kernel
theorem dX6_revoke_53 : decode cX6_revoke 53 = .ok (.iaload, 1) := by decide +kernel
theorem dX6_revoke_54 : decode cX6_revoke 54 = .ok (.istore 4, 2) := by decide +kernel
theorem dX6_revoke_56 : decode cX6_revoke 56 = .ok (.aload_n 0, 1) := by decide +kernel
theorem dX6_revoke_57 : decode cX6_revoke 57 = .ok (.getfield 19, 3) := by decide +kernel
theorem dX6_revoke_60 : decode cX6_revoke 60 = .ok (.iload_n 2, 1) := by decide +kernel
theorem dX6_revoke_61 : decode cX6_revoke 61 = .ok (.iaload, 1) := by decide +kernel
theorem dX6_revoke_62 : decode cX6_revoke 62 = .ok (.istore 5, 2) := by decide +kernel
theorem dX6_revoke_64 : decode cX6_revoke 64 = .ok (.aload_n 0, 1) := by decide +kernel
theorem dX6_revoke_65 : decode cX6_revoke 65 = .ok (.getfield 22, 3) := by decide +kernel
theorem dX6_revoke_68 : decode cX6_revoke 68 = .ok (.iload_n 2, 1) := by decide +kernel
theorem dX6_revoke_69 : decode cX6_revoke 69 = .ok (.iaload, 1) := by decide +kernel
theorem dX6_revoke_70 : decode cX6_revoke 70 = .ok (.istore 6, 2) := by decide +kernel
theorem dX6_revoke_72 : decode cX6_revoke 72 = .ok (.aload_n 0, 1) := by decide +kernel
theorem dX6_revoke_73 : decode cX6_revoke 73 = .ok (.getfield 28, 3) := by decide +kernel
theorem dX6_revoke_76 : decode cX6_revoke 76 = .ok (.iload_n 2, 1) := by decide +kernel
theorem dX6_revoke_77 : decode cX6_revoke 77 = .ok (.iconst 1, 1) := by decide +kernel
theorem dX6_revoke_78 : decode cX6_revoke 78 = .ok (.iastore, 1) := by decide +kernel
theorem dX6_revoke_79 : decode cX6_revoke 79 = .ok (.aload_n 0, 1) := by decide +kernel
theorem dX6_revoke_80 : decode cX6_revoke 80 = .ok (.bipush 10, 2) := by decide +kernel
theorem dX6_revoke_82 : decode cX6_revoke 82 = .ok (.aload_n 0, 1) := by decide +kernel
theorem dX6_revoke_83 : decode cX6_revoke 83 = .ok (.getfield 31, 3) := by decide +kernel
theorem dX6_revoke_86 : decode cX6_revoke 86 = .ok (.iload_n 2, 1) := by decide +kernel
theorem dX6_revoke_87 : decode cX6_revoke 87 = .ok (.iaload, 1) := by decide +kernel
theorem dX6_revoke_88 : decode cX6_revoke 88 = .ok (.iconst 0, 1) := by decide +kernel
theorem dX6_revoke_89 : decode cX6_revoke 89 = .ok (.iconst 0, 1) := by decide +kernel
theorem dX6_revoke_90 : decode cX6_revoke 90 = .ok (.invokevirtual 71, 3) := by decide +kernel
theorem dX6_revoke_93 : decode cX6_revoke 93 = .ok (.iload_n 3, 1) := by decide +kernel
theorem dX6_revoke_94 : decode cX6_revoke 94 = .ok (.iconst 5, 1) := by decide +kernel
theorem dX6_revoke_95 : decode cX6_revoke 95 = .ok (.if_icmp .ne 10, 3) := by decide +kernel
theorem dX6_revoke_98 : decode cX6_revoke 98 = .ok (.aload_n 0, 1) := by decide +kernel
theorem dX6_revoke_99 : decode cX6_revoke 99 = .ok (.iload 4, 2) := by decide +kernel
theorem dX6_revoke_101 : decode cX6_revoke 101 = .ok (.invokevirtual 92, 3) := by decide +kernel
theorem dX6_revoke_104 : decode cX6_revoke 104 = .ok (.ireturn, 1) := by decide +kernel
theorem dX6_revoke_105 : decode cX6_revoke 105 = .ok (.aload_n 0, 1) := by decide +kernel
theorem dX6_revoke_106 : decode cX6_revoke 106 = .ok (.iload 5, 2) := by decide +kernel
theorem dX6_revoke_108 : decode cX6_revoke 108 = .ok (.iload 4, 2) := by decide +kernel
theorem dX6_revoke_110 : decode cX6_revoke 110 = .ok (.iload 6, 2) := by decide +kernel
theorem dX6_revoke_112 : decode cX6_revoke 112 = .ok (.invokevirtual 110, 3) := by decide +kernel
theorem dX6_revoke_115 : decode cX6_revoke 115 = .ok (.aload_n 0, 1) := by decide +kernel
theorem dX6_revoke_116 : decode cX6_revoke 116 = .ok (.getfield 7, 3) := by decide +kernel
theorem dX6_revoke_119 : decode cX6_revoke 119 = .ok (.iload 4, 2) := by decide +kernel
theorem dX6_revoke_121 : decode cX6_revoke 121 = .ok (.bipush 7, 2) := by decide +kernel
theorem dX6_revoke_123 : decode cX6_revoke 123 = .ok (.invokestatic 34, 3) := by decide +kernel
theorem dX6_revoke_126 : decode cX6_revoke 126 = .ok (.dup2, 1) := by decide +kernel
theorem dX6_revoke_127 : decode cX6_revoke 127 = .ok (.iaload, 1) := by decide +kernel
theorem dX6_revoke_128 : decode cX6_revoke 128 = .ok (.iload 6, 2) := by decide +kernel
theorem dX6_revoke_130 : decode cX6_revoke 130 = .ok (.isub, 1) := by decide +kernel
theorem dX6_revoke_131 : decode cX6_revoke 131 = .ok (.iastore, 1) := by decide +kernel
theorem dX6_revoke_132 : decode cX6_revoke 132 = .ok (.iload 6, 2) := by decide +kernel
theorem dX6_revoke_134 : decode cX6_revoke 134 = .ok (.ireturn, 1) := by decide +kernel
set_option maxRecDepth 20000 in
theorem ggX6_sumOf_X6_of : GoodIn wsX6_sumOf wsX6_of := goodIn_r _ [5] (by decide +kernel) (by decide +kernel)
set_option maxRecDepth 20000 in
theorem gX6_sumOf_X6_of : GoodIn wsX6_sumOf (va_wsS RX6 34 yX6_of wsX6_of) := goodIn_app (goodIn_of _ (by decide +kernel)) ggX6_sumOf_X6_of
theorem dX6_sumOf_0 : decode cX6_sumOf 0 = .ok (.iconst 0, 1) := by decide +kernel
theorem dX6_sumOf_1 : decode cX6_sumOf 1 = .ok (.istore_n 2, 1) := by decide +kernel
theorem dX6_sumOf_2 : decode cX6_sumOf 2 = .ok (.iconst 0, 1) := by decide +kernel
theorem dX6_sumOf_3 : decode cX6_sumOf 3 = .ok (.istore_n 3, 1) := by decide +kernel
theorem dX6_sumOf_4 : decode cX6_sumOf 4 = .ok (.iload_n 3, 1) := by decide +kernel
theorem dX6_sumOf_5 : decode cX6_sumOf 5 = .ok (.aload_n 0, 1) := by decide +kernel
theorem dX6_sumOf_6 : decode cX6_sumOf 6 = .ok (.getfield 7, 3) := by decide +kernel
theorem dX6_sumOf_9 : decode cX6_sumOf 9 = .ok (.iconst 1, 1) := by decide +kernel
theorem dX6_sumOf_10 : decode cX6_sumOf 10 = .ok (.iaload, 1) := by decide +kernel
theorem dX6_sumOf_11 : decode cX6_sumOf 11 = .ok (.if_icmp .ge 22, 3) := by decide +kernel
theorem dX6_sumOf_14 : decode cX6_sumOf 14 = .ok (.iload_n 2, 1) := by decide +kernel
theorem dX6_sumOf_15 : decode cX6_sumOf 15 = .ok (.aload_n 0, 1) := by decide +kernel
theorem dX6_sumOf_16 : decode cX6_sumOf 16 = .ok (.getfield 7, 3) := by decide +kernel
theorem dX6_sumOf_19 : decode cX6_sumOf 19 = .ok (.iload_n 3, 1) := by decide +kernel
theorem dX6_sumOf_20 : decode cX6_sumOf 20 = .ok (.iload_n 1, 1) := by decide +kernel
theorem dX6_sumOf_21 : decode cX6_sumOf 21 = .ok (.invokestatic 34, 3) := by decide +kernel
theorem dX6_sumOf_24 : decode cX6_sumOf 24 = .ok (.iaload, 1) := by decide +kernel
theorem dX6_sumOf_25 : decode cX6_sumOf 25 = .ok (.iadd, 1) := by decide +kernel
theorem dX6_sumOf_26 : decode cX6_sumOf 26 = .ok (.istore_n 2, 1) := by decide +kernel
theorem dX6_sumOf_27 : decode cX6_sumOf 27 = .ok (.iinc 3 1, 3) := by decide +kernel
theorem dX6_sumOf_30 : decode cX6_sumOf 30 = .ok (.goto (-26), 3) := by decide +kernel
theorem dX6_sumOf_33 : decode cX6_sumOf 33 = .ok (.iload_n 2, 1) := by decide +kernel
theorem dX6_sumOf_34 : decode cX6_sumOf 34 = .ok (.ireturn, 1) := by decide +kernel
set_option maxRecDepth 20000 in
theorem ggX6_opens_X6_ofCommitment : GoodIn wsX6_opens wsX6_ofCommitment := goodIn_r _ [5] (by decide +kernel) (by decide +kernel)
set_option maxRecDepth 20000 in
theorem gX6_opens_X6_ofCommitment : GoodIn wsX6_opens (va_wsS RX6 86 yX6_ofCommitment wsX6_ofCommitment) := goodIn_app (goodIn_of _ (by decide +kernel)) ggX6_opens_X6_ofCommitment
theorem dX6_opens_0 : decode cX6_opens 0 = .ok (.iconst 0, 1) := by decide +kernel
theorem dX6_opens_1 : decode cX6_opens 1 = .ok (.istore_n 1, 1) := by decide +kernel
theorem dX6_opens_2 : decode cX6_opens 2 = .ok (.iconst 0, 1) := by decide +kernel
theorem dX6_opens_3 : decode cX6_opens 3 = .ok (.istore_n 2, 1) := by decide +kernel
theorem dX6_opens_4 : decode cX6_opens 4 = .ok (.iload_n 2, 1) := by decide +kernel
theorem dX6_opens_5 : decode cX6_opens 5 = .ok (.aload_n 0, 1) := by decide +kernel
theorem dX6_opens_6 : decode cX6_opens 6 = .ok (.getfield 7, 3) := by decide +kernel
theorem dX6_opens_9 : decode cX6_opens 9 = .ok (.iconst 2, 1) := by decide +kernel
theorem dX6_opens_10 : decode cX6_opens 10 = .ok (.iaload, 1) := by decide +kernel
theorem dX6_opens_11 : decode cX6_opens 11 = .ok (.if_icmp .ge 30, 3) := by decide +kernel
theorem dX6_opens_14 : decode cX6_opens 14 = .ok (.iload_n 1, 1) := by decide +kernel
theorem dX6_opens_15 : decode cX6_opens 15 = .ok (.aload_n 0, 1) := by decide +kernel
theorem dX6_opens_16 : decode cX6_opens 16 = .ok (.getfield 7, 3) := by decide +kernel
theorem dX6_opens_19 : decode cX6_opens 19 = .ok (.iload_n 2, 1) := by decide +kernel
theorem dX6_opens_20 : decode cX6_opens 20 = .ok (.iconst 1, 1) := by decide +kernel
theorem dX6_opens_21 : decode cX6_opens 21 = .ok (.invokestatic 86, 3) := by decide +kernel
theorem dX6_opens_24 : decode cX6_opens 24 = .ok (.iaload, 1) := by decide +kernel
theorem dX6_opens_25 : decode cX6_opens 25 = .ok (.ifCond .le 7, 3) := by decide +kernel
theorem dX6_opens_28 : decode cX6_opens 28 = .ok (.iconst 1, 1) := by decide +kernel
theorem dX6_opens_29 : decode cX6_opens 29 = .ok (.goto 4, 3) := by decide +kernel
theorem dX6_opens_32 : decode cX6_opens 32 = .ok (.iconst 0, 1) := by decide +kernel
theorem dX6_opens_33 : decode cX6_opens 33 = .ok (.iadd, 1) := by decide +kernel
theorem dX6_opens_34 : decode cX6_opens 34 = .ok (.istore_n 1, 1) := by decide +kernel
theorem dX6_opens_35 : decode cX6_opens 35 = .ok (.iinc 2 1, 3) := by decide +kernel
theorem dX6_opens_38 : decode cX6_opens 38 = .ok (.goto (-34), 3) := by decide +kernel
theorem dX6_opens_41 : decode cX6_opens 41 = .ok (.iload_n 1, 1) := by decide +kernel
theorem dX6_opens_42 : decode cX6_opens 42 = .ok (.ireturn, 1) := by decide +kernel
set_option maxRecDepth 20000 in
theorem ggX6_count_X6_opens : GoodIn wsX6_count wsX6_opens := goodIn_r _ [7, 1, 8, 9, 6, 10, 30, 31, 32, 33, 34, 35, 36, 37, 38, 39] (by decide +kernel) (by decide +kernel)
set_option maxRecDepth 20000 in
theorem gX6_count_X6_opens : GoodIn wsX6_count (wsV RX6 120 RX6 yX6_opens wsX6_opens) := goodIn_app (goodIn_of _ (by decide +kernel)) ggX6_count_X6_opens
set_option maxRecDepth 20000 in
theorem ggX6_count_X6_barred : GoodIn wsX6_count wsX6_barred := goodIn_r _ [14, 1, 15, 16, 17, 6, 18, 19, 20, 21, 22, 23, 24, 25, 30, 31, 32, 33, 34, 35, 36, 37, 38, 39] (by decide +kernel) (by decide +kernel)
set_option maxRecDepth 20000 in
theorem gX6_count_X6_barred : GoodIn wsX6_count (wsV RX6 79 RX6 yX6_barred wsX6_barred) := goodIn_app (goodIn_of _ (by decide +kernel)) ggX6_count_X6_barred
set_option maxRecDepth 20000 in
theorem ggX6_count_X6_sumOf : GoodIn wsX6_count wsX6_sumOf := goodIn_r _ [29, 1, 19, 20, 6, 21, 30, 31, 32, 33, 34, 35, 36, 37, 38, 39] (by decide +kernel) (by decide +kernel)
set_option maxRecDepth 20000 in
theorem gX6_count_X6_sumOf : GoodIn wsX6_count (wsV RX6 123 RX6 yX6_sumOf wsX6_sumOf) := goodIn_app (goodIn_of _ (by decide +kernel)) ggX6_count_X6_sumOf
theorem dX6_count_0 : decode cX6_count 0 = .ok (.iload_n 1, 1) := by decide +kernel
theorem dX6_count_1 : decode cX6_count 1 = .ok (.tableswitch 104 0 9 #[55, 55, 55, 62, 67, 72, 79, 85, 92, 99], 55) := by decide +kernel
theorem dX6_count_56 : decode cX6_count 56 = .ok (.aload_n 0, 1) := by decide +kernel
theorem dX6_count_57 : decode cX6_count 57 = .ok (.getfield 7, 3) := by decide +kernel
theorem dX6_count_60 : decode cX6_count 60 = .ok (.iload_n 1, 1) := by decide +kernel
theorem dX6_count_61 : decode cX6_count 61 = .ok (.iaload, 1) := by decide +kernel
theorem dX6_count_62 : decode cX6_count 62 = .ok (.ireturn, 1) := by decide +kernel
theorem dX6_count_63 : decode cX6_count 63 = .ok (.aload_n 0, 1) := by decide +kernel
theorem dX6_count_64 : decode cX6_count 64 = .ok (.invokevirtual 120, 3) := by decide +kernel
theorem dX6_count_67 : decode cX6_count 67 = .ok (.ireturn, 1) := by decide +kernel
theorem dX6_count_68 : decode cX6_count 68 = .ok (.aload_n 0, 1) := by decide +kernel
theorem dX6_count_69 : decode cX6_count 69 = .ok (.invokevirtual 79, 3) := by decide +kernel
theorem dX6_count_72 : decode cX6_count 72 = .ok (.ireturn, 1) := by decide +kernel
theorem dX6_count_73 : decode cX6_count 73 = .ok (.aload_n 0, 1) := by decide +kernel
theorem dX6_count_74 : decode cX6_count 74 = .ok (.getfield 7, 3) := by decide +kernel
theorem dX6_count_77 : decode cX6_count 77 = .ok (.iconst 3, 1) := by decide +kernel
theorem dX6_count_78 : decode cX6_count 78 = .ok (.iaload, 1) := by decide +kernel
theorem dX6_count_79 : decode cX6_count 79 = .ok (.ireturn, 1) := by decide +kernel
theorem dX6_count_80 : decode cX6_count 80 = .ok (.aload_n 0, 1) := by decide +kernel
theorem dX6_count_81 : decode cX6_count 81 = .ok (.iconst 3, 1) := by decide +kernel
theorem dX6_count_82 : decode cX6_count 82 = .ok (.invokevirtual 123, 3) := by decide +kernel
theorem dX6_count_85 : decode cX6_count 85 = .ok (.ireturn, 1) := by decide +kernel
theorem dX6_count_86 : decode cX6_count 86 = .ok (.aload_n 0, 1) := by decide +kernel
theorem dX6_count_87 : decode cX6_count 87 = .ok (.getfield 7, 3) := by decide +kernel
theorem dX6_count_90 : decode cX6_count 90 = .ok (.iconst 4, 1) := by decide +kernel
theorem dX6_count_91 : decode cX6_count 91 = .ok (.iaload, 1) := by decide +kernel
theorem dX6_count_92 : decode cX6_count 92 = .ok (.ireturn, 1) := by decide +kernel
theorem dX6_count_93 : decode cX6_count 93 = .ok (.aload_n 0, 1) := by decide +kernel
theorem dX6_count_94 : decode cX6_count 94 = .ok (.getfield 7, 3) := by decide +kernel
theorem dX6_count_97 : decode cX6_count 97 = .ok (.iconst 5, 1) := by decide +kernel
theorem dX6_count_98 : decode cX6_count 98 = .ok (.iaload, 1) := by decide +kernel
theorem dX6_count_99 : decode cX6_count 99 = .ok (.ireturn, 1) := by decide +kernel
theorem dX6_count_100 : decode cX6_count 100 = .ok (.aload_n 0, 1) := by decide +kernel
theorem dX6_count_101 : decode cX6_count 101 = .ok (.getfield 47, 3) := by decide +kernel
theorem dX6_count_104 : decode cX6_count 104 = .ok (.ireturn, 1) := by decide +kernel
theorem dX6_count_105 : decode cX6_count 105 = .ok (.iconst (-1), 1) := by decide +kernel
theorem dX6_count_106 : decode cX6_count 106 = .ok (.ireturn, 1) := by decide +kernel
set_option maxRecDepth 20000 in
theorem ggX6_head_X6_isHead : GoodIn wsX6_head wsX6_isHead := goodIn_r _ [6, 1, 7, 8, 5, 9, 29, 30, 31, 32, 33, 34, 35, 36, 37, 38] (by decide +kernel) (by decide +kernel)
set_option maxRecDepth 20000 in
theorem gX6_head_X6_isHead : GoodIn wsX6_head (wsV RX6 65 RX6 yX6_isHead wsX6_isHead) := goodIn_app (goodIn_of _ (by decide +kernel)) ggX6_head_X6_isHead
set_option maxRecDepth 20000 in
theorem ggX6_head_X6_aboveOf : GoodIn wsX6_head wsX6_aboveOf := goodIn_r _ [13, 1, 14, 15, 5, 16, 29, 30, 31, 32, 33, 34, 35, 36, 37, 38] (by decide +kernel) (by decide +kernel)
set_option maxRecDepth 20000 in
theorem gX6_head_X6_aboveOf : GoodIn wsX6_head (wsV RX6 57 RX6 yX6_aboveOf wsX6_aboveOf) := goodIn_app (goodIn_of _ (by decide +kernel)) ggX6_head_X6_aboveOf
set_option maxRecDepth 20000 in
theorem ggX6_head_X6_depth : GoodIn wsX6_head wsX6_depth := goodIn_r _ [20, 10, 11, 12, 5, 13, 1, 14, 15, 16, 29, 30, 31, 32, 33, 34, 35, 36, 37, 38] (by decide +kernel) (by decide +kernel)
set_option maxRecDepth 20000 in
theorem gX6_head_X6_depth : GoodIn wsX6_head (wsV RX6 68 RX6 yX6_depth wsX6_depth) := goodIn_app (goodIn_of _ (by decide +kernel)) ggX6_head_X6_depth
set_option maxRecDepth 20000 in
theorem ggX6_head_X6_of : GoodIn wsX6_head wsX6_of := goodIn_r _ [16] (by decide +kernel) (by decide +kernel)
set_option maxRecDepth 20000 in
theorem gX6_head_X6_of : GoodIn wsX6_head (va_wsS RX6 34 yX6_of wsX6_of) := goodIn_app (goodIn_of _ (by decide +kernel)) ggX6_head_X6_of
set_option maxRecDepth 20000 in
theorem ggX6_head_X6_isBarred : GoodIn wsX6_head wsX6_isBarred := goodIn_r _ [24, 1, 14, 15, 5, 16, 10, 11, 12, 13, 29, 30, 31, 32, 33, 34, 35, 36, 37, 38] (by decide +kernel) (by decide +kernel)
set_option maxRecDepth 20000 in
theorem gX6_head_X6_isBarred : GoodIn wsX6_head (wsV RX6 61 RX6 yX6_isBarred wsX6_isBarred) := goodIn_app (goodIn_of _ (by decide +kernel)) ggX6_head_X6_isBarred
set_option maxRecDepth 20000 in
theorem ggX6_head_X6_free : GoodIn wsX6_head wsX6_free := goodIn_r _ [28, 1, 14, 15, 5, 16, 29, 30, 31, 32, 33, 34, 35, 36, 37, 38] (by decide +kernel) (by decide +kernel)
set_option maxRecDepth 20000 in
theorem gX6_head_X6_free : GoodIn wsX6_head (wsV RX6 83 RX6 yX6_free wsX6_free) := goodIn_app (goodIn_of _ (by decide +kernel)) ggX6_head_X6_free
theorem dX6_head_0 : decode cX6_head 0 = .ok (.aload_n 0, 1) := by decide +kernel
theorem dX6_head_1 : decode cX6_head 1 = .ok (.iload_n 1, 1) := by decide +kernel
theorem dX6_head_2 : decode cX6_head 2 = .ok (.invokevirtual 65, 3) := by decide +kernel
theorem dX6_head_5 : decode cX6_head 5 = .ok (.ifCond .ne 5, 3) := by decide +kernel
theorem dX6_head_8 : decode cX6_head 8 = .ok (.iconst (-1), 1) := by decide +kernel
theorem dX6_head_9 : decode cX6_head 9 = .ok (.ireturn, 1) := by decide +kernel
theorem dX6_head_10 : decode cX6_head 10 = .ok (.iload_n 2, 1) := by decide +kernel
theorem dX6_head_11 : decode cX6_head 11 = .ok (.tableswitch 132 0 11 #[61, 67, 73, 73, 86, 100, 100, 100, 113, 119, 119, 119], 61) := by decide +kernel
theorem dX6_head_72 : decode cX6_head 72 = .ok (.aload_n 0, 1) := by decide +kernel
theorem dX6_head_73 : decode cX6_head 73 = .ok (.iload_n 1, 1) := by decide +kernel
theorem dX6_head_74 : decode cX6_head 74 = .ok (.invokevirtual 57, 3) := by decide +kernel
theorem dX6_head_77 : decode cX6_head 77 = .ok (.ireturn, 1) := by decide +kernel
theorem dX6_head_78 : decode cX6_head 78 = .ok (.aload_n 0, 1) := by decide +kernel
theorem dX6_head_79 : decode cX6_head 79 = .ok (.iload_n 1, 1) := by decide +kernel
theorem dX6_head_80 : decode cX6_head 80 = .ok (.invokevirtual 68, 3) := by decide +kernel
theorem dX6_head_83 : decode cX6_head 83 = .ok (.ireturn, 1) := by decide +kernel
theorem dX6_head_84 : decode cX6_head 84 = .ok (.aload_n 0, 1) := by decide +kernel
theorem dX6_head_85 : decode cX6_head 85 = .ok (.getfield 7, 3) := by decide +kernel
theorem dX6_head_88 : decode cX6_head 88 = .ok (.iload_n 1, 1) := by decide +kernel
theorem dX6_head_89 : decode cX6_head 89 = .ok (.iload_n 2, 1) := by decide +kernel
theorem dX6_head_90 : decode cX6_head 90 = .ok (.iconst 1, 1) := by decide +kernel
theorem dX6_head_91 : decode cX6_head 91 = .ok (.isub, 1) := by decide +kernel
theorem dX6_head_92 : decode cX6_head 92 = .ok (.invokestatic 34, 3) := by decide +kernel
theorem dX6_head_95 : decode cX6_head 95 = .ok (.iaload, 1) := by decide +kernel
theorem dX6_head_96 : decode cX6_head 96 = .ok (.ireturn, 1) := by decide +kernel
theorem dX6_head_97 : decode cX6_head 97 = .ok (.aload_n 0, 1) := by decide +kernel
theorem dX6_head_98 : decode cX6_head 98 = .ok (.iload_n 1, 1) := by decide +kernel
theorem dX6_head_99 : decode cX6_head 99 = .ok (.invokevirtual 61, 3) := by decide +kernel
theorem dX6_head_102 : decode cX6_head 102 = .ok (.ifCond .eq 7, 3) := by decide +kernel
theorem dX6_head_105 : decode cX6_head 105 = .ok (.iconst 1, 1) := by decide +kernel
theorem dX6_head_106 : decode cX6_head 106 = .ok (.goto 4, 3) := by decide +kernel
theorem dX6_head_109 : decode cX6_head 109 = .ok (.iconst 0, 1) := by decide +kernel
theorem dX6_head_110 : decode cX6_head 110 = .ok (.ireturn, 1) := by decide +kernel
theorem dX6_head_111 : decode cX6_head 111 = .ok (.aload_n 0, 1) := by decide +kernel
theorem dX6_head_112 : decode cX6_head 112 = .ok (.getfield 7, 3) := by decide +kernel
theorem dX6_head_115 : decode cX6_head 115 = .ok (.iload_n 1, 1) := by decide +kernel
theorem dX6_head_116 : decode cX6_head 116 = .ok (.iload_n 2, 1) := by decide +kernel
theorem dX6_head_117 : decode cX6_head 117 = .ok (.iconst 2, 1) := by decide +kernel
theorem dX6_head_118 : decode cX6_head 118 = .ok (.isub, 1) := by decide +kernel
theorem dX6_head_119 : decode cX6_head 119 = .ok (.invokestatic 34, 3) := by decide +kernel
theorem dX6_head_122 : decode cX6_head 122 = .ok (.iaload, 1) := by decide +kernel
theorem dX6_head_123 : decode cX6_head 123 = .ok (.ireturn, 1) := by decide +kernel
theorem dX6_head_124 : decode cX6_head 124 = .ok (.aload_n 0, 1) := by decide +kernel
theorem dX6_head_125 : decode cX6_head 125 = .ok (.iload_n 1, 1) := by decide +kernel
theorem dX6_head_126 : decode cX6_head 126 = .ok (.invokevirtual 83, 3) := by decide +kernel
theorem dX6_head_129 : decode cX6_head 129 = .ok (.ireturn, 1) := by decide +kernel
theorem dX6_head_130 : decode cX6_head 130 = .ok (.aload_n 0, 1) := by decide +kernel
theorem dX6_head_131 : decode cX6_head 131 = .ok (.getfield 7, 3) := by decide +kernel
theorem dX6_head_134 : decode cX6_head 134 = .ok (.iload_n 1, 1) := by decide +kernel
theorem dX6_head_135 : decode cX6_head 135 = .ok (.iload_n 2, 1) := by decide +kernel
theorem dX6_head_136 : decode cX6_head 136 = .ok (.iconst 3, 1) := by decide +kernel
theorem dX6_head_137 : decode cX6_head 137 = .ok (.isub, 1) := by decide +kernel
theorem dX6_head_138 : decode cX6_head 138 = .ok (.invokestatic 34, 3) := by decide +kernel
theorem dX6_head_141 : decode cX6_head 141 = .ok (.iaload, 1) := by decide +kernel
theorem dX6_head_142 : decode cX6_head 142 = .ok (.ireturn, 1) := by decide +kernel
theorem dX6_head_143 : decode cX6_head 143 = .ok (.iconst (-1), 1) := by decide +kernel
theorem dX6_head_144 : decode cX6_head 144 = .ok (.ireturn, 1) := by decide +kernel
set_option maxRecDepth 20000 in
theorem ggX6_valueOf_X6_of : GoodIn wsX6_valueOf wsX6_of := goodIn_r _ [5] (by decide +kernel) (by decide +kernel)
set_option maxRecDepth 20000 in
theorem gX6_valueOf_X6_of : GoodIn wsX6_valueOf (va_wsS RX6 34 yX6_of wsX6_of) := goodIn_app (goodIn_of _ (by decide +kernel)) ggX6_valueOf_X6_of
set_option maxRecDepth 20000 in
theorem ggX6_valueOf_X6_free : GoodIn wsX6_valueOf wsX6_free := goodIn_r _ [9, 1, 2, 3, 4, 5, 15, 16, 17, 18, 19, 20, 21, 22, 23, 24] (by decide +kernel) (by decide +kernel)
set_option maxRecDepth 20000 in
theorem gX6_valueOf_X6_free : GoodIn wsX6_valueOf (wsV RX6 83 RX6 yX6_free wsX6_free) := goodIn_app (goodIn_of _ (by decide +kernel)) ggX6_valueOf_X6_free
set_option maxRecDepth 20000 in
theorem ggX6_valueOf_X6_lapseOf : GoodIn wsX6_valueOf wsX6_lapseOf := goodIn_r _ [13, 1, 14, 6, 7, 8, 4, 9, 2, 3, 5, 15, 16, 17, 18, 19, 20, 21, 22, 23, 24] (by decide +kernel) (by decide +kernel)
set_option maxRecDepth 20000 in
theorem gX6_valueOf_X6_lapseOf : GoodIn wsX6_valueOf (wsV RX6 114 RX6 yX6_lapseOf wsX6_lapseOf) := goodIn_app (goodIn_of _ (by decide +kernel)) ggX6_valueOf_X6_lapseOf
theorem dX6_valueOf_0 : decode cX6_valueOf 0 = .ok (.iload_n 2, 1) := by decide +kernel
theorem dX6_valueOf_1 : decode cX6_valueOf 1 = .ok (.ifCond .ne 16, 3) := by decide +kernel
theorem dX6_valueOf_4 : decode cX6_valueOf 4 = .ok (.aload_n 0, 1) := by decide +kernel
theorem dX6_valueOf_5 : decode cX6_valueOf 5 = .ok (.getfield 7, 3) := by decide +kernel
theorem dX6_valueOf_8 : decode cX6_valueOf 8 = .ok (.iload_n 1, 1) := by decide +kernel
theorem dX6_valueOf_9 : decode cX6_valueOf 9 = .ok (.iconst 3, 1) := by decide +kernel
theorem dX6_valueOf_10 : decode cX6_valueOf 10 = .ok (.invokestatic 34, 3) := by decide +kernel
theorem dX6_valueOf_13 : decode cX6_valueOf 13 = .ok (.iaload, 1) := by decide +kernel
theorem dX6_valueOf_14 : decode cX6_valueOf 14 = .ok (.goto 66, 3) := by decide +kernel
theorem dX6_valueOf_17 : decode cX6_valueOf 17 = .ok (.iload_n 2, 1) := by decide +kernel
theorem dX6_valueOf_18 : decode cX6_valueOf 18 = .ok (.iconst 1, 1) := by decide +kernel
theorem dX6_valueOf_19 : decode cX6_valueOf 19 = .ok (.if_icmp .ne 16, 3) := by decide +kernel
theorem dX6_valueOf_22 : decode cX6_valueOf 22 = .ok (.aload_n 0, 1) := by decide +kernel
theorem dX6_valueOf_23 : decode cX6_valueOf 23 = .ok (.getfield 7, 3) := by decide +kernel
theorem dX6_valueOf_26 : decode cX6_valueOf 26 = .ok (.iload_n 1, 1) := by decide +kernel
theorem dX6_valueOf_27 : decode cX6_valueOf 27 = .ok (.iconst 4, 1) := by decide +kernel
theorem dX6_valueOf_28 : decode cX6_valueOf 28 = .ok (.invokestatic 34, 3) := by decide +kernel
theorem dX6_valueOf_31 : decode cX6_valueOf 31 = .ok (.iaload, 1) := by decide +kernel
theorem dX6_valueOf_32 : decode cX6_valueOf 32 = .ok (.goto 48, 3) := by decide +kernel
theorem dX6_valueOf_35 : decode cX6_valueOf 35 = .ok (.iload_n 2, 1) := by decide +kernel
theorem dX6_valueOf_36 : decode cX6_valueOf 36 = .ok (.iconst 2, 1) := by decide +kernel
theorem dX6_valueOf_37 : decode cX6_valueOf 37 = .ok (.if_icmp .ne 16, 3) := by decide +kernel
theorem dX6_valueOf_40 : decode cX6_valueOf 40 = .ok (.aload_n 0, 1) := by decide +kernel
theorem dX6_valueOf_41 : decode cX6_valueOf 41 = .ok (.getfield 7, 3) := by decide +kernel
theorem dX6_valueOf_44 : decode cX6_valueOf 44 = .ok (.iload_n 1, 1) := by decide +kernel
theorem dX6_valueOf_45 : decode cX6_valueOf 45 = .ok (.iconst 5, 1) := by decide +kernel
theorem dX6_valueOf_46 : decode cX6_valueOf 46 = .ok (.invokestatic 34, 3) := by decide +kernel
theorem dX6_valueOf_49 : decode cX6_valueOf 49 = .ok (.iaload, 1) := by decide +kernel
theorem dX6_valueOf_50 : decode cX6_valueOf 50 = .ok (.goto 30, 3) := by decide +kernel
theorem dX6_valueOf_53 : decode cX6_valueOf 53 = .ok (.iload_n 2, 1) := by decide +kernel
theorem dX6_valueOf_54 : decode cX6_valueOf 54 = .ok (.iconst 3, 1) := by decide +kernel
theorem dX6_valueOf_55 : decode cX6_valueOf 55 = .ok (.if_icmp .ne 11, 3) := by decide +kernel
theorem dX6_valueOf_58 : decode cX6_valueOf 58 = .ok (.aload_n 0, 1) := by decide +kernel
theorem dX6_valueOf_59 : decode cX6_valueOf 59 = .ok (.iload_n 1, 1) := by decide +kernel
theorem dX6_valueOf_60 : decode cX6_valueOf 60 = .ok (.invokevirtual 83, 3) := by decide +kernel
theorem dX6_valueOf_63 : decode cX6_valueOf 63 = .ok (.goto 17, 3) := by decide +kernel
theorem dX6_valueOf_66 : decode cX6_valueOf 66 = .ok (.iload_n 2, 1) := by decide +kernel
theorem dX6_valueOf_67 : decode cX6_valueOf 67 = .ok (.iconst 4, 1) := by decide +kernel
theorem dX6_valueOf_68 : decode cX6_valueOf 68 = .ok (.if_icmp .ne 7, 3) := by decide +kernel
theorem dX6_valueOf_71 : decode cX6_valueOf 71 = .ok (.iconst 1, 1) := by decide +kernel
theorem dX6_valueOf_72 : decode cX6_valueOf 72 = .ok (.goto 8, 3) := by decide +kernel
theorem dX6_valueOf_75 : decode cX6_valueOf 75 = .ok (.aload_n 0, 1) := by decide +kernel
theorem dX6_valueOf_76 : decode cX6_valueOf 76 = .ok (.iload_n 1, 1) := by decide +kernel
theorem dX6_valueOf_77 : decode cX6_valueOf 77 = .ok (.invokevirtual 114, 3) := by decide +kernel
theorem dX6_valueOf_80 : decode cX6_valueOf 80 = .ok (.ireturn, 1) := by decide +kernel
set_option maxRecDepth 20000 in
theorem ggX6_totalOf_X6_isBelow : GoodIn wsX6_totalOf wsX6_isBelow := goodIn_r _ [6, 7, 8, 9, 5, 10, 1, 11, 12, 13, 27, 28, 29, 30, 31, 32, 33, 34, 35, 36] (by decide +kernel) (by decide +kernel)
set_option maxRecDepth 20000 in
theorem gX6_totalOf_X6_isBelow : GoodIn wsX6_totalOf (wsV RX6 95 RX6 yX6_isBelow wsX6_isBelow) := goodIn_app (goodIn_of _ (by decide +kernel)) ggX6_totalOf_X6_isBelow
set_option maxRecDepth 20000 in
theorem ggX6_totalOf_X6_valueOf : GoodIn wsX6_totalOf wsX6_valueOf := goodIn_r _ [17, 1, 11, 12, 5, 13, 18, 19, 20, 21, 22, 23, 24, 25, 26, 27, 28, 29, 30, 31, 32, 33, 34, 35, 36] (by decide +kernel) (by decide +kernel)
set_option maxRecDepth 20000 in
theorem gX6_totalOf_X6_valueOf : GoodIn wsX6_totalOf (wsV RX6 126 RX6 yX6_valueOf wsX6_valueOf) := goodIn_app (goodIn_of _ (by decide +kernel)) ggX6_totalOf_X6_valueOf
theorem dX6_totalOf_0 : decode cX6_totalOf 0 = .ok (.iconst 0, 1) := by decide +kernel
theorem dX6_totalOf_1 : decode cX6_totalOf 1 = .ok (.istore_n 3, 1) := by decide +kernel
theorem dX6_totalOf_2 : decode cX6_totalOf 2 = .ok (.iconst 0, 1) := by decide +kernel
theorem dX6_totalOf_3 : decode cX6_totalOf 3 = .ok (.istore 4, 2) := by decide +kernel
theorem dX6_totalOf_5 : decode cX6_totalOf 5 = .ok (.iload 4, 2) := by decide +kernel
theorem dX6_totalOf_7 : decode cX6_totalOf 7 = .ok (.aload_n 0, 1) := by decide +kernel
theorem dX6_totalOf_8 : decode cX6_totalOf 8 = .ok (.getfield 7, 3) := by decide +kernel
theorem dX6_totalOf_11 : decode cX6_totalOf 11 = .ok (.iconst 1, 1) := by decide +kernel
theorem dX6_totalOf_12 : decode cX6_totalOf 12 = .ok (.iaload, 1) := by decide +kernel
theorem dX6_totalOf_13 : decode cX6_totalOf 13 = .ok (.if_icmp .ge 39, 3) := by decide +kernel
theorem dX6_totalOf_16 : decode cX6_totalOf 16 = .ok (.iload_n 3, 1) := by decide +kernel
theorem dX6_totalOf_17 : decode cX6_totalOf 17 = .ok (.iload 4, 2) := by decide +kernel
theorem dX6_totalOf_19 : decode cX6_totalOf 19 = .ok (.iload_n 1, 1) := by decide +kernel
theorem dX6_totalOf_20 : decode cX6_totalOf 20 = .ok (.if_icmp .eq 13, 3) := by decide +kernel
theorem dX6_totalOf_23 : decode cX6_totalOf 23 = .ok (.aload_n 0, 1) := by decide +kernel
theorem dX6_totalOf_24 : decode cX6_totalOf 24 = .ok (.iload 4, 2) := by decide +kernel
theorem dX6_totalOf_26 : decode cX6_totalOf 26 = .ok (.iload_n 1, 1) := by decide +kernel
theorem dX6_totalOf_27 : decode cX6_totalOf 27 = .ok (.invokevirtual 95, 3) := by decide +kernel
theorem dX6_totalOf_30 : decode cX6_totalOf 30 = .ok (.ifCond .eq 13, 3) := by decide +kernel
theorem dX6_totalOf_33 : decode cX6_totalOf 33 = .ok (.aload_n 0, 1) := by decide +kernel
theorem dX6_totalOf_34 : decode cX6_totalOf 34 = .ok (.iload 4, 2) := by decide +kernel
theorem dX6_totalOf_36 : decode cX6_totalOf 36 = .ok (.iload_n 2, 1) := by decide +kernel
theorem dX6_totalOf_37 : decode cX6_totalOf 37 = .ok (.invokevirtual 126, 3) := by decide +kernel
theorem dX6_totalOf_40 : decode cX6_totalOf 40 = .ok (.goto 4, 3) := by decide +kernel
theorem dX6_totalOf_43 : decode cX6_totalOf 43 = .ok (.iconst 0, 1) := by decide +kernel
theorem dX6_totalOf_44 : decode cX6_totalOf 44 = .ok (.iadd, 1) := by decide +kernel
theorem dX6_totalOf_45 : decode cX6_totalOf 45 = .ok (.istore_n 3, 1) := by decide +kernel
theorem dX6_totalOf_46 : decode cX6_totalOf 46 = .ok (.iinc 4 1, 3) := by decide +kernel
theorem dX6_totalOf_49 : decode cX6_totalOf 49 = .ok (.goto (-44), 3) := by decide +kernel
theorem dX6_totalOf_52 : decode cX6_totalOf 52 = .ok (.iload_n 3, 1) := by decide +kernel
theorem dX6_totalOf_53 : decode cX6_totalOf 53 = .ok (.ireturn, 1) := by decide +kernel
set_option maxRecDepth 20000 in
theorem ggX6_total_X6_isHead : GoodIn wsX6_total wsX6_isHead := goodIn_r _ [5, 6, 7, 8, 4, 9, 38, 39, 40, 41, 42, 43, 44, 45, 46, 47] (by decide +kernel) (by decide +kernel)
set_option maxRecDepth 20000 in
theorem gX6_total_X6_isHead : GoodIn wsX6_total (wsV RX6 65 RX6 yX6_isHead wsX6_isHead) := goodIn_app (goodIn_of _ (by decide +kernel)) ggX6_total_X6_isHead
set_option maxRecDepth 20000 in
theorem ggX6_total_X6_in : GoodIn wsX6_total wsX6_in := goodIn_r _ [9] (by decide +kernel) (by decide +kernel)
set_option maxRecDepth 20000 in
theorem gX6_total_X6_in : GoodIn wsX6_total (va_wsS RX6 38 yX6_in wsX6_in) := goodIn_app (goodIn_of _ (by decide +kernel)) ggX6_total_X6_in
set_option maxRecDepth 20000 in
theorem ggX6_total_X6_totalOf : GoodIn wsX6_total wsX6_totalOf := goodIn_r _ [13, 6, 14, 15, 16, 4, 17, 18, 19, 20, 21, 22, 23, 24, 25, 26, 27, 28, 29, 30, 31, 32, 33, 34, 35, 36, 37, 38, 39, 40, 41, 42, 43, 44, 45, 46, 47] (by decide +kernel) (by decide +kernel)
set_option maxRecDepth 20000 in
theorem gX6_total_X6_totalOf : GoodIn wsX6_total (wsV RX6 129 RX6 yX6_totalOf wsX6_totalOf) := goodIn_app (goodIn_of _ (by decide +kernel)) ggX6_total_X6_totalOf
theorem dX6_total_0 : decode cX6_total 0 = .ok (.aload_n 0, 1) := by decide +kernel
theorem dX6_total_1 : decode cX6_total 1 = .ok (.iload_n 1, 1) := by decide +kernel
theorem dX6_total_2 : decode cX6_total 2 = .ok (.invokevirtual 65, 3) := by decide +kernel
theorem dX6_total_5 : decode cX6_total 5 = .ok (.ifCond .eq 21, 3) := by decide +kernel
theorem dX6_total_8 : decode cX6_total 8 = .ok (.iload_n 2, 1) := by decide +kernel
theorem dX6_total_9 : decode cX6_total 9 = .ok (.iconst 0, 1) := by decide +kernel
theorem dX6_total_10 : decode cX6_total 10 = .ok (.iconst 4, 1) := by decide +kernel
theorem dX6_total_11 : decode cX6_total 11 = .ok (.invokestatic 38, 3) := by decide +kernel
theorem dX6_total_14 : decode cX6_total 14 = .ok (.ifCond .eq 12, 3) := by decide +kernel
theorem dX6_total_17 : decode cX6_total 17 = .ok (.aload_n 0, 1) := by decide +kernel
theorem dX6_total_18 : decode cX6_total 18 = .ok (.iload_n 1, 1) := by decide +kernel
theorem dX6_total_19 : decode cX6_total 19 = .ok (.iload_n 2, 1) := by decide +kernel
theorem dX6_total_20 : decode cX6_total 20 = .ok (.invokevirtual 129, 3) := by decide +kernel
theorem dX6_total_23 : decode cX6_total 23 = .ok (.goto 4, 3) := by decide +kernel
theorem dX6_total_26 : decode cX6_total 26 = .ok (.iconst (-1), 1) := by decide +kernel
theorem dX6_total_27 : decode cX6_total 27 = .ok (.ireturn, 1) := by decide +kernel
set_option maxRecDepth 20000 in
theorem ggX6_commitment_X6_isCommitment : GoodIn wsX6_commitment wsX6_isCommitment := goodIn_r _ [6, 1, 7, 8, 5, 9, 13, 14, 15, 16, 17, 18, 19, 20, 21, 22] (by decide +kernel) (by decide +kernel)
set_option maxRecDepth 20000 in
theorem gX6_commitment_X6_isCommitment : GoodIn wsX6_commitment (wsV RX6 89 RX6 yX6_isCommitment wsX6_isCommitment) := goodIn_app (goodIn_of _ (by decide +kernel)) ggX6_commitment_X6_isCommitment
set_option maxRecDepth 20000 in
theorem ggX6_commitment_X6_in : GoodIn wsX6_commitment wsX6_in := goodIn_r _ [9] (by decide +kernel) (by decide +kernel)
set_option maxRecDepth 20000 in
theorem gX6_commitment_X6_in : GoodIn wsX6_commitment (va_wsS RX6 38 yX6_in wsX6_in) := goodIn_app (goodIn_of _ (by decide +kernel)) ggX6_commitment_X6_in
set_option maxRecDepth 20000 in
theorem ggX6_commitment_X6_ofCommitment : GoodIn wsX6_commitment wsX6_ofCommitment := goodIn_r _ [12] (by decide +kernel) (by decide +kernel)
set_option maxRecDepth 20000 in
theorem gX6_commitment_X6_ofCommitment : GoodIn wsX6_commitment (va_wsS RX6 86 yX6_ofCommitment wsX6_ofCommitment) := goodIn_app (goodIn_of _ (by decide +kernel)) ggX6_commitment_X6_ofCommitment
theorem dX6_commitment_0 : decode cX6_commitment 0 = .ok (.aload_n 0, 1) := by decide +kernel
theorem dX6_commitment_1 : decode cX6_commitment 1 = .ok (.iload_n 1, 1) := by decide +kernel
theorem dX6_commitment_2 : decode cX6_commitment 2 = .ok (.invokevirtual 89, 3) := by decide +kernel
theorem dX6_commitment_5 : decode cX6_commitment 5 = .ok (.ifCond .eq 25, 3) := by decide +kernel
theorem dX6_commitment_8 : decode cX6_commitment 8 = .ok (.iload_n 2, 1) := by decide +kernel
theorem dX6_commitment_9 : decode cX6_commitment 9 = .ok (.iconst 0, 1) := by decide +kernel
theorem dX6_commitment_10 : decode cX6_commitment 10 = .ok (.iconst 3, 1) := by decide +kernel
theorem dX6_commitment_11 : decode cX6_commitment 11 = .ok (.invokestatic 38, 3) := by decide +kernel
theorem dX6_commitment_14 : decode cX6_commitment 14 = .ok (.ifCond .eq 16, 3) := by decide +kernel
theorem dX6_commitment_17 : decode cX6_commitment 17 = .ok (.aload_n 0, 1) := by decide +kernel
theorem dX6_commitment_18 : decode cX6_commitment 18 = .ok (.getfield 7, 3) := by decide +kernel
theorem dX6_commitment_21 : decode cX6_commitment 21 = .ok (.iload_n 1, 1) := by decide +kernel
theorem dX6_commitment_22 : decode cX6_commitment 22 = .ok (.iload_n 2, 1) := by decide +kernel
theorem dX6_commitment_23 : decode cX6_commitment 23 = .ok (.invokestatic 86, 3) := by decide +kernel
theorem dX6_commitment_26 : decode cX6_commitment 26 = .ok (.iaload, 1) := by decide +kernel
theorem dX6_commitment_27 : decode cX6_commitment 27 = .ok (.goto 4, 3) := by decide +kernel
theorem dX6_commitment_30 : decode cX6_commitment 30 = .ok (.iconst (-1), 1) := by decide +kernel
theorem dX6_commitment_31 : decode cX6_commitment 31 = .ok (.ireturn, 1) := by decide +kernel
set_option maxRecDepth 20000 in
theorem ggX6_mostOf_X6_isAllowed : GoodIn wsX6_mostOf wsX6_isAllowed := goodIn_r _ [6, 7, 8, 9, 10, 5, 11, 12, 13, 14, 15, 16, 17, 18, 19, 20, 21, 22, 32, 33, 34, 35, 36, 37, 38, 39, 40, 41] (by decide +kernel) (by decide +kernel)
set_option maxRecDepth 20000 in
theorem gX6_mostOf_X6_isAllowed : GoodIn wsX6_mostOf (wsV RX6 104 RX6 yX6_isAllowed wsX6_isAllowed) := goodIn_app (goodIn_of _ (by decide +kernel)) ggX6_mostOf_X6_isAllowed
set_option maxRecDepth 20000 in
theorem ggX6_mostOf_X6_free : GoodIn wsX6_mostOf wsX6_free := goodIn_r _ [26, 7, 16, 17, 5, 18, 32, 33, 34, 35, 36, 37, 38, 39, 40, 41] (by decide +kernel) (by decide +kernel)
set_option maxRecDepth 20000 in
theorem gX6_mostOf_X6_free : GoodIn wsX6_mostOf (wsV RX6 83 RX6 yX6_free wsX6_free) := goodIn_app (goodIn_of _ (by decide +kernel)) ggX6_mostOf_X6_free
set_option maxRecDepth 20000 in
theorem ggX6_mostOf_X6_leaveOf : GoodIn wsX6_mostOf wsX6_leaveOf := goodIn_r _ [30, 7, 31, 16, 17, 5, 18, 32, 33, 34, 35, 36, 37, 38, 39, 40, 41] (by decide +kernel) (by decide +kernel)
set_option maxRecDepth 20000 in
theorem gX6_mostOf_X6_leaveOf : GoodIn wsX6_mostOf (wsV RX6 107 RX6 yX6_leaveOf wsX6_leaveOf) := goodIn_app (goodIn_of _ (by decide +kernel)) ggX6_mostOf_X6_leaveOf
theorem dX6_mostOf_0 : decode cX6_mostOf 0 = .ok (.aload_n 0, 1) := by decide +kernel
theorem dX6_mostOf_1 : decode cX6_mostOf 1 = .ok (.iload_n 1, 1) := by decide +kernel
theorem dX6_mostOf_2 : decode cX6_mostOf 2 = .ok (.iload_n 2, 1) := by decide +kernel
theorem dX6_mostOf_3 : decode cX6_mostOf 3 = .ok (.invokevirtual 104, 3) := by decide +kernel
theorem dX6_mostOf_6 : decode cX6_mostOf 6 = .ok (.ifCond .ne 5, 3) := by decide +kernel
theorem dX6_mostOf_9 : decode cX6_mostOf 9 = .ok (.iconst 0, 1) := by decide +kernel
theorem dX6_mostOf_10 : decode cX6_mostOf 10 = .ok (.ireturn, 1) := by decide +kernel
theorem dX6_mostOf_11 : decode cX6_mostOf 11 = .ok (.aload_n 0, 1) := by decide +kernel
theorem dX6_mostOf_12 : decode cX6_mostOf 12 = .ok (.iload_n 1, 1) := by decide +kernel
theorem dX6_mostOf_13 : decode cX6_mostOf 13 = .ok (.invokevirtual 83, 3) := by decide +kernel
theorem dX6_mostOf_16 : decode cX6_mostOf 16 = .ok (.aload_n 0, 1) := by decide +kernel
theorem dX6_mostOf_17 : decode cX6_mostOf 17 = .ok (.iload_n 1, 1) := by decide +kernel
theorem dX6_mostOf_18 : decode cX6_mostOf 18 = .ok (.invokevirtual 107, 3) := by decide +kernel
theorem dX6_mostOf_21 : decode cX6_mostOf 21 = .ok (.if_icmp .ge 11, 3) := by decide +kernel
theorem dX6_mostOf_24 : decode cX6_mostOf 24 = .ok (.aload_n 0, 1) := by decide +kernel
theorem dX6_mostOf_25 : decode cX6_mostOf 25 = .ok (.iload_n 1, 1) := by decide +kernel
theorem dX6_mostOf_26 : decode cX6_mostOf 26 = .ok (.invokevirtual 83, 3) := by decide +kernel
theorem dX6_mostOf_29 : decode cX6_mostOf 29 = .ok (.goto 8, 3) := by decide +kernel
theorem dX6_mostOf_32 : decode cX6_mostOf 32 = .ok (.aload_n 0, 1) := by decide +kernel
theorem dX6_mostOf_33 : decode cX6_mostOf 33 = .ok (.iload_n 1, 1) := by decide +kernel
theorem dX6_mostOf_34 : decode cX6_mostOf 34 = .ok (.invokevirtual 107, 3) := by decide +kernel
theorem dX6_mostOf_37 : decode cX6_mostOf 37 = .ok (.istore_n 3, 1) := by decide +kernel
theorem dX6_mostOf_38 : decode cX6_mostOf 38 = .ok (.iload_n 3, 1) := by decide +kernel
theorem dX6_mostOf_39 : decode cX6_mostOf 39 = .ok (.ifCond .ge 7, 3) := by decide +kernel
theorem dX6_mostOf_42 : decode cX6_mostOf 42 = .ok (.iconst 0, 1) := by decide +kernel
theorem dX6_mostOf_43 : decode cX6_mostOf 43 = .ok (.goto 15, 3) := by decide +kernel
theorem dX6_mostOf_46 : decode cX6_mostOf 46 = .ok (.iload_n 3, 1) := by decide +kernel
theorem dX6_mostOf_47 : decode cX6_mostOf 47 = .ok (.ldc 42, 2) := by decide +kernel
theorem dX6_mostOf_49 : decode cX6_mostOf 49 = .ok (.if_icmp .ge 7, 3) := by decide +kernel
theorem dX6_mostOf_52 : decode cX6_mostOf 52 = .ok (.iload_n 3, 1) := by decide +kernel
theorem dX6_mostOf_53 : decode cX6_mostOf 53 = .ok (.goto 5, 3) := by decide +kernel
theorem dX6_mostOf_56 : decode cX6_mostOf 56 = .ok (.ldc 42, 2) := by decide +kernel
theorem dX6_mostOf_58 : decode cX6_mostOf 58 = .ok (.ireturn, 1) := by decide +kernel
set_option maxRecDepth 20000 in
theorem ggX6_mostFrom_X6_areTwo : GoodIn wsX6_mostFrom wsX6_areTwo := goodIn_r _ [5, 6, 7, 8, 4, 9, 10, 11, 12, 13, 47, 48, 49, 50, 51, 52, 53, 54, 55, 56] (by decide +kernel) (by decide +kernel)
set_option maxRecDepth 20000 in
theorem gX6_mostFrom_X6_areTwo : GoodIn wsX6_mostFrom (wsV RX6 101 RX6 yX6_areTwo wsX6_areTwo) := goodIn_app (goodIn_of _ (by decide +kernel)) ggX6_mostFrom_X6_areTwo
set_option maxRecDepth 20000 in
theorem ggX6_mostFrom_X6_mostOf : GoodIn wsX6_mostFrom wsX6_mostOf := goodIn_r _ [17, 18, 19, 20, 21, 4, 22, 10, 23, 24, 25, 26, 27, 28, 29, 30, 31, 32, 33, 34, 35, 36, 37, 38, 39, 40, 41, 42, 43, 44, 45, 46, 47, 48, 49, 50, 51, 52, 53, 54, 55, 56] (by decide +kernel) (by decide +kernel)
set_option maxRecDepth 20000 in
theorem gX6_mostFrom_X6_mostOf : GoodIn wsX6_mostFrom (wsV RX6 132 RX6 yX6_mostOf wsX6_mostOf) := goodIn_app (goodIn_of _ (by decide +kernel)) ggX6_mostFrom_X6_mostOf
theorem dX6_mostFrom_0 : decode cX6_mostFrom 0 = .ok (.aload_n 0, 1) := by decide +kernel
theorem dX6_mostFrom_1 : decode cX6_mostFrom 1 = .ok (.iload_n 1, 1) := by decide +kernel
theorem dX6_mostFrom_2 : decode cX6_mostFrom 2 = .ok (.iload_n 2, 1) := by decide +kernel
theorem dX6_mostFrom_3 : decode cX6_mostFrom 3 = .ok (.invokevirtual 101, 3) := by decide +kernel
theorem dX6_mostFrom_6 : decode cX6_mostFrom 6 = .ok (.ifCond .eq 12, 3) := by decide +kernel
theorem dX6_mostFrom_9 : decode cX6_mostFrom 9 = .ok (.aload_n 0, 1) := by decide +kernel
theorem dX6_mostFrom_10 : decode cX6_mostFrom 10 = .ok (.iload_n 1, 1) := by decide +kernel
theorem dX6_mostFrom_11 : decode cX6_mostFrom 11 = .ok (.iload_n 2, 1) := by decide +kernel
theorem dX6_mostFrom_12 : decode cX6_mostFrom 12 = .ok (.invokevirtual 132, 3) := by decide +kernel
theorem dX6_mostFrom_15 : decode cX6_mostFrom 15 = .ok (.goto 4, 3) := by decide +kernel
theorem dX6_mostFrom_18 : decode cX6_mostFrom 18 = .ok (.iconst (-1), 1) := by decide +kernel
theorem dX6_mostFrom_19 : decode cX6_mostFrom 19 = .ok (.ireturn, 1) := by decide +kernel
set_option maxRecDepth 20000 in
theorem ggX6_bestGiver_X6_isHead : GoodIn wsX6_bestGiver wsX6_isHead := goodIn_r _ [6, 1, 7, 8, 5, 9, 43, 44, 45, 46, 47, 48, 49, 50, 51, 52] (by decide +kernel) (by decide +kernel)
set_option maxRecDepth 20000 in
theorem gX6_bestGiver_X6_isHead : GoodIn wsX6_bestGiver (wsV RX6 65 RX6 yX6_isHead wsX6_isHead) := goodIn_app (goodIn_of _ (by decide +kernel)) ggX6_bestGiver_X6_isHead
set_option maxRecDepth 20000 in
theorem ggX6_bestGiver_X6_mostOf : GoodIn wsX6_bestGiver wsX6_mostOf := goodIn_r _ [13, 14, 15, 16, 17, 5, 18, 1, 19, 20, 21, 22, 23, 24, 25, 26, 27, 28, 29, 30, 31, 32, 33, 34, 35, 36, 37, 38, 39, 40, 41, 42, 43, 44, 45, 46, 47, 48, 49, 50, 51, 52] (by decide +kernel) (by decide +kernel)
set_option maxRecDepth 20000 in
theorem gX6_bestGiver_X6_mostOf : GoodIn wsX6_bestGiver (wsV RX6 132 RX6 yX6_mostOf wsX6_mostOf) := goodIn_app (goodIn_of _ (by decide +kernel)) ggX6_bestGiver_X6_mostOf
set_option maxRecDepth 20000 in
theorem ggX6_bestGiver_X6_of : GoodIn wsX6_bestGiver wsX6_of := goodIn_r _ [29] (by decide +kernel) (by decide +kernel)
set_option maxRecDepth 20000 in
theorem gX6_bestGiver_X6_of : GoodIn wsX6_bestGiver (va_wsS RX6 34 yX6_of wsX6_of) := goodIn_app (goodIn_of _ (by decide +kernel)) ggX6_bestGiver_X6_of
theorem dX6_bestGiver_0 : decode cX6_bestGiver 0 = .ok (.aload_n 0, 1) := by decide +kernel
theorem dX6_bestGiver_1 : decode cX6_bestGiver 1 = .ok (.iload_n 1, 1) := by decide +kernel
theorem dX6_bestGiver_2 : decode cX6_bestGiver 2 = .ok (.invokevirtual 65, 3) := by decide +kernel
theorem dX6_bestGiver_5 : decode cX6_bestGiver 5 = .ok (.ifCond .ne 5, 3) := by decide +kernel
theorem dX6_bestGiver_8 : decode cX6_bestGiver 8 = .ok (.iconst (-1), 1) := by decide +kernel
theorem dX6_bestGiver_9 : decode cX6_bestGiver 9 = .ok (.ireturn, 1) := by decide +kernel
theorem dX6_bestGiver_10 : decode cX6_bestGiver 10 = .ok (.bipush (-9), 2) := by decide +kernel
theorem dX6_bestGiver_12 : decode cX6_bestGiver 12 = .ok (.istore_n 2, 1) := by decide +kernel
theorem dX6_bestGiver_13 : decode cX6_bestGiver 13 = .ok (.iconst 0, 1) := by decide +kernel
theorem dX6_bestGiver_14 : decode cX6_bestGiver 14 = .ok (.istore_n 3, 1) := by decide +kernel
theorem dX6_bestGiver_15 : decode cX6_bestGiver 15 = .ok (.iconst 0, 1) := by decide +kernel
theorem dX6_bestGiver_16 : decode cX6_bestGiver 16 = .ok (.istore 4, 2) := by decide +kernel
theorem dX6_bestGiver_18 : decode cX6_bestGiver 18 = .ok (.iload 4, 2) := by decide +kernel
theorem dX6_bestGiver_20 : decode cX6_bestGiver 20 = .ok (.aload_n 0, 1) := by decide +kernel
theorem dX6_bestGiver_21 : decode cX6_bestGiver 21 = .ok (.getfield 7, 3) := by decide +kernel
theorem dX6_bestGiver_24 : decode cX6_bestGiver 24 = .ok (.iconst 1, 1) := by decide +kernel
theorem dX6_bestGiver_25 : decode cX6_bestGiver 25 = .ok (.iaload, 1) := by decide +kernel
theorem dX6_bestGiver_26 : decode cX6_bestGiver 26 = .ok (.if_icmp .ge 100, 3) := by decide +kernel
theorem dX6_bestGiver_29 : decode cX6_bestGiver 29 = .ok (.iload 4, 2) := by decide +kernel
theorem dX6_bestGiver_31 : decode cX6_bestGiver 31 = .ok (.iload_n 1, 1) := by decide +kernel
theorem dX6_bestGiver_32 : decode cX6_bestGiver 32 = .ok (.if_icmp .ne 7, 3) := by decide +kernel
theorem dX6_bestGiver_35 : decode cX6_bestGiver 35 = .ok (.iconst 0, 1) := by decide +kernel
theorem dX6_bestGiver_36 : decode cX6_bestGiver 36 = .ok (.goto 10, 3) := by decide +kernel
theorem dX6_bestGiver_39 : decode cX6_bestGiver 39 = .ok (.aload_n 0, 1) := by decide +kernel
theorem dX6_bestGiver_40 : decode cX6_bestGiver 40 = .ok (.iload 4, 2) := by decide +kernel
theorem dX6_bestGiver_42 : decode cX6_bestGiver 42 = .ok (.iload_n 1, 1) := by decide +kernel
theorem dX6_bestGiver_43 : decode cX6_bestGiver 43 = .ok (.invokevirtual 132, 3) := by decide +kernel
theorem dX6_bestGiver_46 : decode cX6_bestGiver 46 = .ok (.istore 5, 2) := by decide +kernel
theorem dX6_bestGiver_48 : decode cX6_bestGiver 48 = .ok (.iload 5, 2) := by decide +kernel
theorem dX6_bestGiver_50 : decode cX6_bestGiver 50 = .ok (.iload_n 3, 1) := by decide +kernel
theorem dX6_bestGiver_51 : decode cX6_bestGiver 51 = .ok (.if_icmp .gt 38, 3) := by decide +kernel
theorem dX6_bestGiver_54 : decode cX6_bestGiver 54 = .ok (.iload 5, 2) := by decide +kernel
theorem dX6_bestGiver_56 : decode cX6_bestGiver 56 = .ok (.ifCond .le 37, 3) := by decide +kernel
theorem dX6_bestGiver_59 : decode cX6_bestGiver 59 = .ok (.iload 5, 2) := by decide +kernel
theorem dX6_bestGiver_61 : decode cX6_bestGiver 61 = .ok (.iload_n 3, 1) := by decide +kernel
theorem dX6_bestGiver_62 : decode cX6_bestGiver 62 = .ok (.if_icmp .ne 31, 3) := by decide +kernel
theorem dX6_bestGiver_65 : decode cX6_bestGiver 65 = .ok (.aload_n 0, 1) := by decide +kernel
theorem dX6_bestGiver_66 : decode cX6_bestGiver 66 = .ok (.getfield 7, 3) := by decide +kernel
theorem dX6_bestGiver_69 : decode cX6_bestGiver 69 = .ok (.iload 4, 2) := by decide +kernel
theorem dX6_bestGiver_71 : decode cX6_bestGiver 71 = .ok (.iconst 1, 1) := by decide +kernel
theorem dX6_bestGiver_72 : decode cX6_bestGiver 72 = .ok (.invokestatic 34, 3) := by decide +kernel
theorem dX6_bestGiver_75 : decode cX6_bestGiver 75 = .ok (.iaload, 1) := by decide +kernel
theorem dX6_bestGiver_76 : decode cX6_bestGiver 76 = .ok (.aload_n 0, 1) := by decide +kernel
theorem dX6_bestGiver_77 : decode cX6_bestGiver 77 = .ok (.getfield 7, 3) := by decide +kernel
theorem dX6_bestGiver_80 : decode cX6_bestGiver 80 = .ok (.iload_n 2, 1) := by decide +kernel
theorem dX6_bestGiver_81 : decode cX6_bestGiver 81 = .ok (.iconst 1, 1) := by decide +kernel
theorem dX6_bestGiver_82 : decode cX6_bestGiver 82 = .ok (.invokestatic 34, 3) := by decide +kernel
theorem dX6_bestGiver_85 : decode cX6_bestGiver 85 = .ok (.iaload, 1) := by decide +kernel
theorem dX6_bestGiver_86 : decode cX6_bestGiver 86 = .ok (.if_icmp .le 7, 3) := by decide +kernel
theorem dX6_bestGiver_89 : decode cX6_bestGiver 89 = .ok (.iconst 1, 1) := by decide +kernel
theorem dX6_bestGiver_90 : decode cX6_bestGiver 90 = .ok (.goto 4, 3) := by decide +kernel
theorem dX6_bestGiver_93 : decode cX6_bestGiver 93 = .ok (.iconst 0, 1) := by decide +kernel
theorem dX6_bestGiver_94 : decode cX6_bestGiver 94 = .ok (.istore 6, 2) := by decide +kernel
theorem dX6_bestGiver_96 : decode cX6_bestGiver 96 = .ok (.iload 6, 2) := by decide +kernel
theorem dX6_bestGiver_98 : decode cX6_bestGiver 98 = .ok (.ifCond .eq 8, 3) := by decide +kernel
theorem dX6_bestGiver_101 : decode cX6_bestGiver 101 = .ok (.iload 4, 2) := by decide +kernel
theorem dX6_bestGiver_103 : decode cX6_bestGiver 103 = .ok (.goto 4, 3) := by decide +kernel
theorem dX6_bestGiver_106 : decode cX6_bestGiver 106 = .ok (.iload_n 2, 1) := by decide +kernel
theorem dX6_bestGiver_107 : decode cX6_bestGiver 107 = .ok (.istore_n 2, 1) := by decide +kernel
theorem dX6_bestGiver_108 : decode cX6_bestGiver 108 = .ok (.iload 6, 2) := by decide +kernel
theorem dX6_bestGiver_110 : decode cX6_bestGiver 110 = .ok (.ifCond .eq 8, 3) := by decide +kernel
theorem dX6_bestGiver_113 : decode cX6_bestGiver 113 = .ok (.iload 5, 2) := by decide +kernel
theorem dX6_bestGiver_115 : decode cX6_bestGiver 115 = .ok (.goto 4, 3) := by decide +kernel
theorem dX6_bestGiver_118 : decode cX6_bestGiver 118 = .ok (.iload_n 3, 1) := by decide +kernel
theorem dX6_bestGiver_119 : decode cX6_bestGiver 119 = .ok (.istore_n 3, 1) := by decide +kernel
theorem dX6_bestGiver_120 : decode cX6_bestGiver 120 = .ok (.iinc 4 1, 3) := by decide +kernel
theorem dX6_bestGiver_123 : decode cX6_bestGiver 123 = .ok (.goto (-105), 3) := by decide +kernel
theorem dX6_bestGiver_126 : decode cX6_bestGiver 126 = .ok (.iload_n 2, 1) := by decide +kernel
theorem dX6_bestGiver_127 : decode cX6_bestGiver 127 = .ok (.ireturn, 1) := by decide +kernel
set_option maxRecDepth 20000 in
theorem ggX6_isRicher_X6_free : GoodIn wsX6_isRicher wsX6_free := goodIn_r _ [6, 1, 7, 8, 5, 9, 10, 11, 12, 13, 14, 15, 16, 17, 18, 19] (by decide +kernel) (by decide +kernel)
set_option maxRecDepth 20000 in
theorem gX6_isRicher_X6_free : GoodIn wsX6_isRicher (wsV RX6 83 RX6 yX6_free wsX6_free) := goodIn_app (goodIn_of _ (by decide +kernel)) ggX6_isRicher_X6_free
set_option maxRecDepth 20000 in
theorem ggX6_isRicher_X6_of : GoodIn wsX6_isRicher wsX6_of := goodIn_r _ [9] (by decide +kernel) (by decide +kernel)
set_option maxRecDepth 20000 in
theorem gX6_isRicher_X6_of : GoodIn wsX6_isRicher (va_wsS RX6 34 yX6_of wsX6_of) := goodIn_app (goodIn_of _ (by decide +kernel)) ggX6_isRicher_X6_of
theorem dX6_isRicher_0 : decode cX6_isRicher 0 = .ok (.aload_n 0, 1) := by decide +kernel
theorem dX6_isRicher_1 : decode cX6_isRicher 1 = .ok (.iload_n 1, 1) := by decide +kernel
theorem dX6_isRicher_2 : decode cX6_isRicher 2 = .ok (.invokevirtual 83, 3) := by decide +kernel
theorem dX6_isRicher_5 : decode cX6_isRicher 5 = .ok (.aload_n 0, 1) := by decide +kernel
theorem dX6_isRicher_6 : decode cX6_isRicher 6 = .ok (.iload_n 2, 1) := by decide +kernel
theorem dX6_isRicher_7 : decode cX6_isRicher 7 = .ok (.invokevirtual 83, 3) := by decide +kernel
theorem dX6_isRicher_10 : decode cX6_isRicher 10 = .ok (.isub, 1) := by decide +kernel
theorem dX6_isRicher_11 : decode cX6_isRicher 11 = .ok (.istore_n 3, 1) := by decide +kernel
theorem dX6_isRicher_12 : decode cX6_isRicher 12 = .ok (.aload_n 0, 1) := by decide +kernel
theorem dX6_isRicher_13 : decode cX6_isRicher 13 = .ok (.getfield 7, 3) := by decide +kernel
theorem dX6_isRicher_16 : decode cX6_isRicher 16 = .ok (.iload_n 1, 1) := by decide +kernel
theorem dX6_isRicher_17 : decode cX6_isRicher 17 = .ok (.iconst 1, 1) := by decide +kernel
theorem dX6_isRicher_18 : decode cX6_isRicher 18 = .ok (.invokestatic 34, 3) := by decide +kernel
theorem dX6_isRicher_21 : decode cX6_isRicher 21 = .ok (.iaload, 1) := by decide +kernel
theorem dX6_isRicher_22 : decode cX6_isRicher 22 = .ok (.aload_n 0, 1) := by decide +kernel
theorem dX6_isRicher_23 : decode cX6_isRicher 23 = .ok (.getfield 7, 3) := by decide +kernel
theorem dX6_isRicher_26 : decode cX6_isRicher 26 = .ok (.iload_n 2, 1) := by decide +kernel
theorem dX6_isRicher_27 : decode cX6_isRicher 27 = .ok (.iconst 1, 1) := by decide +kernel
theorem dX6_isRicher_28 : decode cX6_isRicher 28 = .ok (.invokestatic 34, 3) := by decide +kernel
theorem dX6_isRicher_31 : decode cX6_isRicher 31 = .ok (.iaload, 1) := by decide +kernel
theorem dX6_isRicher_32 : decode cX6_isRicher 32 = .ok (.isub, 1) := by decide +kernel
theorem dX6_isRicher_33 : decode cX6_isRicher 33 = .ok (.istore 4, 2) := by decide +kernel
theorem dX6_isRicher_35 : decode cX6_isRicher 35 = .ok (.iload_n 3, 1) := by decide +kernel
theorem dX6_isRicher_36 : decode cX6_isRicher 36 = .ok (.ifCond .gt 22, 3) := by decide +kernel
theorem dX6_isRicher_39 : decode cX6_isRicher 39 = .ok (.iload_n 3, 1) := by decide +kernel
theorem dX6_isRicher_40 : decode cX6_isRicher 40 = .ok (.ifCond .ne 22, 3) := by decide +kernel
theorem dX6_isRicher_43 : decode cX6_isRicher 43 = .ok (.iload 4, 2) := by decide +kernel
theorem dX6_isRicher_45 : decode cX6_isRicher 45 = .ok (.ifCond .gt 13, 3) := by decide +kernel
theorem dX6_isRicher_48 : decode cX6_isRicher 48 = .ok (.iload 4, 2) := by decide +kernel
theorem dX6_isRicher_50 : decode cX6_isRicher 50 = .ok (.ifCond .ne 12, 3) := by decide +kernel
theorem dX6_isRicher_53 : decode cX6_isRicher 53 = .ok (.iload_n 1, 1) := by decide +kernel
theorem dX6_isRicher_54 : decode cX6_isRicher 54 = .ok (.iload_n 2, 1) := by decide +kernel
theorem dX6_isRicher_55 : decode cX6_isRicher 55 = .ok (.if_icmp .ge 7, 3) := by decide +kernel
theorem dX6_isRicher_58 : decode cX6_isRicher 58 = .ok (.iconst 1, 1) := by decide +kernel
theorem dX6_isRicher_59 : decode cX6_isRicher 59 = .ok (.goto 4, 3) := by decide +kernel
theorem dX6_isRicher_62 : decode cX6_isRicher 62 = .ok (.iconst 0, 1) := by decide +kernel
theorem dX6_isRicher_63 : decode cX6_isRicher 63 = .ok (.ireturn, 1) := by decide +kernel
set_option maxRecDepth 20000 in
theorem ggX6_richest_X6_isHead : GoodIn wsX6_richest wsX6_isHead := goodIn_r _ [6, 1, 7, 8, 5, 9, 29, 30, 31, 32, 33, 34, 35, 36, 37, 38] (by decide +kernel) (by decide +kernel)
set_option maxRecDepth 20000 in
theorem gX6_richest_X6_isHead : GoodIn wsX6_richest (wsV RX6 65 RX6 yX6_isHead wsX6_isHead) := goodIn_app (goodIn_of _ (by decide +kernel)) ggX6_richest_X6_isHead
set_option maxRecDepth 20000 in
theorem ggX6_richest_X6_isBelow : GoodIn wsX6_richest wsX6_isBelow := goodIn_r _ [13, 14, 15, 16, 5, 17, 1, 18, 19, 20, 29, 30, 31, 32, 33, 34, 35, 36, 37, 38] (by decide +kernel) (by decide +kernel)
set_option maxRecDepth 20000 in
theorem gX6_richest_X6_isBelow : GoodIn wsX6_richest (wsV RX6 95 RX6 yX6_isBelow wsX6_isBelow) := goodIn_app (goodIn_of _ (by decide +kernel)) ggX6_richest_X6_isBelow
set_option maxRecDepth 20000 in
theorem ggX6_richest_X6_isRicher : GoodIn wsX6_richest wsX6_isRicher := goodIn_r _ [24, 1, 25, 26, 27, 5, 28, 18, 19, 20, 29, 30, 31, 32, 33, 34, 35, 36, 37, 38] (by decide +kernel) (by decide +kernel)
set_option maxRecDepth 20000 in
theorem gX6_richest_X6_isRicher : GoodIn wsX6_richest (wsV RX6 135 RX6 yX6_isRicher wsX6_isRicher) := goodIn_app (goodIn_of _ (by decide +kernel)) ggX6_richest_X6_isRicher
theorem dX6_richest_0 : decode cX6_richest 0 = .ok (.aload_n 0, 1) := by decide +kernel
theorem dX6_richest_1 : decode cX6_richest 1 = .ok (.iload_n 1, 1) := by decide +kernel
theorem dX6_richest_2 : decode cX6_richest 2 = .ok (.invokevirtual 65, 3) := by decide +kernel
theorem dX6_richest_5 : decode cX6_richest 5 = .ok (.ifCond .eq 7, 3) := by decide +kernel
theorem dX6_richest_8 : decode cX6_richest 8 = .ok (.iload_n 2, 1) := by decide +kernel
theorem dX6_richest_9 : decode cX6_richest 9 = .ok (.ifCond .ge 5, 3) := by decide +kernel
theorem dX6_richest_12 : decode cX6_richest 12 = .ok (.iconst (-1), 1) := by decide +kernel
theorem dX6_richest_13 : decode cX6_richest 13 = .ok (.ireturn, 1) := by decide +kernel
theorem dX6_richest_14 : decode cX6_richest 14 = .ok (.iconst 0, 1) := by decide +kernel
theorem dX6_richest_15 : decode cX6_richest 15 = .ok (.istore_n 3, 1) := by decide +kernel
theorem dX6_richest_16 : decode cX6_richest 16 = .ok (.iload_n 3, 1) := by decide +kernel
theorem dX6_richest_17 : decode cX6_richest 17 = .ok (.aload_n 0, 1) := by decide +kernel
theorem dX6_richest_18 : decode cX6_richest 18 = .ok (.getfield 7, 3) := by decide +kernel
theorem dX6_richest_21 : decode cX6_richest 21 = .ok (.iconst 1, 1) := by decide +kernel
theorem dX6_richest_22 : decode cX6_richest 22 = .ok (.iaload, 1) := by decide +kernel
theorem dX6_richest_23 : decode cX6_richest 23 = .ok (.if_icmp .ge 79, 3) := by decide +kernel
theorem dX6_richest_26 : decode cX6_richest 26 = .ok (.iconst 0, 1) := by decide +kernel
theorem dX6_richest_27 : decode cX6_richest 27 = .ok (.istore 4, 2) := by decide +kernel
theorem dX6_richest_29 : decode cX6_richest 29 = .ok (.iconst 0, 1) := by decide +kernel
theorem dX6_richest_30 : decode cX6_richest 30 = .ok (.istore 5, 2) := by decide +kernel
theorem dX6_richest_32 : decode cX6_richest 32 = .ok (.iload 5, 2) := by decide +kernel
theorem dX6_richest_34 : decode cX6_richest 34 = .ok (.aload_n 0, 1) := by decide +kernel
theorem dX6_richest_35 : decode cX6_richest 35 = .ok (.getfield 7, 3) := by decide +kernel
theorem dX6_richest_38 : decode cX6_richest 38 = .ok (.iconst 1, 1) := by decide +kernel
theorem dX6_richest_39 : decode cX6_richest 39 = .ok (.iaload, 1) := by decide +kernel
theorem dX6_richest_40 : decode cX6_richest 40 = .ok (.if_icmp .ge 39, 3) := by decide +kernel
theorem dX6_richest_43 : decode cX6_richest 43 = .ok (.iload 4, 2) := by decide +kernel
theorem dX6_richest_45 : decode cX6_richest 45 = .ok (.aload_n 0, 1) := by decide +kernel
theorem dX6_richest_46 : decode cX6_richest 46 = .ok (.iload 5, 2) := by decide +kernel
theorem dX6_richest_48 : decode cX6_richest 48 = .ok (.iload_n 1, 1) := by decide +kernel
theorem dX6_richest_49 : decode cX6_richest 49 = .ok (.invokevirtual 95, 3) := by decide +kernel
theorem dX6_richest_52 : decode cX6_richest 52 = .ok (.ifCond .eq 17, 3) := by decide +kernel
theorem dX6_richest_55 : decode cX6_richest 55 = .ok (.aload_n 0, 1) := by decide +kernel
theorem dX6_richest_56 : decode cX6_richest 56 = .ok (.iload 5, 2) := by decide +kernel
theorem dX6_richest_58 : decode cX6_richest 58 = .ok (.iload_n 3, 1) := by decide +kernel
theorem dX6_richest_59 : decode cX6_richest 59 = .ok (.invokevirtual 135, 3) := by decide +kernel
theorem dX6_richest_62 : decode cX6_richest 62 = .ok (.ifCond .eq 7, 3) := by decide +kernel
theorem dX6_richest_65 : decode cX6_richest 65 = .ok (.iconst 1, 1) := by decide +kernel
theorem dX6_richest_66 : decode cX6_richest 66 = .ok (.goto 4, 3) := by decide +kernel
theorem dX6_richest_69 : decode cX6_richest 69 = .ok (.iconst 0, 1) := by decide +kernel
theorem dX6_richest_70 : decode cX6_richest 70 = .ok (.iadd, 1) := by decide +kernel
theorem dX6_richest_71 : decode cX6_richest 71 = .ok (.istore 4, 2) := by decide +kernel
theorem dX6_richest_73 : decode cX6_richest 73 = .ok (.iinc 5 1, 3) := by decide +kernel
theorem dX6_richest_76 : decode cX6_richest 76 = .ok (.goto (-44), 3) := by decide +kernel
theorem dX6_richest_79 : decode cX6_richest 79 = .ok (.aload_n 0, 1) := by decide +kernel
theorem dX6_richest_80 : decode cX6_richest 80 = .ok (.iload_n 3, 1) := by decide +kernel
theorem dX6_richest_81 : decode cX6_richest 81 = .ok (.iload_n 1, 1) := by decide +kernel
theorem dX6_richest_82 : decode cX6_richest 82 = .ok (.invokevirtual 95, 3) := by decide +kernel
theorem dX6_richest_85 : decode cX6_richest 85 = .ok (.ifCond .eq 11, 3) := by decide +kernel
theorem dX6_richest_88 : decode cX6_richest 88 = .ok (.iload 4, 2) := by decide +kernel
theorem dX6_richest_90 : decode cX6_richest 90 = .ok (.iload_n 2, 1) := by decide +kernel
theorem dX6_richest_91 : decode cX6_richest 91 = .ok (.if_icmp .ne 5, 3) := by decide +kernel
theorem dX6_richest_94 : decode cX6_richest 94 = .ok (.iload_n 3, 1) := by decide +kernel
theorem dX6_richest_95 : decode cX6_richest 95 = .ok (.ireturn, 1) := by decide +kernel
theorem dX6_richest_96 : decode cX6_richest 96 = .ok (.iinc 3 1, 3) := by decide +kernel
theorem dX6_richest_99 : decode cX6_richest 99 = .ok (.goto (-83), 3) := by decide +kernel
theorem dX6_richest_102 : decode cX6_richest 102 = .ok (.bipush (-9), 2) := by decide +kernel
theorem dX6_richest_104 : decode cX6_richest 104 = .ok (.ireturn, 1) := by decide +kernel
set_option maxRecDepth 20000 in
theorem ggX6_wouldLapse_X6_isHead : GoodIn wsX6_wouldLapse wsX6_isHead := goodIn_r _ [5, 6, 7, 8, 4, 9, 38, 39, 40, 41, 42, 43, 44, 45, 46, 47] (by decide +kernel) (by decide +kernel)
set_option maxRecDepth 20000 in
theorem gX6_wouldLapse_X6_isHead : GoodIn wsX6_wouldLapse (wsV RX6 65 RX6 yX6_isHead wsX6_isHead) := goodIn_app (goodIn_of _ (by decide +kernel)) ggX6_wouldLapse_X6_isHead
set_option maxRecDepth 20000 in
theorem ggX6_wouldLapse_X6_totalOf : GoodIn wsX6_wouldLapse wsX6_totalOf := goodIn_r _ [13, 6, 14, 15, 16, 4, 17, 18, 19, 20, 21, 22, 23, 24, 25, 26, 27, 28, 29, 30, 31, 32, 33, 34, 35, 36, 37, 38, 39, 40, 41, 42, 43, 44, 45, 46, 47] (by decide +kernel) (by decide +kernel)
set_option maxRecDepth 20000 in
theorem gX6_wouldLapse_X6_totalOf : GoodIn wsX6_wouldLapse (wsV RX6 129 RX6 yX6_totalOf wsX6_totalOf) := goodIn_app (goodIn_of _ (by decide +kernel)) ggX6_wouldLapse_X6_totalOf
theorem dX6_wouldLapse_0 : decode cX6_wouldLapse 0 = .ok (.aload_n 0, 1) := by decide +kernel
theorem dX6_wouldLapse_1 : decode cX6_wouldLapse 1 = .ok (.iload_n 1, 1) := by decide +kernel
theorem dX6_wouldLapse_2 : decode cX6_wouldLapse 2 = .ok (.invokevirtual 65, 3) := by decide +kernel
theorem dX6_wouldLapse_5 : decode cX6_wouldLapse 5 = .ok (.ifCond .eq 12, 3) := by decide +kernel
theorem dX6_wouldLapse_8 : decode cX6_wouldLapse 8 = .ok (.aload_n 0, 1) := by decide +kernel
theorem dX6_wouldLapse_9 : decode cX6_wouldLapse 9 = .ok (.iload_n 1, 1) := by decide +kernel
theorem dX6_wouldLapse_10 : decode cX6_wouldLapse 10 = .ok (.iconst 5, 1) := by decide +kernel
theorem dX6_wouldLapse_11 : decode cX6_wouldLapse 11 = .ok (.invokevirtual 129, 3) := by decide +kernel
theorem dX6_wouldLapse_14 : decode cX6_wouldLapse 14 = .ok (.goto 4, 3) := by decide +kernel
theorem dX6_wouldLapse_17 : decode cX6_wouldLapse 17 = .ok (.iconst (-1), 1) := by decide +kernel
theorem dX6_wouldLapse_18 : decode cX6_wouldLapse 18 = .ok (.ireturn, 1) := by decide +kernel
theorem dJ9_floorMod_7cf53_0 : decode cJ9_floorMod_7cf53 0 = .ok (.iload_n 0, 1) := by decide +kernel
theorem dJ9_floorMod_7cf53_1 : decode cJ9_floorMod_7cf53 1 = .ok (.iload_n 1, 1) := by decide +kernel
theorem dJ9_floorMod_7cf53_2 : decode cJ9_floorMod_7cf53 2 = .ok (.irem, 1) := by decide +kernel
theorem dJ9_floorMod_7cf53_3 : decode cJ9_floorMod_7cf53 3 = .ok (.istore_n 2, 1) := by decide +kernel
theorem dJ9_floorMod_7cf53_4 : decode cJ9_floorMod_7cf53 4 = .ok (.iload_n 0, 1) := by decide +kernel
theorem dJ9_floorMod_7cf53_5 : decode cJ9_floorMod_7cf53 5 = .ok (.iload_n 1, 1) := by decide +kernel
theorem dJ9_floorMod_7cf53_6 : decode cJ9_floorMod_7cf53 6 = .ok (.ixor, 1) := by decide +kernel
theorem dJ9_floorMod_7cf53_7 : decode cJ9_floorMod_7cf53 7 = .ok (.ifCond .ge 11, 3) := by decide +kernel
theorem dJ9_floorMod_7cf53_10 : decode cJ9_floorMod_7cf53 10 = .ok (.iload_n 2, 1) := by decide +kernel
theorem dJ9_floorMod_7cf53_11 : decode cJ9_floorMod_7cf53 11 = .ok (.ifCond .eq 7, 3) := by decide +kernel
theorem dJ9_floorMod_7cf53_14 : decode cJ9_floorMod_7cf53 14 = .ok (.iload_n 2, 1) := by decide +kernel
theorem dJ9_floorMod_7cf53_15 : decode cJ9_floorMod_7cf53 15 = .ok (.iload_n 1, 1) := by decide +kernel
theorem dJ9_floorMod_7cf53_16 : decode cJ9_floorMod_7cf53 16 = .ok (.iadd, 1) := by decide +kernel
theorem dJ9_floorMod_7cf53_17 : decode cJ9_floorMod_7cf53 17 = .ok (.ireturn, 1) := by decide +kernel
theorem dJ9_floorMod_7cf53_18 : decode cJ9_floorMod_7cf53 18 = .ok (.iload_n 2, 1) := by decide +kernel
theorem dJ9_floorMod_7cf53_19 : decode cJ9_floorMod_7cf53 19 = .ok (.ireturn, 1) := by decide +kernel
theorem dJ9_max_7cf53_0 : decode cJ9_max_7cf53 0 = .ok (.iload_n 0, 1) := by decide +kernel
theorem dJ9_max_7cf53_1 : decode cJ9_max_7cf53 1 = .ok (.iload_n 1, 1) := by decide +kernel
theorem dJ9_max_7cf53_2 : decode cJ9_max_7cf53 2 = .ok (.if_icmp .lt 7, 3) := by decide +kernel
theorem dJ9_max_7cf53_5 : decode cJ9_max_7cf53 5 = .ok (.iload_n 0, 1) := by decide +kernel
theorem dJ9_max_7cf53_6 : decode cJ9_max_7cf53 6 = .ok (.goto 4, 3) := by decide +kernel
theorem dJ9_max_7cf53_9 : decode cJ9_max_7cf53 9 = .ok (.iload_n 1, 1) := by decide +kernel
theorem dJ9_max_7cf53_10 : decode cJ9_max_7cf53 10 = .ok (.ireturn, 1) := by decide +kernel
theorem dJ9_min_7cf53_0 : decode cJ9_min_7cf53 0 = .ok (.iload_n 0, 1) := by decide +kernel
theorem dJ9_min_7cf53_1 : decode cJ9_min_7cf53 1 = .ok (.iload_n 1, 1) := by decide +kernel
theorem dJ9_min_7cf53_2 : decode cJ9_min_7cf53 2 = .ok (.if_icmp .gt 7, 3) := by decide +kernel
theorem dJ9_min_7cf53_5 : decode cJ9_min_7cf53 5 = .ok (.iload_n 0, 1) := by decide +kernel
theorem dJ9_min_7cf53_6 : decode cJ9_min_7cf53 6 = .ok (.goto 4, 3) := by decide +kernel
theorem dJ9_min_7cf53_9 : decode cJ9_min_7cf53 9 = .ok (.iload_n 1, 1) := by decide +kernel
theorem dJ9_min_7cf53_10 : decode cJ9_min_7cf53 10 = .ok (.ireturn, 1) := by decide +kernel
abbrev vwCl : List vw_C := [(RX0, TX0, 6), (RX1, TX1, 5), (RX2, TX2, 6), (RX3, TX3, 11), (RX4, TX4, 4), (RX5, TX5, 2), (RX6, TX6, 10)]

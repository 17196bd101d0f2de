theorem dX5_revoke_0 : decode cX5_revoke 0 = .ok (.iload_n 1, 1) := by decide +kernel
theorem dX5_revoke_1 : decode cX5_revoke 1 = .ok (.ifCond .ge 5, 3) := by decide +kernel
theorem dX5_revoke_4 : decode cX5_revoke 4 = .ok (.iconst (-1), 1) := by decide +kernel
theorem dX5_revoke_5 : decode cX5_revoke 5 = .ok (.ireturn, 1) := by decide +kernel
theorem dX5_revoke_6 : decode cX5_revoke 6 = .ok (.aload_n 0, 1) := by decide +kernel
theorem dX5_revoke_7 : decode cX5_revoke 7 = .ok (.getfield 19, 3) := by decide +kernel
theorem dX5_revoke_10 : decode cX5_revoke 10 = .ok (.iload_n 1, 1) := by decide +kernel
theorem dX5_revoke_11 : decode cX5_revoke 11 = .ok (.invokevirtual 147, 3) := by decide +kernel
theorem dX5_revoke_14 : decode cX5_revoke 14 = .ok (.astore_n 2, 1) := by decide +kernel
theorem dX5_revoke_15 : decode cX5_revoke 15 = .ok (.aload_n 2, 1) := by decide +kernel
theorem dX5_revoke_16 : decode cX5_revoke 16 = .ok (.ifnull 34, 3) := by decide +kernel
theorem dX5_revoke_19 : decode cX5_revoke 19 = .ok (.aload_n 2, 1) := by decide +kernel
theorem dX5_revoke_20 : decode cX5_revoke 20 = .ok (.getfield 151, 3) := by decide +kernel
theorem dX5_revoke_23 : decode cX5_revoke 23 = .ok (.getfield 97, 3) := by decide +kernel
theorem dX5_revoke_26 : decode cX5_revoke 26 = .ok (.aload_n 0, 1) := by decide +kernel
theorem dX5_revoke_27 : decode cX5_revoke 27 = .ok (.getfield 10, 3) := by decide +kernel
theorem dX5_revoke_30 : decode cX5_revoke 30 = .ok (.getfield 97, 3) := by decide +kernel
theorem dX5_revoke_33 : decode cX5_revoke 33 = .ok (.if_icmp .ne 17, 3) := by decide +kernel
theorem dX5_revoke_36 : decode cX5_revoke 36 = .ok (.aload_n 0, 1) := by decide +kernel
theorem dX5_revoke_37 : decode cX5_revoke 37 = .ok (.getfield 19, 3) := by decide +kernel
theorem dX5_revoke_40 : decode cX5_revoke 40 = .ok (.aload_n 2, 1) := by decide +kernel
theorem dX5_revoke_41 : decode cX5_revoke 41 = .ok (.getfield 163, 3) := by decide +kernel
theorem dX5_revoke_44 : decode cX5_revoke 44 = .ok (.invokevirtual 166, 3) := by decide +kernel
theorem dX5_revoke_47 : decode cX5_revoke 47 = .ok (.ifCond .eq 6, 3) := by decide +kernel
theorem dX5_revoke_50 : decode cX5_revoke 50 = .ok (.bipush (-2), 2) := by decide +kernel
theorem dX5_revoke_52 : decode cX5_revoke 52 = .ok (.ireturn, 1) := by decide +kernel
theorem dX5_revoke_53 : decode cX5_revoke 53 = .ok (.aload_n 2, 1) := by decide +kernel
theorem dX5_revoke_54 : decode cX5_revoke 54 = .ok (.getfield 169, 3) := by decide +kernel
theorem dX5_revoke_57 : decode cX5_revoke 57 = .ok (.bipush 8, 2) := by decide +kernel
theorem dX5_revoke_59 : decode cX5_revoke 59 = .ok (.if_icmp .ne 24, 3) := by decide +kernel
theorem dX5_revoke_62 : decode cX5_revoke 62 = .ok (.aload_n 0, 1) := by decide +kernel
theorem dX5_revoke_63 : decode cX5_revoke 63 = .ok (.aload_n 2, 1) := by decide +kernel
theorem dX5_revoke_64 : decode cX5_revoke 64 = .ok (.getfield 163, 3) := by decide +kernel
theorem dX5_revoke_67 : decode cX5_revoke 67 = .ok (.aload_n 2, 1) := by decide +kernel
theorem dX5_revoke_68 : decode cX5_revoke 68 = .ok (.getfield 172, 3) := by decide +kernel
theorem dX5_revoke_71 : decode cX5_revoke 71 = .ok (.aload_n 2, 1) := by decide +kernel
theorem dX5_revoke_72 : decode cX5_revoke 72 = .ok (.getfield 175, 3) := by decide +kernel
theorem dX5_revoke_75 : decode cX5_revoke 75 = .ok (.aload_n 2, 1) := by decide +kernel
theorem dX5_revoke_76 : decode cX5_revoke 76 = .ok (.getfield 178, 3) := by decide +kernel
theorem dX5_revoke_79 : decode cX5_revoke 79 = .ok (.invokevirtual 181, 3) := by decide +kernel
theorem dX5_revoke_82 : decode cX5_revoke 82 = .ok (.ireturn, 1) := by decide +kernel
theorem dX5_revoke_83 : decode cX5_revoke 83 = .ok (.aload_n 2, 1) := by decide +kernel
theorem dX5_revoke_84 : decode cX5_revoke 84 = .ok (.getfield 169, 3) := by decide +kernel
theorem dX5_revoke_87 : decode cX5_revoke 87 = .ok (.iconst 5, 1) := by decide +kernel
theorem dX5_revoke_88 : decode cX5_revoke 88 = .ok (.if_icmp .ne 16, 3) := by decide +kernel
theorem dX5_revoke_91 : decode cX5_revoke 91 = .ok (.aload_n 0, 1) := by decide +kernel
theorem dX5_revoke_92 : decode cX5_revoke 92 = .ok (.aload_n 2, 1) := by decide +kernel
theorem dX5_revoke_93 : decode cX5_revoke 93 = .ok (.getfield 163, 3) := by decide +kernel
theorem dX5_revoke_96 : decode cX5_revoke 96 = .ok (.aload_n 2, 1) := by decide +kernel
theorem dX5_revoke_97 : decode cX5_revoke 97 = .ok (.getfield 172, 3) := by decide +kernel
theorem dX5_revoke_100 : decode cX5_revoke 100 = .ok (.invokevirtual 185, 3) := by decide +kernel
theorem dX5_revoke_103 : decode cX5_revoke 103 = .ok (.ireturn, 1) := by decide +kernel
theorem dX5_revoke_104 : decode cX5_revoke 104 = .ok (.bipush (-2), 2) := by decide +kernel
theorem dX5_revoke_106 : decode cX5_revoke 106 = .ok (.ireturn, 1) := by decide +kernel
set_option maxRecDepth 20000 in
theorem ggX5_revokeVirement_X3_freeOf : GoodIn wsX5_revokeVirement wsX3_freeOf := goodIn_r _ [8, 9, 10, 11, 12, 13, 14, 7, 15, 16, 97, 98, 99, 100, 101, 102, 103, 104, 105, 106, 107] (by decide +kernel) (by decide +kernel)
set_option maxRecDepth 20000 in
theorem gX5_revokeVirement_X3_freeOf : GoodIn wsX5_revokeVirement (wsV RX5 78 RX3 yX3_freeOf wsX3_freeOf) := goodIn_app (goodIn_of _ (by decide +kernel)) ggX5_revokeVirement_X3_freeOf
set_option maxRecDepth 20000 in
theorem ggX5_revokeVirement_X4_rememberRevoking : GoodIn wsX5_revokeVirement wsX4_rememberRevoking := goodIn_r _ [21, 22, 23, 24, 20, 25, 26, 27, 28, 29, 30, 31, 32, 33, 34, 35, 36, 37, 38, 39, 40, 41, 42, 43, 44, 45, 46, 47, 48, 49, 50, 51, 52, 53, 54, 55, 56, 57, 7, 58, 59, 60, 61, 62, 63, 64, 65, 66, 9, 10, 11, 67, 68, 69, 16, 70, 71, 72, 73, 74, 75, 76, 77, 78, 79, 80, 108, 109, 110, 111, 112, 113, 114, 115, 116, 117, 91, 92, 93, 94, 95, 96, 97, 98, 99, 100, 101, 102, 103, 104, 105, 106, 107, 118, 119, 120, 121, 122] (by decide +kernel) (by decide +kernel)
set_option maxRecDepth 20000 in
theorem gX5_revokeVirement_X4_rememberRevoking : GoodIn wsX5_revokeVirement (wsV RX5 188 RX4 yX4_rememberRevoking wsX4_rememberRevoking) := goodIn_app (goodIn_of _ (by decide +kernel)) ggX5_revokeVirement_X4_rememberRevoking
set_option maxRecDepth 20000 in
theorem ggX5_revokeVirement_X3_moveByVirement : GoodIn wsX5_revokeVirement wsX3_moveByVirement := goodIn_r _ [84, 9, 68, 85, 86, 87, 7, 88, 12, 13, 14, 15, 16, 97, 98, 99, 100, 101, 102, 103, 104, 105, 106, 107] (by decide +kernel) (by decide +kernel)
set_option maxRecDepth 20000 in
theorem gX5_revokeVirement_X3_moveByVirement : GoodIn wsX5_revokeVirement (wsV RX5 133 RX3 yX3_moveByVirement wsX3_moveByVirement) := goodIn_app (goodIn_of _ (by decide +kernel)) ggX5_revokeVirement_X3_moveByVirement
theorem dX5_revokeVirement_0 : decode cX5_revokeVirement 0 = .ok (.iload 4, 2) := by decide +kernel
theorem dX5_revokeVirement_2 : decode cX5_revokeVirement 2 = .ok (.aload_n 0, 1) := by decide +kernel
theorem dX5_revokeVirement_3 : decode cX5_revokeVirement 3 = .ok (.getfield 10, 3) := by decide +kernel
theorem dX5_revokeVirement_6 : decode cX5_revokeVirement 6 = .ok (.getfield 23, 3) := by decide +kernel
theorem dX5_revokeVirement_9 : decode cX5_revokeVirement 9 = .ok (.iload_n 3, 1) := by decide +kernel
theorem dX5_revokeVirement_10 : decode cX5_revokeVirement 10 = .ok (.invokevirtual 78, 3) := by decide +kernel
theorem dX5_revokeVirement_13 : decode cX5_revokeVirement 13 = .ok (.if_icmp .le 6, 3) := by decide +kernel
theorem dX5_revokeVirement_16 : decode cX5_revokeVirement 16 = .ok (.bipush (-2), 2) := by decide +kernel
theorem dX5_revokeVirement_18 : decode cX5_revokeVirement 18 = .ok (.ireturn, 1) := by decide +kernel
theorem dX5_revokeVirement_19 : decode cX5_revokeVirement 19 = .ok (.aload_n 0, 1) := by decide +kernel
theorem dX5_revokeVirement_20 : decode cX5_revokeVirement 20 = .ok (.getfield 19, 3) := by decide +kernel
theorem dX5_revokeVirement_23 : decode cX5_revokeVirement 23 = .ok (.aload_n 0, 1) := by decide +kernel
theorem dX5_revokeVirement_24 : decode cX5_revokeVirement 24 = .ok (.getfield 10, 3) := by decide +kernel
theorem dX5_revokeVirement_27 : decode cX5_revokeVirement 27 = .ok (.iload_n 1, 1) := by decide +kernel
theorem dX5_revokeVirement_28 : decode cX5_revokeVirement 28 = .ok (.invokevirtual 188, 3) := by decide +kernel
theorem dX5_revokeVirement_31 : decode cX5_revokeVirement 31 = .ok (.aload_n 0, 1) := by decide +kernel
theorem dX5_revokeVirement_32 : decode cX5_revokeVirement 32 = .ok (.getfield 10, 3) := by decide +kernel
theorem dX5_revokeVirement_35 : decode cX5_revokeVirement 35 = .ok (.getfield 23, 3) := by decide +kernel
theorem dX5_revokeVirement_38 : decode cX5_revokeVirement 38 = .ok (.iload_n 2, 1) := by decide +kernel
theorem dX5_revokeVirement_39 : decode cX5_revokeVirement 39 = .ok (.iload_n 3, 1) := by decide +kernel
theorem dX5_revokeVirement_40 : decode cX5_revokeVirement 40 = .ok (.iload 4, 2) := by decide +kernel
theorem dX5_revokeVirement_42 : decode cX5_revokeVirement 42 = .ok (.ineg, 1) := by decide +kernel
theorem dX5_revokeVirement_43 : decode cX5_revokeVirement 43 = .ok (.invokevirtual 133, 3) := by decide +kernel
theorem dX5_revokeVirement_46 : decode cX5_revokeVirement 46 = .ok (.iload 4, 2) := by decide +kernel
theorem dX5_revokeVirement_48 : decode cX5_revokeVirement 48 = .ok (.ireturn, 1) := by decide +kernel
set_option maxRecDepth 20000 in
theorem ggX5_revokeCommitment_X1_has : GoodIn wsX5_revokeCommitment wsX1_has := goodIn_r _ [9, 10, 101, 102, 103, 104, 105] (by decide +kernel) (by decide +kernel)
set_option maxRecDepth 20000 in
theorem gX5_revokeCommitment_X1_has : GoodIn wsX5_revokeCommitment (wsV RX5 103 RX1 yX1_has wsX1_has) := goodIn_app (goodIn_of _ (by decide +kernel)) ggX5_revokeCommitment_X1_has
set_option maxRecDepth 20000 in
theorem ggX5_revokeCommitment_X4_rememberRevoking : GoodIn wsX5_revokeCommitment wsX4_rememberRevoking := goodIn_r _ [15, 16, 17, 18, 14, 19, 20, 21, 22, 23, 24, 25, 26, 27, 28, 29, 30, 31, 32, 33, 34, 35, 36, 37, 38, 39, 40, 41, 42, 43, 44, 45, 46, 47, 48, 49, 50, 51, 52, 53, 54, 55, 56, 57, 58, 59, 60, 61, 62, 63, 64, 65, 66, 67, 68, 69, 70, 71, 8, 72, 73, 74, 75, 76, 77, 10, 106, 107, 108, 109, 110, 111, 112, 113, 114, 115, 95, 96, 97, 98, 99, 100, 116, 117, 118, 119, 120, 121, 122, 123, 124, 125, 126, 101, 102, 103, 104, 105] (by decide +kernel) (by decide +kernel)
set_option maxRecDepth 20000 in
theorem gX5_revokeCommitment_X4_rememberRevoking : GoodIn wsX5_revokeCommitment (wsV RX5 188 RX4 yX4_rememberRevoking wsX4_rememberRevoking) := goodIn_app (goodIn_of _ (by decide +kernel)) ggX5_revokeCommitment_X4_rememberRevoking
set_option maxRecDepth 20000 in
theorem ggX5_revokeCommitment_X0_freeOpenOf : GoodIn wsX5_revokeCommitment wsX0_freeOpenOf := goodIn_r _ [81, 44, 82, 43, 83, 84, 6, 7, 8, 9, 10, 85, 86, 87, 52, 88, 63, 89, 90, 91, 92, 68, 95, 96, 97, 98, 99, 100, 101, 102, 103, 104, 105, 116, 117, 118, 119, 120, 121, 122, 123, 124, 125, 126] (by decide +kernel) (by decide +kernel)
set_option maxRecDepth 20000 in
theorem gX5_revokeCommitment_X0_freeOpenOf : GoodIn wsX5_revokeCommitment (wsV RX5 119 RX0 yX0_freeOpenOf wsX0_freeOpenOf) := goodIn_app (goodIn_of _ (by decide +kernel)) ggX5_revokeCommitment_X0_freeOpenOf
theorem dX5_revokeCommitment_0 : decode cX5_revokeCommitment 0 = .ok (.aload_n 0, 1) := by decide +kernel
theorem dX5_revokeCommitment_1 : decode cX5_revokeCommitment 1 = .ok (.getfield 10, 3) := by decide +kernel
theorem dX5_revokeCommitment_4 : decode cX5_revokeCommitment 4 = .ok (.getfield 82, 3) := by decide +kernel
theorem dX5_revokeCommitment_7 : decode cX5_revokeCommitment 7 = .ok (.iload_n 2, 1) := by decide +kernel
theorem dX5_revokeCommitment_8 : decode cX5_revokeCommitment 8 = .ok (.invokevirtual 103, 3) := by decide +kernel
theorem dX5_revokeCommitment_11 : decode cX5_revokeCommitment 11 = .ok (.ifCond .eq 18, 3) := by decide +kernel
theorem dX5_revokeCommitment_14 : decode cX5_revokeCommitment 14 = .ok (.aload_n 0, 1) := by decide +kernel
theorem dX5_revokeCommitment_15 : decode cX5_revokeCommitment 15 = .ok (.getfield 10, 3) := by decide +kernel
theorem dX5_revokeCommitment_18 : decode cX5_revokeCommitment 18 = .ok (.getfield 82, 3) := by decide +kernel
theorem dX5_revokeCommitment_21 : decode cX5_revokeCommitment 21 = .ok (.getfield 104, 3) := by decide +kernel
theorem dX5_revokeCommitment_24 : decode cX5_revokeCommitment 24 = .ok (.iload_n 2, 1) := by decide +kernel
theorem dX5_revokeCommitment_25 : decode cX5_revokeCommitment 25 = .ok (.iaload, 1) := by decide +kernel
theorem dX5_revokeCommitment_26 : decode cX5_revokeCommitment 26 = .ok (.ifCond .ne 6, 3) := by decide +kernel
theorem dX5_revokeCommitment_29 : decode cX5_revokeCommitment 29 = .ok (.bipush (-2), 2) := by decide +kernel
theorem dX5_revokeCommitment_31 : decode cX5_revokeCommitment 31 = .ok (.ireturn, 1) := by decide +kernel
theorem dX5_revokeCommitment_32 : decode cX5_revokeCommitment 32 = .ok (.aload_n 0, 1) := by decide +kernel
theorem dX5_revokeCommitment_33 : decode cX5_revokeCommitment 33 = .ok (.getfield 19, 3) := by decide +kernel
theorem dX5_revokeCommitment_36 : decode cX5_revokeCommitment 36 = .ok (.aload_n 0, 1) := by decide +kernel
theorem dX5_revokeCommitment_37 : decode cX5_revokeCommitment 37 = .ok (.getfield 10, 3) := by decide +kernel
theorem dX5_revokeCommitment_40 : decode cX5_revokeCommitment 40 = .ok (.iload_n 1, 1) := by decide +kernel
theorem dX5_revokeCommitment_41 : decode cX5_revokeCommitment 41 = .ok (.invokevirtual 188, 3) := by decide +kernel
theorem dX5_revokeCommitment_44 : decode cX5_revokeCommitment 44 = .ok (.aload_n 0, 1) := by decide +kernel
theorem dX5_revokeCommitment_45 : decode cX5_revokeCommitment 45 = .ok (.getfield 10, 3) := by decide +kernel
theorem dX5_revokeCommitment_48 : decode cX5_revokeCommitment 48 = .ok (.iload_n 2, 1) := by decide +kernel
theorem dX5_revokeCommitment_49 : decode cX5_revokeCommitment 49 = .ok (.invokevirtual 119, 3) := by decide +kernel
theorem dX5_revokeCommitment_52 : decode cX5_revokeCommitment 52 = .ok (.ireturn, 1) := by decide +kernel
set_option maxRecDepth 20000 in
theorem ggX5_count_X1_countOpen : GoodIn wsX5_count wsX1_countOpen := goodIn_r _ [16, 17, 72, 73, 74, 75, 76] (by decide +kernel) (by decide +kernel)
set_option maxRecDepth 20000 in
theorem gX5_count_X1_countOpen : GoodIn wsX5_count (wsV RX5 191 RX1 yX1_countOpen wsX1_countOpen) := goodIn_app (goodIn_of _ (by decide +kernel)) ggX5_count_X1_countOpen
set_option maxRecDepth 20000 in
theorem ggX5_count_X3_countBarred : GoodIn wsX5_count wsX3_countBarred := goodIn_r _ [22, 23, 24, 25, 21, 26, 27, 28, 29, 30, 31, 32, 33, 61, 62, 63, 64, 65, 66, 67, 68, 69, 70, 71] (by decide +kernel) (by decide +kernel)
set_option maxRecDepth 20000 in
theorem gX5_count_X3_countBarred : GoodIn wsX5_count (wsV RX5 62 RX3 yX3_countBarred wsX3_countBarred) := goodIn_app (goodIn_of _ (by decide +kernel)) ggX5_count_X3_countBarred
set_option maxRecDepth 20000 in
theorem ggX5_count_X3_sumWithin : GoodIn wsX5_count wsX3_sumWithin := goodIn_r _ [37, 38, 39, 40, 21, 41, 28, 29, 30, 31, 32, 33, 42, 43, 44, 45, 46, 47, 48, 49, 50, 51, 52, 61, 62, 63, 64, 65, 66, 67, 68, 69, 70, 71] (by decide +kernel) (by decide +kernel)
set_option maxRecDepth 20000 in
theorem gX5_count_X3_sumWithin : GoodIn wsX5_count (wsV RX5 194 RX3 yX3_sumWithin wsX3_sumWithin) := goodIn_app (goodIn_of _ (by decide +kernel)) ggX5_count_X3_sumWithin
theorem dX5_count_0 : decode cX5_count 0 = .ok (.iload_n 1, 1) := by decide +kernel
theorem dX5_count_1 : decode cX5_count 1 = .ok (.tableswitch 152 0 9 #[55, 63, 74, 85, 96, 107, 115, 128, 136, 144], 55) := by decide +kernel
theorem dX5_count_56 : decode cX5_count 56 = .ok (.aload_n 0, 1) := by decide +kernel
theorem dX5_count_57 : decode cX5_count 57 = .ok (.getfield 10, 3) := by decide +kernel
theorem dX5_count_60 : decode cX5_count 60 = .ok (.getfield 97, 3) := by decide +kernel
theorem dX5_count_63 : decode cX5_count 63 = .ok (.ireturn, 1) := by decide +kernel
theorem dX5_count_64 : decode cX5_count 64 = .ok (.aload_n 0, 1) := by decide +kernel
theorem dX5_count_65 : decode cX5_count 65 = .ok (.getfield 10, 3) := by decide +kernel
theorem dX5_count_68 : decode cX5_count 68 = .ok (.getfield 23, 3) := by decide +kernel
theorem dX5_count_71 : decode cX5_count 71 = .ok (.getfield 41, 3) := by decide +kernel
theorem dX5_count_74 : decode cX5_count 74 = .ok (.ireturn, 1) := by decide +kernel
theorem dX5_count_75 : decode cX5_count 75 = .ok (.aload_n 0, 1) := by decide +kernel
theorem dX5_count_76 : decode cX5_count 76 = .ok (.getfield 10, 3) := by decide +kernel
theorem dX5_count_79 : decode cX5_count 79 = .ok (.getfield 82, 3) := by decide +kernel
theorem dX5_count_82 : decode cX5_count 82 = .ok (.getfield 86, 3) := by decide +kernel
theorem dX5_count_85 : decode cX5_count 85 = .ok (.ireturn, 1) := by decide +kernel
theorem dX5_count_86 : decode cX5_count 86 = .ok (.aload_n 0, 1) := by decide +kernel
theorem dX5_count_87 : decode cX5_count 87 = .ok (.getfield 10, 3) := by decide +kernel
theorem dX5_count_90 : decode cX5_count 90 = .ok (.getfield 82, 3) := by decide +kernel
theorem dX5_count_93 : decode cX5_count 93 = .ok (.invokevirtual 191, 3) := by decide +kernel
theorem dX5_count_96 : decode cX5_count 96 = .ok (.ireturn, 1) := by decide +kernel
theorem dX5_count_97 : decode cX5_count 97 = .ok (.aload_n 0, 1) := by decide +kernel
theorem dX5_count_98 : decode cX5_count 98 = .ok (.getfield 10, 3) := by decide +kernel
theorem dX5_count_101 : decode cX5_count 101 = .ok (.getfield 23, 3) := by decide +kernel
theorem dX5_count_104 : decode cX5_count 104 = .ok (.invokevirtual 62, 3) := by decide +kernel
theorem dX5_count_107 : decode cX5_count 107 = .ok (.ireturn, 1) := by decide +kernel
theorem dX5_count_108 : decode cX5_count 108 = .ok (.aload_n 0, 1) := by decide +kernel
theorem dX5_count_109 : decode cX5_count 109 = .ok (.getfield 10, 3) := by decide +kernel
theorem dX5_count_112 : decode cX5_count 112 = .ok (.getfield 72, 3) := by decide +kernel
theorem dX5_count_115 : decode cX5_count 115 = .ok (.ireturn, 1) := by decide +kernel
theorem dX5_count_116 : decode cX5_count 116 = .ok (.aload_n 0, 1) := by decide +kernel
theorem dX5_count_117 : decode cX5_count 117 = .ok (.getfield 10, 3) := by decide +kernel
theorem dX5_count_120 : decode cX5_count 120 = .ok (.getfield 23, 3) := by decide +kernel
theorem dX5_count_123 : decode cX5_count 123 = .ok (.iconst 0, 1) := by decide +kernel
theorem dX5_count_124 : decode cX5_count 124 = .ok (.iconst 0, 1) := by decide +kernel
theorem dX5_count_125 : decode cX5_count 125 = .ok (.invokevirtual 194, 3) := by decide +kernel
theorem dX5_count_128 : decode cX5_count 128 = .ok (.ireturn, 1) := by decide +kernel
theorem dX5_count_129 : decode cX5_count 129 = .ok (.aload_n 0, 1) := by decide +kernel
theorem dX5_count_130 : decode cX5_count 130 = .ok (.getfield 10, 3) := by decide +kernel
theorem dX5_count_133 : decode cX5_count 133 = .ok (.getfield 144, 3) := by decide +kernel
theorem dX5_count_136 : decode cX5_count 136 = .ok (.ireturn, 1) := by decide +kernel
theorem dX5_count_137 : decode cX5_count 137 = .ok (.aload_n 0, 1) := by decide +kernel
theorem dX5_count_138 : decode cX5_count 138 = .ok (.getfield 10, 3) := by decide +kernel
theorem dX5_count_141 : decode cX5_count 141 = .ok (.getfield 116, 3) := by decide +kernel
theorem dX5_count_144 : decode cX5_count 144 = .ok (.ireturn, 1) := by decide +kernel
theorem dX5_count_145 : decode cX5_count 145 = .ok (.aload_n 0, 1) := by decide +kernel
theorem dX5_count_146 : decode cX5_count 146 = .ok (.getfield 19, 3) := by decide +kernel
theorem dX5_count_149 : decode cX5_count 149 = .ok (.getfield 197, 3) := by decide +kernel
theorem dX5_count_152 : decode cX5_count 152 = .ok (.ireturn, 1) := by decide +kernel
theorem dX5_count_153 : decode cX5_count 153 = .ok (.iconst (-1), 1) := by decide +kernel
theorem dX5_count_154 : decode cX5_count 154 = .ok (.ireturn, 1) := by decide +kernel
set_option maxRecDepth 20000 in
theorem ggX5_head_X3_has : GoodIn wsX5_head wsX3_has := goodIn_r _ [17, 18, 41, 42, 43, 44, 45, 46, 47, 48, 49, 50, 51] (by decide +kernel) (by decide +kernel)
set_option maxRecDepth 20000 in
theorem gX5_head_X3_has : GoodIn wsX5_head (wsV RX5 33 RX3 yX3_has wsX3_has) := goodIn_app (goodIn_of _ (by decide +kernel)) ggX5_head_X3_has
set_option maxRecDepth 20000 in
theorem ggX5_head_X3_isBarred : GoodIn wsX5_head wsX3_isBarred := goodIn_r _ [22, 23, 24, 25, 14, 15, 16, 17, 18, 41, 42, 43, 44, 45, 46, 47, 48, 49, 50, 51] (by decide +kernel) (by decide +kernel)
set_option maxRecDepth 20000 in
theorem gX5_head_X3_isBarred : GoodIn wsX5_head (wsV RX5 75 RX3 yX3_isBarred wsX3_isBarred) := goodIn_app (goodIn_of _ (by decide +kernel)) ggX5_head_X3_isBarred
set_option maxRecDepth 20000 in
theorem ggX5_head_X3_freeOf : GoodIn wsX5_head wsX3_freeOf := goodIn_r _ [29, 30, 31, 32, 25, 14, 15, 16, 17, 18, 41, 42, 43, 44, 45, 46, 47, 48, 49, 50, 51] (by decide +kernel) (by decide +kernel)
set_option maxRecDepth 20000 in
theorem gX5_head_X3_freeOf : GoodIn wsX5_head (wsV RX5 78 RX3 yX3_freeOf wsX3_freeOf) := goodIn_app (goodIn_of _ (by decide +kernel)) ggX5_head_X3_freeOf
theorem dX5_head_0 : decode cX5_head 0 = .ok (.aload_n 0, 1) := by decide +kernel
theorem dX5_head_1 : decode cX5_head 1 = .ok (.getfield 10, 3) := by decide +kernel
theorem dX5_head_4 : decode cX5_head 4 = .ok (.getfield 23, 3) := by decide +kernel
theorem dX5_head_7 : decode cX5_head 7 = .ok (.astore_n 3, 1) := by decide +kernel
theorem dX5_head_8 : decode cX5_head 8 = .ok (.aload_n 3, 1) := by decide +kernel
theorem dX5_head_9 : decode cX5_head 9 = .ok (.iload_n 1, 1) := by decide +kernel
theorem dX5_head_10 : decode cX5_head 10 = .ok (.invokevirtual 33, 3) := by decide +kernel
theorem dX5_head_13 : decode cX5_head 13 = .ok (.ifCond .ne 5, 3) := by decide +kernel
theorem dX5_head_16 : decode cX5_head 16 = .ok (.iconst (-1), 1) := by decide +kernel
theorem dX5_head_17 : decode cX5_head 17 = .ok (.ireturn, 1) := by decide +kernel
theorem dX5_head_18 : decode cX5_head 18 = .ok (.iload_n 2, 1) := by decide +kernel
theorem dX5_head_19 : decode cX5_head 19 = .ok (.tableswitch 151 0 11 #[61, 68, 75, 82, 89, 103, 110, 117, 124, 130, 137, 144], 61) := by decide +kernel
theorem dX5_head_80 : decode cX5_head 80 = .ok (.aload_n 3, 1) := by decide +kernel
theorem dX5_head_81 : decode cX5_head 81 = .ok (.getfield 200, 3) := by decide +kernel
theorem dX5_head_84 : decode cX5_head 84 = .ok (.iload_n 1, 1) := by decide +kernel
theorem dX5_head_85 : decode cX5_head 85 = .ok (.iaload, 1) := by decide +kernel
theorem dX5_head_86 : decode cX5_head 86 = .ok (.ireturn, 1) := by decide +kernel
theorem dX5_head_87 : decode cX5_head 87 = .ok (.aload_n 3, 1) := by decide +kernel
theorem dX5_head_88 : decode cX5_head 88 = .ok (.getfield 37, 3) := by decide +kernel
theorem dX5_head_91 : decode cX5_head 91 = .ok (.iload_n 1, 1) := by decide +kernel
theorem dX5_head_92 : decode cX5_head 92 = .ok (.iaload, 1) := by decide +kernel
theorem dX5_head_93 : decode cX5_head 93 = .ok (.ireturn, 1) := by decide +kernel
theorem dX5_head_94 : decode cX5_head 94 = .ok (.aload_n 3, 1) := by decide +kernel
theorem dX5_head_95 : decode cX5_head 95 = .ok (.getfield 203, 3) := by decide +kernel
theorem dX5_head_98 : decode cX5_head 98 = .ok (.iload_n 1, 1) := by decide +kernel
theorem dX5_head_99 : decode cX5_head 99 = .ok (.iaload, 1) := by decide +kernel
theorem dX5_head_100 : decode cX5_head 100 = .ok (.ireturn, 1) := by decide +kernel
theorem dX5_head_101 : decode cX5_head 101 = .ok (.aload_n 3, 1) := by decide +kernel
theorem dX5_head_102 : decode cX5_head 102 = .ok (.getfield 59, 3) := by decide +kernel
theorem dX5_head_105 : decode cX5_head 105 = .ok (.iload_n 1, 1) := by decide +kernel
theorem dX5_head_106 : decode cX5_head 106 = .ok (.iaload, 1) := by decide +kernel
theorem dX5_head_107 : decode cX5_head 107 = .ok (.ireturn, 1) := by decide +kernel
theorem dX5_head_108 : decode cX5_head 108 = .ok (.aload_n 3, 1) := by decide +kernel
theorem dX5_head_109 : decode cX5_head 109 = .ok (.iload_n 1, 1) := by decide +kernel
theorem dX5_head_110 : decode cX5_head 110 = .ok (.invokevirtual 75, 3) := by decide +kernel
theorem dX5_head_113 : decode cX5_head 113 = .ok (.ifCond .eq 7, 3) := by decide +kernel
theorem dX5_head_116 : decode cX5_head 116 = .ok (.iconst 1, 1) := by decide +kernel
theorem dX5_head_117 : decode cX5_head 117 = .ok (.goto 4, 3) := by decide +kernel
theorem dX5_head_120 : decode cX5_head 120 = .ok (.iconst 0, 1) := by decide +kernel
theorem dX5_head_121 : decode cX5_head 121 = .ok (.ireturn, 1) := by decide +kernel
theorem dX5_head_122 : decode cX5_head 122 = .ok (.aload_n 3, 1) := by decide +kernel
theorem dX5_head_123 : decode cX5_head 123 = .ok (.getfield 52, 3) := by decide +kernel
theorem dX5_head_126 : decode cX5_head 126 = .ok (.iload_n 1, 1) := by decide +kernel
theorem dX5_head_127 : decode cX5_head 127 = .ok (.iaload, 1) := by decide +kernel
theorem dX5_head_128 : decode cX5_head 128 = .ok (.ireturn, 1) := by decide +kernel
theorem dX5_head_129 : decode cX5_head 129 = .ok (.aload_n 3, 1) := by decide +kernel
theorem dX5_head_130 : decode cX5_head 130 = .ok (.getfield 206, 3) := by decide +kernel
theorem dX5_head_133 : decode cX5_head 133 = .ok (.iload_n 1, 1) := by decide +kernel
theorem dX5_head_134 : decode cX5_head 134 = .ok (.iaload, 1) := by decide +kernel
theorem dX5_head_135 : decode cX5_head 135 = .ok (.ireturn, 1) := by decide +kernel
theorem dX5_head_136 : decode cX5_head 136 = .ok (.aload_n 3, 1) := by decide +kernel
theorem dX5_head_137 : decode cX5_head 137 = .ok (.getfield 209, 3) := by decide +kernel
theorem dX5_head_140 : decode cX5_head 140 = .ok (.iload_n 1, 1) := by decide +kernel
theorem dX5_head_141 : decode cX5_head 141 = .ok (.iaload, 1) := by decide +kernel
theorem dX5_head_142 : decode cX5_head 142 = .ok (.ireturn, 1) := by decide +kernel
theorem dX5_head_143 : decode cX5_head 143 = .ok (.aload_n 3, 1) := by decide +kernel
theorem dX5_head_144 : decode cX5_head 144 = .ok (.iload_n 1, 1) := by decide +kernel
theorem dX5_head_145 : decode cX5_head 145 = .ok (.invokevirtual 78, 3) := by decide +kernel
theorem dX5_head_148 : decode cX5_head 148 = .ok (.ireturn, 1) := by decide +kernel
theorem dX5_head_149 : decode cX5_head 149 = .ok (.aload_n 3, 1) := by decide +kernel
theorem dX5_head_150 : decode cX5_head 150 = .ok (.getfield 56, 3) := by decide +kernel
theorem dX5_head_153 : decode cX5_head 153 = .ok (.iload_n 1, 1) := by decide +kernel
theorem dX5_head_154 : decode cX5_head 154 = .ok (.iaload, 1) := by decide +kernel
theorem dX5_head_155 : decode cX5_head 155 = .ok (.ireturn, 1) := by decide +kernel
theorem dX5_head_156 : decode cX5_head 156 = .ok (.aload_n 3, 1) := by decide +kernel
theorem dX5_head_157 : decode cX5_head 157 = .ok (.getfield 211, 3) := by decide +kernel
theorem dX5_head_160 : decode cX5_head 160 = .ok (.iload_n 1, 1) := by decide +kernel
theorem dX5_head_161 : decode cX5_head 161 = .ok (.iaload, 1) := by decide +kernel
theorem dX5_head_162 : decode cX5_head 162 = .ok (.ireturn, 1) := by decide +kernel
theorem dX5_head_163 : decode cX5_head 163 = .ok (.aload_n 3, 1) := by decide +kernel
theorem dX5_head_164 : decode cX5_head 164 = .ok (.getfield 69, 3) := by decide +kernel
theorem dX5_head_167 : decode cX5_head 167 = .ok (.iload_n 1, 1) := by decide +kernel
theorem dX5_head_168 : decode cX5_head 168 = .ok (.iaload, 1) := by decide +kernel
theorem dX5_head_169 : decode cX5_head 169 = .ok (.ireturn, 1) := by decide +kernel
theorem dX5_head_170 : decode cX5_head 170 = .ok (.iconst (-1), 1) := by decide +kernel
theorem dX5_head_171 : decode cX5_head 171 = .ok (.ireturn, 1) := by decide +kernel
set_option maxRecDepth 20000 in
theorem ggX5_total_X3_has : GoodIn wsX5_total wsX3_has := goodIn_r _ [7, 8, 38, 39, 40, 41, 42, 43, 44, 45, 46, 47, 48] (by decide +kernel) (by decide +kernel)
set_option maxRecDepth 20000 in
theorem gX5_total_X3_has : GoodIn wsX5_total (wsV RX5 33 RX3 yX3_has wsX3_has) := goodIn_app (goodIn_of _ (by decide +kernel)) ggX5_total_X3_has
set_option maxRecDepth 20000 in
theorem ggX5_total_X3_sumWithin : GoodIn wsX5_total wsX3_sumWithin := goodIn_r _ [12, 13, 14, 15, 6, 16, 17, 18, 4, 5, 7, 8, 19, 20, 21, 22, 23, 24, 25, 26, 27, 28, 29, 38, 39, 40, 41, 42, 43, 44, 45, 46, 47, 48] (by decide +kernel) (by decide +kernel)
set_option maxRecDepth 20000 in
theorem gX5_total_X3_sumWithin : GoodIn wsX5_total (wsV RX5 194 RX3 yX3_sumWithin wsX3_sumWithin) := goodIn_app (goodIn_of _ (by decide +kernel)) ggX5_total_X3_sumWithin
theorem dX5_total_0 : decode cX5_total 0 = .ok (.aload_n 0, 1) := by decide +kernel
theorem dX5_total_1 : decode cX5_total 1 = .ok (.getfield 10, 3) := by decide +kernel
theorem dX5_total_4 : decode cX5_total 4 = .ok (.getfield 23, 3) := by decide +kernel
theorem dX5_total_7 : decode cX5_total 7 = .ok (.iload_n 1, 1) := by decide +kernel
theorem dX5_total_8 : decode cX5_total 8 = .ok (.invokevirtual 33, 3) := by decide +kernel
theorem dX5_total_11 : decode cX5_total 11 = .ok (.ifCond .eq 12, 3) := by decide +kernel
theorem dX5_total_14 : decode cX5_total 14 = .ok (.iload_n 2, 1) := by decide +kernel
theorem dX5_total_15 : decode cX5_total 15 = .ok (.ifCond .lt 8, 3) := by decide +kernel
theorem dX5_total_18 : decode cX5_total 18 = .ok (.iload_n 2, 1) := by decide +kernel
theorem dX5_total_19 : decode cX5_total 19 = .ok (.iconst 4, 1) := by decide +kernel
theorem dX5_total_20 : decode cX5_total 20 = .ok (.if_icmp .le 5, 3) := by decide +kernel
theorem dX5_total_23 : decode cX5_total 23 = .ok (.iconst (-1), 1) := by decide +kernel
theorem dX5_total_24 : decode cX5_total 24 = .ok (.ireturn, 1) := by decide +kernel
theorem dX5_total_25 : decode cX5_total 25 = .ok (.aload_n 0, 1) := by decide +kernel
theorem dX5_total_26 : decode cX5_total 26 = .ok (.getfield 10, 3) := by decide +kernel
theorem dX5_total_29 : decode cX5_total 29 = .ok (.getfield 23, 3) := by decide +kernel
theorem dX5_total_32 : decode cX5_total 32 = .ok (.iload_n 1, 1) := by decide +kernel
theorem dX5_total_33 : decode cX5_total 33 = .ok (.iload_n 2, 1) := by decide +kernel
theorem dX5_total_34 : decode cX5_total 34 = .ok (.invokevirtual 194, 3) := by decide +kernel
theorem dX5_total_37 : decode cX5_total 37 = .ok (.ireturn, 1) := by decide +kernel
set_option maxRecDepth 20000 in
theorem ggX5_commitment_X1_has : GoodIn wsX5_commitment wsX1_has := goodIn_r _ [11, 12, 21, 22, 23, 24, 25] (by decide +kernel) (by decide +kernel)
set_option maxRecDepth 20000 in
theorem gX5_commitment_X1_has : GoodIn wsX5_commitment (wsV RX5 103 RX1 yX1_has wsX1_has) := goodIn_app (goodIn_of _ (by decide +kernel)) ggX5_commitment_X1_has
theorem dX5_commitment_0 : decode cX5_commitment 0 = .ok (.aload_n 0, 1) := by decide +kernel
theorem dX5_commitment_1 : decode cX5_commitment 1 = .ok (.getfield 10, 3) := by decide +kernel
theorem dX5_commitment_4 : decode cX5_commitment 4 = .ok (.getfield 82, 3) := by decide +kernel
theorem dX5_commitment_7 : decode cX5_commitment 7 = .ok (.astore_n 3, 1) := by decide +kernel
theorem dX5_commitment_8 : decode cX5_commitment 8 = .ok (.aload_n 3, 1) := by decide +kernel
theorem dX5_commitment_9 : decode cX5_commitment 9 = .ok (.iload_n 1, 1) := by decide +kernel
theorem dX5_commitment_10 : decode cX5_commitment 10 = .ok (.invokevirtual 103, 3) := by decide +kernel
theorem dX5_commitment_13 : decode cX5_commitment 13 = .ok (.ifCond .ne 5, 3) := by decide +kernel
theorem dX5_commitment_16 : decode cX5_commitment 16 = .ok (.iconst (-1), 1) := by decide +kernel
theorem dX5_commitment_17 : decode cX5_commitment 17 = .ok (.ireturn, 1) := by decide +kernel
theorem dX5_commitment_18 : decode cX5_commitment 18 = .ok (.iload_n 2, 1) := by decide +kernel
theorem dX5_commitment_19 : decode cX5_commitment 19 = .ok (.tableswitch 57 0 3 #[29, 36, 43, 50], 29) := by decide +kernel
theorem dX5_commitment_48 : decode cX5_commitment 48 = .ok (.aload_n 3, 1) := by decide +kernel
theorem dX5_commitment_49 : decode cX5_commitment 49 = .ok (.getfield 110, 3) := by decide +kernel
theorem dX5_commitment_52 : decode cX5_commitment 52 = .ok (.iload_n 1, 1) := by decide +kernel
theorem dX5_commitment_53 : decode cX5_commitment 53 = .ok (.iaload, 1) := by decide +kernel
theorem dX5_commitment_54 : decode cX5_commitment 54 = .ok (.ireturn, 1) := by decide +kernel
theorem dX5_commitment_55 : decode cX5_commitment 55 = .ok (.aload_n 3, 1) := by decide +kernel
theorem dX5_commitment_56 : decode cX5_commitment 56 = .ok (.getfield 104, 3) := by decide +kernel
theorem dX5_commitment_59 : decode cX5_commitment 59 = .ok (.iload_n 1, 1) := by decide +kernel
theorem dX5_commitment_60 : decode cX5_commitment 60 = .ok (.iaload, 1) := by decide +kernel
theorem dX5_commitment_61 : decode cX5_commitment 61 = .ok (.ireturn, 1) := by decide +kernel
theorem dX5_commitment_62 : decode cX5_commitment 62 = .ok (.aload_n 3, 1) := by decide +kernel
theorem dX5_commitment_63 : decode cX5_commitment 63 = .ok (.getfield 107, 3) := by decide +kernel
theorem dX5_commitment_66 : decode cX5_commitment 66 = .ok (.iload_n 1, 1) := by decide +kernel
theorem dX5_commitment_67 : decode cX5_commitment 67 = .ok (.iaload, 1) := by decide +kernel
theorem dX5_commitment_68 : decode cX5_commitment 68 = .ok (.ireturn, 1) := by decide +kernel
theorem dX5_commitment_69 : decode cX5_commitment 69 = .ok (.aload_n 3, 1) := by decide +kernel
theorem dX5_commitment_70 : decode cX5_commitment 70 = .ok (.getfield 214, 3) := by decide +kernel
theorem dX5_commitment_73 : decode cX5_commitment 73 = .ok (.iload_n 1, 1) := by decide +kernel
theorem dX5_commitment_74 : decode cX5_commitment 74 = .ok (.iaload, 1) := by decide +kernel
theorem dX5_commitment_75 : decode cX5_commitment 75 = .ok (.ireturn, 1) := by decide +kernel
theorem dX5_commitment_76 : decode cX5_commitment 76 = .ok (.iconst (-1), 1) := by decide +kernel
theorem dX5_commitment_77 : decode cX5_commitment 77 = .ok (.ireturn, 1) := by decide +kernel
set_option maxRecDepth 20000 in
theorem ggX5_deed_X4_recall : GoodIn wsX5_deed wsX4_recall := goodIn_r _ [7, 8, 9, 10, 11, 12, 13, 14, 23, 24, 25, 26] (by decide +kernel) (by decide +kernel)
set_option maxRecDepth 20000 in
theorem gX5_deed_X4_recall : GoodIn wsX5_deed (wsV RX5 147 RX4 yX4_recall wsX4_recall) := goodIn_app (goodIn_of _ (by decide +kernel)) ggX5_deed_X4_recall
theorem dX5_deed_0 : decode cX5_deed 0 = .ok (.iload_n 1, 1) := by decide +kernel
theorem dX5_deed_1 : decode cX5_deed 1 = .ok (.ifCond .ge 5, 3) := by decide +kernel
theorem dX5_deed_4 : decode cX5_deed 4 = .ok (.iconst (-1), 1) := by decide +kernel
theorem dX5_deed_5 : decode cX5_deed 5 = .ok (.ireturn, 1) := by decide +kernel
theorem dX5_deed_6 : decode cX5_deed 6 = .ok (.aload_n 0, 1) := by decide +kernel
theorem dX5_deed_7 : decode cX5_deed 7 = .ok (.getfield 19, 3) := by decide +kernel
theorem dX5_deed_10 : decode cX5_deed 10 = .ok (.iload_n 1, 1) := by decide +kernel
theorem dX5_deed_11 : decode cX5_deed 11 = .ok (.invokevirtual 147, 3) := by decide +kernel
theorem dX5_deed_14 : decode cX5_deed 14 = .ok (.astore_n 2, 1) := by decide +kernel
theorem dX5_deed_15 : decode cX5_deed 15 = .ok (.aload_n 2, 1) := by decide +kernel
theorem dX5_deed_16 : decode cX5_deed 16 = .ok (.ifnonnull 8, 3) := by decide +kernel
theorem dX5_deed_19 : decode cX5_deed 19 = .ok (.bipush (-9), 2) := by decide +kernel
theorem dX5_deed_21 : decode cX5_deed 21 = .ok (.goto 7, 3) := by decide +kernel
theorem dX5_deed_24 : decode cX5_deed 24 = .ok (.aload_n 2, 1) := by decide +kernel
theorem dX5_deed_25 : decode cX5_deed 25 = .ok (.getfield 169, 3) := by decide +kernel
theorem dX5_deed_28 : decode cX5_deed 28 = .ok (.ireturn, 1) := by decide +kernel
set_option maxRecDepth 20000 in
theorem ggX5_mostFrom_X3_hasBoth : GoodIn wsX5_mostFrom wsX3_hasBoth := goodIn_r _ [7, 8, 9, 10, 6, 11, 12, 63, 64, 65, 66, 67, 68, 69, 70, 71, 72, 73] (by decide +kernel) (by decide +kernel)
set_option maxRecDepth 20000 in
theorem gX5_mostFrom_X3_hasBoth : GoodIn wsX5_mostFrom (wsV RX5 122 RX3 yX3_hasBoth wsX3_hasBoth) := goodIn_app (goodIn_of _ (by decide +kernel)) ggX5_mostFrom_X3_hasBoth
set_option maxRecDepth 20000 in
theorem ggX5_mostFrom_X3_movable : GoodIn wsX5_mostFrom wsX3_movable := goodIn_r _ [16, 17, 18, 19, 20, 21, 22, 23, 24, 25, 26, 27, 28, 4, 5, 6, 7, 8, 9, 10, 11, 12, 29, 30, 31, 32, 33, 34, 35, 36, 37, 38, 39, 40, 41, 42, 43, 44, 45, 46, 47, 48, 49, 50, 51, 52, 53, 54, 63, 64, 65, 66, 67, 68, 69, 70, 71, 72, 73] (by decide +kernel) (by decide +kernel)
set_option maxRecDepth 20000 in
theorem gX5_mostFrom_X3_movable : GoodIn wsX5_mostFrom (wsV RX5 126 RX3 yX3_movable wsX3_movable) := goodIn_app (goodIn_of _ (by decide +kernel)) ggX5_mostFrom_X3_movable
theorem dX5_mostFrom_0 : decode cX5_mostFrom 0 = .ok (.aload_n 0, 1) := by decide +kernel
theorem dX5_mostFrom_1 : decode cX5_mostFrom 1 = .ok (.getfield 10, 3) := by decide +kernel
theorem dX5_mostFrom_4 : decode cX5_mostFrom 4 = .ok (.getfield 23, 3) := by decide +kernel
theorem dX5_mostFrom_7 : decode cX5_mostFrom 7 = .ok (.iload_n 1, 1) := by decide +kernel
theorem dX5_mostFrom_8 : decode cX5_mostFrom 8 = .ok (.iload_n 2, 1) := by decide +kernel
theorem dX5_mostFrom_9 : decode cX5_mostFrom 9 = .ok (.invokevirtual 122, 3) := by decide +kernel
theorem dX5_mostFrom_12 : decode cX5_mostFrom 12 = .ok (.ifCond .ne 5, 3) := by decide +kernel
theorem dX5_mostFrom_15 : decode cX5_mostFrom 15 = .ok (.iconst (-1), 1) := by decide +kernel
theorem dX5_mostFrom_16 : decode cX5_mostFrom 16 = .ok (.ireturn, 1) := by decide +kernel
theorem dX5_mostFrom_17 : decode cX5_mostFrom 17 = .ok (.aload_n 0, 1) := by decide +kernel
theorem dX5_mostFrom_18 : decode cX5_mostFrom 18 = .ok (.getfield 10, 3) := by decide +kernel
theorem dX5_mostFrom_21 : decode cX5_mostFrom 21 = .ok (.getfield 23, 3) := by decide +kernel
theorem dX5_mostFrom_24 : decode cX5_mostFrom 24 = .ok (.iload_n 1, 1) := by decide +kernel
theorem dX5_mostFrom_25 : decode cX5_mostFrom 25 = .ok (.iload_n 2, 1) := by decide +kernel
theorem dX5_mostFrom_26 : decode cX5_mostFrom 26 = .ok (.invokevirtual 126, 3) := by decide +kernel
theorem dX5_mostFrom_29 : decode cX5_mostFrom 29 = .ok (.ireturn, 1) := by decide +kernel
set_option maxRecDepth 20000 in
theorem ggX5_bestGiver_X3_has : GoodIn wsX5_bestGiver wsX3_has := goodIn_r _ [7, 8, 67, 68, 69, 70, 71, 72, 73, 74, 75, 76, 77] (by decide +kernel) (by decide +kernel)
set_option maxRecDepth 20000 in
theorem gX5_bestGiver_X3_has : GoodIn wsX5_bestGiver (wsV RX5 33 RX3 yX3_has wsX3_has) := goodIn_app (goodIn_of _ (by decide +kernel)) ggX5_bestGiver_X3_has
set_option maxRecDepth 20000 in
theorem ggX5_bestGiver_X3_giverOfMost : GoodIn wsX5_bestGiver wsX3_giverOfMost := goodIn_r _ [12, 13, 14, 15, 16, 6, 17, 18, 19, 20, 21, 22, 23, 24, 25, 26, 27, 28, 29, 30, 31, 32, 33, 4, 5, 7, 8, 34, 35, 36, 37, 38, 39, 40, 41, 42, 43, 44, 45, 46, 47, 48, 49, 50, 51, 52, 53, 54, 55, 56, 57, 58, 67, 68, 69, 70, 71, 72, 73, 74, 75, 76, 77] (by decide +kernel) (by decide +kernel)
set_option maxRecDepth 20000 in
theorem gX5_bestGiver_X3_giverOfMost : GoodIn wsX5_bestGiver (wsV RX5 216 RX3 yX3_giverOfMost wsX3_giverOfMost) := goodIn_app (goodIn_of _ (by decide +kernel)) ggX5_bestGiver_X3_giverOfMost
theorem dX5_bestGiver_0 : decode cX5_bestGiver 0 = .ok (.aload_n 0, 1) := by decide +kernel
theorem dX5_bestGiver_1 : decode cX5_bestGiver 1 = .ok (.getfield 10, 3) := by decide +kernel
theorem dX5_bestGiver_4 : decode cX5_bestGiver 4 = .ok (.getfield 23, 3) := by decide +kernel
theorem dX5_bestGiver_7 : decode cX5_bestGiver 7 = .ok (.iload_n 1, 1) := by decide +kernel
theorem dX5_bestGiver_8 : decode cX5_bestGiver 8 = .ok (.invokevirtual 33, 3) := by decide +kernel
theorem dX5_bestGiver_11 : decode cX5_bestGiver 11 = .ok (.ifCond .ne 5, 3) := by decide +kernel
theorem dX5_bestGiver_14 : decode cX5_bestGiver 14 = .ok (.iconst (-1), 1) := by decide +kernel
theorem dX5_bestGiver_15 : decode cX5_bestGiver 15 = .ok (.ireturn, 1) := by decide +kernel
theorem dX5_bestGiver_16 : decode cX5_bestGiver 16 = .ok (.aload_n 0, 1) := by decide +kernel
theorem dX5_bestGiver_17 : decode cX5_bestGiver 17 = .ok (.getfield 10, 3) := by decide +kernel
theorem dX5_bestGiver_20 : decode cX5_bestGiver 20 = .ok (.getfield 23, 3) := by decide +kernel
theorem dX5_bestGiver_23 : decode cX5_bestGiver 23 = .ok (.iload_n 1, 1) := by decide +kernel
theorem dX5_bestGiver_24 : decode cX5_bestGiver 24 = .ok (.invokevirtual 216, 3) := by decide +kernel
theorem dX5_bestGiver_27 : decode cX5_bestGiver 27 = .ok (.ireturn, 1) := by decide +kernel
set_option maxRecDepth 20000 in
theorem ggX5_richest_X3_has : GoodIn wsX5_richest wsX3_has := goodIn_r _ [7, 8, 47, 48, 49, 50, 51, 52, 53, 54, 55, 56, 57] (by decide +kernel) (by decide +kernel)
set_option maxRecDepth 20000 in
theorem gX5_richest_X3_has : GoodIn wsX5_richest (wsV RX5 33 RX3 yX3_has wsX3_has) := goodIn_app (goodIn_of _ (by decide +kernel)) ggX5_richest_X3_has
set_option maxRecDepth 20000 in
theorem ggX5_richest_X3_atPlace : GoodIn wsX5_richest wsX3_atPlace := goodIn_r _ [12, 13, 14, 15, 6, 16, 17, 18, 4, 5, 7, 8, 19, 20, 21, 22, 23, 24, 25, 26, 27, 28, 29, 30, 31, 32, 33, 34, 35, 36, 37, 38, 47, 48, 49, 50, 51, 52, 53, 54, 55, 56, 57] (by decide +kernel) (by decide +kernel)
set_option maxRecDepth 20000 in
theorem gX5_richest_X3_atPlace : GoodIn wsX5_richest (wsV RX5 219 RX3 yX3_atPlace wsX3_atPlace) := goodIn_app (goodIn_of _ (by decide +kernel)) ggX5_richest_X3_atPlace
theorem dX5_richest_0 : decode cX5_richest 0 = .ok (.aload_n 0, 1) := by decide +kernel
theorem dX5_richest_1 : decode cX5_richest 1 = .ok (.getfield 10, 3) := by decide +kernel
theorem dX5_richest_4 : decode cX5_richest 4 = .ok (.getfield 23, 3) := by decide +kernel
theorem dX5_richest_7 : decode cX5_richest 7 = .ok (.iload_n 1, 1) := by decide +kernel
theorem dX5_richest_8 : decode cX5_richest 8 = .ok (.invokevirtual 33, 3) := by decide +kernel
theorem dX5_richest_11 : decode cX5_richest 11 = .ok (.ifCond .eq 7, 3) := by decide +kernel
theorem dX5_richest_14 : decode cX5_richest 14 = .ok (.iload_n 2, 1) := by decide +kernel
theorem dX5_richest_15 : decode cX5_richest 15 = .ok (.ifCond .ge 5, 3) := by decide +kernel
theorem dX5_richest_18 : decode cX5_richest 18 = .ok (.iconst (-1), 1) := by decide +kernel
theorem dX5_richest_19 : decode cX5_richest 19 = .ok (.ireturn, 1) := by decide +kernel
theorem dX5_richest_20 : decode cX5_richest 20 = .ok (.aload_n 0, 1) := by decide +kernel
theorem dX5_richest_21 : decode cX5_richest 21 = .ok (.getfield 10, 3) := by decide +kernel
theorem dX5_richest_24 : decode cX5_richest 24 = .ok (.getfield 23, 3) := by decide +kernel
theorem dX5_richest_27 : decode cX5_richest 27 = .ok (.iload_n 1, 1) := by decide +kernel
theorem dX5_richest_28 : decode cX5_richest 28 = .ok (.iload_n 2, 1) := by decide +kernel
theorem dX5_richest_29 : decode cX5_richest 29 = .ok (.invokevirtual 219, 3) := by decide +kernel
theorem dX5_richest_32 : decode cX5_richest 32 = .ok (.ireturn, 1) := by decide +kernel
set_option maxRecDepth 20000 in
theorem ggX5_wouldLapse_X3_has : GoodIn wsX5_wouldLapse wsX3_has := goodIn_r _ [8, 9, 39, 40, 41, 42, 43, 44, 45, 46, 47, 48, 49] (by decide +kernel) (by decide +kernel)
set_option maxRecDepth 20000 in
theorem gX5_wouldLapse_X3_has : GoodIn wsX5_wouldLapse (wsV RX5 33 RX3 yX3_has wsX3_has) := goodIn_app (goodIn_of _ (by decide +kernel)) ggX5_wouldLapse_X3_has
set_option maxRecDepth 20000 in
theorem ggX5_wouldLapse_X3_lapseWithin : GoodIn wsX5_wouldLapse wsX3_lapseWithin := goodIn_r _ [13, 14, 15, 16, 7, 17, 18, 19, 5, 6, 8, 9, 20, 21, 22, 23, 24, 25, 26, 27, 28, 29, 30, 39, 40, 41, 42, 43, 44, 45, 46, 47, 48, 49] (by decide +kernel) (by decide +kernel)
set_option maxRecDepth 20000 in
theorem gX5_wouldLapse_X3_lapseWithin : GoodIn wsX5_wouldLapse (wsV RX5 137 RX3 yX3_lapseWithin wsX3_lapseWithin) := goodIn_app (goodIn_of _ (by decide +kernel)) ggX5_wouldLapse_X3_lapseWithin
theorem dX5_wouldLapse_0 : decode cX5_wouldLapse 0 = .ok (.aload_n 0, 1) := by decide +kernel
theorem dX5_wouldLapse_1 : decode cX5_wouldLapse 1 = .ok (.getfield 10, 3) := by decide +kernel
theorem dX5_wouldLapse_4 : decode cX5_wouldLapse 4 = .ok (.getfield 23, 3) := by decide +kernel
theorem dX5_wouldLapse_7 : decode cX5_wouldLapse 7 = .ok (.iload_n 1, 1) := by decide +kernel
theorem dX5_wouldLapse_8 : decode cX5_wouldLapse 8 = .ok (.invokevirtual 33, 3) := by decide +kernel
theorem dX5_wouldLapse_11 : decode cX5_wouldLapse 11 = .ok (.ifCond .ne 5, 3) := by decide +kernel
theorem dX5_wouldLapse_14 : decode cX5_wouldLapse 14 = .ok (.iconst (-1), 1) := by decide +kernel
theorem dX5_wouldLapse_15 : decode cX5_wouldLapse 15 = .ok (.ireturn, 1) := by decide +kernel
theorem dX5_wouldLapse_16 : decode cX5_wouldLapse 16 = .ok (.aload_n 0, 1) := by decide +kernel
theorem dX5_wouldLapse_17 : decode cX5_wouldLapse 17 = .ok (.getfield 10, 3) := by decide +kernel
theorem dX5_wouldLapse_20 : decode cX5_wouldLapse 20 = .ok (.getfield 23, 3) := by decide +kernel
theorem dX5_wouldLapse_23 : decode cX5_wouldLapse 23 = .ok (.iload_n 1, 1) := by decide +kernel
theorem dX5_wouldLapse_24 : decode cX5_wouldLapse 24 = .ok (.aload_n 0, 1) := by decide +kernel
theorem dX5_wouldLapse_25 : decode cX5_wouldLapse 25 = .ok (.getfield 10, 3) := by decide +kernel
theorem dX5_wouldLapse_28 : decode cX5_wouldLapse 28 = .ok (.getfield 72, 3) := by decide +kernel
theorem dX5_wouldLapse_31 : decode cX5_wouldLapse 31 = .ok (.invokevirtual 137, 3) := by decide +kernel
theorem dX5_wouldLapse_34 : decode cX5_wouldLapse 34 = .ok (.ireturn, 1) := by decide +kernel
theorem dX5_isAmount_0 : decode cX5_isAmount 0 = .ok (.iload_n 0, 1) := by decide +kernel
theorem dX5_isAmount_1 : decode cX5_isAmount 1 = .ok (.iconst 1, 1) := by decide +kernel
theorem dX5_isAmount_2 : decode cX5_isAmount 2 = .ok (.if_icmp .lt 13, 3) := by decide +kernel
theorem dX5_isAmount_5 : decode cX5_isAmount 5 = .ok (.iload_n 0, 1) := by decide +kernel
theorem dX5_isAmount_6 : decode cX5_isAmount 6 = .ok (.ldc 222, 2) := by decide +kernel
theorem dX5_isAmount_8 : decode cX5_isAmount 8 = .ok (.if_icmp .gt 7, 3) := by decide +kernel
theorem dX5_isAmount_11 : decode cX5_isAmount 11 = .ok (.iconst 1, 1) := by decide +kernel
theorem dX5_isAmount_12 : decode cX5_isAmount 12 = .ok (.goto 4, 3) := by decide +kernel
theorem dX5_isAmount_15 : decode cX5_isAmount 15 = .ok (.iconst 0, 1) := by decide +kernel
theorem dX5_isAmount_16 : decode cX5_isAmount 16 = .ok (.ireturn, 1) := by decide +kernel
theorem dX5_isPercentage_0 : decode cX5_isPercentage 0 = .ok (.iload_n 0, 1) := by decide +kernel
theorem dX5_isPercentage_1 : decode cX5_isPercentage 1 = .ok (.ifCond .lt 13, 3) := by decide +kernel
theorem dX5_isPercentage_4 : decode cX5_isPercentage 4 = .ok (.iload_n 0, 1) := by decide +kernel
theorem dX5_isPercentage_5 : decode cX5_isPercentage 5 = .ok (.bipush 100, 2) := by decide +kernel
theorem dX5_isPercentage_7 : decode cX5_isPercentage 7 = .ok (.if_icmp .gt 7, 3) := by decide +kernel
theorem dX5_isPercentage_10 : decode cX5_isPercentage 10 = .ok (.iconst 1, 1) := by decide +kernel
theorem dX5_isPercentage_11 : decode cX5_isPercentage 11 = .ok (.goto 4, 3) := by decide +kernel
theorem dX5_isPercentage_14 : decode cX5_isPercentage 14 = .ok (.iconst 0, 1) := by decide +kernel
theorem dX5_isPercentage_15 : decode cX5_isPercentage 15 = .ok (.ireturn, 1) := by decide +kernel
theorem dX5_partOf_0 : decode cX5_partOf 0 = .ok (.iload_n 0, 1) := by decide +kernel
theorem dX5_partOf_1 : decode cX5_partOf 1 = .ok (.i2l, 1) := by decide +kernel
theorem dX5_partOf_2 : decode cX5_partOf 2 = .ok (.iload_n 1, 1) := by decide +kernel
theorem dX5_partOf_3 : decode cX5_partOf 3 = .ok (.i2l, 1) := by decide +kernel
theorem dX5_partOf_4 : decode cX5_partOf 4 = .ok (.lmul, 1) := by decide +kernel
theorem dX5_partOf_5 : decode cX5_partOf 5 = .ok (.ldc2_w 223, 3) := by decide +kernel
theorem dX5_partOf_8 : decode cX5_partOf 8 = .ok (.ldiv, 1) := by decide +kernel
theorem dX5_partOf_9 : decode cX5_partOf 9 = .ok (.l2i, 1) := by decide +kernel
theorem dX5_partOf_10 : decode cX5_partOf 10 = .ok (.ireturn, 1) := by decide +kernel
set_option maxRecDepth 20000 in
theorem ggX6_init_X6_of : GoodIn wsX6_init wsX6_of := goodIn_r _ [16] (by decide +kernel) (by decide +kernel)
set_option maxRecDepth 20000 in
theorem gX6_init_X6_of : GoodIn wsX6_init (va_wsS RX6 34 yX6_of wsX6_of) := goodIn_app (goodIn_of _ (by decide +kernel)) ggX6_init_X6_of
theorem dX6_init_0 : decode cX6_init 0 = .ok (.aload_n 0, 1) := by decide +kernel
theorem dX6_init_1 : decode cX6_init 1 = .ok (.invokespecial 1, 3) := by decide +kernel
theorem dX6_init_4 : decode cX6_init 4 = .ok (.aload_n 0, 1) := by decide +kernel
theorem dX6_init_5 : decode cX6_init 5 = .ok (.sipush 4498, 3) := by decide +kernel
theorem dX6_init_8 : decode cX6_init 8 = .ok (.newarray .int, 2) := by decide +kernel
theorem dX6_init_10 : decode cX6_init 10 = .ok (.putfield 7, 3) := by decide +kernel
theorem dX6_init_13 : decode cX6_init 13 = .ok (.aload_n 0, 1) := by decide +kernel
theorem dX6_init_14 : decode cX6_init 14 = .ok (.bipush 12, 2) := by decide +kernel
theorem dX6_init_16 : decode cX6_init 16 = .ok (.newarray .int, 2) := by decide +kernel
theorem dX6_init_18 : decode cX6_init 18 = .ok (.putfield 13, 3) := by decide +kernel
theorem dX6_init_21 : decode cX6_init 21 = .ok (.aload_n 0, 1) := by decide +kernel
theorem dX6_init_22 : decode cX6_init 22 = .ok (.bipush 12, 2) := by decide +kernel
theorem dX6_init_24 : decode cX6_init 24 = .ok (.newarray .int, 2) := by decide +kernel
theorem dX6_init_26 : decode cX6_init 26 = .ok (.putfield 16, 3) := by decide +kernel
theorem dX6_init_29 : decode cX6_init 29 = .ok (.aload_n 0, 1) := by decide +kernel
theorem dX6_init_30 : decode cX6_init 30 = .ok (.bipush 12, 2) := by decide +kernel
theorem dX6_init_32 : decode cX6_init 32 = .ok (.newarray .int, 2) := by decide +kernel
theorem dX6_init_34 : decode cX6_init 34 = .ok (.putfield 19, 3) := by decide +kernel
theorem dX6_init_37 : decode cX6_init 37 = .ok (.aload_n 0, 1) := by decide +kernel
theorem dX6_init_38 : decode cX6_init 38 = .ok (.bipush 12, 2) := by decide +kernel
theorem dX6_init_40 : decode cX6_init 40 = .ok (.newarray .int, 2) := by decide +kernel
theorem dX6_init_42 : decode cX6_init 42 = .ok (.putfield 22, 3) := by decide +kernel
theorem dX6_init_45 : decode cX6_init 45 = .ok (.aload_n 0, 1) := by decide +kernel
theorem dX6_init_46 : decode cX6_init 46 = .ok (.bipush 12, 2) := by decide +kernel
theorem dX6_init_48 : decode cX6_init 48 = .ok (.newarray .int, 2) := by decide +kernel
theorem dX6_init_50 : decode cX6_init 50 = .ok (.putfield 25, 3) := by decide +kernel
theorem dX6_init_53 : decode cX6_init 53 = .ok (.aload_n 0, 1) := by decide +kernel
theorem dX6_init_54 : decode cX6_init 54 = .ok (.bipush 12, 2) := by decide +kernel
theorem dX6_init_56 : decode cX6_init 56 = .ok (.newarray .int, 2) := by decide +kernel
theorem dX6_init_58 : decode cX6_init 58 = .ok (.putfield 28, 3) := by decide +kernel
theorem dX6_init_61 : decode cX6_init 61 = .ok (.aload_n 0, 1) := by decide +kernel
theorem dX6_init_62 : decode cX6_init 62 = .ok (.bipush 12, 2) := by decide +kernel
theorem dX6_init_64 : decode cX6_init 64 = .ok (.newarray .int, 2) := by decide +kernel
theorem dX6_init_66 : decode cX6_init 66 = .ok (.putfield 31, 3) := by decide +kernel
theorem dX6_init_69 : decode cX6_init 69 = .ok (.aload_n 0, 1) := by decide +kernel
theorem dX6_init_70 : decode cX6_init 70 = .ok (.getfield 7, 3) := by decide +kernel
theorem dX6_init_73 : decode cX6_init 73 = .ok (.iconst 1, 1) := by decide +kernel
theorem dX6_init_74 : decode cX6_init 74 = .ok (.iconst 1, 1) := by decide +kernel
theorem dX6_init_75 : decode cX6_init 75 = .ok (.iastore, 1) := by decide +kernel
theorem dX6_init_76 : decode cX6_init 76 = .ok (.aload_n 0, 1) := by decide +kernel
theorem dX6_init_77 : decode cX6_init 77 = .ok (.getfield 7, 3) := by decide +kernel
theorem dX6_init_80 : decode cX6_init 80 = .ok (.iconst 3, 1) := by decide +kernel
theorem dX6_init_81 : decode cX6_init 81 = .ok (.bipush 10, 2) := by decide +kernel
theorem dX6_init_83 : decode cX6_init 83 = .ok (.iastore, 1) := by decide +kernel
theorem dX6_init_84 : decode cX6_init 84 = .ok (.aload_n 0, 1) := by decide +kernel
theorem dX6_init_85 : decode cX6_init 85 = .ok (.getfield 7, 3) := by decide +kernel
theorem dX6_init_88 : decode cX6_init 88 = .ok (.iconst 0, 1) := by decide +kernel
theorem dX6_init_89 : decode cX6_init 89 = .ok (.iconst 0, 1) := by decide +kernel
theorem dX6_init_90 : decode cX6_init 90 = .ok (.invokestatic 34, 3) := by decide +kernel
theorem dX6_init_93 : decode cX6_init 93 = .ok (.bipush (-9), 2) := by decide +kernel
theorem dX6_init_95 : decode cX6_init 95 = .ok (.iastore, 1) := by decide +kernel
theorem dX6_init_96 : decode cX6_init 96 = .ok (.aload_n 0, 1) := by decide +kernel
theorem dX6_init_97 : decode cX6_init 97 = .ok (.getfield 7, 3) := by decide +kernel
theorem dX6_init_100 : decode cX6_init 100 = .ok (.iconst 0, 1) := by decide +kernel
theorem dX6_init_101 : decode cX6_init 101 = .ok (.bipush 8, 2) := by decide +kernel
theorem dX6_init_103 : decode cX6_init 103 = .ok (.invokestatic 34, 3) := by decide +kernel
theorem dX6_init_106 : decode cX6_init 106 = .ok (.bipush 50, 2) := by decide +kernel
theorem dX6_init_108 : decode cX6_init 108 = .ok (.iastore, 1) := by decide +kernel
theorem dX6_init_109 : decode cX6_init 109 = .ok (.return_, 1) := by decide +kernel
theorem dX6_in_0 : decode cX6_in 0 = .ok (.iload_n 0, 1) := by decide +kernel
theorem dX6_in_1 : decode cX6_in 1 = .ok (.iload_n 1, 1) := by decide +kernel
theorem dX6_in_2 : decode cX6_in 2 = .ok (.if_icmp .lt 12, 3) := by decide +kernel
theorem dX6_in_5 : decode cX6_in 5 = .ok (.iload_n 0, 1) := by decide +kernel
theorem dX6_in_6 : decode cX6_in 6 = .ok (.iload_n 2, 1) := by decide +kernel
theorem dX6_in_7 : decode cX6_in 7 = .ok (.if_icmp .gt 7, 3) := by decide +kernel
theorem dX6_in_10 : decode cX6_in 10 = .ok (.iconst 1, 1) := by decide +kernel
theorem dX6_in_11 : decode cX6_in 11 = .ok (.goto 4, 3) := by decide +kernel
theorem dX6_in_14 : decode cX6_in 14 = .ok (.iconst 0, 1) := by decide +kernel
theorem dX6_in_15 : decode cX6_in 15 = .ok (.ireturn, 1) := by decide +kernel
theorem dX6_of_0 : decode cX6_of 0 = .ok (.bipush 6, 2) := by decide +kernel
theorem dX6_of_2 : decode cX6_of 2 = .ok (.bipush 9, 2) := by decide +kernel
theorem dX6_of_4 : decode cX6_of 4 = .ok (.iload_n 0, 1) := by decide +kernel
theorem dX6_of_5 : decode cX6_of 5 = .ok (.imul, 1) := by decide +kernel
theorem dX6_of_6 : decode cX6_of 6 = .ok (.iadd, 1) := by decide +kernel
theorem dX6_of_7 : decode cX6_of 7 = .ok (.iload_n 1, 1) := by decide +kernel
theorem dX6_of_8 : decode cX6_of 8 = .ok (.iadd, 1) := by decide +kernel
theorem dX6_of_9 : decode cX6_of 9 = .ok (.ireturn, 1) := by decide +kernel
theorem dX6_ofCommitment_0 : decode cX6_ofCommitment 0 = .ok (.sipush 186, 3) := by decide +kernel
theorem dX6_ofCommitment_3 : decode cX6_ofCommitment 3 = .ok (.iconst 4, 1) := by decide +kernel
theorem dX6_ofCommitment_4 : decode cX6_ofCommitment 4 = .ok (.iload_n 0, 1) := by decide +kernel
theorem dX6_ofCommitment_5 : decode cX6_ofCommitment 5 = .ok (.imul, 1) := by decide +kernel
theorem dX6_ofCommitment_6 : decode cX6_ofCommitment 6 = .ok (.iadd, 1) := by decide +kernel
theorem dX6_ofCommitment_7 : decode cX6_ofCommitment 7 = .ok (.iload_n 1, 1) := by decide +kernel
theorem dX6_ofCommitment_8 : decode cX6_ofCommitment 8 = .ok (.iadd, 1) := by decide +kernel
theorem dX6_ofCommitment_9 : decode cX6_ofCommitment 9 = .ok (.ireturn, 1) := by decide +kernel
set_option maxRecDepth 20000 in
theorem ggX6_isHead_X6_in : GoodIn wsX6_isHead wsX6_in := goodIn_r _ [5] (by decide +kernel) (by decide +kernel)
set_option maxRecDepth 20000 in
theorem gX6_isHead_X6_in : GoodIn wsX6_isHead (va_wsS RX6 38 yX6_in wsX6_in) := goodIn_app (goodIn_of _ (by decide +kernel)) ggX6_isHead_X6_in
theorem dX6_isHead_0 : decode cX6_isHead 0 = .ok (.iload_n 1, 1) := by decide +kernel
theorem dX6_isHead_1 : decode cX6_isHead 1 = .ok (.iconst 0, 1) := by decide +kernel
theorem dX6_isHead_2 : decode cX6_isHead 2 = .ok (.aload_n 0, 1) := by decide +kernel
theorem dX6_isHead_3 : decode cX6_isHead 3 = .ok (.getfield 7, 3) := by decide +kernel
theorem dX6_isHead_6 : decode cX6_isHead 6 = .ok (.iconst 1, 1) := by decide +kernel
theorem dX6_isHead_7 : decode cX6_isHead 7 = .ok (.iaload, 1) := by decide +kernel
theorem dX6_isHead_8 : decode cX6_isHead 8 = .ok (.iconst 1, 1) := by decide +kernel
theorem dX6_isHead_9 : decode cX6_isHead 9 = .ok (.isub, 1) := by decide +kernel
theorem dX6_isHead_10 : decode cX6_isHead 10 = .ok (.invokestatic 38, 3) := by decide +kernel
theorem dX6_isHead_13 : decode cX6_isHead 13 = .ok (.ireturn, 1) := by decide +kernel
set_option maxRecDepth 20000 in
theorem ggX6_isCommitment_X6_in : GoodIn wsX6_isCommitment wsX6_in := goodIn_r _ [5] (by decide +kernel) (by decide +kernel)
set_option maxRecDepth 20000 in
theorem gX6_isCommitment_X6_in : GoodIn wsX6_isCommitment (va_wsS RX6 38 yX6_in wsX6_in) := goodIn_app (goodIn_of _ (by decide +kernel)) ggX6_isCommitment_X6_in
theorem dX6_isCommitment_0 : decode cX6_isCommitment 0 = .ok (.iload_n 1, 1) := by decide +kernel
theorem dX6_isCommitment_1 : decode cX6_isCommitment 1 = .ok (.iconst 0, 1) := by decide +kernel
theorem dX6_isCommitment_2 : decode cX6_isCommitment 2 = .ok (.aload_n 0, 1) := by decide +kernel
theorem dX6_isCommitment_3 : decode cX6_isCommitment 3 = .ok (.getfield 7, 3) := by decide +kernel
theorem dX6_isCommitment_6 : decode cX6_isCommitment 6 = .ok (.iconst 2, 1) := by decide +kernel
theorem dX6_isCommitment_7 : decode cX6_isCommitment 7 = .ok (.iaload, 1) := by decide +kernel
theorem dX6_isCommitment_8 : decode cX6_isCommitment 8 = .ok (.iconst 1, 1) := by decide +kernel
theorem dX6_isCommitment_9 : decode cX6_isCommitment 9 = .ok (.isub, 1) := by decide +kernel
theorem dX6_isCommitment_10 : decode cX6_isCommitment 10 = .ok (.invokestatic 38, 3) := by decide +kernel
theorem dX6_isCommitment_13 : decode cX6_isCommitment 13 = .ok (.ireturn, 1) := by decide +kernel
set_option maxRecDepth 20000 in
theorem ggX6_isAmount_X6_in : GoodIn wsX6_isAmount wsX6_in := goodIn_r _ [5] (by decide +kernel) (by decide +kernel)
set_option maxRecDepth 20000 in
theorem gX6_isAmount_X6_in : GoodIn wsX6_isAmount (va_wsS RX6 38 yX6_in wsX6_in) := goodIn_app (goodIn_of _ (by decide +kernel)) ggX6_isAmount_X6_in
theorem dX6_isAmount_0 : decode cX6_isAmount 0 = .ok (.iload_n 0, 1) := by decide +kernel
theorem dX6_isAmount_1 : decode cX6_isAmount 1 = .ok (.iconst 1, 1) := by decide +kernel
theorem dX6_isAmount_2 : decode cX6_isAmount 2 = .ok (.ldc 42, 2) := by decide +kernel
theorem dX6_isAmount_4 : decode cX6_isAmount 4 = .ok (.invokestatic 38, 3) := by decide +kernel
theorem dX6_isAmount_7 : decode cX6_isAmount 7 = .ok (.ireturn, 1) := by decide +kernel
theorem dX6_copy_0 : decode cX6_copy 0 = .ok (.iconst 0, 1) := by decide +kernel
theorem dX6_copy_1 : decode cX6_copy 1 = .ok (.istore_n 3, 1) := by decide +kernel
theorem dX6_copy_2 : decode cX6_copy 2 = .ok (.iload_n 3, 1) := by decide +kernel
theorem dX6_copy_3 : decode cX6_copy 3 = .ok (.sipush 346, 3) := by decide +kernel
theorem dX6_copy_6 : decode cX6_copy 6 = .ok (.if_icmp .ge 25, 3) := by decide +kernel
theorem dX6_copy_9 : decode cX6_copy 9 = .ok (.aload_n 0, 1) := by decide +kernel
theorem dX6_copy_10 : decode cX6_copy 10 = .ok (.getfield 7, 3) := by decide +kernel
theorem dX6_copy_13 : decode cX6_copy 13 = .ok (.iload_n 2, 1) := by decide +kernel
theorem dX6_copy_14 : decode cX6_copy 14 = .ok (.iload_n 3, 1) := by decide +kernel
theorem dX6_copy_15 : decode cX6_copy 15 = .ok (.iadd, 1) := by decide +kernel
theorem dX6_copy_16 : decode cX6_copy 16 = .ok (.aload_n 0, 1) := by decide +kernel
theorem dX6_copy_17 : decode cX6_copy 17 = .ok (.getfield 7, 3) := by decide +kernel
theorem dX6_copy_20 : decode cX6_copy 20 = .ok (.iload_n 1, 1) := by decide +kernel
theorem dX6_copy_21 : decode cX6_copy 21 = .ok (.iload_n 3, 1) := by decide +kernel
theorem dX6_copy_22 : decode cX6_copy 22 = .ok (.iadd, 1) := by decide +kernel
theorem dX6_copy_23 : decode cX6_copy 23 = .ok (.iaload, 1) := by decide +kernel
theorem dX6_copy_24 : decode cX6_copy 24 = .ok (.iastore, 1) := by decide +kernel
theorem dX6_copy_25 : decode cX6_copy 25 = .ok (.iinc 3 1, 3) := by decide +kernel
theorem dX6_copy_28 : decode cX6_copy 28 = .ok (.goto (-26), 3) := by decide +kernel
theorem dX6_copy_31 : decode cX6_copy 31 = .ok (.return_, 1) := by decide +kernel
set_option maxRecDepth 20000 in
theorem ggX6_forget_X6_copy : GoodIn wsX6_forget wsX6_copy := goodIn_r _ [13, 14, 15, 16, 17, 18, 19, 20, 21, 22, 23, 24] (by decide +kernel) (by decide +kernel)
set_option maxRecDepth 20000 in
theorem gX6_forget_X6_copy : GoodIn wsX6_forget (wsV RX6 43 RX6 yX6_copy wsX6_copy) := goodIn_app (goodIn_of _ (by decide +kernel)) ggX6_forget_X6_copy
theorem dX6_forget_0 : decode cX6_forget 0 = .ok (.iconst 0, 1) := by decide +kernel
theorem dX6_forget_1 : decode cX6_forget 1 = .ok (.istore_n 1, 1) := by decide +kernel
theorem dX6_forget_2 : decode cX6_forget 2 = .ok (.iload_n 1, 1) := by decide +kernel
theorem dX6_forget_3 : decode cX6_forget 3 = .ok (.bipush 11, 2) := by decide +kernel
theorem dX6_forget_5 : decode cX6_forget 5 = .ok (.if_icmp .ge 125, 3) := by decide +kernel
theorem dX6_forget_8 : decode cX6_forget 8 = .ok (.aload_n 0, 1) := by decide +kernel
theorem dX6_forget_9 : decode cX6_forget 9 = .ok (.sipush 346, 3) := by decide +kernel
theorem dX6_forget_12 : decode cX6_forget 12 = .ok (.iload_n 1, 1) := by decide +kernel
theorem dX6_forget_13 : decode cX6_forget 13 = .ok (.iconst 2, 1) := by decide +kernel
theorem dX6_forget_14 : decode cX6_forget 14 = .ok (.iadd, 1) := by decide +kernel
theorem dX6_forget_15 : decode cX6_forget 15 = .ok (.imul, 1) := by decide +kernel
theorem dX6_forget_16 : decode cX6_forget 16 = .ok (.sipush 346, 3) := by decide +kernel
theorem dX6_forget_19 : decode cX6_forget 19 = .ok (.iload_n 1, 1) := by decide +kernel
theorem dX6_forget_20 : decode cX6_forget 20 = .ok (.iconst 1, 1) := by decide +kernel
theorem dX6_forget_21 : decode cX6_forget 21 = .ok (.iadd, 1) := by decide +kernel
theorem dX6_forget_22 : decode cX6_forget 22 = .ok (.imul, 1) := by decide +kernel
theorem dX6_forget_23 : decode cX6_forget 23 = .ok (.invokevirtual 43, 3) := by decide +kernel
theorem dX6_forget_26 : decode cX6_forget 26 = .ok (.aload_n 0, 1) := by decide +kernel
theorem dX6_forget_27 : decode cX6_forget 27 = .ok (.getfield 13, 3) := by decide +kernel
theorem dX6_forget_30 : decode cX6_forget 30 = .ok (.iload_n 1, 1) := by decide +kernel
theorem dX6_forget_31 : decode cX6_forget 31 = .ok (.aload_n 0, 1) := by decide +kernel
theorem dX6_forget_32 : decode cX6_forget 32 = .ok (.getfield 13, 3) := by decide +kernel
theorem dX6_forget_35 : decode cX6_forget 35 = .ok (.iload_n 1, 1) := by decide +kernel
theorem dX6_forget_36 : decode cX6_forget 36 = .ok (.iconst 1, 1) := by decide +kernel
theorem dX6_forget_37 : decode cX6_forget 37 = .ok (.iadd, 1) := by decide +kernel
theorem dX6_forget_38 : decode cX6_forget 38 = .ok (.iaload, 1) := by decide +kernel
theorem dX6_forget_39 : decode cX6_forget 39 = .ok (.iastore, 1) := by decide +kernel
theorem dX6_forget_40 : decode cX6_forget 40 = .ok (.aload_n 0, 1) := by decide +kernel
theorem dX6_forget_41 : decode cX6_forget 41 = .ok (.getfield 16, 3) := by decide +kernel
theorem dX6_forget_44 : decode cX6_forget 44 = .ok (.iload_n 1, 1) := by decide +kernel
theorem dX6_forget_45 : decode cX6_forget 45 = .ok (.aload_n 0, 1) := by decide +kernel
theorem dX6_forget_46 : decode cX6_forget 46 = .ok (.getfield 16, 3) := by decide +kernel
theorem dX6_forget_49 : decode cX6_forget 49 = .ok (.iload_n 1, 1) := by decide +kernel
theorem dX6_forget_50 : decode cX6_forget 50 = .ok (.iconst 1, 1) := by decide +kernel
theorem dX6_forget_51 : decode cX6_forget 51 = .ok (.iadd, 1) := by decide +kernel
theorem dX6_forget_52 : decode cX6_forget 52 = .ok (.iaload, 1) := by decide +kernel
theorem dX6_forget_53 : decode cX6_forget 53 = .ok (.iastore, 1) := by decide +kernel
theorem dX6_forget_54 : decode cX6_forget 54 = .ok (.aload_n 0, 1) := by decide +kernel
theorem dX6_forget_55 : decode cX6_forget 55 = .ok (.getfield 19, 3) := by decide +kernel
theorem dX6_forget_58 : decode cX6_forget 58 = .ok (.iload_n 1, 1) := by decide +kernel
theorem dX6_forget_59 : decode cX6_forget 59 = .ok (.aload_n 0, 1) := by decide +kernel
theorem dX6_forget_60 : decode cX6_forget 60 = .ok (.getfield 19, 3) := by decide +kernel
theorem dX6_forget_63 : decode cX6_forget 63 = .ok (.iload_n 1, 1) := by decide +kernel
theorem dX6_forget_64 : decode cX6_forget 64 = .ok (.iconst 1, 1) := by decide +kernel
theorem dX6_forget_65 : decode cX6_forget 65 = .ok (.iadd, 1) := by decide +kernel
theorem dX6_forget_66 : decode cX6_forget 66 = .ok (.iaload, 1) := by decide +kernel
theorem dX6_forget_67 : decode cX6_forget 67 = .ok (.iastore, 1) := by decide +kernel
theorem dX6_forget_68 : decode cX6_forget 68 = .ok (.aload_n 0, 1) := by decide +kernel
theorem dX6_forget_69 : decode cX6_forget 69 = .ok (.getfield 22, 3) := by decide +kernel
theorem dX6_forget_72 : decode cX6_forget 72 = .ok (.iload_n 1, 1) := by decide +kernel
theorem dX6_forget_73 : decode cX6_forget 73 = .ok (.aload_n 0, 1) := by decide +kernel
theorem dX6_forget_74 : decode cX6_forget 74 = .ok (.getfield 22, 3) := by decide +kernel
theorem dX6_forget_77 : decode cX6_forget 77 = .ok (.iload_n 1, 1) := by decide +kernel
theorem dX6_forget_78 : decode cX6_forget 78 = .ok (.iconst 1, 1) := by decide +kernel
theorem dX6_forget_79 : decode cX6_forget 79 = .ok (.iadd, 1) := by decide +kernel
theorem dX6_forget_80 : decode cX6_forget 80 = .ok (.iaload, 1) := by decide +kernel
theorem dX6_forget_81 : decode cX6_forget 81 = .ok (.iastore, 1) := by decide +kernel
theorem dX6_forget_82 : decode cX6_forget 82 = .ok (.aload_n 0, 1) := by decide +kernel
theorem dX6_forget_83 : decode cX6_forget 83 = .ok (.getfield 25, 3) := by decide +kernel
theorem dX6_forget_86 : decode cX6_forget 86 = .ok (.iload_n 1, 1) := by decide +kernel
theorem dX6_forget_87 : decode cX6_forget 87 = .ok (.aload_n 0, 1) := by decide +kernel
theorem dX6_forget_88 : decode cX6_forget 88 = .ok (.getfield 25, 3) := by decide +kernel
theorem dX6_forget_91 : decode cX6_forget 91 = .ok (.iload_n 1, 1) := by decide +kernel
theorem dX6_forget_92 : decode cX6_forget 92 = .ok (.iconst 1, 1) := by decide +kernel
theorem dX6_forget_93 : decode cX6_forget 93 = .ok (.iadd, 1) := by decide +kernel
theorem dX6_forget_94 : decode cX6_forget 94 = .ok (.iaload, 1) := by decide +kernel
theorem dX6_forget_95 : decode cX6_forget 95 = .ok (.iastore, 1) := by decide +kernel
theorem dX6_forget_96 : decode cX6_forget 96 = .ok (.aload_n 0, 1) := by decide +kernel
theorem dX6_forget_97 : decode cX6_forget 97 = .ok (.getfield 28, 3) := by decide +kernel
theorem dX6_forget_100 : decode cX6_forget 100 = .ok (.iload_n 1, 1) := by decide +kernel
theorem dX6_forget_101 : decode cX6_forget 101 = .ok (.aload_n 0, 1) := by decide +kernel
theorem dX6_forget_102 : decode cX6_forget 102 = .ok (.getfield 28, 3) := by decide +kernel
theorem dX6_forget_105 : decode cX6_forget 105 = .ok (.iload_n 1, 1) := by decide +kernel
theorem dX6_forget_106 : decode cX6_forget 106 = .ok (.iconst 1, 1) := by decide +kernel
theorem dX6_forget_107 : decode cX6_forget 107 = .ok (.iadd, 1) := by decide +kernel
theorem dX6_forget_108 : decode cX6_forget 108 = .ok (.iaload, 1) := by decide +kernel
theorem dX6_forget_109 : decode cX6_forget 109 = .ok (.iastore, 1) := by decide +kernel
theorem dX6_forget_110 : decode cX6_forget 110 = .ok (.aload_n 0, 1) := by decide +kernel
theorem dX6_forget_111 : decode cX6_forget 111 = .ok (.getfield 31, 3) := by decide +kernel
theorem dX6_forget_114 : decode cX6_forget 114 = .ok (.iload_n 1, 1) := by decide +kernel
theorem dX6_forget_115 : decode cX6_forget 115 = .ok (.aload_n 0, 1) := by decide +kernel
theorem dX6_forget_116 : decode cX6_forget 116 = .ok (.getfield 31, 3) := by decide +kernel
theorem dX6_forget_119 : decode cX6_forget 119 = .ok (.iload_n 1, 1) := by decide +kernel
theorem dX6_forget_120 : decode cX6_forget 120 = .ok (.iconst 1, 1) := by decide +kernel
theorem dX6_forget_121 : decode cX6_forget 121 = .ok (.iadd, 1) := by decide +kernel
theorem dX6_forget_122 : decode cX6_forget 122 = .ok (.iaload, 1) := by decide +kernel
theorem dX6_forget_123 : decode cX6_forget 123 = .ok (.iastore, 1) := by decide +kernel
theorem dX6_forget_124 : decode cX6_forget 124 = .ok (.iinc 1 1, 3) := by decide +kernel
theorem dX6_forget_127 : decode cX6_forget 127 = .ok (.goto (-125), 3) := by decide +kernel
theorem dX6_forget_130 : decode cX6_forget 130 = .ok (.aload_n 0, 1) := by decide +kernel
theorem dX6_forget_131 : decode cX6_forget 131 = .ok (.dup, 1) := by decide +kernel
theorem dX6_forget_132 : decode cX6_forget 132 = .ok (.getfield 47, 3) := by decide +kernel
theorem dX6_forget_135 : decode cX6_forget 135 = .ok (.iconst 1, 1) := by decide +kernel
theorem dX6_forget_136 : decode cX6_forget 136 = .ok (.isub, 1) := by decide +kernel
theorem dX6_forget_137 : decode cX6_forget 137 = .ok (.putfield 47, 3) := by decide +kernel
theorem dX6_forget_140 : decode cX6_forget 140 = .ok (.return_, 1) := by decide +kernel
set_option maxRecDepth 20000 in
theorem ggX6_remember_X6_forget : GoodIn wsX6_remember wsX6_forget := goodIn_r _ [15, 2, 3, 4, 5, 6, 8, 9, 1, 16, 17, 18, 14, 19, 7, 20, 21, 22, 23, 24, 25, 26, 27, 28, 29] (by decide +kernel) (by decide +kernel)
set_option maxRecDepth 20000 in
theorem gX6_remember_X6_forget : GoodIn wsX6_remember (wsV RX6 51 RX6 yX6_forget wsX6_forget) := goodIn_app (goodIn_of _ (by decide +kernel)) ggX6_remember_X6_forget
set_option maxRecDepth 20000 in
theorem ggX6_remember_X6_copy : GoodIn wsX6_remember wsX6_copy := goodIn_r _ [19, 7, 20, 21, 22, 23, 24, 25, 26, 27, 28, 29] (by decide +kernel) (by decide +kernel)
set_option maxRecDepth 20000 in
theorem gX6_remember_X6_copy : GoodIn wsX6_remember (wsV RX6 43 RX6 yX6_copy wsX6_copy) := goodIn_app (goodIn_of _ (by decide +kernel)) ggX6_remember_X6_copy
theorem dX6_remember_0 : decode cX6_remember 0 = .ok (.aload_n 0, 1) := by decide +kernel
theorem dX6_remember_1 : decode cX6_remember 1 = .ok (.getfield 47, 3) := by decide +kernel
theorem dX6_remember_4 : decode cX6_remember 4 = .ok (.bipush 12, 2) := by decide +kernel
theorem dX6_remember_6 : decode cX6_remember 6 = .ok (.if_icmp .ne 7, 3) := by decide +kernel
theorem dX6_remember_9 : decode cX6_remember 9 = .ok (.aload_n 0, 1) := by decide +kernel
theorem dX6_remember_10 : decode cX6_remember 10 = .ok (.invokevirtual 51, 3) := by decide +kernel
theorem dX6_remember_13 : decode cX6_remember 13 = .ok (.aload_n 0, 1) := by decide +kernel
theorem dX6_remember_14 : decode cX6_remember 14 = .ok (.iconst 0, 1) := by decide +kernel
theorem dX6_remember_15 : decode cX6_remember 15 = .ok (.sipush 346, 3) := by decide +kernel
theorem dX6_remember_18 : decode cX6_remember 18 = .ok (.aload_n 0, 1) := by decide +kernel
theorem dX6_remember_19 : decode cX6_remember 19 = .ok (.getfield 47, 3) := by decide +kernel
theorem dX6_remember_22 : decode cX6_remember 22 = .ok (.iconst 1, 1) := by decide +kernel
theorem dX6_remember_23 : decode cX6_remember 23 = .ok (.iadd, 1) := by decide +kernel
theorem dX6_remember_24 : decode cX6_remember 24 = .ok (.imul, 1) := by decide +kernel
theorem dX6_remember_25 : decode cX6_remember 25 = .ok (.invokevirtual 43, 3) := by decide +kernel
theorem dX6_remember_28 : decode cX6_remember 28 = .ok (.aload_n 0, 1) := by decide +kernel
theorem dX6_remember_29 : decode cX6_remember 29 = .ok (.getfield 13, 3) := by decide +kernel
theorem dX6_remember_32 : decode cX6_remember 32 = .ok (.aload_n 0, 1) := by decide +kernel
theorem dX6_remember_33 : decode cX6_remember 33 = .ok (.getfield 47, 3) := by decide +kernel
theorem dX6_remember_36 : decode cX6_remember 36 = .ok (.iload_n 1, 1) := by decide +kernel
theorem dX6_remember_37 : decode cX6_remember 37 = .ok (.iastore, 1) := by decide +kernel
theorem dX6_remember_38 : decode cX6_remember 38 = .ok (.aload_n 0, 1) := by decide +kernel
theorem dX6_remember_39 : decode cX6_remember 39 = .ok (.getfield 16, 3) := by decide +kernel
theorem dX6_remember_42 : decode cX6_remember 42 = .ok (.aload_n 0, 1) := by decide +kernel
theorem dX6_remember_43 : decode cX6_remember 43 = .ok (.getfield 47, 3) := by decide +kernel
theorem dX6_remember_46 : decode cX6_remember 46 = .ok (.iload_n 2, 1) := by decide +kernel
theorem dX6_remember_47 : decode cX6_remember 47 = .ok (.iastore, 1) := by decide +kernel
theorem dX6_remember_48 : decode cX6_remember 48 = .ok (.aload_n 0, 1) := by decide +kernel
theorem dX6_remember_49 : decode cX6_remember 49 = .ok (.getfield 19, 3) := by decide +kernel
theorem dX6_remember_52 : decode cX6_remember 52 = .ok (.aload_n 0, 1) := by decide +kernel
theorem dX6_remember_53 : decode cX6_remember 53 = .ok (.getfield 47, 3) := by decide +kernel
theorem dX6_remember_56 : decode cX6_remember 56 = .ok (.iload_n 3, 1) := by decide +kernel
theorem dX6_remember_57 : decode cX6_remember 57 = .ok (.iastore, 1) := by decide +kernel
theorem dX6_remember_58 : decode cX6_remember 58 = .ok (.aload_n 0, 1) := by decide +kernel
theorem dX6_remember_59 : decode cX6_remember 59 = .ok (.getfield 22, 3) := by decide +kernel
theorem dX6_remember_62 : decode cX6_remember 62 = .ok (.aload_n 0, 1) := by decide +kernel
theorem dX6_remember_63 : decode cX6_remember 63 = .ok (.getfield 47, 3) := by decide +kernel
theorem dX6_remember_66 : decode cX6_remember 66 = .ok (.iload 4, 2) := by decide +kernel
theorem dX6_remember_68 : decode cX6_remember 68 = .ok (.iastore, 1) := by decide +kernel
theorem dX6_remember_69 : decode cX6_remember 69 = .ok (.aload_n 0, 1) := by decide +kernel
theorem dX6_remember_70 : decode cX6_remember 70 = .ok (.getfield 25, 3) := by decide +kernel
theorem dX6_remember_73 : decode cX6_remember 73 = .ok (.aload_n 0, 1) := by decide +kernel
theorem dX6_remember_74 : decode cX6_remember 74 = .ok (.getfield 47, 3) := by decide +kernel
theorem dX6_remember_77 : decode cX6_remember 77 = .ok (.aload_n 0, 1) := by decide +kernel
theorem dX6_remember_78 : decode cX6_remember 78 = .ok (.getfield 7, 3) := by decide +kernel
theorem dX6_remember_81 : decode cX6_remember 81 = .ok (.iconst 0, 1) := by decide +kernel
theorem dX6_remember_82 : decode cX6_remember 82 = .ok (.iaload, 1) := by decide +kernel
theorem dX6_remember_83 : decode cX6_remember 83 = .ok (.iastore, 1) := by decide +kernel
theorem dX6_remember_84 : decode cX6_remember 84 = .ok (.aload_n 0, 1) := by decide +kernel
theorem dX6_remember_85 : decode cX6_remember 85 = .ok (.getfield 28, 3) := by decide +kernel
theorem dX6_remember_88 : decode cX6_remember 88 = .ok (.aload_n 0, 1) := by decide +kernel
theorem dX6_remember_89 : decode cX6_remember 89 = .ok (.getfield 47, 3) := by decide +kernel
theorem dX6_remember_92 : decode cX6_remember 92 = .ok (.iconst 0, 1) := by decide +kernel
theorem dX6_remember_93 : decode cX6_remember 93 = .ok (.iastore, 1) := by decide +kernel
theorem dX6_remember_94 : decode cX6_remember 94 = .ok (.aload_n 0, 1) := by decide +kernel
theorem dX6_remember_95 : decode cX6_remember 95 = .ok (.getfield 31, 3) := by decide +kernel
theorem dX6_remember_98 : decode cX6_remember 98 = .ok (.aload_n 0, 1) := by decide +kernel
theorem dX6_remember_99 : decode cX6_remember 99 = .ok (.getfield 47, 3) := by decide +kernel
theorem dX6_remember_102 : decode cX6_remember 102 = .ok (.aload_n 0, 1) := by decide +kernel
theorem dX6_remember_103 : decode cX6_remember 103 = .ok (.getfield 54, 3) := by decide +kernel
theorem dX6_remember_106 : decode cX6_remember 106 = .ok (.iastore, 1) := by decide +kernel
theorem dX6_remember_107 : decode cX6_remember 107 = .ok (.aload_n 0, 1) := by decide +kernel
theorem dX6_remember_108 : decode cX6_remember 108 = .ok (.dup, 1) := by decide +kernel
theorem dX6_remember_109 : decode cX6_remember 109 = .ok (.getfield 54, 3) := by decide +kernel
theorem dX6_remember_112 : decode cX6_remember 112 = .ok (.iconst 1, 1) := by decide +kernel
theorem dX6_remember_113 : decode cX6_remember 113 = .ok (.iadd, 1) := by decide +kernel
theorem dX6_remember_114 : decode cX6_remember 114 = .ok (.putfield 54, 3) := by decide +kernel
theorem dX6_remember_117 : decode cX6_remember 117 = .ok (.aload_n 0, 1) := by decide +kernel
theorem dX6_remember_118 : decode cX6_remember 118 = .ok (.dup, 1) := by decide +kernel
theorem dX6_remember_119 : decode cX6_remember 119 = .ok (.getfield 47, 3) := by decide +kernel
theorem dX6_remember_122 : decode cX6_remember 122 = .ok (.iconst 1, 1) := by decide +kernel
theorem dX6_remember_123 : decode cX6_remember 123 = .ok (.iadd, 1) := by decide +kernel
theorem dX6_remember_124 : decode cX6_remember 124 = .ok (.putfield 47, 3) := by decide +kernel
theorem dX6_remember_127 : decode cX6_remember 127 = .ok (.return_, 1) := by decide +kernel
set_option maxRecDepth 20000 in
theorem ggX6_undo_X6_copy : GoodIn wsX6_undo wsX6_copy := goodIn_r _ [10, 11, 12, 13, 14, 15, 16, 17, 18, 19, 20, 21] (by decide +kernel) (by decide +kernel)
set_option maxRecDepth 20000 in
theorem gX6_undo_X6_copy : GoodIn wsX6_undo (wsV RX6 43 RX6 yX6_copy wsX6_copy) := goodIn_app (goodIn_of _ (by decide +kernel)) ggX6_undo_X6_copy
theorem dX6_undo_0 : decode cX6_undo 0 = .ok (.aload_n 0, 1) := by decide +kernel
theorem dX6_undo_1 : decode cX6_undo 1 = .ok (.getfield 47, 3) := by decide +kernel
theorem dX6_undo_4 : decode cX6_undo 4 = .ok (.ifCond .ne 6, 3) := by decide +kernel
theorem dX6_undo_7 : decode cX6_undo 7 = .ok (.bipush (-2), 2) := by decide +kernel
theorem dX6_undo_9 : decode cX6_undo 9 = .ok (.ireturn, 1) := by decide +kernel
theorem dX6_undo_10 : decode cX6_undo 10 = .ok (.aload_n 0, 1) := by decide +kernel
theorem dX6_undo_11 : decode cX6_undo 11 = .ok (.dup, 1) := by decide +kernel
theorem dX6_undo_12 : decode cX6_undo 12 = .ok (.getfield 47, 3) := by decide +kernel
theorem dX6_undo_15 : decode cX6_undo 15 = .ok (.iconst 1, 1) := by decide +kernel
theorem dX6_undo_16 : decode cX6_undo 16 = .ok (.isub, 1) := by decide +kernel
theorem dX6_undo_17 : decode cX6_undo 17 = .ok (.putfield 47, 3) := by decide +kernel
theorem dX6_undo_20 : decode cX6_undo 20 = .ok (.aload_n 0, 1) := by decide +kernel
theorem dX6_undo_21 : decode cX6_undo 21 = .ok (.sipush 346, 3) := by decide +kernel
theorem dX6_undo_24 : decode cX6_undo 24 = .ok (.aload_n 0, 1) := by decide +kernel
theorem dX6_undo_25 : decode cX6_undo 25 = .ok (.getfield 47, 3) := by decide +kernel
theorem dX6_undo_28 : decode cX6_undo 28 = .ok (.iconst 1, 1) := by decide +kernel
theorem dX6_undo_29 : decode cX6_undo 29 = .ok (.iadd, 1) := by decide +kernel
theorem dX6_undo_30 : decode cX6_undo 30 = .ok (.imul, 1) := by decide +kernel
theorem dX6_undo_31 : decode cX6_undo 31 = .ok (.iconst 0, 1) := by decide +kernel
theorem dX6_undo_32 : decode cX6_undo 32 = .ok (.invokevirtual 43, 3) := by decide +kernel
theorem dX6_undo_35 : decode cX6_undo 35 = .ok (.iconst 0, 1) := by decide +kernel
theorem dX6_undo_36 : decode cX6_undo 36 = .ok (.istore_n 1, 1) := by decide +kernel
theorem dX6_undo_37 : decode cX6_undo 37 = .ok (.iload_n 1, 1) := by decide +kernel
theorem dX6_undo_38 : decode cX6_undo 38 = .ok (.aload_n 0, 1) := by decide +kernel
theorem dX6_undo_39 : decode cX6_undo 39 = .ok (.getfield 47, 3) := by decide +kernel
theorem dX6_undo_42 : decode cX6_undo 42 = .ok (.if_icmp .ge 57, 3) := by decide +kernel
theorem dX6_undo_45 : decode cX6_undo 45 = .ok (.aload_n 0, 1) := by decide +kernel
theorem dX6_undo_46 : decode cX6_undo 46 = .ok (.getfield 13, 3) := by decide +kernel
theorem dX6_undo_49 : decode cX6_undo 49 = .ok (.aload_n 0, 1) := by decide +kernel
theorem dX6_undo_50 : decode cX6_undo 50 = .ok (.getfield 47, 3) := by decide +kernel
theorem dX6_undo_53 : decode cX6_undo 53 = .ok (.iaload, 1) := by decide +kernel
theorem dX6_undo_54 : decode cX6_undo 54 = .ok (.bipush 10, 2) := by decide +kernel
theorem dX6_undo_56 : decode cX6_undo 56 = .ok (.if_icmp .ne 43, 3) := by decide +kernel
theorem dX6_undo_59 : decode cX6_undo 59 = .ok (.aload_n 0, 1) := by decide +kernel
theorem dX6_undo_60 : decode cX6_undo 60 = .ok (.getfield 28, 3) := by decide +kernel
theorem dX6_undo_63 : decode cX6_undo 63 = .ok (.iload_n 1, 1) := by decide +kernel
theorem dX6_undo_64 : decode cX6_undo 64 = .ok (.aload_n 0, 1) := by decide +kernel
theorem dX6_undo_65 : decode cX6_undo 65 = .ok (.getfield 31, 3) := by decide +kernel
theorem dX6_undo_68 : decode cX6_undo 68 = .ok (.iload_n 1, 1) := by decide +kernel
theorem dX6_undo_69 : decode cX6_undo 69 = .ok (.iaload, 1) := by decide +kernel
theorem dX6_undo_70 : decode cX6_undo 70 = .ok (.aload_n 0, 1) := by decide +kernel
theorem dX6_undo_71 : decode cX6_undo 71 = .ok (.getfield 16, 3) := by decide +kernel
theorem dX6_undo_74 : decode cX6_undo 74 = .ok (.aload_n 0, 1) := by decide +kernel
theorem dX6_undo_75 : decode cX6_undo 75 = .ok (.getfield 47, 3) := by decide +kernel
theorem dX6_undo_78 : decode cX6_undo 78 = .ok (.iaload, 1) := by decide +kernel
theorem dX6_undo_79 : decode cX6_undo 79 = .ok (.if_icmp .ne 7, 3) := by decide +kernel
theorem dX6_undo_82 : decode cX6_undo 82 = .ok (.iconst 0, 1) := by decide +kernel
theorem dX6_undo_83 : decode cX6_undo 83 = .ok (.goto 9, 3) := by decide +kernel
theorem dX6_undo_86 : decode cX6_undo 86 = .ok (.aload_n 0, 1) := by decide +kernel
theorem dX6_undo_87 : decode cX6_undo 87 = .ok (.getfield 28, 3) := by decide +kernel
theorem dX6_undo_90 : decode cX6_undo 90 = .ok (.iload_n 1, 1) := by decide +kernel
theorem dX6_undo_91 : decode cX6_undo 91 = .ok (.iaload, 1) := by decide +kernel
theorem dX6_undo_92 : decode cX6_undo 92 = .ok (.iastore, 1) := by decide +kernel
theorem dX6_undo_93 : decode cX6_undo 93 = .ok (.iinc 1 1, 3) := by decide +kernel
theorem dX6_undo_96 : decode cX6_undo 96 = .ok (.goto (-59), 3) := by decide +kernel
theorem dX6_undo_99 : decode cX6_undo 99 = .ok (.aload_n 0, 1) := by decide +kernel
theorem dX6_undo_100 : decode cX6_undo 100 = .ok (.getfield 47, 3) := by decide +kernel
theorem dX6_undo_103 : decode cX6_undo 103 = .ok (.ireturn, 1) := by decide +kernel
theorem dX6_deed_0 : decode cX6_deed 0 = .ok (.iload_n 1, 1) := by decide +kernel
theorem dX6_deed_1 : decode cX6_deed 1 = .ok (.ifCond .ge 5, 3) := by decide +kernel
theorem dX6_deed_4 : decode cX6_deed 4 = .ok (.iconst (-1), 1) := by decide +kernel
theorem dX6_deed_5 : decode cX6_deed 5 = .ok (.ireturn, 1) := by decide +kernel
theorem dX6_deed_6 : decode cX6_deed 6 = .ok (.iload_n 1, 1) := by decide +kernel
theorem dX6_deed_7 : decode cX6_deed 7 = .ok (.aload_n 0, 1) := by decide +kernel
theorem dX6_deed_8 : decode cX6_deed 8 = .ok (.getfield 47, 3) := by decide +kernel
theorem dX6_deed_11 : decode cX6_deed 11 = .ok (.if_icmp .ge 19, 3) := by decide +kernel
theorem dX6_deed_14 : decode cX6_deed 14 = .ok (.aload_n 0, 1) := by decide +kernel
theorem dX6_deed_15 : decode cX6_deed 15 = .ok (.getfield 13, 3) := by decide +kernel
theorem dX6_deed_18 : decode cX6_deed 18 = .ok (.aload_n 0, 1) := by decide +kernel
theorem dX6_deed_19 : decode cX6_deed 19 = .ok (.getfield 47, 3) := by decide +kernel
theorem dX6_deed_22 : decode cX6_deed 22 = .ok (.iconst 1, 1) := by decide +kernel
theorem dX6_deed_23 : decode cX6_deed 23 = .ok (.isub, 1) := by decide +kernel
theorem dX6_deed_24 : decode cX6_deed 24 = .ok (.iload_n 1, 1) := by decide +kernel
theorem dX6_deed_25 : decode cX6_deed 25 = .ok (.isub, 1) := by decide +kernel
theorem dX6_deed_26 : decode cX6_deed 26 = .ok (.iaload, 1) := by decide +kernel
theorem dX6_deed_27 : decode cX6_deed 27 = .ok (.goto 5, 3) := by decide +kernel
theorem dX6_deed_30 : decode cX6_deed 30 = .ok (.bipush (-9), 2) := by decide +kernel
theorem dX6_deed_32 : decode cX6_deed 32 = .ok (.ireturn, 1) := by decide +kernel
set_option maxRecDepth 20000 in
theorem ggX6_aboveOf_X6_of : GoodIn wsX6_aboveOf wsX6_of := goodIn_r _ [5] (by decide +kernel) (by decide +kernel)
set_option maxRecDepth 20000 in
theorem gX6_aboveOf_X6_of : GoodIn wsX6_aboveOf (va_wsS RX6 34 yX6_of wsX6_of) := goodIn_app (goodIn_of _ (by decide +kernel)) ggX6_aboveOf_X6_of

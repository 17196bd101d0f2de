theorem dX5_revokeVirement_0 : decode cX5_revokeVirement 0 = .ok (.iload 4, 2) := by decide +kernel
theorem dX5_revokeVirement_2 : decode cX5_revokeVirement 2 = .ok (.aload_n 0, 1) := by decide +kernel
theorem dX5_revokeVirement_3 : decode cX5_revokeVirement 3 = .ok (.getfield 10, 3) := by decide +kernel
theorem dX5_revokeVirement_6 : decode cX5_revokeVirement 6 = .ok (.getfield 23, 3) := by decide +kernel
theorem dX5_revokeVirement_9 : decode cX5_revokeVirement 9 = .ok (.iload_n 3, 1) := by decide +kernel
theorem dX5_revokeVirement_10 : decode cX5_revokeVirement 10 = .ok (.invokevirtual 78, 3) := by decide +kernel
theorem dX5_revokeVirement_13 : decode cX5_revokeVirement 13 = .ok (.if_icmp .le 6, 3) := by decide +kernel
theorem dX5_revokeVirement_16 : decode cX5_revokeVirement 16 = .ok (.bipush (-2), 2) := by decide +kernel
theorem dX5_revokeVirement_18 : decode cX5_revokeVirement 18 = .ok (.ireturn, 1) := by decide +kernel
theorem dX5_revokeVirement_19 : decode cX5_revokeVirement 19 = .ok (.aload_n 0, 1) := by decide +kernel
theorem dX5_revokeVirement_20 : decode cX5_revokeVirement 20 = .ok (.getfield 19, 3) := by decide +kernel
theorem dX5_revokeVirement_23 : decode cX5_revokeVirement 23 = .ok (.aload_n 0, 1) := by decide +kernel
theorem dX5_revokeVirement_24 : decode cX5_revokeVirement 24 = .ok (.getfield 10, 3) := by decide +kernel
theorem dX5_revokeVirement_27 : decode cX5_revokeVirement 27 = .ok (.iload_n 1, 1) := by decide +kernel
theorem dX5_revokeVirement_28 : decode cX5_revokeVirement 28 = .ok (.invokevirtual 188, 3) := by decide +kernel
theorem dX5_revokeVirement_31 : decode cX5_revokeVirement 31 = .ok (.aload_n 0, 1) := by decide +kernel
theorem dX5_revokeVirement_32 : decode cX5_revokeVirement 32 = .ok (.getfield 10, 3) := by decide +kernel
theorem dX5_revokeVirement_35 : decode cX5_revokeVirement 35 = .ok (.getfield 23, 3) := by decide +kernel
theorem dX5_revokeVirement_38 : decode cX5_revokeVirement 38 = .ok (.iload_n 2, 1) := by decide +kernel
theorem dX5_revokeVirement_39 : decode cX5_revokeVirement 39 = .ok (.iload_n 3, 1) := by decide +kernel
theorem dX5_revokeVirement_40 : decode cX5_revokeVirement 40 = .ok (.iload 4, 2) := by decide +kernel
theorem dX5_revokeVirement_42 : decode cX5_revokeVirement 42 = .ok (.ineg, 1) := by decide +kernel
theorem dX5_revokeVirement_43 : decode cX5_revokeVirement 43 = .ok (.invokevirtual 133, 3) := by decide +kernel
theorem dX5_revokeVirement_46 : decode cX5_revokeVirement 46 = .ok (.iload 4, 2) := by decide +kernel
theorem dX5_revokeVirement_48 : decode cX5_revokeVirement 48 = .ok (.ireturn, 1) := by decide +kernel
set_option maxRecDepth 20000 in
theorem ggX5_revokeCommitment_X1_has : GoodIn wsX5_revokeCommitment wsX1_has := goodIn_r _ [9, 10, 101, 102, 103, 104, 105] (by decide +kernel) (by decide +kernel)
set_option maxRecDepth 20000 in
theorem gX5_revokeCommitment_X1_has : GoodIn wsX5_revokeCommitment (wsV RX5 103 RX1 yX1_has wsX1_has) := goodIn_app (goodIn_of _ (by decide +kernel)) ggX5_revokeCommitment_X1_has
set_option maxRecDepth 20000 in
theorem ggX5_revokeCommitment_X4_rememberRevoking : GoodIn wsX5_revokeCommitment wsX4_rememberRevoking := goodIn_r _ [15, 16, 17, 18, 14, 19, 20, 21, 22, 23, 24, 25, 26, 27, 28, 29, 30, 31, 32, 33, 34, 35, 36, 37, 38, 39, 40, 41, 42, 43, 44, 45, 46, 47, 48, 49, 50, 51, 52, 53, 54, 55, 56, 57, 58, 59, 60, 61, 62, 63, 64, 65, 66, 67, 68, 69, 70, 71, 8, 72, 73, 74, 75, 76, 77, 10, 106, 107, 108, 109, 110, 111, 112, 113, 114, 115, 95, 96, 97, 98, 99, 100, 116, 117, 118, 119, 120, 121, 122, 123, 124, 125, 126, 101, 102, 103, 104, 105] (by decide +kernel) (by decide +kernel)
set_option maxRecDepth 20000 in
theorem gX5_revokeCommitment_X4_rememberRevoking : GoodIn wsX5_revokeCommitment (wsV RX5 188 RX4 yX4_rememberRevoking wsX4_rememberRevoking) := goodIn_app (goodIn_of _ (by decide +kernel)) ggX5_revokeCommitment_X4_rememberRevoking
set_option maxRecDepth 20000 in
theorem ggX5_revokeCommitment_X0_freeOpenOf : GoodIn wsX5_revokeCommitment wsX0_freeOpenOf := goodIn_r _ [81, 44, 82, 43, 83, 84, 6, 7, 8, 9, 10, 85, 86, 87, 52, 88, 63, 89, 90, 91, 92, 68, 95, 96, 97, 98, 99, 100, 101, 102, 103, 104, 105, 116, 117, 118, 119, 120, 121, 122, 123, 124, 125, 126] (by decide +kernel) (by decide +kernel)
set_option maxRecDepth 20000 in
theorem gX5_revokeCommitment_X0_freeOpenOf : GoodIn wsX5_revokeCommitment (wsV RX5 119 RX0 yX0_freeOpenOf wsX0_freeOpenOf) := goodIn_app (goodIn_of _ (by decide +kernel)) ggX5_revokeCommitment_X0_freeOpenOf
theorem dX5_revokeCommitment_0 : decode cX5_revokeCommitment 0 = .ok (.aload_n 0, 1) := by decide +kernel
theorem dX5_revokeCommitment_1 : decode cX5_revokeCommitment 1 = .ok (.getfield 10, 3) := by decide +kernel
theorem dX5_revokeCommitment_4 : decode cX5_revokeCommitment 4 = .ok (.getfield 82, 3) := by decide +kernel
theorem dX5_revokeCommitment_7 : decode cX5_revokeCommitment 7 = .ok (.iload_n 2, 1) := by decide +kernel
theorem dX5_revokeCommitment_8 : decode cX5_revokeCommitment 8 = .ok (.invokevirtual 103, 3) := by decide +kernel
theorem dX5_revokeCommitment_11 : decode cX5_revokeCommitment 11 = .ok (.ifCond .eq 18, 3) := by decide +kernel
theorem dX5_revokeCommitment_14 : decode cX5_revokeCommitment 14 = .ok (.aload_n 0, 1) := by decide +kernel
theorem dX5_revokeCommitment_15 : decode cX5_revokeCommitment 15 = .ok (.getfield 10, 3) := by decide +kernel
theorem dX5_revokeCommitment_18 : decode cX5_revokeCommitment 18 = .ok (.getfield 82, 3) := by decide +kernel
theorem dX5_revokeCommitment_21 : decode cX5_revokeCommitment 21 = .ok (.getfield 104, 3) := by decide +kernel
theorem dX5_revokeCommitment_24 : decode cX5_revokeCommitment 24 = .ok (.iload_n 2, 1) := by decide +kernel
theorem dX5_revokeCommitment_25 : decode cX5_revokeCommitment 25 = .ok (.iaload, 1) := by decide +kernel
theorem dX5_revokeCommitment_26 : decode cX5_revokeCommitment 26 = .ok (.ifCond .ne 6, 3) := by decide +kernel
theorem dX5_revokeCommitment_29 : decode cX5_revokeCommitment 29 = .ok (.bipush (-2), 2) := by decide +kernel
theorem dX5_revokeCommitment_31 : decode cX5_revokeCommitment 31 = .ok (.ireturn, 1) := by decide +kernel
theorem dX5_revokeCommitment_32 : decode cX5_revokeCommitment 32 = .ok (.aload_n 0, 1) := by decide +kernel
theorem dX5_revokeCommitment_33 : decode cX5_revokeCommitment 33 = .ok (.getfield 19, 3) := by decide +kernel
theorem dX5_revokeCommitment_36 : decode cX5_revokeCommitment 36 = .ok (.aload_n 0, 1) := by decide +kernel
theorem dX5_revokeCommitment_37 : decode cX5_revokeCommitment 37 = .ok (.getfield 10, 3) := by decide +kernel
theorem dX5_revokeCommitment_40 : decode cX5_revokeCommitment 40 = .ok (.iload_n 1, 1) := by decide +kernel
theorem dX5_revokeCommitment_41 : decode cX5_revokeCommitment 41 = .ok (.invokevirtual 188, 3) := by decide +kernel
theorem dX5_revokeCommitment_44 : decode cX5_revokeCommitment 44 = .ok (.aload_n 0, 1) := by decide +kernel
theorem dX5_revokeCommitment_45 : decode cX5_revokeCommitment 45 = .ok (.getfield 10, 3) := by decide +kernel
theorem dX5_revokeCommitment_48 : decode cX5_revokeCommitment 48 = .ok (.iload_n 2, 1) := by decide +kernel
theorem dX5_revokeCommitment_49 : decode cX5_revokeCommitment 49 = .ok (.invokevirtual 119, 3) := by decide +kernel
theorem dX5_revokeCommitment_52 : decode cX5_revokeCommitment 52 = .ok (.ireturn, 1) := by decide +kernel
set_option maxRecDepth 20000 in
theorem ggX5_count_X1_countOpen : GoodIn wsX5_count wsX1_countOpen := goodIn_r _ [16, 17, 72, 73, 74, 75, 76] (by decide +kernel) (by decide +kernel)
set_option maxRecDepth 20000 in
theorem gX5_count_X1_countOpen : GoodIn wsX5_count (wsV RX5 191 RX1 yX1_countOpen wsX1_countOpen) := goodIn_app (goodIn_of _ (by decide +kernel)) ggX5_count_X1_countOpen
set_option maxRecDepth 20000 in
theorem ggX5_count_X3_countBarred : GoodIn wsX5_count wsX3_countBarred := goodIn_r _ [22, 23, 24, 25, 21, 26, 27, 28, 29, 30, 31, 32, 33, 61, 62, 63, 64, 65, 66, 67, 68, 69, 70, 71] (by decide +kernel) (by decide +kernel)
set_option maxRecDepth 20000 in
theorem gX5_count_X3_countBarred : GoodIn wsX5_count (wsV RX5 62 RX3 yX3_countBarred wsX3_countBarred) := goodIn_app (goodIn_of _ (by decide +kernel)) ggX5_count_X3_countBarred
set_option maxRecDepth 20000 in
theorem ggX5_count_X3_sumWithin : GoodIn wsX5_count wsX3_sumWithin := goodIn_r _ [37, 38, 39, 40, 21, 41, 28, 29, 30, 31, 32, 33, 42, 43, 44, 45, 46, 47, 48, 49, 50, 51, 52, 61, 62, 63, 64, 65, 66, 67, 68, 69, 70, 71] (by decide +kernel) (by decide +kernel)
set_option maxRecDepth 20000 in
theorem gX5_count_X3_sumWithin : GoodIn wsX5_count (wsV RX5 194 RX3 yX3_sumWithin wsX3_sumWithin) := goodIn_app (goodIn_of _ (by decide +kernel)) ggX5_count_X3_sumWithin
theorem dX5_count_0 : decode cX5_count 0 = .ok (.iload_n 1, 1) := by decide +kernel
theorem dX5_count_1 : decode cX5_count 1 = .ok (.tableswitch 152 0 9 #[55, 63, 74, 85, 96, 107, 115, 128, 136, 144], 55) := by decide +kernel
theorem dX5_count_56 : decode cX5_count 56 = .ok (.aload_n 0, 1) := by decide +kernel
theorem dX5_count_57 : decode cX5_count 57 = .ok (.getfield 10, 3) := by decide +kernel
theorem dX5_count_60 : decode cX5_count 60 = .ok (.getfield 97, 3) := by decide +kernel
theorem dX5_count_63 : decode cX5_count 63 = .ok (.ireturn, 1) := by decide +kernel
theorem dX5_count_64 : decode cX5_count 64 = .ok (.aload_n 0, 1) := by decide +kernel
theorem dX5_count_65 : decode cX5_count 65 = .ok (.getfield 10, 3) := by decide +kernel
theorem dX5_count_68 : decode cX5_count 68 = .ok (.getfield 23, 3) := by decide +kernel
theorem dX5_count_71 : decode cX5_count 71 = .ok (.getfield 41, 3) := by decide +kernel
theorem dX5_count_74 : decode cX5_count 74 = .ok (.ireturn, 1) := by decide +kernel
theorem dX5_count_75 : decode cX5_count 75 = .ok (.aload_n 0, 1) := by decide +kernel
theorem dX5_count_76 : decode cX5_count 76 = .ok (.getfield 10, 3) := by decide +kernel
theorem dX5_count_79 : decode cX5_count 79 = .ok (.getfield 82, 3) := by decide +kernel
theorem dX5_count_82 : decode cX5_count 82 = .ok (.getfield 86, 3) := by decide +kernel
theorem dX5_count_85 : decode cX5_count 85 = .ok (.ireturn, 1) := by decide +kernel
theorem dX5_count_86 : decode cX5_count 86 = .ok (.aload_n 0, 1) := by decide +kernel
theorem dX5_count_87 : decode cX5_count 87 = .ok (.getfield 10, 3) := by decide +kernel
theorem dX5_count_90 : decode cX5_count 90 = .ok (.getfield 82, 3) := by decide +kernel
theorem dX5_count_93 : decode cX5_count 93 = .ok (.invokevirtual 191, 3) := by decide +kernel
theorem dX5_count_96 : decode cX5_count 96 = .ok (.ireturn, 1) := by decide +kernel
theorem dX5_count_97 : decode cX5_count 97 = .ok (.aload_n 0, 1) := by decide +kernel
theorem dX5_count_98 : decode cX5_count 98 = .ok (.getfield 10, 3) := by decide +kernel
theorem dX5_count_101 : decode cX5_count 101 = .ok (.getfield 23, 3) := by decide +kernel
theorem dX5_count_104 : decode cX5_count 104 = .ok (.invokevirtual 62, 3) := by decide +kernel
theorem dX5_count_107 : decode cX5_count 107 = .ok (.ireturn, 1) := by decide +kernel
theorem dX5_count_108 : decode cX5_count 108 = .ok (.aload_n 0, 1) := by decide +kernel
theorem dX5_count_109 : decode cX5_count 109 = .ok (.getfield 10, 3) := by decide +kernel
theorem dX5_count_112 : decode cX5_count 112 = .ok (.getfield 72, 3) := by decide +kernel
theorem dX5_count_115 : decode cX5_count 115 = .ok (.ireturn, 1) := by decide +kernel
theorem dX5_count_116 : decode cX5_count 116 = .ok (.aload_n 0, 1) := by decide +kernel
theorem dX5_count_117 : decode cX5_count 117 = .ok (.getfield 10, 3) := by decide +kernel
theorem dX5_count_120 : decode cX5_count 120 = .ok (.getfield 23, 3) := by decide +kernel
theorem dX5_count_123 : decode cX5_count 123 = .ok (.iconst 0, 1) := by decide +kernel
theorem dX5_count_124 : decode cX5_count 124 = .ok (.iconst 0, 1) := by decide +kernel
theorem dX5_count_125 : decode cX5_count 125 = .ok (.invokevirtual 194, 3) := by decide +kernel
theorem dX5_count_128 : decode cX5_count 128 = .ok (.ireturn, 1) := by decide +kernel
theorem dX5_count_129 : decode cX5_count 129 = .ok (.aload_n 0, 1) := by decide +kernel
theorem dX5_count_130 : decode cX5_count 130 = .ok (.getfield 10, 3) := by decide +kernel
theorem dX5_count_133 : decode cX5_count 133 = .ok (.getfield 144, 3) := by decide +kernel
theorem dX5_count_136 : decode cX5_count 136 = .ok (.ireturn, 1) := by decide +kernel
theorem dX5_count_137 : decode cX5_count 137 = .ok (.aload_n 0, 1) := by decide +kernel
theorem dX5_count_138 : decode cX5_count 138 = .ok (.getfield 10, 3) := by decide +kernel
theorem dX5_count_141 : decode cX5_count 141 = .ok (.getfield 116, 3) := by decide +kernel
theorem dX5_count_144 : decode cX5_count 144 = .ok (.ireturn, 1) := by decide +kernel
theorem dX5_count_145 : decode cX5_count 145 = .ok (.aload_n 0, 1) := by decide +kernel
theorem dX5_count_146 : decode cX5_count 146 = .ok (.getfield 19, 3) := by decide +kernel
theorem dX5_count_149 : decode cX5_count 149 = .ok (.getfield 197, 3) := by decide +kernel
theorem dX5_count_152 : decode cX5_count 152 = .ok (.ireturn, 1) := by decide +kernel
theorem dX5_count_153 : decode cX5_count 153 = .ok (.iconst (-1), 1) := by decide +kernel
theorem dX5_count_154 : decode cX5_count 154 = .ok (.ireturn, 1) := by decide +kernel
set_option maxRecDepth 20000 in
theorem ggX5_head_X3_has : GoodIn wsX5_head wsX3_has := goodIn_r _ [17, 18, 41, 42, 43, 44, 45, 46, 47, 48, 49, 50, 51] (by decide +kernel) (by decide +kernel)
set_option maxRecDepth 20000 in
theorem gX5_head_X3_has : GoodIn wsX5_head (wsV RX5 33 RX3 yX3_has wsX3_has) := goodIn_app (goodIn_of _ (by decide +kernel)) ggX5_head_X3_has
set_option maxRecDepth 20000 in
theorem ggX5_head_X3_isBarred : GoodIn wsX5_head wsX3_isBarred := goodIn_r _ [22, 23, 24, 25, 14, 15, 16, 17, 18, 41, 42, 43, 44, 45, 46, 47, 48, 49, 50, 51] (by decide +kernel) (by decide +kernel)
set_option maxRecDepth 20000 in
theorem gX5_head_X3_isBarred : GoodIn wsX5_head (wsV RX5 75 RX3 yX3_isBarred wsX3_isBarred) := goodIn_app (goodIn_of _ (by decide +kernel)) ggX5_head_X3_isBarred
set_option maxRecDepth 20000 in
theorem ggX5_head_X3_freeOf : GoodIn wsX5_head wsX3_freeOf := goodIn_r _ [29, 30, 31, 32, 25, 14, 15, 16, 17, 18, 41, 42, 43, 44, 45, 46, 47, 48, 49, 50, 51] (by decide +kernel) (by decide +kernel)
set_option maxRecDepth 20000 in
theorem gX5_head_X3_freeOf : GoodIn wsX5_head (wsV RX5 78 RX3 yX3_freeOf wsX3_freeOf) := goodIn_app (goodIn_of _ (by decide +kernel)) ggX5_head_X3_freeOf
theorem dX5_head_0 : decode cX5_head 0 = .ok (.aload_n 0, 1) := by decide +kernel
theorem dX5_head_1 : decode cX5_head 1 = .ok (.getfield 10, 3) := by decide +kernel
theorem dX5_head_4 : decode cX5_head 4 = .ok (.getfield 23, 3) := by decide +kernel
theorem dX5_head_7 : decode cX5_head 7 = .ok (.astore_n 3, 1) := by decide +kernel
theorem dX5_head_8 : decode cX5_head 8 = .ok (.aload_n 3, 1) := by decide +kernel
theorem dX5_head_9 : decode cX5_head 9 = .ok (.iload_n 1, 1) := by decide +kernel
theorem dX5_head_10 : decode cX5_head 10 = .ok (.invokevirtual 33, 3) := by decide +kernel
theorem dX5_head_13 : decode cX5_head 13 = .ok (.ifCond .ne 5, 3) := by decide +kernel
theorem dX5_head_16 : decode cX5_head 16 = .ok (.iconst (-1), 1) := by decide +kernel
theorem dX5_head_17 : decode cX5_head 17 = .ok (.ireturn, 1) := by decide +kernel
theorem dX5_head_18 : decode cX5_head 18 = .ok (.iload_n 2, 1) := by decide +kernel
theorem dX5_head_19 : decode cX5_head 19 = .ok (.tableswitch 151 0 11 #[61, 68, 75, 82, 89, 103, 110, 117, 124, 130, 137, 144], 61) := by decide +kernel
theorem dX5_head_80 : decode cX5_head 80 = .ok (.aload_n 3, 1) := by decide +kernel
theorem dX5_head_81 : decode cX5_head 81 = .ok (.getfield 200, 3) := by decide +kernel
theorem dX5_head_84 : decode cX5_head 84 = .ok (.iload_n 1, 1) := by decide +kernel
theorem dX5_head_85 : decode cX5_head 85 = .ok (.iaload, 1) := by decide +kernel
theorem dX5_head_86 : decode cX5_head 86 = .ok (.ireturn, 1) := by decide +kernel
theorem dX5_head_87 : decode cX5_head 87 = .ok (.aload_n 3, 1) := by decide +kernel
theorem dX5_head_88 : decode cX5_head 88 = .ok (.getfield 37, 3) := by decide +kernel
theorem dX5_head_91 : decode cX5_head 91 = .ok (.iload_n 1, 1) := by decide +kernel
theorem dX5_head_92 : decode cX5_head 92 = .ok (.iaload, 1) := by decide +kernel
theorem dX5_head_93 : decode cX5_head 93 = .ok (.ireturn, 1) := by decide +kernel
theorem dX5_head_94 : decode cX5_head 94 = .ok (.aload_n 3, 1) := by decide +kernel
theorem dX5_head_95 : decode cX5_head 95 = .ok (.getfield 203, 3) := by decide +kernel
theorem dX5_head_98 : decode cX5_head 98 = .ok (.iload_n 1, 1) := by decide +kernel
theorem dX5_head_99 : decode cX5_head 99 = .ok (.iaload, 1) := by decide +kernel
theorem dX5_head_100 : decode cX5_head 100 = .ok (.ireturn, 1) := by decide +kernel
theorem dX5_head_101 : decode cX5_head 101 = .ok (.aload_n 3, 1) := by decide +kernel
theorem dX5_head_102 : decode cX5_head 102 = .ok (.getfield 59, 3) := by decide +kernel
theorem dX5_head_105 : decode cX5_head 105 = .ok (.iload_n 1, 1) := by decide +kernel
theorem dX5_head_106 : decode cX5_head 106 = .ok (.iaload, 1) := by decide +kernel
theorem dX5_head_107 : decode cX5_head 107 = .ok (.ireturn, 1) := by decide +kernel
theorem dX5_head_108 : decode cX5_head 108 = .ok (.aload_n 3, 1) := by decide +kernel
theorem dX5_head_109 : decode cX5_head 109 = .ok (.iload_n 1, 1) := by decide +kernel
theorem dX5_head_110 : decode cX5_head 110 = .ok (.invokevirtual 75, 3) := by decide +kernel
theorem dX5_head_113 : decode cX5_head 113 = .ok (.ifCond .eq 7, 3) := by decide +kernel
theorem dX5_head_116 : decode cX5_head 116 = .ok (.iconst 1, 1) := by decide +kernel
theorem dX5_head_117 : decode cX5_head 117 = .ok (.goto 4, 3) := by decide +kernel
theorem dX5_head_120 : decode cX5_head 120 = .ok (.iconst 0, 1) := by decide +kernel
theorem dX5_head_121 : decode cX5_head 121 = .ok (.ireturn, 1) := by decide +kernel
theorem dX5_head_122 : decode cX5_head 122 = .ok (.aload_n 3, 1) := by decide +kernel
theorem dX5_head_123 : decode cX5_head 123 = .ok (.getfield 52, 3) := by decide +kernel
theorem dX5_head_126 : decode cX5_head 126 = .ok (.iload_n 1, 1) := by decide +kernel
theorem dX5_head_127 : decode cX5_head 127 = .ok (.iaload, 1) := by decide +kernel
theorem dX5_head_128 : decode cX5_head 128 = .ok (.ireturn, 1) := by decide +kernel
theorem dX5_head_129 : decode cX5_head 129 = .ok (.aload_n 3, 1) := by decide +kernel
theorem dX5_head_130 : decode cX5_head 130 = .ok (.getfield 206, 3) := by decide +kernel
theorem dX5_head_133 : decode cX5_head 133 = .ok (.iload_n 1, 1) := by decide +kernel
theorem dX5_head_134 : decode cX5_head 134 = .ok (.iaload, 1) := by decide +kernel
theorem dX5_head_135 : decode cX5_head 135 = .ok (.ireturn, 1) := by decide +kernel
theorem dX5_head_136 : decode cX5_head 136 = .ok (.aload_n 3, 1) := by decide +kernel
theorem dX5_head_137 : decode cX5_head 137 = .ok (.getfield 209, 3) := by decide +kernel
theorem dX5_head_140 : decode cX5_head 140 = .ok (.iload_n 1, 1) := by decide +kernel
theorem dX5_head_141 : decode cX5_head 141 = .ok (.iaload, 1) := by decide +kernel
theorem dX5_head_142 : decode cX5_head 142 = .ok (.ireturn, 1) := by decide +kernel
theorem dX5_head_143 : decode cX5_head 143 = .ok (.aload_n 3, 1) := by decide +kernel
theorem dX5_head_144 : decode cX5_head 144 = .ok (.iload_n 1, 1) := by decide +kernel
theorem dX5_head_145 : decode cX5_head 145 = .ok (.invokevirtual 78, 3) := by decide +kernel
theorem dX5_head_148 : decode cX5_head 148 = .ok (.ireturn, 1) := by decide +kernel
theorem dX5_head_149 : decode cX5_head 149 = .ok (.aload_n 3, 1) := by decide +kernel
theorem dX5_head_150 : decode cX5_head 150 = .ok (.getfield 56, 3) := by decide +kernel
theorem dX5_head_153 : decode cX5_head 153 = .ok (.iload_n 1, 1) := by decide +kernel
theorem dX5_head_154 : decode cX5_head 154 = .ok (.iaload, 1) := by decide +kernel
theorem dX5_head_155 : decode cX5_head 155 = .ok (.ireturn, 1) := by decide +kernel
theorem dX5_head_156 : decode cX5_head 156 = .ok (.aload_n 3, 1) := by decide +kernel
theorem dX5_head_157 : decode cX5_head 157 = .ok (.getfield 211, 3) := by decide +kernel
theorem dX5_head_160 : decode cX5_head 160 = .ok (.iload_n 1, 1) := by decide +kernel
theorem dX5_head_161 : decode cX5_head 161 = .ok (.iaload, 1) := by decide +kernel
theorem dX5_head_162 : decode cX5_head 162 = .ok (.ireturn, 1) := by decide +kernel
theorem dX5_head_163 : decode cX5_head 163 = .ok (.aload_n 3, 1) := by decide +kernel
theorem dX5_head_164 : decode cX5_head 164 = .ok (.getfield 69, 3) := by decide +kernel
theorem dX5_head_167 : decode cX5_head 167 = .ok (.iload_n 1, 1) := by decide +kernel
theorem dX5_head_168 : decode cX5_head 168 = .ok (.iaload, 1) := by decide +kernel
theorem dX5_head_169 : decode cX5_head 169 = .ok (.ireturn, 1) := by decide +kernel
theorem dX5_head_170 : decode cX5_head 170 = .ok (.iconst (-1), 1) := by decide +kernel
theorem dX5_head_171 : decode cX5_head 171 = .ok (.ireturn, 1) := by decide +kernel
set_option maxRecDepth 20000 in
theorem ggX5_total_X3_has : GoodIn wsX5_total wsX3_has := goodIn_r _ [7, 8, 38, 39, 40, 41, 42, 43, 44, 45, 46, 47, 48] (by decide +kernel) (by decide +kernel)
set_option maxRecDepth 20000 in
theorem gX5_total_X3_has : GoodIn wsX5_total (wsV RX5 33 RX3 yX3_has wsX3_has) := goodIn_app (goodIn_of _ (by decide +kernel)) ggX5_total_X3_has
set_option maxRecDepth 20000 in
theorem ggX5_total_X3_sumWithin : GoodIn wsX5_total wsX3_sumWithin := goodIn_r _ [12, 13, 14, 15, 6, 16, 17, 18, 4, 5, 7, 8, 19, 20, 21, 22, 23, 24, 25, 26, 27, 28, 29, 38, 39, 40, 41, 42, 43, 44, 45, 46, 47, 48] (by decide +kernel) (by decide +kernel)
set_option maxRecDepth 20000 in
theorem gX5_total_X3_sumWithin : GoodIn wsX5_total (wsV RX5 194 RX3 yX3_sumWithin wsX3_sumWithin) := goodIn_app (goodIn_of _ (by decide +kernel)) ggX5_total_X3_sumWithin
theorem dX5_total_0 : decode cX5_total 0 = .ok (.aload_n 0, 1) := by decide +kernel
theorem dX5_total_1 : decode cX5_total 1 = .ok (.getfield 10, 3) := by decide +kernel
theorem dX5_total_4 : decode cX5_total 4 = .ok (.getfield 23, 3) := by decide +kernel
theorem dX5_total_7 : decode cX5_total 7 = .ok (.iload_n 1, 1) := by decide +kernel
theorem dX5_total_8 : decode cX5_total 8 = .ok (.invokevirtual 33, 3) := by decide +kernel
theorem dX5_total_11 : decode cX5_total 11 = .ok (.ifCond .eq 12, 3) := by decide +kernel
theorem dX5_total_14 : decode cX5_total 14 = .ok (.iload_n 2, 1) := by decide +kernel
theorem dX5_total_15 : decode cX5_total 15 = .ok (.ifCond .lt 8, 3) := by decide +kernel
theorem dX5_total_18 : decode cX5_total 18 = .ok (.iload_n 2, 1) := by decide +kernel
theorem dX5_total_19 : decode cX5_total 19 = .ok (.iconst 4, 1) := by decide +kernel
theorem dX5_total_20 : decode cX5_total 20 = .ok (.if_icmp .le 5, 3) := by decide +kernel
theorem dX5_total_23 : decode cX5_total 23 = .ok (.iconst (-1), 1) := by decide +kernel
theorem dX5_total_24 : decode cX5_total 24 = .ok (.ireturn, 1) := by decide +kernel
theorem dX5_total_25 : decode cX5_total 25 = .ok (.aload_n 0, 1) := by decide +kernel
theorem dX5_total_26 : decode cX5_total 26 = .ok (.getfield 10, 3) := by decide +kernel
theorem dX5_total_29 : decode cX5_total 29 = .ok (.getfield 23, 3) := by decide +kernel
theorem dX5_total_32 : decode cX5_total 32 = .ok (.iload_n 1, 1) := by decide +kernel
theorem dX5_total_33 : decode cX5_total 33 = .ok (.iload_n 2, 1) := by decide +kernel
theorem dX5_total_34 : decode cX5_total 34 = .ok (.invokevirtual 194, 3) := by decide +kernel
theorem dX5_total_37 : decode cX5_total 37 = .ok (.ireturn, 1) := by decide +kernel
set_option maxRecDepth 20000 in
theorem ggX5_commitment_X1_has : GoodIn wsX5_commitment wsX1_has := goodIn_r _ [11, 12, 21, 22, 23, 24, 25] (by decide +kernel) (by decide +kernel)
set_option maxRecDepth 20000 in
theorem gX5_commitment_X1_has : GoodIn wsX5_commitment (wsV RX5 103 RX1 yX1_has wsX1_has) := goodIn_app (goodIn_of _ (by decide +kernel)) ggX5_commitment_X1_has
theorem dX5_commitment_0 : decode cX5_commitment 0 = .ok (.aload_n 0, 1) := by decide +kernel
theorem dX5_commitment_1 : decode cX5_commitment 1 = .ok (.getfield 10, 3) := by decide +kernel
theorem dX5_commitment_4 : decode cX5_commitment 4 = .ok (.getfield 82, 3) := by decide +kernel
theorem dX5_commitment_7 : decode cX5_commitment 7 = .ok (.astore_n 3, 1) := by decide +kernel
theorem dX5_commitment_8 : decode cX5_commitment 8 = .ok (.aload_n 3, 1) := by decide +kernel
theorem dX5_commitment_9 : decode cX5_commitment 9 = .ok (.iload_n 1, 1) := by decide +kernel
theorem dX5_commitment_10 : decode cX5_commitment 10 = .ok (.invokevirtual 103, 3) := by decide +kernel
theorem dX5_commitment_13 : decode cX5_commitment 13 = .ok (.ifCond .ne 5, 3) := by decide +kernel
theorem dX5_commitment_16 : decode cX5_commitment 16 = .ok (.iconst (-1), 1) := by decide +kernel
theorem dX5_commitment_17 : decode cX5_commitment 17 = .ok (.ireturn, 1) := by decide +kernel
theorem dX5_commitment_18 : decode cX5_commitment 18 = .ok (.iload_n 2, 1) := by decide +kernel
theorem dX5_commitment_19 : decode cX5_commitment 19 = .ok (.tableswitch 57 0 3 #[29, 36, 43, 50], 29) := by decide +kernel
theorem dX5_commitment_48 : decode cX5_commitment 48 = .ok (.aload_n 3, 1) := by decide +kernel
theorem dX5_commitment_49 : decode cX5_commitment 49 = .ok (.getfield 110, 3) := by decide +kernel
theorem dX5_commitment_52 : decode cX5_commitment 52 = .ok (.iload_n 1, 1) := by decide +kernel
theorem dX5_commitment_53 : decode cX5_commitment 53 = .ok (.iaload, 1) := by decide +kernel
theorem dX5_commitment_54 : decode cX5_commitment 54 = .ok (.ireturn, 1) := by decide +kernel
theorem dX5_commitment_55 : decode cX5_commitment 55 = .ok (.aload_n 3, 1) := by decide +kernel
theorem dX5_commitment_56 : decode cX5_commitment 56 = .ok (.getfield 104, 3) := by decide +kernel
theorem dX5_commitment_59 : decode cX5_commitment 59 = .ok (.iload_n 1, 1) := by decide +kernel
theorem dX5_commitment_60 : decode cX5_commitment 60 = .ok (.iaload, 1) := by decide +kernel
theorem dX5_commitment_61 : decode cX5_commitment 61 = .ok (.ireturn, 1) := by decide +kernel
theorem dX5_commitment_62 : decode cX5_commitment 62 = .ok (.aload_n 3, 1) := by decide +kernel
theorem dX5_commitment_63 : decode cX5_commitment 63 = .ok (.getfield 107, 3) := by decide +kernel
theorem dX5_commitment_66 : decode cX5_commitment 66 = .ok (.iload_n 1, 1) := by decide +kernel
theorem dX5_commitment_67 : decode cX5_commitment 67 = .ok (.iaload, 1) := by decide +kernel
theorem dX5_commitment_68 : decode cX5_commitment 68 = .ok (.ireturn, 1) := by decide +kernel
theorem dX5_commitment_69 : decode cX5_commitment 69 = .ok (.aload_n 3, 1) := by decide +kernel
theorem dX5_commitment_70 : decode cX5_commitment 70 = .ok (.getfield 214, 3) := by decide +kernel
theorem dX5_commitment_73 : decode cX5_commitment 73 = .ok (.iload_n 1, 1) := by decide +kernel
theorem dX5_commitment_74 : decode cX5_commitment 74 = .ok (.iaload, 1) := by decide +kernel
theorem dX5_commitment_75 : decode cX5_commitment 75 = .ok (.ireturn, 1) := by decide +kernel
theorem dX5_commitment_76 : decode cX5_commitment 76 = .ok (.iconst (-1), 1) := by decide +kernel
theorem dX5_commitment_77 : decode cX5_commitment 77 = .ok (.ireturn, 1) := by decide +kernel
set_option maxRecDepth 20000 in
theorem ggX5_deed_X4_recall : GoodIn wsX5_deed wsX4_recall := goodIn_r _ [7, 8, 9, 10, 11, 12, 13, 14, 23, 24, 25, 26] (by decide +kernel) (by decide +kernel)
set_option maxRecDepth 20000 in
theorem gX5_deed_X4_recall : GoodIn wsX5_deed (wsV RX5 147 RX4 yX4_recall wsX4_recall) := goodIn_app (goodIn_of _ (by decide +kernel)) ggX5_deed_X4_recall
theorem dX5_deed_0 : decode cX5_deed 0 = .ok (.iload_n 1, 1) := by decide +kernel
theorem dX5_deed_1 : decode cX5_deed 1 = .ok (.ifCond .ge 5, 3) := by decide +kernel
theorem dX5_deed_4 : decode cX5_deed 4 = .ok (.iconst (-1), 1) := by decide +kernel
theorem dX5_deed_5 : decode cX5_deed 5 = .ok (.ireturn, 1) := by decide +kernel
theorem dX5_deed_6 : decode cX5_deed 6 = .ok (.aload_n 0, 1) := by decide +kernel
theorem dX5_deed_7 : decode cX5_deed 7 = .ok (.getfield 19, 3) := by decide +kernel
theorem dX5_deed_10 : decode cX5_deed 10 = .ok (.iload_n 1, 1) := by decide +kernel
theorem dX5_deed_11 : decode cX5_deed 11 = .ok (.invokevirtual 147, 3) := by decide +kernel
theorem dX5_deed_14 : decode cX5_deed 14 = .ok (.astore_n 2, 1) := by decide +kernel
theorem dX5_deed_15 : decode cX5_deed 15 = .ok (.aload_n 2, 1) := by decide +kernel
theorem dX5_deed_16 : decode cX5_deed 16 = .ok (.ifnonnull 8, 3) := by decide +kernel
theorem dX5_deed_19 : decode cX5_deed 19 = .ok (.bipush (-9), 2) := by decide +kernel
theorem dX5_deed_21 : decode cX5_deed 21 = .ok (.goto 7, 3) := by decide +kernel
theorem dX5_deed_24 : decode cX5_deed 24 = .ok (.aload_n 2, 1) := by decide +kernel
theorem dX5_deed_25 : decode cX5_deed 25 = .ok (.getfield 169, 3) := by decide +kernel
theorem dX5_deed_28 : decode cX5_deed 28 = .ok (.ireturn, 1) := by decide +kernel
set_option maxRecDepth 20000 in
theorem ggX5_mostFrom_X3_hasBoth : GoodIn wsX5_mostFrom wsX3_hasBoth := goodIn_r _ [7, 8, 9, 10, 6, 11, 12, 63, 64, 65, 66, 67, 68, 69, 70, 71, 72, 73] (by decide +kernel) (by decide +kernel)
set_option maxRecDepth 20000 in
theorem gX5_mostFrom_X3_hasBoth : GoodIn wsX5_mostFrom (wsV RX5 122 RX3 yX3_hasBoth wsX3_hasBoth) := goodIn_app (goodIn_of _ (by decide +kernel)) ggX5_mostFrom_X3_hasBoth
set_option maxRecDepth 20000 in
theorem ggX5_mostFrom_X3_movable : GoodIn wsX5_mostFrom wsX3_movable := goodIn_r _ [16, 17, 18, 19, 20, 21, 22, 23, 24, 25, 26, 27, 28, 4, 5, 6, 7, 8, 9, 10, 11, 12, 29, 30, 31, 32, 33, 34, 35, 36, 37, 38, 39, 40, 41, 42, 43, 44, 45, 46, 47, 48, 49, 50, 51, 52, 53, 54, 63, 64, 65, 66, 67, 68, 69, 70, 71, 72, 73] (by decide +kernel) (by decide +kernel)
set_option maxRecDepth 20000 in
theorem gX5_mostFrom_X3_movable : GoodIn wsX5_mostFrom (wsV RX5 126 RX3 yX3_movable wsX3_movable) := goodIn_app (goodIn_of _ (by decide +kernel)) ggX5_mostFrom_X3_movable
theorem dX5_mostFrom_0 : decode cX5_mostFrom 0 = .ok (.aload_n 0, 1) := by decide +kernel
theorem dX5_mostFrom_1 : decode cX5_mostFrom 1 = .ok (.getfield 10, 3) := by decide +kernel
theorem dX5_mostFrom_4 : decode cX5_mostFrom 4 = .ok (.getfield 23, 3) := by decide +kernel
theorem dX5_mostFrom_7 : decode cX5_mostFrom 7 = .ok (.iload_n 1, 1) := by decide +kernel
theorem dX5_mostFrom_8 : decode cX5_mostFrom 8 = .ok (.iload_n 2, 1) := by decide +kernel
theorem dX5_mostFrom_9 : decode cX5_mostFrom 9 = .ok (.invokevirtual 122, 3) := by decide +kernel
theorem dX5_mostFrom_12 : decode cX5_mostFrom 12 = .ok (.ifCond .ne 5, 3) := by decide +kernel
theorem dX5_mostFrom_15 : decode cX5_mostFrom 15 = .ok (.iconst (-1), 1) := by decide +kernel
theorem dX5_mostFrom_16 : decode cX5_mostFrom 16 = .ok (.ireturn, 1) := by decide +kernel
theorem dX5_mostFrom_17 : decode cX5_mostFrom 17 = .ok (.aload_n 0, 1) := by decide +kernel
theorem dX5_mostFrom_18 : decode cX5_mostFrom 18 = .ok (.getfield 10, 3) := by decide +kernel
theorem dX5_mostFrom_21 : decode cX5_mostFrom 21 = .ok (.getfield 23, 3) := by decide +kernel
theorem dX5_mostFrom_24 : decode cX5_mostFrom 24 = .ok (.iload_n 1, 1) := by decide +kernel
theorem dX5_mostFrom_25 : decode cX5_mostFrom 25 = .ok (.iload_n 2, 1) := by decide +kernel
theorem dX5_mostFrom_26 : decode cX5_mostFrom 26 = .ok (.invokevirtual 126, 3) := by decide +kernel
theorem dX5_mostFrom_29 : decode cX5_mostFrom 29 = .ok (.ireturn, 1) := by decide +kernel
set_option maxRecDepth 20000 in
theorem ggX5_bestGiver_X3_has : GoodIn wsX5_bestGiver wsX3_has := goodIn_r _ [7, 8, 67, 68, 69, 70, 71, 72, 73, 74, 75, 76, 77] (by decide +kernel) (by decide +kernel)
set_option maxRecDepth 20000 in
theorem gX5_bestGiver_X3_has : GoodIn wsX5_bestGiver (wsV RX5 33 RX3 yX3_has wsX3_has) := goodIn_app (goodIn_of _ (by decide +kernel)) ggX5_bestGiver_X3_has
set_option maxRecDepth 20000 in
theorem ggX5_bestGiver_X3_giverOfMost : GoodIn wsX5_bestGiver wsX3_giverOfMost := goodIn_r _ [12, 13, 14, 15, 16, 6, 17, 18, 19, 20, 21, 22, 23, 24, 25, 26, 27, 28, 29, 30, 31, 32, 33, 4, 5, 7, 8, 34, 35, 36, 37, 38, 39, 40, 41, 42, 43, 44, 45, 46, 47, 48, 49, 50, 51, 52, 53, 54, 55, 56, 57, 58, 67, 68, 69, 70, 71, 72, 73, 74, 75, 76, 77] (by decide +kernel) (by decide +kernel)
set_option maxRecDepth 20000 in
theorem gX5_bestGiver_X3_giverOfMost : GoodIn wsX5_bestGiver (wsV RX5 216 RX3 yX3_giverOfMost wsX3_giverOfMost) := goodIn_app (goodIn_of _ (by decide +kernel)) ggX5_bestGiver_X3_giverOfMost
theorem dX5_bestGiver_0 : decode cX5_bestGiver 0 = .ok (.aload_n 0, 1) := by decide +kernel
theorem dX5_bestGiver_1 : decode cX5_bestGiver 1 = .ok (.getfield 10, 3) := by decide +kernel
theorem dX5_bestGiver_4 : decode cX5_bestGiver 4 = .ok (.getfield 23, 3) := by decide +kernel
theorem dX5_bestGiver_7 : decode cX5_bestGiver 7 = .ok (.iload_n 1, 1) := by decide +kernel
theorem dX5_bestGiver_8 : decode cX5_bestGiver 8 = .ok (.invokevirtual 33, 3) := by decide +kernel
theorem dX5_bestGiver_11 : decode cX5_bestGiver 11 = .ok (.ifCond .ne 5, 3) := by decide +kernel
theorem dX5_bestGiver_14 : decode cX5_bestGiver 14 = .ok (.iconst (-1), 1) := by decide +kernel
theorem dX5_bestGiver_15 : decode cX5_bestGiver 15 = .ok (.ireturn, 1) := by decide +kernel
theorem dX5_bestGiver_16 : decode cX5_bestGiver 16 = .ok (.aload_n 0, 1) := by decide +kernel
theorem dX5_bestGiver_17 : decode cX5_bestGiver 17 = .ok (.getfield 10, 3) := by decide +kernel
theorem dX5_bestGiver_20 : decode cX5_bestGiver 20 = .ok (.getfield 23, 3) := by decide +kernel
theorem dX5_bestGiver_23 : decode cX5_bestGiver 23 = .ok (.iload_n 1, 1) := by decide +kernel
theorem dX5_bestGiver_24 : decode cX5_bestGiver 24 = .ok (.invokevirtual 216, 3) := by decide +kernel
theorem dX5_bestGiver_27 : decode cX5_bestGiver 27 = .ok (.ireturn, 1) := by decide +kernel
set_option maxRecDepth 20000 in
theorem ggX5_wouldLapse_X3_has : GoodIn wsX5_wouldLapse wsX3_has := goodIn_r _ [8, 9, 39, 40, 41, 42, 43, 44, 45, 46, 47, 48, 49] (by decide +kernel) (by decide +kernel)
set_option maxRecDepth 20000 in
theorem gX5_wouldLapse_X3_has : GoodIn wsX5_wouldLapse (wsV RX5 33 RX3 yX3_has wsX3_has) := goodIn_app (goodIn_of _ (by decide +kernel)) ggX5_wouldLapse_X3_has
set_option maxRecDepth 20000 in
theorem ggX5_wouldLapse_X3_lapseWithin : GoodIn wsX5_wouldLapse wsX3_lapseWithin := goodIn_r _ [13, 14, 15, 16, 7, 17, 18, 19, 5, 6, 8, 9, 20, 21, 22, 23, 24, 25, 26, 27, 28, 29, 30, 39, 40, 41, 42, 43, 44, 45, 46, 47, 48, 49] (by decide +kernel) (by decide +kernel)
set_option maxRecDepth 20000 in
theorem gX5_wouldLapse_X3_lapseWithin : GoodIn wsX5_wouldLapse (wsV RX5 137 RX3 yX3_lapseWithin wsX3_lapseWithin) := goodIn_app (goodIn_of _ (by decide +kernel)) ggX5_wouldLapse_X3_lapseWithin
theorem dX5_wouldLapse_0 : decode cX5_wouldLapse 0 = .ok (.aload_n 0, 1) := by decide +kernel
theorem dX5_wouldLapse_1 : decode cX5_wouldLapse 1 = .ok (.getfield 10, 3) := by decide +kernel
theorem dX5_wouldLapse_4 : decode cX5_wouldLapse 4 = .ok (.getfield 23, 3) := by decide +kernel
theorem dX5_wouldLapse_7 : decode cX5_wouldLapse 7 = .ok (.iload_n 1, 1) := by decide +kernel
theorem dX5_wouldLapse_8 : decode cX5_wouldLapse 8 = .ok (.invokevirtual 33, 3) := by decide +kernel
theorem dX5_wouldLapse_11 : decode cX5_wouldLapse 11 = .ok (.ifCond .ne 5, 3) := by decide +kernel
theorem dX5_wouldLapse_14 : decode cX5_wouldLapse 14 = .ok (.iconst (-1), 1) := by decide +kernel
theorem dX5_wouldLapse_15 : decode cX5_wouldLapse 15 = .ok (.ireturn, 1) := by decide +kernel
theorem dX5_wouldLapse_16 : decode cX5_wouldLapse 16 = .ok (.aload_n 0, 1) := by decide +kernel
theorem dX5_wouldLapse_17 : decode cX5_wouldLapse 17 = .ok (.getfield 10, 3) := by decide +kernel
theorem dX5_wouldLapse_20 : decode cX5_wouldLapse 20 = .ok (.getfield 23, 3) := by decide +kernel
theorem dX5_wouldLapse_23 : decode cX5_wouldLapse 23 = .ok (.iload_n 1, 1) := by decide +kernel
theorem dX5_wouldLapse_24 : decode cX5_wouldLapse 24 = .ok (.aload_n 0, 1) := by decide +kernel
theorem dX5_wouldLapse_25 : decode cX5_wouldLapse 25 = .ok (.getfield 10, 3) := by decide +kernel
theorem dX5_wouldLapse_28 : decode cX5_wouldLapse 28 = .ok (.getfield 72, 3) := by decide +kernel
theorem dX5_wouldLapse_31 : decode cX5_wouldLapse 31 = .ok (.invokevirtual 137, 3) := by decide +kernel
theorem dX5_wouldLapse_34 : decode cX5_wouldLapse 34 = .ok (.ireturn, 1) := by decide +kernel
theorem dX5_isAmount_0 : decode cX5_isAmount 0 = .ok (.iload_n 0, 1) := by decide +kernel
theorem dX5_isAmount_1 : decode cX5_isAmount 1 = .ok (.iconst 1, 1) := by decide +kernel
theorem dX5_isAmount_2 : decode cX5_isAmount 2 = .ok (.if_icmp .lt 13, 3) := by decide +kernel
theorem dX5_isAmount_5 : decode cX5_isAmount 5 = .ok (.iload_n 0, 1) := by decide +kernel
theorem dX5_isAmount_6 : decode cX5_isAmount 6 = .ok (.ldc 222, 2) := by decide +kernel
theorem dX5_isAmount_8 : decode cX5_isAmount 8 = .ok (.if_icmp .gt 7, 3) := by decide +kernel
theorem dX5_isAmount_11 : decode cX5_isAmount 11 = .ok (.iconst 1, 1) := by decide +kernel
theorem dX5_isAmount_12 : decode cX5_isAmount 12 = .ok (.goto 4, 3) := by decide +kernel
theorem dX5_isAmount_15 : decode cX5_isAmount 15 = .ok (.iconst 0, 1) := by decide +kernel
theorem dX5_isAmount_16 : decode cX5_isAmount 16 = .ok (.ireturn, 1) := by decide +kernel
theorem dX5_isPercentage_0 : decode cX5_isPercentage 0 = .ok (.iload_n 0, 1) := by decide +kernel
theorem dX5_isPercentage_1 : decode cX5_isPercentage 1 = .ok (.ifCond .lt 13, 3) := by decide +kernel
theorem dX5_isPercentage_4 : decode cX5_isPercentage 4 = .ok (.iload_n 0, 1) := by decide +kernel
theorem dX5_isPercentage_5 : decode cX5_isPercentage 5 = .ok (.bipush 100, 2) := by decide +kernel
theorem dX5_isPercentage_7 : decode cX5_isPercentage 7 = .ok (.if_icmp .gt 7, 3) := by decide +kernel
theorem dX5_isPercentage_10 : decode cX5_isPercentage 10 = .ok (.iconst 1, 1) := by decide +kernel
theorem dX5_isPercentage_11 : decode cX5_isPercentage 11 = .ok (.goto 4, 3) := by decide +kernel
theorem dX5_isPercentage_14 : decode cX5_isPercentage 14 = .ok (.iconst 0, 1) := by decide +kernel
theorem dX5_isPercentage_15 : decode cX5_isPercentage 15 = .ok (.ireturn, 1) := by decide +kernel
theorem dX5_partOf_0 : decode cX5_partOf 0 = .ok (.iload_n 0, 1) := by decide +kernel
theorem dX5_partOf_1 : decode cX5_partOf 1 = .ok (.i2l, 1) := by decide +kernel
theorem dX5_partOf_2 : decode cX5_partOf 2 = .ok (.iload_n 1, 1) := by decide +kernel
theorem dX5_partOf_3 : decode cX5_partOf 3 = .ok (.i2l, 1) := by decide +kernel
theorem dX5_partOf_4 : decode cX5_partOf 4 = .ok (.lmul, 1) := by decide +kernel
theorem dX5_partOf_5 : decode cX5_partOf 5 = .ok (.ldc2_w 223, 3) := by decide +kernel
theorem dX5_partOf_8 : decode cX5_partOf 8 = .ok (.ldiv, 1) := by decide +kernel
theorem dX5_partOf_9 : decode cX5_partOf 9 = .ok (.l2i, 1) := by decide +kernel
theorem dX5_partOf_10 : decode cX5_partOf 10 = .ok (.ireturn, 1) := by decide +kernel
theorem dJ9_floorMod_7cf53_0 : decode cJ9_floorMod_7cf53 0 = .ok (.iload_n 0, 1) := by decide +kernel
theorem dJ9_floorMod_7cf53_1 : decode cJ9_floorMod_7cf53 1 = .ok (.iload_n 1, 1) := by decide +kernel
theorem dJ9_floorMod_7cf53_2 : decode cJ9_floorMod_7cf53 2 = .ok (.irem, 1) := by decide +kernel
theorem dJ9_floorMod_7cf53_3 : decode cJ9_floorMod_7cf53 3 = .ok (.istore_n 2, 1) := by decide +kernel
theorem dJ9_floorMod_7cf53_4 : decode cJ9_floorMod_7cf53 4 = .ok (.iload_n 0, 1) := by decide +kernel
theorem dJ9_floorMod_7cf53_5 : decode cJ9_floorMod_7cf53 5 = .ok (.iload_n 1, 1) := by decide +kernel
theorem dJ9_floorMod_7cf53_6 : decode cJ9_floorMod_7cf53 6 = .ok (.ixor, 1) := by decide +kernel
theorem dJ9_floorMod_7cf53_7 : decode cJ9_floorMod_7cf53 7 = .ok (.ifCond .ge 11, 3) := by decide +kernel
theorem dJ9_floorMod_7cf53_10 : decode cJ9_floorMod_7cf53 10 = .ok (.iload_n 2, 1) := by decide +kernel
theorem dJ9_floorMod_7cf53_11 : decode cJ9_floorMod_7cf53 11 = .ok (.ifCond .eq 7, 3) := by decide +kernel
theorem dJ9_floorMod_7cf53_14 : decode cJ9_floorMod_7cf53 14 = .ok (.iload_n 2, 1) := by decide +kernel
theorem dJ9_floorMod_7cf53_15 : decode cJ9_floorMod_7cf53 15 = .ok (.iload_n 1, 1) := by decide +kernel
theorem dJ9_floorMod_7cf53_16 : decode cJ9_floorMod_7cf53 16 = .ok (.iadd, 1) := by decide +kernel
theorem dJ9_floorMod_7cf53_17 : decode cJ9_floorMod_7cf53 17 = .ok (.ireturn, 1) := by decide +kernel
theorem dJ9_floorMod_7cf53_18 : decode cJ9_floorMod_7cf53 18 = .ok (.iload_n 2, 1) := by decide +kernel
theorem dJ9_floorMod_7cf53_19 : decode cJ9_floorMod_7cf53 19 = .ok (.ireturn, 1) := by decide +kernel
theorem dJ9_max_7cf53_0 : decode cJ9_max_7cf53 0 = .ok (.iload_n 0, 1) := by decide +kernel
theorem dJ9_max_7cf53_1 : decode cJ9_max_7cf53 1 = .ok (.iload_n 1, 1) := by decide +kernel
theorem dJ9_max_7cf53_2 : decode cJ9_max_7cf53 2 = .ok (.if_icmp .lt 7, 3) := by decide +kernel
theorem dJ9_max_7cf53_5 : decode cJ9_max_7cf53 5 = .ok (.iload_n 0, 1) := by decide +kernel
theorem dJ9_max_7cf53_6 : decode cJ9_max_7cf53 6 = .ok (.goto 4, 3) := by decide +kernel
theorem dJ9_max_7cf53_9 : decode cJ9_max_7cf53 9 = .ok (.iload_n 1, 1) := by decide +kernel
theorem dJ9_max_7cf53_10 : decode cJ9_max_7cf53 10 = .ok (.ireturn, 1) := by decide +kernel
theorem dJ9_min_7cf53_0 : decode cJ9_min_7cf53 0 = .ok (.iload_n 0, 1) := by decide +kernel
theorem dJ9_min_7cf53_1 : decode cJ9_min_7cf53 1 = .ok (.iload_n 1, 1) := by decide +kernel
theorem dJ9_min_7cf53_2 : decode cJ9_min_7cf53 2 = .ok (.if_icmp .gt 7, 3) := by decide +kernel
theorem dJ9_min_7cf53_5 : decode cJ9_min_7cf53 5 = .ok (.iload_n 0, 1) := by decide +kernel
theorem dJ9_min_7cf53_6 : decode cJ9_min_7cf53 6 = .ok (.goto 4, 3) := by decide +kernel
theorem dJ9_min_7cf53_9 : decode cJ9_min_7cf53 9 = .ok (.iload_n 1, 1) := by decide +kernel
theorem dJ9_min_7cf53_10 : decode cJ9_min_7cf53 10 = .ok (.ireturn, 1) := by decide +kernel
abbrev vwCl : List vw_C := [(RX0, TX0, 6), (RX1, TX1, 5), (RX2, TX2, 6), (RX3, TX3, 11), (RX4, TX4, 4), (RX5, TX5, 2)]

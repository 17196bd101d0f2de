theorem dX3_carryForward_0 : decode cX3_carryForward 0 = .ok (.iconst 0, 1) := by decide +kernel
theorem dX3_carryForward_1 : decode cX3_carryForward 1 = .ok (.istore_n 2, 1) := by decide +kernel
theorem dX3_carryForward_2 : decode cX3_carryForward 2 = .ok (.iload_n 2, 1) := by decide +kernel
theorem dX3_carryForward_3 : decode cX3_carryForward 3 = .ok (.bipush 20, 2) := by decide +kernel
theorem dX3_carryForward_5 : decode cX3_carryForward 5 = .ok (.if_icmp .ge 54, 3) := by decide +kernel
theorem dX3_carryForward_8 : decode cX3_carryForward 8 = .ok (.aload_n 0, 1) := by decide +kernel
theorem dX3_carryForward_9 : decode cX3_carryForward 9 = .ok (.iload_n 2, 1) := by decide +kernel
theorem dX3_carryForward_10 : decode cX3_carryForward 10 = .ok (.invokevirtual 67, 3) := by decide +kernel
theorem dX3_carryForward_13 : decode cX3_carryForward 13 = .ok (.iload_n 1, 1) := by decide +kernel
theorem dX3_carryForward_14 : decode cX3_carryForward 14 = .ok (.invokestatic 77, 3) := by decide +kernel
theorem dX3_carryForward_17 : decode cX3_carryForward 17 = .ok (.istore_n 3, 1) := by decide +kernel
theorem dX3_carryForward_18 : decode cX3_carryForward 18 = .ok (.aload_n 0, 1) := by decide +kernel
theorem dX3_carryForward_19 : decode cX3_carryForward 19 = .ok (.getfield 24, 3) := by decide +kernel
theorem dX3_carryForward_22 : decode cX3_carryForward 22 = .ok (.iload_n 2, 1) := by decide +kernel
theorem dX3_carryForward_23 : decode cX3_carryForward 23 = .ok (.aload_n 0, 1) := by decide +kernel
theorem dX3_carryForward_24 : decode cX3_carryForward 24 = .ok (.getfield 27, 3) := by decide +kernel
theorem dX3_carryForward_27 : decode cX3_carryForward 27 = .ok (.iload_n 2, 1) := by decide +kernel
theorem dX3_carryForward_28 : decode cX3_carryForward 28 = .ok (.iaload, 1) := by decide +kernel
theorem dX3_carryForward_29 : decode cX3_carryForward 29 = .ok (.iload_n 3, 1) := by decide +kernel
theorem dX3_carryForward_30 : decode cX3_carryForward 30 = .ok (.iadd, 1) := by decide +kernel
theorem dX3_carryForward_31 : decode cX3_carryForward 31 = .ok (.iastore, 1) := by decide +kernel
theorem dX3_carryForward_32 : decode cX3_carryForward 32 = .ok (.aload_n 0, 1) := by decide +kernel
theorem dX3_carryForward_33 : decode cX3_carryForward 33 = .ok (.getfield 33, 3) := by decide +kernel
theorem dX3_carryForward_36 : decode cX3_carryForward 36 = .ok (.iload_n 2, 1) := by decide +kernel
theorem dX3_carryForward_37 : decode cX3_carryForward 37 = .ok (.iload_n 3, 1) := by decide +kernel
theorem dX3_carryForward_38 : decode cX3_carryForward 38 = .ok (.iastore, 1) := by decide +kernel
theorem dX3_carryForward_39 : decode cX3_carryForward 39 = .ok (.aload_n 0, 1) := by decide +kernel
theorem dX3_carryForward_40 : decode cX3_carryForward 40 = .ok (.getfield 30, 3) := by decide +kernel
theorem dX3_carryForward_43 : decode cX3_carryForward 43 = .ok (.iload_n 2, 1) := by decide +kernel
theorem dX3_carryForward_44 : decode cX3_carryForward 44 = .ok (.iconst 0, 1) := by decide +kernel
theorem dX3_carryForward_45 : decode cX3_carryForward 45 = .ok (.iastore, 1) := by decide +kernel
theorem dX3_carryForward_46 : decode cX3_carryForward 46 = .ok (.aload_n 0, 1) := by decide +kernel
theorem dX3_carryForward_47 : decode cX3_carryForward 47 = .ok (.getfield 36, 3) := by decide +kernel
theorem dX3_carryForward_50 : decode cX3_carryForward 50 = .ok (.iload_n 2, 1) := by decide +kernel
theorem dX3_carryForward_51 : decode cX3_carryForward 51 = .ok (.iconst 0, 1) := by decide +kernel
theorem dX3_carryForward_52 : decode cX3_carryForward 52 = .ok (.iastore, 1) := by decide +kernel
theorem dX3_carryForward_53 : decode cX3_carryForward 53 = .ok (.iinc 2 1, 3) := by decide +kernel
theorem dX3_carryForward_56 : decode cX3_carryForward 56 = .ok (.goto (-54), 3) := by decide +kernel
theorem dX3_carryForward_59 : decode cX3_carryForward 59 = .ok (.return_, 1) := by decide +kernel
set_option maxRecDepth 20000 in
theorem ggX4_init_X2_init : GoodIn wsX4_init wsX2_init := goodIn_r _ [9, 10, 2, 3, 11, 12, 13, 14, 15, 16, 17, 18, 19, 20, 21, 22, 23, 24, 25, 26, 27, 28, 29, 30, 31, 32, 33, 34, 35, 36, 37, 38, 39, 40, 41, 42, 43, 44, 45, 46, 47, 58, 59, 60, 61, 62, 63, 52, 53, 54, 55, 56, 57, 64, 65, 66, 67, 68, 69, 70, 71, 72, 73, 74, 75, 76, 77, 78, 79] (by decide +kernel) (by decide +kernel)
set_option maxRecDepth 20000 in
theorem gX4_init_X2_init_n17 : GoodIn wsX4_init (wsX2_init) := ggX4_init_X2_init
theorem dX4_init_0 : decode cX4_init 0 = .ok (.aload_n 0, 1) := by decide +kernel
theorem dX4_init_1 : decode cX4_init 1 = .ok (.invokespecial 3, 3) := by decide +kernel
theorem dX4_init_4 : decode cX4_init 4 = .ok (.aload_n 0, 1) := by decide +kernel
theorem dX4_init_5 : decode cX4_init 5 = .ok (.bipush 12, 2) := by decide +kernel
theorem dX4_init_7 : decode cX4_init 7 = .ok (.anewarray 9, 3) := by decide +kernel
theorem dX4_init_10 : decode cX4_init 10 = .ok (.putfield 11, 3) := by decide +kernel
theorem dX4_init_13 : decode cX4_init 13 = .ok (.iconst 0, 1) := by decide +kernel
theorem dX4_init_14 : decode cX4_init 14 = .ok (.istore_n 1, 1) := by decide +kernel
theorem dX4_init_15 : decode cX4_init 15 = .ok (.iload_n 1, 1) := by decide +kernel
theorem dX4_init_16 : decode cX4_init 16 = .ok (.bipush 12, 2) := by decide +kernel
theorem dX4_init_18 : decode cX4_init 18 = .ok (.if_icmp .ge 22, 3) := by decide +kernel
theorem dX4_init_21 : decode cX4_init 21 = .ok (.aload_n 0, 1) := by decide +kernel
theorem dX4_init_22 : decode cX4_init 22 = .ok (.getfield 11, 3) := by decide +kernel
theorem dX4_init_25 : decode cX4_init 25 = .ok (.iload_n 1, 1) := by decide +kernel
theorem dX4_init_26 : decode cX4_init 26 = .ok (.new 9, 3) := by decide +kernel
theorem dX4_init_29 : decode cX4_init 29 = .ok (.dup, 1) := by decide +kernel
theorem dX4_init_30 : decode cX4_init 30 = .ok (.invokespecial 17, 3) := by decide +kernel
theorem dX4_init_33 : decode cX4_init 33 = .ok (.aastore, 1) := by decide +kernel
theorem dX4_init_34 : decode cX4_init 34 = .ok (.iinc 1 1, 3) := by decide +kernel
theorem dX4_init_37 : decode cX4_init 37 = .ok (.goto (-22), 3) := by decide +kernel
theorem dX4_init_40 : decode cX4_init 40 = .ok (.return_, 1) := by decide +kernel
set_option maxRecDepth 20000 in
theorem ggX4_recall_J9_floorMod_7cf53 : GoodIn wsX4_recall wsJ9_floorMod_7cf53 := goodIn_r _ [7] (by decide +kernel) (by decide +kernel)
set_option maxRecDepth 20000 in
theorem gX4_recall_J9_floorMod_7cf53 : GoodIn wsX4_recall (va_wsS RX4 25 yJ9_floorMod_7cf53 wsJ9_floorMod_7cf53) := goodIn_app (goodIn_of _ (by decide +kernel)) ggX4_recall_J9_floorMod_7cf53
theorem dX4_recall_0 : decode cX4_recall 0 = .ok (.iload_n 1, 1) := by decide +kernel
theorem dX4_recall_1 : decode cX4_recall 1 = .ok (.ifCond .lt 11, 3) := by decide +kernel
theorem dX4_recall_4 : decode cX4_recall 4 = .ok (.iload_n 1, 1) := by decide +kernel
theorem dX4_recall_5 : decode cX4_recall 5 = .ok (.aload_n 0, 1) := by decide +kernel
theorem dX4_recall_6 : decode cX4_recall 6 = .ok (.getfield 18, 3) := by decide +kernel
theorem dX4_recall_9 : decode cX4_recall 9 = .ok (.if_icmp .lt 5, 3) := by decide +kernel
theorem dX4_recall_12 : decode cX4_recall 12 = .ok (.aconst_null, 1) := by decide +kernel
theorem dX4_recall_13 : decode cX4_recall 13 = .ok (.areturn, 1) := by decide +kernel
theorem dX4_recall_14 : decode cX4_recall 14 = .ok (.aload_n 0, 1) := by decide +kernel
theorem dX4_recall_15 : decode cX4_recall 15 = .ok (.getfield 11, 3) := by decide +kernel
theorem dX4_recall_18 : decode cX4_recall 18 = .ok (.aload_n 0, 1) := by decide +kernel
theorem dX4_recall_19 : decode cX4_recall 19 = .ok (.getfield 22, 3) := by decide +kernel
theorem dX4_recall_22 : decode cX4_recall 22 = .ok (.aload_n 0, 1) := by decide +kernel
theorem dX4_recall_23 : decode cX4_recall 23 = .ok (.getfield 18, 3) := by decide +kernel
theorem dX4_recall_26 : decode cX4_recall 26 = .ok (.iadd, 1) := by decide +kernel
theorem dX4_recall_27 : decode cX4_recall 27 = .ok (.iconst 1, 1) := by decide +kernel
theorem dX4_recall_28 : decode cX4_recall 28 = .ok (.isub, 1) := by decide +kernel
theorem dX4_recall_29 : decode cX4_recall 29 = .ok (.iload_n 1, 1) := by decide +kernel
theorem dX4_recall_30 : decode cX4_recall 30 = .ok (.isub, 1) := by decide +kernel
theorem dX4_recall_31 : decode cX4_recall 31 = .ok (.bipush 12, 2) := by decide +kernel
theorem dX4_recall_33 : decode cX4_recall 33 = .ok (.invokestatic 25, 3) := by decide +kernel
theorem dX4_recall_36 : decode cX4_recall 36 = .ok (.aaload, 1) := by decide +kernel
theorem dX4_recall_37 : decode cX4_recall 37 = .ok (.areturn, 1) := by decide +kernel
set_option maxRecDepth 20000 in
theorem ggX4_remember_X4_rememberWith : GoodIn wsX4_remember wsX4_rememberWith := goodIn_r _ [5, 6, 7, 8, 9, 10, 11, 12, 13, 14, 15, 16, 17, 18, 19, 20, 21, 4, 22, 23, 24, 25, 26, 27, 28, 29, 30, 31, 32, 33, 34, 35, 36, 37, 38, 39, 40, 41, 42, 43, 44, 45, 46, 47, 48, 49, 50, 51, 52, 53, 54, 55, 56, 57, 58, 59, 60, 61, 62, 63, 64, 65, 66, 67, 68, 69, 70, 71, 72, 73, 74, 75, 76, 77, 78, 79, 80, 81, 82, 83, 84, 85, 86, 87, 88, 89, 90, 91, 92, 93, 94, 95, 96, 97] (by decide +kernel) (by decide +kernel)
set_option maxRecDepth 20000 in
theorem gX4_remember_X4_rememberWith : GoodIn wsX4_remember (wsV RX4 31 RX4 yX4_rememberWith wsX4_rememberWith) := goodIn_app (goodIn_of _ (by decide +kernel)) ggX4_remember_X4_rememberWith
theorem dX4_remember_0 : decode cX4_remember 0 = .ok (.aload_n 0, 1) := by decide +kernel
theorem dX4_remember_1 : decode cX4_remember 1 = .ok (.iload_n 1, 1) := by decide +kernel
theorem dX4_remember_2 : decode cX4_remember 2 = .ok (.aload_n 2, 1) := by decide +kernel
theorem dX4_remember_3 : decode cX4_remember 3 = .ok (.bipush (-9), 2) := by decide +kernel
theorem dX4_remember_5 : decode cX4_remember 5 = .ok (.bipush (-9), 2) := by decide +kernel
theorem dX4_remember_7 : decode cX4_remember 7 = .ok (.iconst 0, 1) := by decide +kernel
theorem dX4_remember_8 : decode cX4_remember 8 = .ok (.invokevirtual 31, 3) := by decide +kernel
theorem dX4_remember_11 : decode cX4_remember 11 = .ok (.return_, 1) := by decide +kernel
set_option maxRecDepth 20000 in
theorem ggX4_rememberCommitment_X4_rememberWith : GoodIn wsX4_rememberCommitment wsX4_rememberWith := goodIn_r _ [5, 6, 7, 8, 9, 10, 11, 12, 13, 14, 15, 16, 17, 18, 19, 20, 21, 4, 22, 23, 24, 25, 26, 27, 28, 29, 30, 31, 32, 33, 34, 35, 36, 37, 38, 39, 40, 41, 42, 43, 44, 45, 46, 47, 48, 49, 50, 51, 52, 53, 54, 55, 56, 57, 58, 59, 60, 61, 62, 63, 64, 65, 66, 67, 68, 69, 70, 71, 72, 73, 74, 75, 76, 77, 78, 79, 80, 81, 82, 83, 84, 85, 86, 87, 88, 89, 90, 91, 92, 93, 94, 95, 96, 97] (by decide +kernel) (by decide +kernel)
set_option maxRecDepth 20000 in
theorem gX4_rememberCommitment_X4_rememberWith : GoodIn wsX4_rememberCommitment (wsV RX4 31 RX4 yX4_rememberWith wsX4_rememberWith) := goodIn_app (goodIn_of _ (by decide +kernel)) ggX4_rememberCommitment_X4_rememberWith
theorem dX4_rememberCommitment_0 : decode cX4_rememberCommitment 0 = .ok (.aload_n 0, 1) := by decide +kernel
theorem dX4_rememberCommitment_1 : decode cX4_rememberCommitment 1 = .ok (.iconst 5, 1) := by decide +kernel
theorem dX4_rememberCommitment_2 : decode cX4_rememberCommitment 2 = .ok (.aload_n 1, 1) := by decide +kernel
theorem dX4_rememberCommitment_3 : decode cX4_rememberCommitment 3 = .ok (.iload_n 2, 1) := by decide +kernel
theorem dX4_rememberCommitment_4 : decode cX4_rememberCommitment 4 = .ok (.bipush (-9), 2) := by decide +kernel
theorem dX4_rememberCommitment_6 : decode cX4_rememberCommitment 6 = .ok (.iconst 0, 1) := by decide +kernel
theorem dX4_rememberCommitment_7 : decode cX4_rememberCommitment 7 = .ok (.invokevirtual 31, 3) := by decide +kernel
theorem dX4_rememberCommitment_10 : decode cX4_rememberCommitment 10 = .ok (.return_, 1) := by decide +kernel
set_option maxRecDepth 20000 in
theorem ggX4_rememberVirement_X4_rememberWith : GoodIn wsX4_rememberVirement wsX4_rememberWith := goodIn_r _ [5, 6, 7, 8, 9, 10, 11, 12, 13, 14, 15, 16, 17, 18, 19, 20, 21, 4, 22, 23, 24, 25, 26, 27, 28, 29, 30, 31, 32, 33, 34, 35, 36, 37, 38, 39, 40, 41, 42, 43, 44, 45, 46, 47, 48, 49, 50, 51, 52, 53, 54, 55, 56, 57, 58, 59, 60, 61, 62, 63, 64, 65, 66, 67, 68, 69, 70, 71, 72, 73, 74, 75, 76, 77, 78, 79, 80, 81, 82, 83, 84, 85, 86, 87, 88, 89, 90, 91, 92, 93, 94, 95, 96, 97] (by decide +kernel) (by decide +kernel)
set_option maxRecDepth 20000 in
theorem gX4_rememberVirement_X4_rememberWith : GoodIn wsX4_rememberVirement (wsV RX4 31 RX4 yX4_rememberWith wsX4_rememberWith) := goodIn_app (goodIn_of _ (by decide +kernel)) ggX4_rememberVirement_X4_rememberWith
theorem dX4_rememberVirement_0 : decode cX4_rememberVirement 0 = .ok (.aload_n 0, 1) := by decide +kernel
theorem dX4_rememberVirement_1 : decode cX4_rememberVirement 1 = .ok (.bipush 8, 2) := by decide +kernel
theorem dX4_rememberVirement_3 : decode cX4_rememberVirement 3 = .ok (.aload_n 1, 1) := by decide +kernel
theorem dX4_rememberVirement_4 : decode cX4_rememberVirement 4 = .ok (.iload_n 2, 1) := by decide +kernel
theorem dX4_rememberVirement_5 : decode cX4_rememberVirement 5 = .ok (.iload_n 3, 1) := by decide +kernel
theorem dX4_rememberVirement_6 : decode cX4_rememberVirement 6 = .ok (.iload 4, 2) := by decide +kernel
theorem dX4_rememberVirement_8 : decode cX4_rememberVirement 8 = .ok (.invokevirtual 31, 3) := by decide +kernel
theorem dX4_rememberVirement_11 : decode cX4_rememberVirement 11 = .ok (.return_, 1) := by decide +kernel
set_option maxRecDepth 20000 in
theorem ggX4_rememberRevoking_X4_rememberWith : GoodIn wsX4_rememberRevoking wsX4_rememberWith := goodIn_r _ [5, 6, 7, 8, 9, 10, 11, 12, 13, 14, 15, 16, 17, 18, 19, 20, 21, 4, 22, 23, 24, 25, 26, 27, 28, 29, 30, 31, 32, 33, 34, 35, 36, 37, 38, 39, 40, 41, 42, 43, 44, 45, 46, 47, 48, 49, 50, 51, 52, 53, 54, 55, 56, 57, 58, 59, 60, 61, 62, 63, 64, 65, 66, 67, 68, 69, 70, 71, 72, 73, 74, 75, 76, 77, 78, 79, 80, 81, 82, 83, 84, 85, 86, 87, 88, 89, 90, 91, 92, 93, 94, 95, 96, 97] (by decide +kernel) (by decide +kernel)
set_option maxRecDepth 20000 in
theorem gX4_rememberRevoking_X4_rememberWith : GoodIn wsX4_rememberRevoking (wsV RX4 31 RX4 yX4_rememberWith wsX4_rememberWith) := goodIn_app (goodIn_of _ (by decide +kernel)) ggX4_rememberRevoking_X4_rememberWith
theorem dX4_rememberRevoking_0 : decode cX4_rememberRevoking 0 = .ok (.aload_n 0, 1) := by decide +kernel
theorem dX4_rememberRevoking_1 : decode cX4_rememberRevoking 1 = .ok (.bipush 10, 2) := by decide +kernel
theorem dX4_rememberRevoking_3 : decode cX4_rememberRevoking 3 = .ok (.aload_n 1, 1) := by decide +kernel
theorem dX4_rememberRevoking_4 : decode cX4_rememberRevoking 4 = .ok (.iload_n 2, 1) := by decide +kernel
theorem dX4_rememberRevoking_5 : decode cX4_rememberRevoking 5 = .ok (.bipush (-9), 2) := by decide +kernel
theorem dX4_rememberRevoking_7 : decode cX4_rememberRevoking 7 = .ok (.iconst 0, 1) := by decide +kernel
theorem dX4_rememberRevoking_8 : decode cX4_rememberRevoking 8 = .ok (.invokevirtual 31, 3) := by decide +kernel
theorem dX4_rememberRevoking_11 : decode cX4_rememberRevoking 11 = .ok (.return_, 1) := by decide +kernel
set_option maxRecDepth 20000 in
theorem ggX4_rememberWith_J9_floorMod_7cf53 : GoodIn wsX4_rememberWith wsJ9_floorMod_7cf53 := goodIn_r _ [13] (by decide +kernel) (by decide +kernel)
set_option maxRecDepth 20000 in
theorem gX4_rememberWith_J9_floorMod_7cf53 : GoodIn wsX4_rememberWith (va_wsS RX4 25 yJ9_floorMod_7cf53 wsJ9_floorMod_7cf53) := goodIn_app (goodIn_of _ (by decide +kernel)) ggX4_rememberWith_J9_floorMod_7cf53
set_option maxRecDepth 20000 in
theorem ggX4_rememberWith_X4_recall : GoodIn wsX4_rememberWith wsX4_recall := goodIn_r _ [18, 1, 19, 2, 10, 11, 12, 13, 62, 63, 64, 65] (by decide +kernel) (by decide +kernel)
set_option maxRecDepth 20000 in
theorem gX4_rememberWith_X4_recall : GoodIn wsX4_rememberWith (wsV RX4 38 RX4 yX4_recall wsX4_recall) := goodIn_app (goodIn_of _ (by decide +kernel)) ggX4_rememberWith_X4_recall
set_option maxRecDepth 20000 in
theorem ggX4_rememberWith_X0_copyFrom : GoodIn wsX4_rememberWith wsX0_copyFrom := goodIn_r _ [24, 25, 26, 27, 28, 29, 30, 31, 32, 33, 34, 35, 36, 37, 38, 39, 40, 41, 42, 43, 44, 45, 46, 47, 48, 49, 50, 51, 52, 53, 54, 55, 56, 57, 58, 59, 60, 61, 72, 73, 74, 75, 76, 77, 78, 79, 80, 81, 82, 83, 84, 85, 86, 87, 88, 89, 90, 91, 92, 93] (by decide +kernel) (by decide +kernel)
set_option maxRecDepth 20000 in
theorem gX4_rememberWith_X0_copyFrom : GoodIn wsX4_rememberWith (wsV RX4 46 RX0 yX0_copyFrom wsX0_copyFrom) := goodIn_app (goodIn_of _ (by decide +kernel)) ggX4_rememberWith_X0_copyFrom
theorem dX4_rememberWith_0 : decode cX4_rememberWith 0 = .ok (.aload_n 0, 1) := by decide +kernel
theorem dX4_rememberWith_1 : decode cX4_rememberWith 1 = .ok (.getfield 18, 3) := by decide +kernel
theorem dX4_rememberWith_4 : decode cX4_rememberWith 4 = .ok (.bipush 12, 2) := by decide +kernel
theorem dX4_rememberWith_6 : decode cX4_rememberWith 6 = .ok (.if_icmp .ge 16, 3) := by decide +kernel
theorem dX4_rememberWith_9 : decode cX4_rememberWith 9 = .ok (.aload_n 0, 1) := by decide +kernel
theorem dX4_rememberWith_10 : decode cX4_rememberWith 10 = .ok (.dup, 1) := by decide +kernel
theorem dX4_rememberWith_11 : decode cX4_rememberWith 11 = .ok (.getfield 18, 3) := by decide +kernel
theorem dX4_rememberWith_14 : decode cX4_rememberWith 14 = .ok (.iconst 1, 1) := by decide +kernel
theorem dX4_rememberWith_15 : decode cX4_rememberWith 15 = .ok (.iadd, 1) := by decide +kernel
theorem dX4_rememberWith_16 : decode cX4_rememberWith 16 = .ok (.putfield 18, 3) := by decide +kernel
theorem dX4_rememberWith_19 : decode cX4_rememberWith 19 = .ok (.goto 18, 3) := by decide +kernel
theorem dX4_rememberWith_22 : decode cX4_rememberWith 22 = .ok (.aload_n 0, 1) := by decide +kernel
theorem dX4_rememberWith_23 : decode cX4_rememberWith 23 = .ok (.aload_n 0, 1) := by decide +kernel
theorem dX4_rememberWith_24 : decode cX4_rememberWith 24 = .ok (.getfield 22, 3) := by decide +kernel
theorem dX4_rememberWith_27 : decode cX4_rememberWith 27 = .ok (.iconst 1, 1) := by decide +kernel
theorem dX4_rememberWith_28 : decode cX4_rememberWith 28 = .ok (.iadd, 1) := by decide +kernel
theorem dX4_rememberWith_29 : decode cX4_rememberWith 29 = .ok (.bipush 12, 2) := by decide +kernel
theorem dX4_rememberWith_31 : decode cX4_rememberWith 31 = .ok (.invokestatic 25, 3) := by decide +kernel
theorem dX4_rememberWith_34 : decode cX4_rememberWith 34 = .ok (.putfield 22, 3) := by decide +kernel
theorem dX4_rememberWith_37 : decode cX4_rememberWith 37 = .ok (.aload_n 0, 1) := by decide +kernel
theorem dX4_rememberWith_38 : decode cX4_rememberWith 38 = .ok (.dup, 1) := by decide +kernel
theorem dX4_rememberWith_39 : decode cX4_rememberWith 39 = .ok (.getfield 35, 3) := by decide +kernel
theorem dX4_rememberWith_42 : decode cX4_rememberWith 42 = .ok (.iconst 1, 1) := by decide +kernel
theorem dX4_rememberWith_43 : decode cX4_rememberWith 43 = .ok (.iadd, 1) := by decide +kernel
theorem dX4_rememberWith_44 : decode cX4_rememberWith 44 = .ok (.putfield 35, 3) := by decide +kernel
theorem dX4_rememberWith_47 : decode cX4_rememberWith 47 = .ok (.aload_n 0, 1) := by decide +kernel
theorem dX4_rememberWith_48 : decode cX4_rememberWith 48 = .ok (.iconst 0, 1) := by decide +kernel
theorem dX4_rememberWith_49 : decode cX4_rememberWith 49 = .ok (.invokevirtual 38, 3) := by decide +kernel
theorem dX4_rememberWith_52 : decode cX4_rememberWith 52 = .ok (.astore 6, 2) := by decide +kernel
theorem dX4_rememberWith_54 : decode cX4_rememberWith 54 = .ok (.aload 6, 2) := by decide +kernel
theorem dX4_rememberWith_56 : decode cX4_rememberWith 56 = .ok (.ifnull 47, 3) := by decide +kernel
theorem dX4_rememberWith_59 : decode cX4_rememberWith 59 = .ok (.aload 6, 2) := by decide +kernel
theorem dX4_rememberWith_61 : decode cX4_rememberWith 61 = .ok (.getfield 42, 3) := by decide +kernel
theorem dX4_rememberWith_64 : decode cX4_rememberWith 64 = .ok (.aload_n 2, 1) := by decide +kernel
theorem dX4_rememberWith_65 : decode cX4_rememberWith 65 = .ok (.invokevirtual 46, 3) := by decide +kernel
theorem dX4_rememberWith_68 : decode cX4_rememberWith 68 = .ok (.aload 6, 2) := by decide +kernel
theorem dX4_rememberWith_70 : decode cX4_rememberWith 70 = .ok (.aload_n 0, 1) := by decide +kernel
theorem dX4_rememberWith_71 : decode cX4_rememberWith 71 = .ok (.getfield 35, 3) := by decide +kernel
theorem dX4_rememberWith_74 : decode cX4_rememberWith 74 = .ok (.putfield 52, 3) := by decide +kernel
theorem dX4_rememberWith_77 : decode cX4_rememberWith 77 = .ok (.aload 6, 2) := by decide +kernel
theorem dX4_rememberWith_79 : decode cX4_rememberWith 79 = .ok (.iload_n 1, 1) := by decide +kernel
theorem dX4_rememberWith_80 : decode cX4_rememberWith 80 = .ok (.putfield 55, 3) := by decide +kernel
theorem dX4_rememberWith_83 : decode cX4_rememberWith 83 = .ok (.aload 6, 2) := by decide +kernel
theorem dX4_rememberWith_85 : decode cX4_rememberWith 85 = .ok (.iload_n 3, 1) := by decide +kernel
theorem dX4_rememberWith_86 : decode cX4_rememberWith 86 = .ok (.putfield 58, 3) := by decide +kernel
theorem dX4_rememberWith_89 : decode cX4_rememberWith 89 = .ok (.aload 6, 2) := by decide +kernel
theorem dX4_rememberWith_91 : decode cX4_rememberWith 91 = .ok (.iload 4, 2) := by decide +kernel
theorem dX4_rememberWith_93 : decode cX4_rememberWith 93 = .ok (.putfield 61, 3) := by decide +kernel
theorem dX4_rememberWith_96 : decode cX4_rememberWith 96 = .ok (.aload 6, 2) := by decide +kernel
theorem dX4_rememberWith_98 : decode cX4_rememberWith 98 = .ok (.iload 5, 2) := by decide +kernel
theorem dX4_rememberWith_100 : decode cX4_rememberWith 100 = .ok (.putfield 64, 3) := by decide +kernel
theorem dX4_rememberWith_103 : decode cX4_rememberWith 103 = .ok (.return_, 1) := by decide +kernel
set_option maxRecDepth 20000 in
theorem ggX4_wasRevoked_X4_recall : GoodIn wsX4_wasRevoked wsX4_recall := goodIn_r _ [7, 8, 9, 10, 11, 12, 13, 14, 21, 22, 23, 24] (by decide +kernel) (by decide +kernel)
set_option maxRecDepth 20000 in
theorem gX4_wasRevoked_X4_recall : GoodIn wsX4_wasRevoked (wsV RX4 38 RX4 yX4_recall wsX4_recall) := goodIn_app (goodIn_of _ (by decide +kernel)) ggX4_wasRevoked_X4_recall
theorem dX4_wasRevoked_0 : decode cX4_wasRevoked 0 = .ok (.iconst 0, 1) := by decide +kernel
theorem dX4_wasRevoked_1 : decode cX4_wasRevoked 1 = .ok (.istore_n 2, 1) := by decide +kernel
theorem dX4_wasRevoked_2 : decode cX4_wasRevoked 2 = .ok (.iload_n 2, 1) := by decide +kernel
theorem dX4_wasRevoked_3 : decode cX4_wasRevoked 3 = .ok (.bipush 12, 2) := by decide +kernel
theorem dX4_wasRevoked_5 : decode cX4_wasRevoked 5 = .ok (.if_icmp .ge 38, 3) := by decide +kernel
theorem dX4_wasRevoked_8 : decode cX4_wasRevoked 8 = .ok (.aload_n 0, 1) := by decide +kernel
theorem dX4_wasRevoked_9 : decode cX4_wasRevoked 9 = .ok (.iload_n 2, 1) := by decide +kernel
theorem dX4_wasRevoked_10 : decode cX4_wasRevoked 10 = .ok (.invokevirtual 38, 3) := by decide +kernel
theorem dX4_wasRevoked_13 : decode cX4_wasRevoked 13 = .ok (.astore_n 3, 1) := by decide +kernel
theorem dX4_wasRevoked_14 : decode cX4_wasRevoked 14 = .ok (.aload_n 3, 1) := by decide +kernel
theorem dX4_wasRevoked_15 : decode cX4_wasRevoked 15 = .ok (.ifnull 22, 3) := by decide +kernel
theorem dX4_wasRevoked_18 : decode cX4_wasRevoked 18 = .ok (.aload_n 3, 1) := by decide +kernel
theorem dX4_wasRevoked_19 : decode cX4_wasRevoked 19 = .ok (.getfield 55, 3) := by decide +kernel
theorem dX4_wasRevoked_22 : decode cX4_wasRevoked 22 = .ok (.bipush 10, 2) := by decide +kernel
theorem dX4_wasRevoked_24 : decode cX4_wasRevoked 24 = .ok (.if_icmp .ne 13, 3) := by decide +kernel
theorem dX4_wasRevoked_27 : decode cX4_wasRevoked 27 = .ok (.aload_n 3, 1) := by decide +kernel
theorem dX4_wasRevoked_28 : decode cX4_wasRevoked 28 = .ok (.getfield 58, 3) := by decide +kernel
theorem dX4_wasRevoked_31 : decode cX4_wasRevoked 31 = .ok (.iload_n 1, 1) := by decide +kernel
theorem dX4_wasRevoked_32 : decode cX4_wasRevoked 32 = .ok (.if_icmp .ne 5, 3) := by decide +kernel
theorem dX4_wasRevoked_35 : decode cX4_wasRevoked 35 = .ok (.iconst 1, 1) := by decide +kernel
theorem dX4_wasRevoked_36 : decode cX4_wasRevoked 36 = .ok (.ireturn, 1) := by decide +kernel
theorem dX4_wasRevoked_37 : decode cX4_wasRevoked 37 = .ok (.iinc 2 1, 3) := by decide +kernel
theorem dX4_wasRevoked_40 : decode cX4_wasRevoked 40 = .ok (.goto (-38), 3) := by decide +kernel
theorem dX4_wasRevoked_43 : decode cX4_wasRevoked 43 = .ok (.iconst 0, 1) := by decide +kernel
theorem dX4_wasRevoked_44 : decode cX4_wasRevoked 44 = .ok (.ireturn, 1) := by decide +kernel
theorem dX4_forgetLatest_0 : decode cX4_forgetLatest 0 = .ok (.aload_n 0, 1) := by decide +kernel
theorem dX4_forgetLatest_1 : decode cX4_forgetLatest 1 = .ok (.getfield 18, 3) := by decide +kernel
theorem dX4_forgetLatest_4 : decode cX4_forgetLatest 4 = .ok (.ifCond .le 13, 3) := by decide +kernel
theorem dX4_forgetLatest_7 : decode cX4_forgetLatest 7 = .ok (.aload_n 0, 1) := by decide +kernel
theorem dX4_forgetLatest_8 : decode cX4_forgetLatest 8 = .ok (.dup, 1) := by decide +kernel
theorem dX4_forgetLatest_9 : decode cX4_forgetLatest 9 = .ok (.getfield 18, 3) := by decide +kernel
theorem dX4_forgetLatest_12 : decode cX4_forgetLatest 12 = .ok (.iconst 1, 1) := by decide +kernel
theorem dX4_forgetLatest_13 : decode cX4_forgetLatest 13 = .ok (.isub, 1) := by decide +kernel
theorem dX4_forgetLatest_14 : decode cX4_forgetLatest 14 = .ok (.putfield 18, 3) := by decide +kernel
theorem dX4_forgetLatest_17 : decode cX4_forgetLatest 17 = .ok (.aload_n 0, 1) := by decide +kernel
theorem dX4_forgetLatest_18 : decode cX4_forgetLatest 18 = .ok (.getfield 18, 3) := by decide +kernel
theorem dX4_forgetLatest_21 : decode cX4_forgetLatest 21 = .ok (.ireturn, 1) := by decide +kernel
set_option maxRecDepth 20000 in
theorem ggX5_init_X0_init : GoodIn wsX5_init wsX0_init := goodIn_r _ [14, 15, 2, 3, 16, 17, 18, 19, 20, 21, 22, 23, 24, 25, 26, 27, 28, 29, 30, 31, 32, 33, 34, 35, 36, 37, 38, 39, 40, 41, 42, 43, 44, 45, 80, 81, 82, 83, 84, 85, 86, 87, 88, 89, 90, 68, 69, 70, 71, 72, 73, 91, 92, 93, 94, 95] (by decide +kernel) (by decide +kernel)
set_option maxRecDepth 20000 in
theorem gX5_init_X0_init_n9 : GoodIn wsX5_init (wsX0_init) := ggX5_init_X0_init
set_option maxRecDepth 20000 in
theorem ggX5_init_X4_init : GoodIn wsX5_init wsX4_init := goodIn_r _ [48, 49, 2, 3, 50, 51, 52, 53, 54, 55, 56, 57, 5, 6, 58, 13, 14, 15, 16, 17, 18, 19, 20, 21, 22, 23, 24, 25, 26, 27, 28, 29, 30, 31, 32, 33, 34, 35, 36, 37, 38, 39, 40, 41, 42, 43, 44, 45, 76, 77, 78, 79, 96, 97, 98, 99, 100, 101, 68, 69, 70, 71, 72, 73, 80, 81, 82, 83, 84, 85, 86, 87, 88, 89, 90, 91, 92, 93, 94, 95] (by decide +kernel) (by decide +kernel)
set_option maxRecDepth 20000 in
theorem gX5_init_X4_init : GoodIn wsX5_init (wsX4_init) := ggX5_init_X4_init
set_option maxRecDepth 20000 in
theorem ggX5_init_X3_add : GoodIn wsX5_init wsX3_add := goodIn_r _ [62, 63, 29, 30, 31, 38, 64, 65, 66, 18, 67, 80, 81, 82, 83, 84, 85, 86, 87, 88, 89, 90] (by decide +kernel) (by decide +kernel)
set_option maxRecDepth 20000 in
theorem gX5_init_X3_add : GoodIn wsX5_init (wsV RX5 27 RX3 yX3_add wsX3_add) := goodIn_app (goodIn_of _ (by decide +kernel)) ggX5_init_X3_add
theorem dX5_init_0 : decode cX5_init 0 = .ok (.aload_n 0, 1) := by decide +kernel
theorem dX5_init_1 : decode cX5_init 1 = .ok (.invokespecial 1, 3) := by decide +kernel
theorem dX5_init_4 : decode cX5_init 4 = .ok (.aload_n 0, 1) := by decide +kernel
theorem dX5_init_5 : decode cX5_init 5 = .ok (.new 7, 3) := by decide +kernel
theorem dX5_init_8 : decode cX5_init 8 = .ok (.dup, 1) := by decide +kernel
theorem dX5_init_9 : decode cX5_init 9 = .ok (.invokespecial 9, 3) := by decide +kernel
theorem dX5_init_12 : decode cX5_init 12 = .ok (.putfield 10, 3) := by decide +kernel
theorem dX5_init_15 : decode cX5_init 15 = .ok (.aload_n 0, 1) := by decide +kernel
theorem dX5_init_16 : decode cX5_init 16 = .ok (.new 16, 3) := by decide +kernel
theorem dX5_init_19 : decode cX5_init 19 = .ok (.dup, 1) := by decide +kernel
theorem dX5_init_20 : decode cX5_init 20 = .ok (.invokespecial 18, 3) := by decide +kernel
theorem dX5_init_23 : decode cX5_init 23 = .ok (.putfield 19, 3) := by decide +kernel
theorem dX5_init_26 : decode cX5_init 26 = .ok (.aload_n 0, 1) := by decide +kernel
theorem dX5_init_27 : decode cX5_init 27 = .ok (.getfield 10, 3) := by decide +kernel
theorem dX5_init_30 : decode cX5_init 30 = .ok (.getfield 23, 3) := by decide +kernel
theorem dX5_init_33 : decode cX5_init 33 = .ok (.bipush (-9), 2) := by decide +kernel
theorem dX5_init_35 : decode cX5_init 35 = .ok (.iconst 0, 1) := by decide +kernel
theorem dX5_init_36 : decode cX5_init 36 = .ok (.invokevirtual 27, 3) := by decide +kernel
theorem dX5_init_39 : decode cX5_init 39 = .ok (.pop, 1) := by decide +kernel
theorem dX5_init_40 : decode cX5_init 40 = .ok (.return_, 1) := by decide +kernel
set_option maxRecDepth 20000 in
theorem ggX5_make_X3_has : GoodIn wsX5_make wsX3_has := goodIn_r _ [10, 11, 92, 93, 94, 95, 96, 97, 98, 99, 100, 101, 102] (by decide +kernel) (by decide +kernel)
set_option maxRecDepth 20000 in
theorem gX5_make_X3_has : GoodIn wsX5_make (wsV RX5 33 RX3 yX3_has wsX3_has) := goodIn_app (goodIn_of _ (by decide +kernel)) ggX5_make_X3_has
set_option maxRecDepth 20000 in
theorem ggX5_make_X4_remember : GoodIn wsX5_make wsX4_remember := goodIn_r _ [16, 17, 18, 19, 15, 20, 21, 22, 23, 24, 25, 26, 27, 28, 29, 30, 31, 32, 33, 34, 35, 36, 37, 38, 39, 40, 41, 42, 43, 44, 45, 46, 47, 48, 49, 50, 51, 52, 9, 53, 54, 55, 56, 57, 58, 59, 60, 61, 62, 63, 64, 65, 66, 67, 11, 68, 69, 70, 71, 72, 73, 74, 75, 76, 77, 78, 103, 104, 105, 106, 107, 108, 109, 110, 111, 112, 86, 87, 88, 89, 90, 91, 92, 93, 94, 95, 96, 97, 98, 99, 100, 101, 102, 113, 114, 115, 116, 117] (by decide +kernel) (by decide +kernel)
set_option maxRecDepth 20000 in
theorem gX5_make_X4_remember : GoodIn wsX5_make (wsV RX5 45 RX4 yX4_remember wsX4_remember) := goodIn_app (goodIn_of _ (by decide +kernel)) ggX5_make_X4_remember
set_option maxRecDepth 20000 in
theorem ggX5_make_X3_add : GoodIn wsX5_make wsX3_add := goodIn_r _ [82, 11, 54, 59, 60, 67, 83, 7, 8, 9, 10, 92, 93, 94, 95, 96, 97, 98, 99, 100, 101, 102] (by decide +kernel) (by decide +kernel)
set_option maxRecDepth 20000 in
theorem gX5_make_X3_add : GoodIn wsX5_make (wsV RX5 27 RX3 yX3_add wsX3_add) := goodIn_app (goodIn_of _ (by decide +kernel)) ggX5_make_X3_add
theorem dX5_make_0 : decode cX5_make 0 = .ok (.aload_n 0, 1) := by decide +kernel
theorem dX5_make_1 : decode cX5_make 1 = .ok (.getfield 10, 3) := by decide +kernel
theorem dX5_make_4 : decode cX5_make 4 = .ok (.getfield 23, 3) := by decide +kernel
theorem dX5_make_7 : decode cX5_make 7 = .ok (.astore_n 3, 1) := by decide +kernel
theorem dX5_make_8 : decode cX5_make 8 = .ok (.aload_n 3, 1) := by decide +kernel
theorem dX5_make_9 : decode cX5_make 9 = .ok (.iload_n 1, 1) := by decide +kernel
theorem dX5_make_10 : decode cX5_make 10 = .ok (.invokevirtual 33, 3) := by decide +kernel
theorem dX5_make_13 : decode cX5_make 13 = .ok (.ifCond .eq 13, 3) := by decide +kernel
theorem dX5_make_16 : decode cX5_make 16 = .ok (.iload_n 2, 1) := by decide +kernel
theorem dX5_make_17 : decode cX5_make 17 = .ok (.ifCond .lt 9, 3) := by decide +kernel
theorem dX5_make_20 : decode cX5_make 20 = .ok (.iload_n 2, 1) := by decide +kernel
theorem dX5_make_21 : decode cX5_make 21 = .ok (.bipush 9, 2) := by decide +kernel
theorem dX5_make_23 : decode cX5_make 23 = .ok (.if_icmp .le 5, 3) := by decide +kernel
theorem dX5_make_26 : decode cX5_make 26 = .ok (.iconst (-1), 1) := by decide +kernel
theorem dX5_make_27 : decode cX5_make 27 = .ok (.ireturn, 1) := by decide +kernel
theorem dX5_make_28 : decode cX5_make 28 = .ok (.aload_n 3, 1) := by decide +kernel
theorem dX5_make_29 : decode cX5_make 29 = .ok (.getfield 37, 3) := by decide +kernel
theorem dX5_make_32 : decode cX5_make 32 = .ok (.iload_n 1, 1) := by decide +kernel
theorem dX5_make_33 : decode cX5_make 33 = .ok (.iaload, 1) := by decide +kernel
theorem dX5_make_34 : decode cX5_make 34 = .ok (.iconst 4, 1) := by decide +kernel
theorem dX5_make_35 : decode cX5_make 35 = .ok (.if_icmp .lt 6, 3) := by decide +kernel
theorem dX5_make_38 : decode cX5_make 38 = .ok (.bipush (-2), 2) := by decide +kernel
theorem dX5_make_40 : decode cX5_make 40 = .ok (.ireturn, 1) := by decide +kernel
theorem dX5_make_41 : decode cX5_make 41 = .ok (.aload_n 3, 1) := by decide +kernel
theorem dX5_make_42 : decode cX5_make 42 = .ok (.getfield 41, 3) := by decide +kernel
theorem dX5_make_45 : decode cX5_make 45 = .ok (.bipush 20, 2) := by decide +kernel
theorem dX5_make_47 : decode cX5_make 47 = .ok (.if_icmp .lt 6, 3) := by decide +kernel
theorem dX5_make_50 : decode cX5_make 50 = .ok (.bipush (-3), 2) := by decide +kernel
theorem dX5_make_52 : decode cX5_make 52 = .ok (.ireturn, 1) := by decide +kernel
theorem dX5_make_53 : decode cX5_make 53 = .ok (.aload_n 0, 1) := by decide +kernel
theorem dX5_make_54 : decode cX5_make 54 = .ok (.getfield 19, 3) := by decide +kernel
theorem dX5_make_57 : decode cX5_make 57 = .ok (.iconst 0, 1) := by decide +kernel
theorem dX5_make_58 : decode cX5_make 58 = .ok (.aload_n 0, 1) := by decide +kernel
theorem dX5_make_59 : decode cX5_make 59 = .ok (.getfield 10, 3) := by decide +kernel
theorem dX5_make_62 : decode cX5_make 62 = .ok (.invokevirtual 45, 3) := by decide +kernel
theorem dX5_make_65 : decode cX5_make 65 = .ok (.aload_n 3, 1) := by decide +kernel
theorem dX5_make_66 : decode cX5_make 66 = .ok (.iload_n 1, 1) := by decide +kernel
theorem dX5_make_67 : decode cX5_make 67 = .ok (.iload_n 2, 1) := by decide +kernel
theorem dX5_make_68 : decode cX5_make 68 = .ok (.invokevirtual 27, 3) := by decide +kernel
theorem dX5_make_71 : decode cX5_make 71 = .ok (.ireturn, 1) := by decide +kernel
set_option maxRecDepth 20000 in
theorem ggX5_allot_X3_has : GoodIn wsX5_allot wsX3_has := goodIn_r _ [11, 12, 93, 94, 95, 96, 97, 98, 99, 100, 101, 102, 103] (by decide +kernel) (by decide +kernel)
set_option maxRecDepth 20000 in
theorem gX5_allot_X3_has : GoodIn wsX5_allot (wsV RX5 33 RX3 yX3_has wsX3_has) := goodIn_app (goodIn_of _ (by decide +kernel)) ggX5_allot_X3_has
set_option maxRecDepth 20000 in
theorem ggX5_allot_X5_isAmount : GoodIn wsX5_allot wsX5_isAmount := goodIn_r _ [16, 17] (by decide +kernel) (by decide +kernel)
set_option maxRecDepth 20000 in
theorem gX5_allot_X5_isAmount : GoodIn wsX5_allot (va_wsS RX5 49 yX5_isAmount wsX5_isAmount) := goodIn_app (goodIn_of _ (by decide +kernel)) ggX5_allot_X5_isAmount
set_option maxRecDepth 20000 in
theorem ggX5_allot_X4_remember : GoodIn wsX5_allot wsX4_remember := goodIn_r _ [22, 23, 24, 25, 21, 26, 27, 28, 29, 30, 31, 32, 33, 34, 35, 36, 37, 38, 39, 40, 41, 42, 43, 44, 45, 46, 47, 48, 49, 50, 51, 52, 53, 54, 55, 56, 57, 58, 10, 59, 60, 61, 62, 63, 64, 65, 66, 67, 68, 69, 70, 71, 72, 73, 12, 74, 75, 76, 77, 78, 79, 80, 81, 82, 83, 84, 104, 105, 106, 107, 108, 109, 110, 111, 112, 113, 87, 88, 89, 90, 91, 92, 93, 94, 95, 96, 97, 98, 99, 100, 101, 102, 103, 114, 115, 116, 117, 118] (by decide +kernel) (by decide +kernel)
set_option maxRecDepth 20000 in
theorem gX5_allot_X4_remember : GoodIn wsX5_allot (wsV RX5 45 RX4 yX4_remember wsX4_remember) := goodIn_app (goodIn_of _ (by decide +kernel)) ggX5_allot_X4_remember
theorem dX5_allot_0 : decode cX5_allot 0 = .ok (.aload_n 0, 1) := by decide +kernel
theorem dX5_allot_1 : decode cX5_allot 1 = .ok (.getfield 10, 3) := by decide +kernel
theorem dX5_allot_4 : decode cX5_allot 4 = .ok (.getfield 23, 3) := by decide +kernel
theorem dX5_allot_7 : decode cX5_allot 7 = .ok (.astore_n 3, 1) := by decide +kernel
theorem dX5_allot_8 : decode cX5_allot 8 = .ok (.aload_n 3, 1) := by decide +kernel
theorem dX5_allot_9 : decode cX5_allot 9 = .ok (.iload_n 1, 1) := by decide +kernel
theorem dX5_allot_10 : decode cX5_allot 10 = .ok (.invokevirtual 33, 3) := by decide +kernel
theorem dX5_allot_13 : decode cX5_allot 13 = .ok (.ifCond .eq 10, 3) := by decide +kernel
theorem dX5_allot_16 : decode cX5_allot 16 = .ok (.iload_n 2, 1) := by decide +kernel
theorem dX5_allot_17 : decode cX5_allot 17 = .ok (.invokestatic 49, 3) := by decide +kernel
theorem dX5_allot_20 : decode cX5_allot 20 = .ok (.ifCond .ne 5, 3) := by decide +kernel
theorem dX5_allot_23 : decode cX5_allot 23 = .ok (.iconst (-1), 1) := by decide +kernel
theorem dX5_allot_24 : decode cX5_allot 24 = .ok (.ireturn, 1) := by decide +kernel
theorem dX5_allot_25 : decode cX5_allot 25 = .ok (.aload_n 3, 1) := by decide +kernel
theorem dX5_allot_26 : decode cX5_allot 26 = .ok (.getfield 52, 3) := by decide +kernel
theorem dX5_allot_29 : decode cX5_allot 29 = .ok (.iload_n 1, 1) := by decide +kernel
theorem dX5_allot_30 : decode cX5_allot 30 = .ok (.iaload, 1) := by decide +kernel
theorem dX5_allot_31 : decode cX5_allot 31 = .ok (.ldc 55, 2) := by decide +kernel
theorem dX5_allot_33 : decode cX5_allot 33 = .ok (.iload_n 2, 1) := by decide +kernel
theorem dX5_allot_34 : decode cX5_allot 34 = .ok (.isub, 1) := by decide +kernel
theorem dX5_allot_35 : decode cX5_allot 35 = .ok (.if_icmp .le 6, 3) := by decide +kernel
theorem dX5_allot_38 : decode cX5_allot 38 = .ok (.bipush (-3), 2) := by decide +kernel
theorem dX5_allot_40 : decode cX5_allot 40 = .ok (.ireturn, 1) := by decide +kernel
theorem dX5_allot_41 : decode cX5_allot 41 = .ok (.aload_n 0, 1) := by decide +kernel
theorem dX5_allot_42 : decode cX5_allot 42 = .ok (.getfield 19, 3) := by decide +kernel
theorem dX5_allot_45 : decode cX5_allot 45 = .ok (.iconst 1, 1) := by decide +kernel
theorem dX5_allot_46 : decode cX5_allot 46 = .ok (.aload_n 0, 1) := by decide +kernel
theorem dX5_allot_47 : decode cX5_allot 47 = .ok (.getfield 10, 3) := by decide +kernel
theorem dX5_allot_50 : decode cX5_allot 50 = .ok (.invokevirtual 45, 3) := by decide +kernel
theorem dX5_allot_53 : decode cX5_allot 53 = .ok (.aload_n 3, 1) := by decide +kernel
theorem dX5_allot_54 : decode cX5_allot 54 = .ok (.getfield 52, 3) := by decide +kernel
theorem dX5_allot_57 : decode cX5_allot 57 = .ok (.iload_n 1, 1) := by decide +kernel
theorem dX5_allot_58 : decode cX5_allot 58 = .ok (.dup2, 1) := by decide +kernel
theorem dX5_allot_59 : decode cX5_allot 59 = .ok (.iaload, 1) := by decide +kernel
theorem dX5_allot_60 : decode cX5_allot 60 = .ok (.iload_n 2, 1) := by decide +kernel
theorem dX5_allot_61 : decode cX5_allot 61 = .ok (.iadd, 1) := by decide +kernel
theorem dX5_allot_62 : decode cX5_allot 62 = .ok (.iastore, 1) := by decide +kernel
theorem dX5_allot_63 : decode cX5_allot 63 = .ok (.aload_n 3, 1) := by decide +kernel
theorem dX5_allot_64 : decode cX5_allot 64 = .ok (.getfield 56, 3) := by decide +kernel
theorem dX5_allot_67 : decode cX5_allot 67 = .ok (.iload_n 1, 1) := by decide +kernel
theorem dX5_allot_68 : decode cX5_allot 68 = .ok (.dup2, 1) := by decide +kernel
theorem dX5_allot_69 : decode cX5_allot 69 = .ok (.iaload, 1) := by decide +kernel
theorem dX5_allot_70 : decode cX5_allot 70 = .ok (.iload_n 2, 1) := by decide +kernel
theorem dX5_allot_71 : decode cX5_allot 71 = .ok (.iadd, 1) := by decide +kernel
theorem dX5_allot_72 : decode cX5_allot 72 = .ok (.iastore, 1) := by decide +kernel
theorem dX5_allot_73 : decode cX5_allot 73 = .ok (.aload_n 3, 1) := by decide +kernel
theorem dX5_allot_74 : decode cX5_allot 74 = .ok (.getfield 52, 3) := by decide +kernel
theorem dX5_allot_77 : decode cX5_allot 77 = .ok (.iload_n 1, 1) := by decide +kernel
theorem dX5_allot_78 : decode cX5_allot 78 = .ok (.iaload, 1) := by decide +kernel
theorem dX5_allot_79 : decode cX5_allot 79 = .ok (.ireturn, 1) := by decide +kernel
set_option maxRecDepth 20000 in
theorem ggX5_freeze_X3_has : GoodIn wsX5_freeze wsX3_has := goodIn_r _ [9, 10, 95, 96, 97, 98, 99, 100, 101, 102, 103, 104, 105] (by decide +kernel) (by decide +kernel)
set_option maxRecDepth 20000 in
theorem gX5_freeze_X3_has : GoodIn wsX5_freeze (wsV RX5 33 RX3 yX3_has wsX3_has) := goodIn_app (goodIn_of _ (by decide +kernel)) ggX5_freeze_X3_has
set_option maxRecDepth 20000 in
theorem ggX5_freeze_X4_remember : GoodIn wsX5_freeze wsX4_remember := goodIn_r _ [15, 16, 17, 18, 14, 19, 20, 21, 22, 23, 24, 25, 26, 27, 28, 29, 30, 31, 32, 33, 34, 35, 36, 37, 38, 39, 40, 41, 42, 43, 44, 45, 46, 47, 48, 49, 50, 51, 8, 52, 53, 54, 55, 56, 57, 58, 59, 60, 61, 62, 63, 64, 65, 66, 10, 67, 68, 69, 70, 71, 72, 73, 74, 75, 76, 77, 106, 107, 108, 109, 110, 111, 112, 113, 114, 115, 89, 90, 91, 92, 93, 94, 95, 96, 97, 98, 99, 100, 101, 102, 103, 104, 105, 116, 117, 118, 119, 120] (by decide +kernel) (by decide +kernel)
set_option maxRecDepth 20000 in
theorem gX5_freeze_X4_remember : GoodIn wsX5_freeze (wsV RX5 45 RX4 yX4_remember wsX4_remember) := goodIn_app (goodIn_of _ (by decide +kernel)) ggX5_freeze_X4_remember
set_option maxRecDepth 20000 in
theorem ggX5_freeze_X3_countBarred : GoodIn wsX5_freeze wsX3_countBarred := goodIn_r _ [81, 82, 83, 84, 8, 85, 60, 53, 86, 6, 7, 9, 10, 95, 96, 97, 98, 99, 100, 101, 102, 103, 104, 105] (by decide +kernel) (by decide +kernel)
set_option maxRecDepth 20000 in
theorem gX5_freeze_X3_countBarred : GoodIn wsX5_freeze (wsV RX5 62 RX3 yX3_countBarred wsX3_countBarred) := goodIn_app (goodIn_of _ (by decide +kernel)) ggX5_freeze_X3_countBarred
theorem dX5_freeze_0 : decode cX5_freeze 0 = .ok (.aload_n 0, 1) := by decide +kernel
theorem dX5_freeze_1 : decode cX5_freeze 1 = .ok (.getfield 10, 3) := by decide +kernel
theorem dX5_freeze_4 : decode cX5_freeze 4 = .ok (.getfield 23, 3) := by decide +kernel
theorem dX5_freeze_7 : decode cX5_freeze 7 = .ok (.astore_n 3, 1) := by decide +kernel
theorem dX5_freeze_8 : decode cX5_freeze 8 = .ok (.aload_n 3, 1) := by decide +kernel
theorem dX5_freeze_9 : decode cX5_freeze 9 = .ok (.iload_n 1, 1) := by decide +kernel
theorem dX5_freeze_10 : decode cX5_freeze 10 = .ok (.invokevirtual 33, 3) := by decide +kernel
theorem dX5_freeze_13 : decode cX5_freeze 13 = .ok (.ifCond .eq 12, 3) := by decide +kernel
theorem dX5_freeze_16 : decode cX5_freeze 16 = .ok (.iload_n 2, 1) := by decide +kernel
theorem dX5_freeze_17 : decode cX5_freeze 17 = .ok (.ifCond .lt 8, 3) := by decide +kernel
theorem dX5_freeze_20 : decode cX5_freeze 20 = .ok (.iload_n 2, 1) := by decide +kernel
theorem dX5_freeze_21 : decode cX5_freeze 21 = .ok (.iconst 1, 1) := by decide +kernel
theorem dX5_freeze_22 : decode cX5_freeze 22 = .ok (.if_icmp .le 5, 3) := by decide +kernel
theorem dX5_freeze_25 : decode cX5_freeze 25 = .ok (.iconst (-1), 1) := by decide +kernel
theorem dX5_freeze_26 : decode cX5_freeze 26 = .ok (.ireturn, 1) := by decide +kernel
theorem dX5_freeze_27 : decode cX5_freeze 27 = .ok (.aload_n 3, 1) := by decide +kernel
theorem dX5_freeze_28 : decode cX5_freeze 28 = .ok (.getfield 59, 3) := by decide +kernel
theorem dX5_freeze_31 : decode cX5_freeze 31 = .ok (.iload_n 1, 1) := by decide +kernel
theorem dX5_freeze_32 : decode cX5_freeze 32 = .ok (.iaload, 1) := by decide +kernel
theorem dX5_freeze_33 : decode cX5_freeze 33 = .ok (.iload_n 2, 1) := by decide +kernel
theorem dX5_freeze_34 : decode cX5_freeze 34 = .ok (.if_icmp .ne 6, 3) := by decide +kernel
theorem dX5_freeze_37 : decode cX5_freeze 37 = .ok (.bipush (-2), 2) := by decide +kernel
theorem dX5_freeze_39 : decode cX5_freeze 39 = .ok (.ireturn, 1) := by decide +kernel
theorem dX5_freeze_40 : decode cX5_freeze 40 = .ok (.aload_n 0, 1) := by decide +kernel
theorem dX5_freeze_41 : decode cX5_freeze 41 = .ok (.getfield 19, 3) := by decide +kernel
theorem dX5_freeze_44 : decode cX5_freeze 44 = .ok (.iconst 2, 1) := by decide +kernel
theorem dX5_freeze_45 : decode cX5_freeze 45 = .ok (.aload_n 0, 1) := by decide +kernel
theorem dX5_freeze_46 : decode cX5_freeze 46 = .ok (.getfield 10, 3) := by decide +kernel
theorem dX5_freeze_49 : decode cX5_freeze 49 = .ok (.invokevirtual 45, 3) := by decide +kernel
theorem dX5_freeze_52 : decode cX5_freeze 52 = .ok (.aload_n 3, 1) := by decide +kernel
theorem dX5_freeze_53 : decode cX5_freeze 53 = .ok (.getfield 59, 3) := by decide +kernel
theorem dX5_freeze_56 : decode cX5_freeze 56 = .ok (.iload_n 1, 1) := by decide +kernel
theorem dX5_freeze_57 : decode cX5_freeze 57 = .ok (.iload_n 2, 1) := by decide +kernel
theorem dX5_freeze_58 : decode cX5_freeze 58 = .ok (.iastore, 1) := by decide +kernel
theorem dX5_freeze_59 : decode cX5_freeze 59 = .ok (.aload_n 3, 1) := by decide +kernel
theorem dX5_freeze_60 : decode cX5_freeze 60 = .ok (.invokevirtual 62, 3) := by decide +kernel
theorem dX5_freeze_63 : decode cX5_freeze 63 = .ok (.ireturn, 1) := by decide +kernel
set_option maxRecDepth 20000 in
theorem ggX5_setShare_X3_has : GoodIn wsX5_setShare wsX3_has := goodIn_r _ [9, 10, 90, 91, 92, 93, 94, 95, 96, 97, 98, 99, 100] (by decide +kernel) (by decide +kernel)
set_option maxRecDepth 20000 in
theorem gX5_setShare_X3_has : GoodIn wsX5_setShare (wsV RX5 33 RX3 yX3_has wsX3_has) := goodIn_app (goodIn_of _ (by decide +kernel)) ggX5_setShare_X3_has
set_option maxRecDepth 20000 in
theorem ggX5_setShare_X5_isPercentage : GoodIn wsX5_setShare wsX5_isPercentage := goodIn_r _ [14] (by decide +kernel) (by decide +kernel)
set_option maxRecDepth 20000 in
theorem gX5_setShare_X5_isPercentage : GoodIn wsX5_setShare (va_wsS RX5 66 yX5_isPercentage wsX5_isPercentage) := goodIn_app (goodIn_of _ (by decide +kernel)) ggX5_setShare_X5_isPercentage
set_option maxRecDepth 20000 in
theorem ggX5_setShare_X4_remember : GoodIn wsX5_setShare wsX4_remember := goodIn_r _ [19, 20, 21, 22, 18, 23, 24, 25, 26, 27, 28, 29, 30, 31, 32, 33, 34, 35, 36, 37, 38, 39, 40, 41, 42, 43, 44, 45, 46, 47, 48, 49, 50, 51, 52, 53, 54, 55, 8, 56, 57, 58, 59, 60, 61, 62, 63, 64, 65, 66, 67, 68, 69, 70, 10, 71, 72, 73, 74, 75, 76, 77, 78, 79, 80, 81, 101, 102, 103, 104, 105, 106, 107, 108, 109, 110, 84, 85, 86, 87, 88, 89, 90, 91, 92, 93, 94, 95, 96, 97, 98, 99, 100, 111, 112, 113, 114, 115] (by decide +kernel) (by decide +kernel)
set_option maxRecDepth 20000 in
theorem gX5_setShare_X4_remember : GoodIn wsX5_setShare (wsV RX5 45 RX4 yX4_remember wsX4_remember) := goodIn_app (goodIn_of _ (by decide +kernel)) ggX5_setShare_X4_remember

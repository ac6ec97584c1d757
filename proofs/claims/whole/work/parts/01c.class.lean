theorem dX1_init_0 : decode cX1_init 0 = .ok (.aload_n 0, 1) := by decide +kernel
theorem dX1_init_1 : decode cX1_init 1 = .ok (.invokespecial 3, 3) := by decide +kernel
theorem dX1_init_4 : decode cX1_init 4 = .ok (.aload_n 0, 1) := by decide +kernel
theorem dX1_init_5 : decode cX1_init 5 = .ok (.iconst 5, 1) := by decide +kernel
theorem dX1_init_6 : decode cX1_init 6 = .ok (.anewarray 9, 3) := by decide +kernel
theorem dX1_init_9 : decode cX1_init 9 = .ok (.putfield 11, 3) := by decide +kernel
theorem dX1_init_12 : decode cX1_init 12 = .ok (.aload_n 0, 1) := by decide +kernel
theorem dX1_init_13 : decode cX1_init 13 = .ok (.bipush 16, 2) := by decide +kernel
theorem dX1_init_15 : decode cX1_init 15 = .ok (.newarray .int, 2) := by decide +kernel
theorem dX1_init_17 : decode cX1_init 17 = .ok (.putfield 15, 3) := by decide +kernel
theorem dX1_init_20 : decode cX1_init 20 = .ok (.aload_n 0, 1) := by decide +kernel
theorem dX1_init_21 : decode cX1_init 21 = .ok (.bipush 16, 2) := by decide +kernel
theorem dX1_init_23 : decode cX1_init 23 = .ok (.newarray .boolean, 2) := by decide +kernel
theorem dX1_init_25 : decode cX1_init 25 = .ok (.putfield 19, 3) := by decide +kernel
theorem dX1_init_28 : decode cX1_init 28 = .ok (.iconst 0, 1) := by decide +kernel
theorem dX1_init_29 : decode cX1_init 29 = .ok (.istore_n 1, 1) := by decide +kernel
theorem dX1_init_30 : decode cX1_init 30 = .ok (.iload_n 1, 1) := by decide +kernel
theorem dX1_init_31 : decode cX1_init 31 = .ok (.bipush 16, 2) := by decide +kernel
theorem dX1_init_33 : decode cX1_init 33 = .ok (.if_icmp .ge 17, 3) := by decide +kernel
theorem dX1_init_36 : decode cX1_init 36 = .ok (.aload_n 0, 1) := by decide +kernel
theorem dX1_init_37 : decode cX1_init 37 = .ok (.getfield 15, 3) := by decide +kernel
theorem dX1_init_40 : decode cX1_init 40 = .ok (.iload_n 1, 1) := by decide +kernel
theorem dX1_init_41 : decode cX1_init 41 = .ok (.bipush (-6), 2) := by decide +kernel
theorem dX1_init_43 : decode cX1_init 43 = .ok (.iastore, 1) := by decide +kernel
theorem dX1_init_44 : decode cX1_init 44 = .ok (.iinc 1 1, 3) := by decide +kernel
theorem dX1_init_47 : decode cX1_init 47 = .ok (.goto (-17), 3) := by decide +kernel
theorem dX1_init_50 : decode cX1_init 50 = .ok (.aload_n 0, 1) := by decide +kernel
theorem dX1_init_51 : decode cX1_init 51 = .ok (.iconst 0, 1) := by decide +kernel
theorem dX1_init_52 : decode cX1_init 52 = .ok (.putfield 23, 3) := by decide +kernel
theorem dX1_init_55 : decode cX1_init 55 = .ok (.aload_n 0, 1) := by decide +kernel
theorem dX1_init_56 : decode cX1_init 56 = .ok (.bipush 10, 2) := by decide +kernel
theorem dX1_init_58 : decode cX1_init 58 = .ok (.putfield 27, 3) := by decide +kernel
theorem dX1_init_61 : decode cX1_init 61 = .ok (.aload_n 0, 1) := by decide +kernel
theorem dX1_init_62 : decode cX1_init 62 = .ok (.bipush 20, 2) := by decide +kernel
theorem dX1_init_64 : decode cX1_init 64 = .ok (.putfield 30, 3) := by decide +kernel
theorem dX1_init_67 : decode cX1_init 67 = .ok (.aload_n 0, 1) := by decide +kernel
theorem dX1_init_68 : decode cX1_init 68 = .ok (.bipush 15, 2) := by decide +kernel
theorem dX1_init_70 : decode cX1_init 70 = .ok (.putfield 33, 3) := by decide +kernel
theorem dX1_init_73 : decode cX1_init 73 = .ok (.aload_n 0, 1) := by decide +kernel
theorem dX1_init_74 : decode cX1_init 74 = .ok (.iconst 0, 1) := by decide +kernel
theorem dX1_init_75 : decode cX1_init 75 = .ok (.putfield 36, 3) := by decide +kernel
theorem dX1_init_78 : decode cX1_init 78 = .ok (.aload_n 0, 1) := by decide +kernel
theorem dX1_init_79 : decode cX1_init 79 = .ok (.iconst 0, 1) := by decide +kernel
theorem dX1_init_80 : decode cX1_init 80 = .ok (.putfield 40, 3) := by decide +kernel
theorem dX1_init_83 : decode cX1_init 83 = .ok (.return_, 1) := by decide +kernel
set_option maxRecDepth 20000 in
theorem ggX1_setRestartTime_X1_isTime : GoodIn wsX1_setRestartTime wsX1_isTime := goodIn_r _ [5] (by decide +kernel) (by decide +kernel)
set_option maxRecDepth 20000 in
theorem gX1_setRestartTime_X1_isTime : GoodIn wsX1_setRestartTime (va_wsS RX1 43 yX1_isTime wsX1_isTime) := goodIn_app (goodIn_of _ (by decide +kernel)) ggX1_setRestartTime_X1_isTime
theorem dX1_setRestartTime_0 : decode cX1_setRestartTime 0 = .ok (.iload_n 1, 1) := by decide +kernel
theorem dX1_setRestartTime_1 : decode cX1_setRestartTime 1 = .ok (.invokestatic 43, 3) := by decide +kernel
theorem dX1_setRestartTime_4 : decode cX1_setRestartTime 4 = .ok (.ifCond .ne 6, 3) := by decide +kernel
theorem dX1_setRestartTime_7 : decode cX1_setRestartTime 7 = .ok (.bipush (-3), 2) := by decide +kernel
theorem dX1_setRestartTime_9 : decode cX1_setRestartTime 9 = .ok (.ireturn, 1) := by decide +kernel
theorem dX1_setRestartTime_10 : decode cX1_setRestartTime 10 = .ok (.aload_n 0, 1) := by decide +kernel
theorem dX1_setRestartTime_11 : decode cX1_setRestartTime 11 = .ok (.getfield 27, 3) := by decide +kernel
theorem dX1_setRestartTime_14 : decode cX1_setRestartTime 14 = .ok (.istore_n 2, 1) := by decide +kernel
theorem dX1_setRestartTime_15 : decode cX1_setRestartTime 15 = .ok (.aload_n 0, 1) := by decide +kernel
theorem dX1_setRestartTime_16 : decode cX1_setRestartTime 16 = .ok (.iload_n 1, 1) := by decide +kernel
theorem dX1_setRestartTime_17 : decode cX1_setRestartTime 17 = .ok (.putfield 27, 3) := by decide +kernel
theorem dX1_setRestartTime_20 : decode cX1_setRestartTime 20 = .ok (.iload_n 2, 1) := by decide +kernel
theorem dX1_setRestartTime_21 : decode cX1_setRestartTime 21 = .ok (.ireturn, 1) := by decide +kernel
set_option maxRecDepth 20000 in
theorem ggX1_setStaleTime_X1_isTime : GoodIn wsX1_setStaleTime wsX1_isTime := goodIn_r _ [5] (by decide +kernel) (by decide +kernel)
set_option maxRecDepth 20000 in
theorem gX1_setStaleTime_X1_isTime : GoodIn wsX1_setStaleTime (va_wsS RX1 43 yX1_isTime wsX1_isTime) := goodIn_app (goodIn_of _ (by decide +kernel)) ggX1_setStaleTime_X1_isTime
theorem dX1_setStaleTime_0 : decode cX1_setStaleTime 0 = .ok (.iload_n 1, 1) := by decide +kernel
theorem dX1_setStaleTime_1 : decode cX1_setStaleTime 1 = .ok (.invokestatic 43, 3) := by decide +kernel
theorem dX1_setStaleTime_4 : decode cX1_setStaleTime 4 = .ok (.ifCond .ne 6, 3) := by decide +kernel
theorem dX1_setStaleTime_7 : decode cX1_setStaleTime 7 = .ok (.bipush (-3), 2) := by decide +kernel
theorem dX1_setStaleTime_9 : decode cX1_setStaleTime 9 = .ok (.ireturn, 1) := by decide +kernel
theorem dX1_setStaleTime_10 : decode cX1_setStaleTime 10 = .ok (.aload_n 0, 1) := by decide +kernel
theorem dX1_setStaleTime_11 : decode cX1_setStaleTime 11 = .ok (.getfield 30, 3) := by decide +kernel
theorem dX1_setStaleTime_14 : decode cX1_setStaleTime 14 = .ok (.istore_n 2, 1) := by decide +kernel
theorem dX1_setStaleTime_15 : decode cX1_setStaleTime 15 = .ok (.aload_n 0, 1) := by decide +kernel
theorem dX1_setStaleTime_16 : decode cX1_setStaleTime 16 = .ok (.iload_n 1, 1) := by decide +kernel
theorem dX1_setStaleTime_17 : decode cX1_setStaleTime 17 = .ok (.putfield 30, 3) := by decide +kernel
theorem dX1_setStaleTime_20 : decode cX1_setStaleTime 20 = .ok (.iload_n 2, 1) := by decide +kernel
theorem dX1_setStaleTime_21 : decode cX1_setStaleTime 21 = .ok (.ireturn, 1) := by decide +kernel
set_option maxRecDepth 20000 in
theorem ggX1_setDeferralTime_X1_isTime : GoodIn wsX1_setDeferralTime wsX1_isTime := goodIn_r _ [5] (by decide +kernel) (by decide +kernel)
set_option maxRecDepth 20000 in
theorem gX1_setDeferralTime_X1_isTime : GoodIn wsX1_setDeferralTime (va_wsS RX1 43 yX1_isTime wsX1_isTime) := goodIn_app (goodIn_of _ (by decide +kernel)) ggX1_setDeferralTime_X1_isTime
theorem dX1_setDeferralTime_0 : decode cX1_setDeferralTime 0 = .ok (.iload_n 1, 1) := by decide +kernel
theorem dX1_setDeferralTime_1 : decode cX1_setDeferralTime 1 = .ok (.invokestatic 43, 3) := by decide +kernel
theorem dX1_setDeferralTime_4 : decode cX1_setDeferralTime 4 = .ok (.ifCond .ne 6, 3) := by decide +kernel
theorem dX1_setDeferralTime_7 : decode cX1_setDeferralTime 7 = .ok (.bipush (-3), 2) := by decide +kernel
theorem dX1_setDeferralTime_9 : decode cX1_setDeferralTime 9 = .ok (.ireturn, 1) := by decide +kernel
theorem dX1_setDeferralTime_10 : decode cX1_setDeferralTime 10 = .ok (.aload_n 0, 1) := by decide +kernel
theorem dX1_setDeferralTime_11 : decode cX1_setDeferralTime 11 = .ok (.getfield 33, 3) := by decide +kernel
theorem dX1_setDeferralTime_14 : decode cX1_setDeferralTime 14 = .ok (.istore_n 2, 1) := by decide +kernel
theorem dX1_setDeferralTime_15 : decode cX1_setDeferralTime 15 = .ok (.aload_n 0, 1) := by decide +kernel
theorem dX1_setDeferralTime_16 : decode cX1_setDeferralTime 16 = .ok (.iload_n 1, 1) := by decide +kernel
theorem dX1_setDeferralTime_17 : decode cX1_setDeferralTime 17 = .ok (.putfield 33, 3) := by decide +kernel
theorem dX1_setDeferralTime_20 : decode cX1_setDeferralTime 20 = .ok (.iload_n 2, 1) := by decide +kernel
theorem dX1_setDeferralTime_21 : decode cX1_setDeferralTime 21 = .ok (.ireturn, 1) := by decide +kernel
set_option maxRecDepth 20000 in
theorem ggX1_addPeer_X0_init : GoodIn wsX1_addPeer wsX0_init := goodIn_r _ [8, 9, 10, 11, 12, 13, 14, 15, 16, 17, 18, 19, 20, 21, 55, 56, 57, 58, 59, 60, 61, 62] (by decide +kernel) (by decide +kernel)
set_option maxRecDepth 20000 in
theorem gX1_addPeer_X0_init_n47 : GoodIn wsX1_addPeer (wsX0_init) := ggX1_addPeer_X0_init
set_option maxRecDepth 20000 in
theorem ggX1_addPeer_X1_selectAll : GoodIn wsX1_addPeer wsX1_selectAll := goodIn_r _ [26, 27, 28, 29, 25, 30, 2, 31, 32, 33, 5, 34, 35, 18, 14, 36, 37, 38, 39, 40, 41, 42, 17, 15, 43, 44, 45, 46, 47, 48, 49, 50, 51, 52, 53, 54, 55, 56, 57, 58, 59, 60, 61, 62] (by decide +kernel) (by decide +kernel)
set_option maxRecDepth 20000 in
theorem gX1_addPeer_X1_selectAll : GoodIn wsX1_addPeer (wsV RX1 50 RX1 yX1_selectAll wsX1_selectAll) := goodIn_app (goodIn_of _ (by decide +kernel)) ggX1_addPeer_X1_selectAll
theorem dX1_addPeer_0 : decode cX1_addPeer 0 = .ok (.aload_n 0, 1) := by decide +kernel
theorem dX1_addPeer_1 : decode cX1_addPeer 1 = .ok (.getfield 23, 3) := by decide +kernel
theorem dX1_addPeer_4 : decode cX1_addPeer 4 = .ok (.ifCond .lt 11, 3) := by decide +kernel
theorem dX1_addPeer_7 : decode cX1_addPeer 7 = .ok (.aload_n 0, 1) := by decide +kernel
theorem dX1_addPeer_8 : decode cX1_addPeer 8 = .ok (.getfield 23, 3) := by decide +kernel
theorem dX1_addPeer_11 : decode cX1_addPeer 11 = .ok (.iconst 5, 1) := by decide +kernel
theorem dX1_addPeer_12 : decode cX1_addPeer 12 = .ok (.if_icmp .lt 6, 3) := by decide +kernel
theorem dX1_addPeer_15 : decode cX1_addPeer 15 = .ok (.bipush (-5), 2) := by decide +kernel
theorem dX1_addPeer_17 : decode cX1_addPeer 17 = .ok (.ireturn, 1) := by decide +kernel
theorem dX1_addPeer_18 : decode cX1_addPeer 18 = .ok (.aload_n 0, 1) := by decide +kernel
theorem dX1_addPeer_19 : decode cX1_addPeer 19 = .ok (.getfield 23, 3) := by decide +kernel
theorem dX1_addPeer_22 : decode cX1_addPeer 22 = .ok (.istore_n 2, 1) := by decide +kernel
theorem dX1_addPeer_23 : decode cX1_addPeer 23 = .ok (.aload_n 0, 1) := by decide +kernel
theorem dX1_addPeer_24 : decode cX1_addPeer 24 = .ok (.getfield 11, 3) := by decide +kernel
theorem dX1_addPeer_27 : decode cX1_addPeer 27 = .ok (.iload_n 2, 1) := by decide +kernel
theorem dX1_addPeer_28 : decode cX1_addPeer 28 = .ok (.new 9, 3) := by decide +kernel
theorem dX1_addPeer_31 : decode cX1_addPeer 31 = .ok (.dup, 1) := by decide +kernel
theorem dX1_addPeer_32 : decode cX1_addPeer 32 = .ok (.iload_n 1, 1) := by decide +kernel
theorem dX1_addPeer_33 : decode cX1_addPeer 33 = .ok (.invokespecial 47, 3) := by decide +kernel
theorem dX1_addPeer_36 : decode cX1_addPeer 36 = .ok (.aastore, 1) := by decide +kernel
theorem dX1_addPeer_37 : decode cX1_addPeer 37 = .ok (.aload_n 0, 1) := by decide +kernel
theorem dX1_addPeer_38 : decode cX1_addPeer 38 = .ok (.iload_n 2, 1) := by decide +kernel
theorem dX1_addPeer_39 : decode cX1_addPeer 39 = .ok (.iconst 1, 1) := by decide +kernel
theorem dX1_addPeer_40 : decode cX1_addPeer 40 = .ok (.iadd, 1) := by decide +kernel
theorem dX1_addPeer_41 : decode cX1_addPeer 41 = .ok (.putfield 23, 3) := by decide +kernel
theorem dX1_addPeer_44 : decode cX1_addPeer 44 = .ok (.aload_n 0, 1) := by decide +kernel
theorem dX1_addPeer_45 : decode cX1_addPeer 45 = .ok (.getfield 36, 3) := by decide +kernel
theorem dX1_addPeer_48 : decode cX1_addPeer 48 = .ok (.ifCond .ne 7, 3) := by decide +kernel
theorem dX1_addPeer_51 : decode cX1_addPeer 51 = .ok (.aload_n 0, 1) := by decide +kernel
theorem dX1_addPeer_52 : decode cX1_addPeer 52 = .ok (.invokevirtual 50, 3) := by decide +kernel
theorem dX1_addPeer_55 : decode cX1_addPeer 55 = .ok (.iload_n 2, 1) := by decide +kernel
theorem dX1_addPeer_56 : decode cX1_addPeer 56 = .ok (.ireturn, 1) := by decide +kernel
set_option maxRecDepth 20000 in
theorem ggX1_announce_X1_findPeer : GoodIn wsX1_announce wsX1_findPeer := goodIn_r _ [5, 6, 47, 48, 49, 50, 51, 52, 53, 54, 55] (by decide +kernel) (by decide +kernel)
set_option maxRecDepth 20000 in
theorem gX1_announce_X1_findPeer : GoodIn wsX1_announce (wsV RX1 53 RX1 yX1_findPeer wsX1_findPeer) := goodIn_app (goodIn_of _ (by decide +kernel)) ggX1_announce_X1_findPeer
set_option maxRecDepth 20000 in
theorem ggX1_announce_X1_routeOf : GoodIn wsX1_announce wsX1_routeOf := goodIn_r _ [9] (by decide +kernel) (by decide +kernel)
set_option maxRecDepth 20000 in
theorem gX1_announce_X1_routeOf : GoodIn wsX1_announce (va_wsS RX1 57 yX1_routeOf wsX1_routeOf) := goodIn_app (goodIn_of _ (by decide +kernel)) ggX1_announce_X1_routeOf
set_option maxRecDepth 20000 in
theorem ggX1_announce_X1_selectAfterOffer : GoodIn wsX1_announce wsX1_selectAfterOffer := goodIn_r _ [13, 14, 15, 16, 17, 4, 18, 6, 19, 20, 21, 22, 23, 24, 25, 26, 27, 28, 29, 30, 31, 32, 33, 34, 35, 36, 37, 38, 47, 48, 49, 50, 51, 52, 53, 54, 55, 39, 40, 41, 42, 43, 44, 45, 46] (by decide +kernel) (by decide +kernel)
set_option maxRecDepth 20000 in
theorem gX1_announce_X1_selectAfterOffer : GoodIn wsX1_announce (wsV RX1 64 RX1 yX1_selectAfterOffer wsX1_selectAfterOffer) := goodIn_app (goodIn_of _ (by decide +kernel)) ggX1_announce_X1_selectAfterOffer
theorem dX1_announce_0 : decode cX1_announce 0 = .ok (.aload_n 0, 1) := by decide +kernel
theorem dX1_announce_1 : decode cX1_announce 1 = .ok (.iload_n 1, 1) := by decide +kernel
theorem dX1_announce_2 : decode cX1_announce 2 = .ok (.invokevirtual 53, 3) := by decide +kernel
theorem dX1_announce_5 : decode cX1_announce 5 = .ok (.astore 5, 2) := by decide +kernel
theorem dX1_announce_7 : decode cX1_announce 7 = .ok (.aload 5, 2) := by decide +kernel
theorem dX1_announce_9 : decode cX1_announce 9 = .ok (.ifnonnull 5, 3) := by decide +kernel
theorem dX1_announce_12 : decode cX1_announce 12 = .ok (.iconst (-1), 1) := by decide +kernel
theorem dX1_announce_13 : decode cX1_announce 13 = .ok (.ireturn, 1) := by decide +kernel
theorem dX1_announce_14 : decode cX1_announce 14 = .ok (.iload_n 2, 1) := by decide +kernel
theorem dX1_announce_15 : decode cX1_announce 15 = .ok (.iload_n 3, 1) := by decide +kernel
theorem dX1_announce_16 : decode cX1_announce 16 = .ok (.invokestatic 57, 3) := by decide +kernel
theorem dX1_announce_19 : decode cX1_announce 19 = .ok (.istore 6, 2) := by decide +kernel
theorem dX1_announce_21 : decode cX1_announce 21 = .ok (.iload 6, 2) := by decide +kernel
theorem dX1_announce_23 : decode cX1_announce 23 = .ok (.ifCond .ge 6, 3) := by decide +kernel
theorem dX1_announce_26 : decode cX1_announce 26 = .ok (.bipush (-2), 2) := by decide +kernel
theorem dX1_announce_28 : decode cX1_announce 28 = .ok (.ireturn, 1) := by decide +kernel
theorem dX1_announce_29 : decode cX1_announce 29 = .ok (.iload 4, 2) := by decide +kernel
theorem dX1_announce_31 : decode cX1_announce 31 = .ok (.iconst 1, 1) := by decide +kernel
theorem dX1_announce_32 : decode cX1_announce 32 = .ok (.if_icmp .lt 10, 3) := by decide +kernel
theorem dX1_announce_35 : decode cX1_announce 35 = .ok (.iload 4, 2) := by decide +kernel
theorem dX1_announce_37 : decode cX1_announce 37 = .ok (.bipush 20, 2) := by decide +kernel
theorem dX1_announce_39 : decode cX1_announce 39 = .ok (.if_icmp .le 6, 3) := by decide +kernel
theorem dX1_announce_42 : decode cX1_announce 42 = .ok (.bipush (-3), 2) := by decide +kernel
theorem dX1_announce_44 : decode cX1_announce 44 = .ok (.ireturn, 1) := by decide +kernel
theorem dX1_announce_45 : decode cX1_announce 45 = .ok (.aload 5, 2) := by decide +kernel
theorem dX1_announce_47 : decode cX1_announce 47 = .ok (.getfield 61, 3) := by decide +kernel
theorem dX1_announce_50 : decode cX1_announce 50 = .ok (.iload 6, 2) := by decide +kernel
theorem dX1_announce_52 : decode cX1_announce 52 = .ok (.iaload, 1) := by decide +kernel
theorem dX1_announce_53 : decode cX1_announce 53 = .ok (.istore 7, 2) := by decide +kernel
theorem dX1_announce_55 : decode cX1_announce 55 = .ok (.aload 5, 2) := by decide +kernel
theorem dX1_announce_57 : decode cX1_announce 57 = .ok (.getfield 61, 3) := by decide +kernel
theorem dX1_announce_60 : decode cX1_announce 60 = .ok (.iload 6, 2) := by decide +kernel
theorem dX1_announce_62 : decode cX1_announce 62 = .ok (.iload 4, 2) := by decide +kernel
theorem dX1_announce_64 : decode cX1_announce 64 = .ok (.iastore, 1) := by decide +kernel
theorem dX1_announce_65 : decode cX1_announce 65 = .ok (.aload_n 0, 1) := by decide +kernel
theorem dX1_announce_66 : decode cX1_announce 66 = .ok (.aload 5, 2) := by decide +kernel
theorem dX1_announce_68 : decode cX1_announce 68 = .ok (.iload 6, 2) := by decide +kernel
theorem dX1_announce_70 : decode cX1_announce 70 = .ok (.invokevirtual 64, 3) := by decide +kernel
theorem dX1_announce_73 : decode cX1_announce 73 = .ok (.iload 7, 2) := by decide +kernel
theorem dX1_announce_75 : decode cX1_announce 75 = .ok (.ireturn, 1) := by decide +kernel
set_option maxRecDepth 20000 in
theorem ggX1_withdraw_X1_findPeer : GoodIn wsX1_withdraw wsX1_findPeer := goodIn_r _ [5, 6, 47, 48, 49, 50, 51, 52, 53, 54, 55] (by decide +kernel) (by decide +kernel)
set_option maxRecDepth 20000 in
theorem gX1_withdraw_X1_findPeer : GoodIn wsX1_withdraw (wsV RX1 53 RX1 yX1_findPeer wsX1_findPeer) := goodIn_app (goodIn_of _ (by decide +kernel)) ggX1_withdraw_X1_findPeer
set_option maxRecDepth 20000 in
theorem ggX1_withdraw_X1_routeOf : GoodIn wsX1_withdraw wsX1_routeOf := goodIn_r _ [9] (by decide +kernel) (by decide +kernel)
set_option maxRecDepth 20000 in
theorem gX1_withdraw_X1_routeOf : GoodIn wsX1_withdraw (va_wsS RX1 57 yX1_routeOf wsX1_routeOf) := goodIn_app (goodIn_of _ (by decide +kernel)) ggX1_withdraw_X1_routeOf
set_option maxRecDepth 20000 in
theorem ggX1_withdraw_X1_selectAfterOffer : GoodIn wsX1_withdraw wsX1_selectAfterOffer := goodIn_r _ [13, 14, 15, 16, 17, 4, 18, 6, 19, 20, 21, 22, 23, 24, 25, 26, 27, 28, 29, 30, 31, 32, 33, 34, 35, 36, 37, 38, 47, 48, 49, 50, 51, 52, 53, 54, 55, 39, 40, 41, 42, 43, 44, 45, 46] (by decide +kernel) (by decide +kernel)
set_option maxRecDepth 20000 in
theorem gX1_withdraw_X1_selectAfterOffer : GoodIn wsX1_withdraw (wsV RX1 64 RX1 yX1_selectAfterOffer wsX1_selectAfterOffer) := goodIn_app (goodIn_of _ (by decide +kernel)) ggX1_withdraw_X1_selectAfterOffer
theorem dX1_withdraw_0 : decode cX1_withdraw 0 = .ok (.aload_n 0, 1) := by decide +kernel
theorem dX1_withdraw_1 : decode cX1_withdraw 1 = .ok (.iload_n 1, 1) := by decide +kernel
theorem dX1_withdraw_2 : decode cX1_withdraw 2 = .ok (.invokevirtual 53, 3) := by decide +kernel
theorem dX1_withdraw_5 : decode cX1_withdraw 5 = .ok (.astore 4, 2) := by decide +kernel
theorem dX1_withdraw_7 : decode cX1_withdraw 7 = .ok (.aload 4, 2) := by decide +kernel
theorem dX1_withdraw_9 : decode cX1_withdraw 9 = .ok (.ifnonnull 5, 3) := by decide +kernel
theorem dX1_withdraw_12 : decode cX1_withdraw 12 = .ok (.iconst (-1), 1) := by decide +kernel
theorem dX1_withdraw_13 : decode cX1_withdraw 13 = .ok (.ireturn, 1) := by decide +kernel
theorem dX1_withdraw_14 : decode cX1_withdraw 14 = .ok (.iload_n 2, 1) := by decide +kernel
theorem dX1_withdraw_15 : decode cX1_withdraw 15 = .ok (.iload_n 3, 1) := by decide +kernel
theorem dX1_withdraw_16 : decode cX1_withdraw 16 = .ok (.invokestatic 57, 3) := by decide +kernel
theorem dX1_withdraw_19 : decode cX1_withdraw 19 = .ok (.istore 5, 2) := by decide +kernel
theorem dX1_withdraw_21 : decode cX1_withdraw 21 = .ok (.iload 5, 2) := by decide +kernel
theorem dX1_withdraw_23 : decode cX1_withdraw 23 = .ok (.ifCond .ge 6, 3) := by decide +kernel
theorem dX1_withdraw_26 : decode cX1_withdraw 26 = .ok (.bipush (-2), 2) := by decide +kernel
theorem dX1_withdraw_28 : decode cX1_withdraw 28 = .ok (.ireturn, 1) := by decide +kernel
theorem dX1_withdraw_29 : decode cX1_withdraw 29 = .ok (.aload 4, 2) := by decide +kernel
theorem dX1_withdraw_31 : decode cX1_withdraw 31 = .ok (.getfield 61, 3) := by decide +kernel
theorem dX1_withdraw_34 : decode cX1_withdraw 34 = .ok (.iload 5, 2) := by decide +kernel
theorem dX1_withdraw_36 : decode cX1_withdraw 36 = .ok (.iaload, 1) := by decide +kernel
theorem dX1_withdraw_37 : decode cX1_withdraw 37 = .ok (.istore 6, 2) := by decide +kernel
theorem dX1_withdraw_39 : decode cX1_withdraw 39 = .ok (.iload 6, 2) := by decide +kernel
theorem dX1_withdraw_41 : decode cX1_withdraw 41 = .ok (.ifCond .ne 6, 3) := by decide +kernel
theorem dX1_withdraw_44 : decode cX1_withdraw 44 = .ok (.bipush (-6), 2) := by decide +kernel
theorem dX1_withdraw_46 : decode cX1_withdraw 46 = .ok (.ireturn, 1) := by decide +kernel
theorem dX1_withdraw_47 : decode cX1_withdraw 47 = .ok (.aload 4, 2) := by decide +kernel
theorem dX1_withdraw_49 : decode cX1_withdraw 49 = .ok (.getfield 61, 3) := by decide +kernel
theorem dX1_withdraw_52 : decode cX1_withdraw 52 = .ok (.iload 5, 2) := by decide +kernel
theorem dX1_withdraw_54 : decode cX1_withdraw 54 = .ok (.iconst 0, 1) := by decide +kernel
theorem dX1_withdraw_55 : decode cX1_withdraw 55 = .ok (.iastore, 1) := by decide +kernel
theorem dX1_withdraw_56 : decode cX1_withdraw 56 = .ok (.aload_n 0, 1) := by decide +kernel
theorem dX1_withdraw_57 : decode cX1_withdraw 57 = .ok (.aload 4, 2) := by decide +kernel
theorem dX1_withdraw_59 : decode cX1_withdraw 59 = .ok (.iload 5, 2) := by decide +kernel
theorem dX1_withdraw_61 : decode cX1_withdraw 61 = .ok (.invokevirtual 64, 3) := by decide +kernel
theorem dX1_withdraw_64 : decode cX1_withdraw 64 = .ok (.iload 6, 2) := by decide +kernel
theorem dX1_withdraw_66 : decode cX1_withdraw 66 = .ok (.ireturn, 1) := by decide +kernel
set_option maxRecDepth 20000 in
theorem ggX1_restart_X0_loseRouter : GoodIn wsX1_restart wsX0_loseRouter := goodIn_r _ [9, 10, 11, 12, 13, 14, 15, 16, 17, 18, 7, 19, 20, 21, 22, 23, 24, 25, 26, 27, 89, 90, 91, 92, 93, 94, 95, 96] (by decide +kernel) (by decide +kernel)
set_option maxRecDepth 20000 in
theorem gX1_restart_X0_loseRouter_n74 : GoodIn wsX1_restart (wsX0_loseRouter) := ggX1_restart_X0_loseRouter
set_option maxRecDepth 20000 in
theorem ggX1_restart_X1_makeEntriesStale : GoodIn wsX1_restart wsX1_makeEntriesStale := goodIn_r _ [32, 33, 80, 81, 82, 83, 84, 85, 86, 87, 88] (by decide +kernel) (by decide +kernel)
set_option maxRecDepth 20000 in
theorem gX1_restart_X1_makeEntriesStale : GoodIn wsX1_restart (wsV RX1 78 RX1 yX1_makeEntriesStale wsX1_makeEntriesStale) := goodIn_app (goodIn_of _ (by decide +kernel)) ggX1_restart_X1_makeEntriesStale
set_option maxRecDepth 20000 in
theorem ggX1_restart_X1_removeEntries : GoodIn wsX1_restart wsX1_removeEntries := goodIn_r _ [37, 38, 80, 81, 82, 83, 84, 85, 86, 87, 88] (by decide +kernel) (by decide +kernel)
set_option maxRecDepth 20000 in
theorem gX1_restart_X1_removeEntries : GoodIn wsX1_restart (wsV RX1 81 RX1 yX1_removeEntries wsX1_removeEntries) := goodIn_app (goodIn_of _ (by decide +kernel)) ggX1_restart_X1_removeEntries
set_option maxRecDepth 20000 in
theorem ggX1_restart_X1_checkDeferral : GoodIn wsX1_restart wsX1_checkDeferral := goodIn_r _ [42, 3, 5, 43, 44, 45, 31, 46, 1, 47, 7, 48, 49, 10, 11, 50, 51, 52, 53, 54, 55, 56, 57, 58, 59, 60, 61, 62, 38, 33, 63, 64, 65, 66, 67, 68, 69, 70, 71, 72, 73, 12, 13, 74, 75, 76, 77, 78, 79, 14, 24, 25, 26, 27, 80, 81, 82, 83, 84, 85, 86, 87, 88, 89, 90, 91, 92, 93, 94, 95, 96] (by decide +kernel) (by decide +kernel)
set_option maxRecDepth 20000 in
theorem gX1_restart_X1_checkDeferral : GoodIn wsX1_restart (wsV RX1 84 RX1 yX1_checkDeferral wsX1_checkDeferral) := goodIn_app (goodIn_of _ (by decide +kernel)) ggX1_restart_X1_checkDeferral
theorem dX1_restart_0 : decode cX1_restart 0 = .ok (.iconst 0, 1) := by decide +kernel
theorem dX1_restart_1 : decode cX1_restart 1 = .ok (.istore_n 2, 1) := by decide +kernel
theorem dX1_restart_2 : decode cX1_restart 2 = .ok (.aload_n 0, 1) := by decide +kernel
theorem dX1_restart_3 : decode cX1_restart 3 = .ok (.getfield 11, 3) := by decide +kernel
theorem dX1_restart_6 : decode cX1_restart 6 = .ok (.astore_n 3, 1) := by decide +kernel
theorem dX1_restart_7 : decode cX1_restart 7 = .ok (.aload_n 3, 1) := by decide +kernel
theorem dX1_restart_8 : decode cX1_restart 8 = .ok (.arraylength, 1) := by decide +kernel
theorem dX1_restart_9 : decode cX1_restart 9 = .ok (.istore 4, 2) := by decide +kernel
theorem dX1_restart_11 : decode cX1_restart 11 = .ok (.iconst 0, 1) := by decide +kernel
theorem dX1_restart_12 : decode cX1_restart 12 = .ok (.istore 5, 2) := by decide +kernel
theorem dX1_restart_14 : decode cX1_restart 14 = .ok (.iload 5, 2) := by decide +kernel
theorem dX1_restart_16 : decode cX1_restart 16 = .ok (.iload 4, 2) := by decide +kernel
theorem dX1_restart_18 : decode cX1_restart 18 = .ok (.if_icmp .ge 46, 3) := by decide +kernel
theorem dX1_restart_21 : decode cX1_restart 21 = .ok (.aload_n 3, 1) := by decide +kernel
theorem dX1_restart_22 : decode cX1_restart 22 = .ok (.iload 5, 2) := by decide +kernel
theorem dX1_restart_24 : decode cX1_restart 24 = .ok (.aaload, 1) := by decide +kernel
theorem dX1_restart_25 : decode cX1_restart 25 = .ok (.astore 6, 2) := by decide +kernel
theorem dX1_restart_27 : decode cX1_restart 27 = .ok (.aload 6, 2) := by decide +kernel
theorem dX1_restart_29 : decode cX1_restart 29 = .ok (.ifnull 29, 3) := by decide +kernel
theorem dX1_restart_32 : decode cX1_restart 32 = .ok (.aload 6, 2) := by decide +kernel
theorem dX1_restart_34 : decode cX1_restart 34 = .ok (.iconst 0, 1) := by decide +kernel
theorem dX1_restart_35 : decode cX1_restart 35 = .ok (.putfield 68, 3) := by decide +kernel
theorem dX1_restart_38 : decode cX1_restart 38 = .ok (.aload 6, 2) := by decide +kernel
theorem dX1_restart_40 : decode cX1_restart 40 = .ok (.getfield 71, 3) := by decide +kernel
theorem dX1_restart_43 : decode cX1_restart 43 = .ok (.ifCond .ne 15, 3) := by decide +kernel
theorem dX1_restart_46 : decode cX1_restart 46 = .ok (.aload 6, 2) := by decide +kernel
theorem dX1_restart_48 : decode cX1_restart 48 = .ok (.aload_n 0, 1) := by decide +kernel
theorem dX1_restart_49 : decode cX1_restart 49 = .ok (.getfield 27, 3) := by decide +kernel
theorem dX1_restart_52 : decode cX1_restart 52 = .ok (.invokevirtual 74, 3) := by decide +kernel
theorem dX1_restart_55 : decode cX1_restart 55 = .ok (.iinc 2 1, 3) := by decide +kernel
theorem dX1_restart_58 : decode cX1_restart 58 = .ok (.iinc 5 1, 3) := by decide +kernel
theorem dX1_restart_61 : decode cX1_restart 61 = .ok (.goto (-47), 3) := by decide +kernel
theorem dX1_restart_64 : decode cX1_restart 64 = .ok (.iload_n 1, 1) := by decide +kernel
theorem dX1_restart_65 : decode cX1_restart 65 = .ok (.ifCond .eq 10, 3) := by decide +kernel
theorem dX1_restart_68 : decode cX1_restart 68 = .ok (.aload_n 0, 1) := by decide +kernel
theorem dX1_restart_69 : decode cX1_restart 69 = .ok (.invokevirtual 78, 3) := by decide +kernel
theorem dX1_restart_72 : decode cX1_restart 72 = .ok (.goto 7, 3) := by decide +kernel
theorem dX1_restart_75 : decode cX1_restart 75 = .ok (.aload_n 0, 1) := by decide +kernel
theorem dX1_restart_76 : decode cX1_restart 76 = .ok (.invokevirtual 81, 3) := by decide +kernel
theorem dX1_restart_79 : decode cX1_restart 79 = .ok (.aload_n 0, 1) := by decide +kernel
theorem dX1_restart_80 : decode cX1_restart 80 = .ok (.iconst 1, 1) := by decide +kernel
theorem dX1_restart_81 : decode cX1_restart 81 = .ok (.putfield 36, 3) := by decide +kernel
theorem dX1_restart_84 : decode cX1_restart 84 = .ok (.aload_n 0, 1) := by decide +kernel
theorem dX1_restart_85 : decode cX1_restart 85 = .ok (.aload_n 0, 1) := by decide +kernel
theorem dX1_restart_86 : decode cX1_restart 86 = .ok (.getfield 33, 3) := by decide +kernel
theorem dX1_restart_89 : decode cX1_restart 89 = .ok (.putfield 40, 3) := by decide +kernel
theorem dX1_restart_92 : decode cX1_restart 92 = .ok (.aload_n 0, 1) := by decide +kernel
theorem dX1_restart_93 : decode cX1_restart 93 = .ok (.invokevirtual 84, 3) := by decide +kernel
theorem dX1_restart_96 : decode cX1_restart 96 = .ok (.iload_n 2, 1) := by decide +kernel
theorem dX1_restart_97 : decode cX1_restart 97 = .ok (.ireturn, 1) := by decide +kernel
set_option maxRecDepth 20000 in
theorem ggX1_reconnect_X1_findPeer : GoodIn wsX1_reconnect wsX1_findPeer := goodIn_r _ [7, 8, 78, 79, 80, 81, 82, 83, 84, 85, 86] (by decide +kernel) (by decide +kernel)
set_option maxRecDepth 20000 in
theorem gX1_reconnect_X1_findPeer : GoodIn wsX1_reconnect (wsV RX1 53 RX1 yX1_findPeer wsX1_findPeer) := goodIn_app (goodIn_of _ (by decide +kernel)) ggX1_reconnect_X1_findPeer
set_option maxRecDepth 20000 in
theorem ggX1_reconnect_X0_meetRouter : GoodIn wsX1_reconnect wsX0_meetRouter := goodIn_r _ [12, 13, 14, 15, 70, 71, 72, 73, 74, 75, 76, 77] (by decide +kernel) (by decide +kernel)
set_option maxRecDepth 20000 in
theorem gX1_reconnect_X0_meetRouter_n87 : GoodIn wsX1_reconnect (wsX0_meetRouter) := ggX1_reconnect_X0_meetRouter
set_option maxRecDepth 20000 in
theorem ggX1_reconnect_X1_selectAll : GoodIn wsX1_reconnect wsX1_selectAll := goodIn_r _ [19, 20, 21, 22, 6, 23, 8, 24, 25, 26, 10, 27, 28, 13, 29, 30, 31, 32, 33, 34, 35, 36, 37, 38, 39, 40, 41, 78, 79, 80, 81, 82, 83, 84, 85, 86, 70, 71, 72, 73, 74, 75, 76, 77] (by decide +kernel) (by decide +kernel)
set_option maxRecDepth 20000 in
theorem gX1_reconnect_X1_selectAll : GoodIn wsX1_reconnect (wsV RX1 50 RX1 yX1_selectAll wsX1_selectAll) := goodIn_app (goodIn_of _ (by decide +kernel)) ggX1_reconnect_X1_selectAll
set_option maxRecDepth 20000 in
theorem ggX1_reconnect_X0_endResync : GoodIn wsX1_reconnect wsX0_endResync := goodIn_r _ [44, 15, 45, 46, 47, 10, 48, 37, 38, 70, 71, 72, 73, 74, 75, 76, 77] (by decide +kernel) (by decide +kernel)
set_option maxRecDepth 20000 in
theorem gX1_reconnect_X0_endResync_n90 : GoodIn wsX1_reconnect (wsX0_endResync) := ggX1_reconnect_X0_endResync
set_option maxRecDepth 20000 in
theorem ggX1_reconnect_X1_checkDeferral : GoodIn wsX1_reconnect wsX1_checkDeferral := goodIn_r _ [52, 2, 53, 54, 55, 56, 6, 57, 8, 58, 10, 59, 60, 61, 13, 62, 63, 64, 65, 66, 16, 17, 18, 19, 20, 21, 22, 23, 24, 25, 26, 27, 28, 29, 30, 31, 32, 33, 34, 35, 36, 37, 38, 39, 40, 41, 42, 43, 44, 15, 45, 46, 47, 48, 78, 79, 80, 81, 82, 83, 84, 85, 86, 70, 71, 72, 73, 74, 75, 76, 77] (by decide +kernel) (by decide +kernel)
set_option maxRecDepth 20000 in
theorem gX1_reconnect_X1_checkDeferral : GoodIn wsX1_reconnect (wsV RX1 84 RX1 yX1_checkDeferral wsX1_checkDeferral) := goodIn_app (goodIn_of _ (by decide +kernel)) ggX1_reconnect_X1_checkDeferral
set_option maxRecDepth 20000 in
theorem ggX1_reconnect_X0_countOffers : GoodIn wsX1_reconnect wsX0_countOffers := goodIn_r _ [69, 29, 70, 71, 72, 73, 74, 75, 76, 77] (by decide +kernel) (by decide +kernel)
set_option maxRecDepth 20000 in
theorem gX1_reconnect_X0_countOffers_n93 : GoodIn wsX1_reconnect (wsX0_countOffers) := ggX1_reconnect_X0_countOffers
theorem dX1_reconnect_0 : decode cX1_reconnect 0 = .ok (.aload_n 0, 1) := by decide +kernel
theorem dX1_reconnect_1 : decode cX1_reconnect 1 = .ok (.iload_n 1, 1) := by decide +kernel
theorem dX1_reconnect_2 : decode cX1_reconnect 2 = .ok (.invokevirtual 53, 3) := by decide +kernel
theorem dX1_reconnect_5 : decode cX1_reconnect 5 = .ok (.astore_n 2, 1) := by decide +kernel
theorem dX1_reconnect_6 : decode cX1_reconnect 6 = .ok (.aload_n 2, 1) := by decide +kernel
theorem dX1_reconnect_7 : decode cX1_reconnect 7 = .ok (.ifnonnull 5, 3) := by decide +kernel
theorem dX1_reconnect_10 : decode cX1_reconnect 10 = .ok (.iconst (-1), 1) := by decide +kernel
theorem dX1_reconnect_11 : decode cX1_reconnect 11 = .ok (.ireturn, 1) := by decide +kernel
theorem dX1_reconnect_12 : decode cX1_reconnect 12 = .ok (.aload_n 2, 1) := by decide +kernel
theorem dX1_reconnect_13 : decode cX1_reconnect 13 = .ok (.getfield 71, 3) := by decide +kernel
theorem dX1_reconnect_16 : decode cX1_reconnect 16 = .ok (.ifCond .ne 6, 3) := by decide +kernel
theorem dX1_reconnect_19 : decode cX1_reconnect 19 = .ok (.bipush (-4), 2) := by decide +kernel
theorem dX1_reconnect_21 : decode cX1_reconnect 21 = .ok (.ireturn, 1) := by decide +kernel
theorem dX1_reconnect_22 : decode cX1_reconnect 22 = .ok (.aload_n 2, 1) := by decide +kernel
theorem dX1_reconnect_23 : decode cX1_reconnect 23 = .ok (.aload_n 0, 1) := by decide +kernel
theorem dX1_reconnect_24 : decode cX1_reconnect 24 = .ok (.getfield 30, 3) := by decide +kernel
theorem dX1_reconnect_27 : decode cX1_reconnect 27 = .ok (.invokevirtual 87, 3) := by decide +kernel
theorem dX1_reconnect_30 : decode cX1_reconnect 30 = .ok (.aload_n 0, 1) := by decide +kernel
theorem dX1_reconnect_31 : decode cX1_reconnect 31 = .ok (.getfield 36, 3) := by decide +kernel
theorem dX1_reconnect_34 : decode cX1_reconnect 34 = .ok (.ifCond .ne 11, 3) := by decide +kernel
theorem dX1_reconnect_37 : decode cX1_reconnect 37 = .ok (.aload_n 0, 1) := by decide +kernel
theorem dX1_reconnect_38 : decode cX1_reconnect 38 = .ok (.invokevirtual 50, 3) := by decide +kernel
theorem dX1_reconnect_41 : decode cX1_reconnect 41 = .ok (.aload_n 2, 1) := by decide +kernel
theorem dX1_reconnect_42 : decode cX1_reconnect 42 = .ok (.invokevirtual 90, 3) := by decide +kernel
theorem dX1_reconnect_45 : decode cX1_reconnect 45 = .ok (.aload_n 0, 1) := by decide +kernel
theorem dX1_reconnect_46 : decode cX1_reconnect 46 = .ok (.invokevirtual 84, 3) := by decide +kernel
theorem dX1_reconnect_49 : decode cX1_reconnect 49 = .ok (.aload_n 2, 1) := by decide +kernel
theorem dX1_reconnect_50 : decode cX1_reconnect 50 = .ok (.invokevirtual 93, 3) := by decide +kernel
theorem dX1_reconnect_53 : decode cX1_reconnect 53 = .ok (.ireturn, 1) := by decide +kernel
set_option maxRecDepth 20000 in
theorem ggX1_disconnect_X1_findPeer : GoodIn wsX1_disconnect wsX1_findPeer := goodIn_r _ [6, 7, 78, 79, 80, 81, 82, 83, 84, 85, 86] (by decide +kernel) (by decide +kernel)
set_option maxRecDepth 20000 in
theorem gX1_disconnect_X1_findPeer : GoodIn wsX1_disconnect (wsV RX1 53 RX1 yX1_findPeer wsX1_findPeer) := goodIn_app (goodIn_of _ (by decide +kernel)) ggX1_disconnect_X1_findPeer
set_option maxRecDepth 20000 in
theorem ggX1_disconnect_X0_goDown : GoodIn wsX1_disconnect wsX0_goDown := goodIn_r _ [11, 12, 13, 14, 15, 16, 17, 9, 18, 19, 20, 70, 71, 72, 73, 74, 75, 76, 77] (by decide +kernel) (by decide +kernel)
set_option maxRecDepth 20000 in
theorem gX1_disconnect_X0_goDown_n97 : GoodIn wsX1_disconnect (wsX0_goDown) := ggX1_disconnect_X0_goDown
set_option maxRecDepth 20000 in
theorem ggX1_disconnect_X1_selectAll : GoodIn wsX1_disconnect wsX1_selectAll := goodIn_r _ [24, 25, 26, 27, 5, 28, 7, 29, 30, 31, 9, 32, 33, 12, 34, 35, 36, 37, 38, 39, 40, 41, 20, 19, 42, 43, 44, 78, 79, 80, 81, 82, 83, 84, 85, 86, 70, 71, 72, 73, 74, 75, 76, 77] (by decide +kernel) (by decide +kernel)
set_option maxRecDepth 20000 in
theorem gX1_disconnect_X1_selectAll : GoodIn wsX1_disconnect (wsV RX1 50 RX1 yX1_selectAll wsX1_selectAll) := goodIn_app (goodIn_of _ (by decide +kernel)) ggX1_disconnect_X1_selectAll
set_option maxRecDepth 20000 in
theorem ggX1_disconnect_X1_checkDeferral : GoodIn wsX1_disconnect wsX1_checkDeferral := goodIn_r _ [48, 1, 49, 50, 51, 52, 5, 53, 7, 54, 9, 55, 56, 57, 12, 58, 59, 60, 61, 62, 21, 22, 23, 24, 25, 26, 27, 28, 29, 30, 31, 32, 33, 34, 35, 36, 37, 38, 39, 40, 41, 20, 19, 42, 43, 44, 63, 64, 65, 14, 66, 67, 68, 69, 78, 79, 80, 81, 82, 83, 84, 85, 86, 70, 71, 72, 73, 74, 75, 76, 77] (by decide +kernel) (by decide +kernel)
set_option maxRecDepth 20000 in
theorem gX1_disconnect_X1_checkDeferral : GoodIn wsX1_disconnect (wsV RX1 84 RX1 yX1_checkDeferral wsX1_checkDeferral) := goodIn_app (goodIn_of _ (by decide +kernel)) ggX1_disconnect_X1_checkDeferral
theorem dX1_disconnect_0 : decode cX1_disconnect 0 = .ok (.aload_n 0, 1) := by decide +kernel
theorem dX1_disconnect_1 : decode cX1_disconnect 1 = .ok (.iload_n 1, 1) := by decide +kernel
theorem dX1_disconnect_2 : decode cX1_disconnect 2 = .ok (.invokevirtual 53, 3) := by decide +kernel
theorem dX1_disconnect_5 : decode cX1_disconnect 5 = .ok (.astore_n 2, 1) := by decide +kernel
theorem dX1_disconnect_6 : decode cX1_disconnect 6 = .ok (.aload_n 2, 1) := by decide +kernel
theorem dX1_disconnect_7 : decode cX1_disconnect 7 = .ok (.ifnonnull 5, 3) := by decide +kernel
theorem dX1_disconnect_10 : decode cX1_disconnect 10 = .ok (.iconst (-1), 1) := by decide +kernel
theorem dX1_disconnect_11 : decode cX1_disconnect 11 = .ok (.ireturn, 1) := by decide +kernel
theorem dX1_disconnect_12 : decode cX1_disconnect 12 = .ok (.aload_n 2, 1) := by decide +kernel
theorem dX1_disconnect_13 : decode cX1_disconnect 13 = .ok (.getfield 71, 3) := by decide +kernel
theorem dX1_disconnect_16 : decode cX1_disconnect 16 = .ok (.iconst 2, 1) := by decide +kernel
theorem dX1_disconnect_17 : decode cX1_disconnect 17 = .ok (.if_icmp .ne 6, 3) := by decide +kernel
theorem dX1_disconnect_20 : decode cX1_disconnect 20 = .ok (.bipush (-4), 2) := by decide +kernel
theorem dX1_disconnect_22 : decode cX1_disconnect 22 = .ok (.ireturn, 1) := by decide +kernel
theorem dX1_disconnect_23 : decode cX1_disconnect 23 = .ok (.aload_n 2, 1) := by decide +kernel
theorem dX1_disconnect_24 : decode cX1_disconnect 24 = .ok (.invokevirtual 97, 3) := by decide +kernel
theorem dX1_disconnect_27 : decode cX1_disconnect 27 = .ok (.istore_n 3, 1) := by decide +kernel
theorem dX1_disconnect_28 : decode cX1_disconnect 28 = .ok (.aload_n 0, 1) := by decide +kernel
theorem dX1_disconnect_29 : decode cX1_disconnect 29 = .ok (.getfield 36, 3) := by decide +kernel
theorem dX1_disconnect_32 : decode cX1_disconnect 32 = .ok (.ifCond .ne 7, 3) := by decide +kernel
theorem dX1_disconnect_35 : decode cX1_disconnect 35 = .ok (.aload_n 0, 1) := by decide +kernel
theorem dX1_disconnect_36 : decode cX1_disconnect 36 = .ok (.invokevirtual 50, 3) := by decide +kernel
theorem dX1_disconnect_39 : decode cX1_disconnect 39 = .ok (.aload_n 0, 1) := by decide +kernel
theorem dX1_disconnect_40 : decode cX1_disconnect 40 = .ok (.invokevirtual 84, 3) := by decide +kernel
theorem dX1_disconnect_43 : decode cX1_disconnect 43 = .ok (.iload_n 3, 1) := by decide +kernel
theorem dX1_disconnect_44 : decode cX1_disconnect 44 = .ok (.ireturn, 1) := by decide +kernel
set_option maxRecDepth 20000 in
theorem ggX1_endOfTable_X1_findPeer : GoodIn wsX1_endOfTable wsX1_findPeer := goodIn_r _ [5, 6, 70, 71, 72, 73, 74, 75, 76, 77, 78] (by decide +kernel) (by decide +kernel)
set_option maxRecDepth 20000 in
theorem gX1_endOfTable_X1_findPeer : GoodIn wsX1_endOfTable (wsV RX1 53 RX1 yX1_findPeer wsX1_findPeer) := goodIn_app (goodIn_of _ (by decide +kernel)) ggX1_endOfTable_X1_findPeer
set_option maxRecDepth 20000 in
theorem ggX1_endOfTable_X1_checkDeferral : GoodIn wsX1_endOfTable wsX1_checkDeferral := goodIn_r _ [10, 11, 12, 13, 14, 15, 4, 16, 6, 17, 18, 19, 20, 21, 22, 23, 24, 25, 26, 27, 28, 29, 30, 31, 32, 33, 34, 35, 36, 37, 38, 39, 40, 41, 42, 43, 44, 45, 46, 47, 48, 49, 50, 51, 52, 53, 54, 55, 56, 57, 58, 59, 60, 61, 70, 71, 72, 73, 74, 75, 76, 77, 78, 62, 63, 64, 65, 66, 67, 68, 69] (by decide +kernel) (by decide +kernel)
set_option maxRecDepth 20000 in
theorem gX1_endOfTable_X1_checkDeferral : GoodIn wsX1_endOfTable (wsV RX1 84 RX1 yX1_checkDeferral wsX1_checkDeferral) := goodIn_app (goodIn_of _ (by decide +kernel)) ggX1_endOfTable_X1_checkDeferral
theorem dX1_endOfTable_0 : decode cX1_endOfTable 0 = .ok (.aload_n 0, 1) := by decide +kernel
theorem dX1_endOfTable_1 : decode cX1_endOfTable 1 = .ok (.iload_n 1, 1) := by decide +kernel
theorem dX1_endOfTable_2 : decode cX1_endOfTable 2 = .ok (.invokevirtual 53, 3) := by decide +kernel
theorem dX1_endOfTable_5 : decode cX1_endOfTable 5 = .ok (.astore_n 3, 1) := by decide +kernel
theorem dX1_endOfTable_6 : decode cX1_endOfTable 6 = .ok (.aload_n 3, 1) := by decide +kernel
theorem dX1_endOfTable_7 : decode cX1_endOfTable 7 = .ok (.ifnonnull 5, 3) := by decide +kernel
theorem dX1_endOfTable_10 : decode cX1_endOfTable 10 = .ok (.iconst (-1), 1) := by decide +kernel
theorem dX1_endOfTable_11 : decode cX1_endOfTable 11 = .ok (.ireturn, 1) := by decide +kernel
theorem dX1_endOfTable_12 : decode cX1_endOfTable 12 = .ok (.iload_n 2, 1) := by decide +kernel
theorem dX1_endOfTable_13 : decode cX1_endOfTable 13 = .ok (.ifCond .lt 8, 3) := by decide +kernel
theorem dX1_endOfTable_16 : decode cX1_endOfTable 16 = .ok (.iload_n 2, 1) := by decide +kernel
theorem dX1_endOfTable_17 : decode cX1_endOfTable 17 = .ok (.iconst 2, 1) := by decide +kernel
theorem dX1_endOfTable_18 : decode cX1_endOfTable 18 = .ok (.if_icmp .lt 6, 3) := by decide +kernel
theorem dX1_endOfTable_21 : decode cX1_endOfTable 21 = .ok (.bipush (-2), 2) := by decide +kernel
theorem dX1_endOfTable_23 : decode cX1_endOfTable 23 = .ok (.ireturn, 1) := by decide +kernel
theorem dX1_endOfTable_24 : decode cX1_endOfTable 24 = .ok (.aload_n 3, 1) := by decide +kernel
theorem dX1_endOfTable_25 : decode cX1_endOfTable 25 = .ok (.getfield 71, 3) := by decide +kernel
theorem dX1_endOfTable_28 : decode cX1_endOfTable 28 = .ok (.ifCond .eq 6, 3) := by decide +kernel
theorem dX1_endOfTable_31 : decode cX1_endOfTable 31 = .ok (.bipush (-4), 2) := by decide +kernel
theorem dX1_endOfTable_33 : decode cX1_endOfTable 33 = .ok (.ireturn, 1) := by decide +kernel
theorem dX1_endOfTable_34 : decode cX1_endOfTable 34 = .ok (.iconst 1, 1) := by decide +kernel
theorem dX1_endOfTable_35 : decode cX1_endOfTable 35 = .ok (.iload_n 2, 1) := by decide +kernel
theorem dX1_endOfTable_36 : decode cX1_endOfTable 36 = .ok (.ishl, 1) := by decide +kernel
theorem dX1_endOfTable_37 : decode cX1_endOfTable 37 = .ok (.istore 4, 2) := by decide +kernel
theorem dX1_endOfTable_39 : decode cX1_endOfTable 39 = .ok (.aload_n 3, 1) := by decide +kernel
theorem dX1_endOfTable_40 : decode cX1_endOfTable 40 = .ok (.getfield 68, 3) := by decide +kernel
theorem dX1_endOfTable_43 : decode cX1_endOfTable 43 = .ok (.iload 4, 2) := by decide +kernel
theorem dX1_endOfTable_45 : decode cX1_endOfTable 45 = .ok (.iand, 1) := by decide +kernel
theorem dX1_endOfTable_46 : decode cX1_endOfTable 46 = .ok (.ifCond .ne 7, 3) := by decide +kernel
theorem dX1_endOfTable_49 : decode cX1_endOfTable 49 = .ok (.iconst 1, 1) := by decide +kernel
theorem dX1_endOfTable_50 : decode cX1_endOfTable 50 = .ok (.goto 4, 3) := by decide +kernel
theorem dX1_endOfTable_53 : decode cX1_endOfTable 53 = .ok (.iconst 0, 1) := by decide +kernel
theorem dX1_endOfTable_54 : decode cX1_endOfTable 54 = .ok (.istore 5, 2) := by decide +kernel
theorem dX1_endOfTable_56 : decode cX1_endOfTable 56 = .ok (.aload_n 3, 1) := by decide +kernel
theorem dX1_endOfTable_57 : decode cX1_endOfTable 57 = .ok (.dup, 1) := by decide +kernel
theorem dX1_endOfTable_58 : decode cX1_endOfTable 58 = .ok (.getfield 68, 3) := by decide +kernel
theorem dX1_endOfTable_61 : decode cX1_endOfTable 61 = .ok (.iload 4, 2) := by decide +kernel
theorem dX1_endOfTable_63 : decode cX1_endOfTable 63 = .ok (.ior, 1) := by decide +kernel
theorem dX1_endOfTable_64 : decode cX1_endOfTable 64 = .ok (.putfield 68, 3) := by decide +kernel
theorem dX1_endOfTable_67 : decode cX1_endOfTable 67 = .ok (.aload_n 0, 1) := by decide +kernel
theorem dX1_endOfTable_68 : decode cX1_endOfTable 68 = .ok (.invokevirtual 84, 3) := by decide +kernel
theorem dX1_endOfTable_71 : decode cX1_endOfTable 71 = .ok (.iload 5, 2) := by decide +kernel
theorem dX1_endOfTable_73 : decode cX1_endOfTable 73 = .ok (.ireturn, 1) := by decide +kernel
set_option maxRecDepth 20000 in
theorem ggX1_tick_X1_countDownPeers : GoodIn wsX1_tick wsX1_countDownPeers := goodIn_r _ [6, 7, 8, 9, 10, 11, 12, 13, 14, 15, 16, 17, 18, 19, 20, 21, 22, 23, 24, 25, 26, 27, 28, 74, 75, 76, 77, 78, 79, 80, 81, 82, 83, 84, 85, 86, 87, 88, 89, 90] (by decide +kernel) (by decide +kernel)
set_option maxRecDepth 20000 in
theorem gX1_tick_X1_countDownPeers : GoodIn wsX1_tick (wsV RX1 100 RX1 yX1_countDownPeers wsX1_countDownPeers) := goodIn_app (goodIn_of _ (by decide +kernel)) ggX1_tick_X1_countDownPeers
set_option maxRecDepth 20000 in
theorem ggX1_tick_X1_checkDeferral : GoodIn wsX1_tick wsX1_checkDeferral := goodIn_r _ [32, 33, 1, 34, 35, 36, 5, 37, 7, 38, 9, 39, 40, 41, 18, 42, 43, 44, 45, 46, 47, 48, 49, 50, 51, 52, 53, 54, 55, 56, 57, 58, 59, 60, 61, 62, 63, 64, 65, 66, 67, 24, 23, 68, 69, 70, 71, 72, 73, 13, 25, 26, 27, 28, 74, 75, 76, 77, 78, 79, 80, 81, 82, 83, 84, 85, 86, 87, 88, 89, 90] (by decide +kernel) (by decide +kernel)
set_option maxRecDepth 20000 in
theorem gX1_tick_X1_checkDeferral : GoodIn wsX1_tick (wsV RX1 84 RX1 yX1_checkDeferral wsX1_checkDeferral) := goodIn_app (goodIn_of _ (by decide +kernel)) ggX1_tick_X1_checkDeferral
theorem dX1_tick_0 : decode cX1_tick 0 = .ok (.iload_n 1, 1) := by decide +kernel
theorem dX1_tick_1 : decode cX1_tick 1 = .ok (.iconst 1, 1) := by decide +kernel
theorem dX1_tick_2 : decode cX1_tick 2 = .ok (.if_icmp .lt 9, 3) := by decide +kernel
theorem dX1_tick_5 : decode cX1_tick 5 = .ok (.iload_n 1, 1) := by decide +kernel
theorem dX1_tick_6 : decode cX1_tick 6 = .ok (.bipush 100, 2) := by decide +kernel
theorem dX1_tick_8 : decode cX1_tick 8 = .ok (.if_icmp .le 6, 3) := by decide +kernel
theorem dX1_tick_11 : decode cX1_tick 11 = .ok (.bipush (-3), 2) := by decide +kernel
theorem dX1_tick_13 : decode cX1_tick 13 = .ok (.ireturn, 1) := by decide +kernel
theorem dX1_tick_14 : decode cX1_tick 14 = .ok (.iconst 0, 1) := by decide +kernel
theorem dX1_tick_15 : decode cX1_tick 15 = .ok (.istore_n 2, 1) := by decide +kernel
theorem dX1_tick_16 : decode cX1_tick 16 = .ok (.iconst 0, 1) := by decide +kernel
theorem dX1_tick_17 : decode cX1_tick 17 = .ok (.istore_n 3, 1) := by decide +kernel
theorem dX1_tick_18 : decode cX1_tick 18 = .ok (.iload_n 3, 1) := by decide +kernel
theorem dX1_tick_19 : decode cX1_tick 19 = .ok (.iload_n 1, 1) := by decide +kernel
theorem dX1_tick_20 : decode cX1_tick 20 = .ok (.if_icmp .ge 37, 3) := by decide +kernel
theorem dX1_tick_23 : decode cX1_tick 23 = .ok (.iload_n 2, 1) := by decide +kernel
theorem dX1_tick_24 : decode cX1_tick 24 = .ok (.aload_n 0, 1) := by decide +kernel
theorem dX1_tick_25 : decode cX1_tick 25 = .ok (.invokevirtual 100, 3) := by decide +kernel
theorem dX1_tick_28 : decode cX1_tick 28 = .ok (.iadd, 1) := by decide +kernel
theorem dX1_tick_29 : decode cX1_tick 29 = .ok (.istore_n 2, 1) := by decide +kernel
theorem dX1_tick_30 : decode cX1_tick 30 = .ok (.aload_n 0, 1) := by decide +kernel
theorem dX1_tick_31 : decode cX1_tick 31 = .ok (.getfield 40, 3) := by decide +kernel
theorem dX1_tick_34 : decode cX1_tick 34 = .ok (.ifCond .le 13, 3) := by decide +kernel
theorem dX1_tick_37 : decode cX1_tick 37 = .ok (.aload_n 0, 1) := by decide +kernel
theorem dX1_tick_38 : decode cX1_tick 38 = .ok (.dup, 1) := by decide +kernel
theorem dX1_tick_39 : decode cX1_tick 39 = .ok (.getfield 40, 3) := by decide +kernel
theorem dX1_tick_42 : decode cX1_tick 42 = .ok (.iconst 1, 1) := by decide +kernel
theorem dX1_tick_43 : decode cX1_tick 43 = .ok (.isub, 1) := by decide +kernel
theorem dX1_tick_44 : decode cX1_tick 44 = .ok (.putfield 40, 3) := by decide +kernel
theorem dX1_tick_47 : decode cX1_tick 47 = .ok (.aload_n 0, 1) := by decide +kernel
theorem dX1_tick_48 : decode cX1_tick 48 = .ok (.invokevirtual 84, 3) := by decide +kernel
theorem dX1_tick_51 : decode cX1_tick 51 = .ok (.iinc 3 1, 3) := by decide +kernel
theorem dX1_tick_54 : decode cX1_tick 54 = .ok (.goto (-36), 3) := by decide +kernel
theorem dX1_tick_57 : decode cX1_tick 57 = .ok (.iload_n 2, 1) := by decide +kernel
theorem dX1_tick_58 : decode cX1_tick 58 = .ok (.ireturn, 1) := by decide +kernel
theorem dX1_isDeferring_0 : decode cX1_isDeferring 0 = .ok (.aload_n 0, 1) := by decide +kernel
theorem dX1_isDeferring_1 : decode cX1_isDeferring 1 = .ok (.getfield 36, 3) := by decide +kernel
theorem dX1_isDeferring_4 : decode cX1_isDeferring 4 = .ok (.ifCond .eq 7, 3) := by decide +kernel
theorem dX1_isDeferring_7 : decode cX1_isDeferring 7 = .ok (.iconst 1, 1) := by decide +kernel
theorem dX1_isDeferring_8 : decode cX1_isDeferring 8 = .ok (.goto 4, 3) := by decide +kernel
theorem dX1_isDeferring_11 : decode cX1_isDeferring 11 = .ok (.iconst 0, 1) := by decide +kernel
theorem dX1_isDeferring_12 : decode cX1_isDeferring 12 = .ok (.ireturn, 1) := by decide +kernel
theorem dX1_deferralTimer_0 : decode cX1_deferralTimer 0 = .ok (.aload_n 0, 1) := by decide +kernel
theorem dX1_deferralTimer_1 : decode cX1_deferralTimer 1 = .ok (.getfield 40, 3) := by decide +kernel
theorem dX1_deferralTimer_4 : decode cX1_deferralTimer 4 = .ok (.ireturn, 1) := by decide +kernel
set_option maxRecDepth 20000 in
theorem ggX1_waitingPeers_X0_isAwaited : GoodIn wsX1_waitingPeers wsX0_isAwaited := goodIn_r _ [6, 7, 8, 9, 19, 20, 21, 22, 23, 24, 25, 26] (by decide +kernel) (by decide +kernel)
set_option maxRecDepth 20000 in
theorem gX1_waitingPeers_X0_isAwaited_n103 : GoodIn wsX1_waitingPeers (wsX0_isAwaited) := ggX1_waitingPeers_X0_isAwaited
theorem dX1_waitingPeers_0 : decode cX1_waitingPeers 0 = .ok (.aload_n 0, 1) := by decide +kernel
theorem dX1_waitingPeers_1 : decode cX1_waitingPeers 1 = .ok (.getfield 36, 3) := by decide +kernel
theorem dX1_waitingPeers_4 : decode cX1_waitingPeers 4 = .ok (.ifCond .ne 5, 3) := by decide +kernel
theorem dX1_waitingPeers_7 : decode cX1_waitingPeers 7 = .ok (.iconst 0, 1) := by decide +kernel
theorem dX1_waitingPeers_8 : decode cX1_waitingPeers 8 = .ok (.ireturn, 1) := by decide +kernel
theorem dX1_waitingPeers_9 : decode cX1_waitingPeers 9 = .ok (.iconst 0, 1) := by decide +kernel
theorem dX1_waitingPeers_10 : decode cX1_waitingPeers 10 = .ok (.istore_n 1, 1) := by decide +kernel
theorem dX1_waitingPeers_11 : decode cX1_waitingPeers 11 = .ok (.iconst 0, 1) := by decide +kernel
theorem dX1_waitingPeers_12 : decode cX1_waitingPeers 12 = .ok (.istore_n 2, 1) := by decide +kernel
theorem dX1_waitingPeers_13 : decode cX1_waitingPeers 13 = .ok (.iload_n 2, 1) := by decide +kernel
theorem dX1_waitingPeers_14 : decode cX1_waitingPeers 14 = .ok (.aload_n 0, 1) := by decide +kernel
theorem dX1_waitingPeers_15 : decode cX1_waitingPeers 15 = .ok (.getfield 11, 3) := by decide +kernel
theorem dX1_waitingPeers_18 : decode cX1_waitingPeers 18 = .ok (.arraylength, 1) := by decide +kernel
theorem dX1_waitingPeers_19 : decode cX1_waitingPeers 19 = .ok (.if_icmp .ge 33, 3) := by decide +kernel
theorem dX1_waitingPeers_22 : decode cX1_waitingPeers 22 = .ok (.aload_n 0, 1) := by decide +kernel
theorem dX1_waitingPeers_23 : decode cX1_waitingPeers 23 = .ok (.getfield 11, 3) := by decide +kernel
theorem dX1_waitingPeers_26 : decode cX1_waitingPeers 26 = .ok (.iload_n 2, 1) := by decide +kernel
theorem dX1_waitingPeers_27 : decode cX1_waitingPeers 27 = .ok (.aaload, 1) := by decide +kernel
theorem dX1_waitingPeers_28 : decode cX1_waitingPeers 28 = .ok (.astore_n 3, 1) := by decide +kernel
theorem dX1_waitingPeers_29 : decode cX1_waitingPeers 29 = .ok (.aload_n 3, 1) := by decide +kernel
theorem dX1_waitingPeers_30 : decode cX1_waitingPeers 30 = .ok (.ifnull 16, 3) := by decide +kernel
theorem dX1_waitingPeers_33 : decode cX1_waitingPeers 33 = .ok (.aload_n 3, 1) := by decide +kernel
theorem dX1_waitingPeers_34 : decode cX1_waitingPeers 34 = .ok (.invokevirtual 103, 3) := by decide +kernel
theorem dX1_waitingPeers_37 : decode cX1_waitingPeers 37 = .ok (.ifCond .eq 9, 3) := by decide +kernel
theorem dX1_waitingPeers_40 : decode cX1_waitingPeers 40 = .ok (.iload_n 1, 1) := by decide +kernel
theorem dX1_waitingPeers_41 : decode cX1_waitingPeers 41 = .ok (.iconst 1, 1) := by decide +kernel
theorem dX1_waitingPeers_42 : decode cX1_waitingPeers 42 = .ok (.iload_n 2, 1) := by decide +kernel
theorem dX1_waitingPeers_43 : decode cX1_waitingPeers 43 = .ok (.ishl, 1) := by decide +kernel
theorem dX1_waitingPeers_44 : decode cX1_waitingPeers 44 = .ok (.ior, 1) := by decide +kernel
theorem dX1_waitingPeers_45 : decode cX1_waitingPeers 45 = .ok (.istore_n 1, 1) := by decide +kernel
theorem dX1_waitingPeers_46 : decode cX1_waitingPeers 46 = .ok (.iinc 2 1, 3) := by decide +kernel
theorem dX1_waitingPeers_49 : decode cX1_waitingPeers 49 = .ok (.goto (-36), 3) := by decide +kernel
theorem dX1_waitingPeers_52 : decode cX1_waitingPeers 52 = .ok (.iload_n 1, 1) := by decide +kernel
theorem dX1_waitingPeers_53 : decode cX1_waitingPeers 53 = .ok (.ireturn, 1) := by decide +kernel
set_option maxRecDepth 20000 in
theorem ggX1_nextHop_X1_routeOf : GoodIn wsX1_nextHop wsX1_routeOf := goodIn_r _ [5] (by decide +kernel) (by decide +kernel)
set_option maxRecDepth 20000 in
theorem gX1_nextHop_X1_routeOf : GoodIn wsX1_nextHop (va_wsS RX1 57 yX1_routeOf wsX1_routeOf) := goodIn_app (goodIn_of _ (by decide +kernel)) ggX1_nextHop_X1_routeOf
theorem dX1_nextHop_0 : decode cX1_nextHop 0 = .ok (.iload_n 1, 1) := by decide +kernel
theorem dX1_nextHop_1 : decode cX1_nextHop 1 = .ok (.iload_n 2, 1) := by decide +kernel
theorem dX1_nextHop_2 : decode cX1_nextHop 2 = .ok (.invokestatic 57, 3) := by decide +kernel
theorem dX1_nextHop_5 : decode cX1_nextHop 5 = .ok (.istore_n 3, 1) := by decide +kernel
theorem dX1_nextHop_6 : decode cX1_nextHop 6 = .ok (.iload_n 3, 1) := by decide +kernel
theorem dX1_nextHop_7 : decode cX1_nextHop 7 = .ok (.ifCond .ge 6, 3) := by decide +kernel
theorem dX1_nextHop_10 : decode cX1_nextHop 10 = .ok (.bipush (-2), 2) := by decide +kernel
theorem dX1_nextHop_12 : decode cX1_nextHop 12 = .ok (.ireturn, 1) := by decide +kernel
theorem dX1_nextHop_13 : decode cX1_nextHop 13 = .ok (.aload_n 0, 1) := by decide +kernel
theorem dX1_nextHop_14 : decode cX1_nextHop 14 = .ok (.getfield 15, 3) := by decide +kernel
theorem dX1_nextHop_17 : decode cX1_nextHop 17 = .ok (.iload_n 3, 1) := by decide +kernel
theorem dX1_nextHop_18 : decode cX1_nextHop 18 = .ok (.iaload, 1) := by decide +kernel
theorem dX1_nextHop_19 : decode cX1_nextHop 19 = .ok (.ireturn, 1) := by decide +kernel
set_option maxRecDepth 20000 in
theorem ggX1_isEntryStale_X1_routeOf : GoodIn wsX1_isEntryStale wsX1_routeOf := goodIn_r _ [6] (by decide +kernel) (by decide +kernel)
set_option maxRecDepth 20000 in
theorem gX1_isEntryStale_X1_routeOf : GoodIn wsX1_isEntryStale (va_wsS RX1 57 yX1_routeOf wsX1_routeOf) := goodIn_app (goodIn_of _ (by decide +kernel)) ggX1_isEntryStale_X1_routeOf
theorem dX1_isEntryStale_0 : decode cX1_isEntryStale 0 = .ok (.iload_n 1, 1) := by decide +kernel
theorem dX1_isEntryStale_1 : decode cX1_isEntryStale 1 = .ok (.iload_n 2, 1) := by decide +kernel
theorem dX1_isEntryStale_2 : decode cX1_isEntryStale 2 = .ok (.invokestatic 57, 3) := by decide +kernel
theorem dX1_isEntryStale_5 : decode cX1_isEntryStale 5 = .ok (.istore_n 3, 1) := by decide +kernel
theorem dX1_isEntryStale_6 : decode cX1_isEntryStale 6 = .ok (.iload_n 3, 1) := by decide +kernel
theorem dX1_isEntryStale_7 : decode cX1_isEntryStale 7 = .ok (.ifCond .ge 6, 3) := by decide +kernel
theorem dX1_isEntryStale_10 : decode cX1_isEntryStale 10 = .ok (.bipush (-2), 2) := by decide +kernel
theorem dX1_isEntryStale_12 : decode cX1_isEntryStale 12 = .ok (.ireturn, 1) := by decide +kernel
theorem dX1_isEntryStale_13 : decode cX1_isEntryStale 13 = .ok (.aload_n 0, 1) := by decide +kernel
theorem dX1_isEntryStale_14 : decode cX1_isEntryStale 14 = .ok (.getfield 15, 3) := by decide +kernel
theorem dX1_isEntryStale_17 : decode cX1_isEntryStale 17 = .ok (.iload_n 3, 1) := by decide +kernel
theorem dX1_isEntryStale_18 : decode cX1_isEntryStale 18 = .ok (.iaload, 1) := by decide +kernel
theorem dX1_isEntryStale_19 : decode cX1_isEntryStale 19 = .ok (.bipush (-6), 2) := by decide +kernel
theorem dX1_isEntryStale_21 : decode cX1_isEntryStale 21 = .ok (.if_icmp .ne 6, 3) := by decide +kernel
theorem dX1_isEntryStale_24 : decode cX1_isEntryStale 24 = .ok (.bipush (-6), 2) := by decide +kernel
theorem dX1_isEntryStale_26 : decode cX1_isEntryStale 26 = .ok (.ireturn, 1) := by decide +kernel
theorem dX1_isEntryStale_27 : decode cX1_isEntryStale 27 = .ok (.aload_n 0, 1) := by decide +kernel
theorem dX1_isEntryStale_28 : decode cX1_isEntryStale 28 = .ok (.getfield 19, 3) := by decide +kernel
theorem dX1_isEntryStale_31 : decode cX1_isEntryStale 31 = .ok (.iload_n 3, 1) := by decide +kernel
theorem dX1_isEntryStale_32 : decode cX1_isEntryStale 32 = .ok (.baload, 1) := by decide +kernel
theorem dX1_isEntryStale_33 : decode cX1_isEntryStale 33 = .ok (.ifCond .eq 7, 3) := by decide +kernel
theorem dX1_isEntryStale_36 : decode cX1_isEntryStale 36 = .ok (.iconst 1, 1) := by decide +kernel
theorem dX1_isEntryStale_37 : decode cX1_isEntryStale 37 = .ok (.goto 4, 3) := by decide +kernel
theorem dX1_isEntryStale_40 : decode cX1_isEntryStale 40 = .ok (.iconst 0, 1) := by decide +kernel
theorem dX1_isEntryStale_41 : decode cX1_isEntryStale 41 = .ok (.ireturn, 1) := by decide +kernel
set_option maxRecDepth 20000 in
theorem ggX1_sessionState_X1_findPeer : GoodIn wsX1_sessionState wsX1_findPeer := goodIn_r _ [5, 6, 15, 16, 17, 18, 19, 20, 21, 22, 23] (by decide +kernel) (by decide +kernel)
set_option maxRecDepth 20000 in
theorem gX1_sessionState_X1_findPeer : GoodIn wsX1_sessionState (wsV RX1 53 RX1 yX1_findPeer wsX1_findPeer) := goodIn_app (goodIn_of _ (by decide +kernel)) ggX1_sessionState_X1_findPeer
theorem dX1_sessionState_0 : decode cX1_sessionState 0 = .ok (.aload_n 0, 1) := by decide +kernel
theorem dX1_sessionState_1 : decode cX1_sessionState 1 = .ok (.iload_n 1, 1) := by decide +kernel
theorem dX1_sessionState_2 : decode cX1_sessionState 2 = .ok (.invokevirtual 53, 3) := by decide +kernel
theorem dX1_sessionState_5 : decode cX1_sessionState 5 = .ok (.astore_n 2, 1) := by decide +kernel
theorem dX1_sessionState_6 : decode cX1_sessionState 6 = .ok (.aload_n 2, 1) := by decide +kernel
theorem dX1_sessionState_7 : decode cX1_sessionState 7 = .ok (.ifnonnull 7, 3) := by decide +kernel
theorem dX1_sessionState_10 : decode cX1_sessionState 10 = .ok (.iconst (-1), 1) := by decide +kernel
theorem dX1_sessionState_11 : decode cX1_sessionState 11 = .ok (.goto 7, 3) := by decide +kernel
theorem dX1_sessionState_14 : decode cX1_sessionState 14 = .ok (.aload_n 2, 1) := by decide +kernel
theorem dX1_sessionState_15 : decode cX1_sessionState 15 = .ok (.getfield 71, 3) := by decide +kernel
theorem dX1_sessionState_18 : decode cX1_sessionState 18 = .ok (.ireturn, 1) := by decide +kernel
set_option maxRecDepth 20000 in
theorem ggX1_restartTimer_X1_findPeer : GoodIn wsX1_restartTimer wsX1_findPeer := goodIn_r _ [5, 6, 15, 16, 17, 18, 19, 20, 21, 22, 23] (by decide +kernel) (by decide +kernel)
set_option maxRecDepth 20000 in
theorem gX1_restartTimer_X1_findPeer : GoodIn wsX1_restartTimer (wsV RX1 53 RX1 yX1_findPeer wsX1_findPeer) := goodIn_app (goodIn_of _ (by decide +kernel)) ggX1_restartTimer_X1_findPeer
theorem dX1_restartTimer_0 : decode cX1_restartTimer 0 = .ok (.aload_n 0, 1) := by decide +kernel
theorem dX1_restartTimer_1 : decode cX1_restartTimer 1 = .ok (.iload_n 1, 1) := by decide +kernel
theorem dX1_restartTimer_2 : decode cX1_restartTimer 2 = .ok (.invokevirtual 53, 3) := by decide +kernel
theorem dX1_restartTimer_5 : decode cX1_restartTimer 5 = .ok (.astore_n 2, 1) := by decide +kernel
theorem dX1_restartTimer_6 : decode cX1_restartTimer 6 = .ok (.aload_n 2, 1) := by decide +kernel
theorem dX1_restartTimer_7 : decode cX1_restartTimer 7 = .ok (.ifnonnull 7, 3) := by decide +kernel
theorem dX1_restartTimer_10 : decode cX1_restartTimer 10 = .ok (.iconst (-1), 1) := by decide +kernel
theorem dX1_restartTimer_11 : decode cX1_restartTimer 11 = .ok (.goto 7, 3) := by decide +kernel
theorem dX1_restartTimer_14 : decode cX1_restartTimer 14 = .ok (.aload_n 2, 1) := by decide +kernel
theorem dX1_restartTimer_15 : decode cX1_restartTimer 15 = .ok (.getfield 107, 3) := by decide +kernel
theorem dX1_restartTimer_18 : decode cX1_restartTimer 18 = .ok (.ireturn, 1) := by decide +kernel
set_option maxRecDepth 20000 in
theorem ggX1_staleTimer_X1_findPeer : GoodIn wsX1_staleTimer wsX1_findPeer := goodIn_r _ [5, 6, 15, 16, 17, 18, 19, 20, 21, 22, 23] (by decide +kernel) (by decide +kernel)
set_option maxRecDepth 20000 in
theorem gX1_staleTimer_X1_findPeer : GoodIn wsX1_staleTimer (wsV RX1 53 RX1 yX1_findPeer wsX1_findPeer) := goodIn_app (goodIn_of _ (by decide +kernel)) ggX1_staleTimer_X1_findPeer
theorem dX1_staleTimer_0 : decode cX1_staleTimer 0 = .ok (.aload_n 0, 1) := by decide +kernel
theorem dX1_staleTimer_1 : decode cX1_staleTimer 1 = .ok (.iload_n 1, 1) := by decide +kernel
theorem dX1_staleTimer_2 : decode cX1_staleTimer 2 = .ok (.invokevirtual 53, 3) := by decide +kernel
theorem dX1_staleTimer_5 : decode cX1_staleTimer 5 = .ok (.astore_n 2, 1) := by decide +kernel
theorem dX1_staleTimer_6 : decode cX1_staleTimer 6 = .ok (.aload_n 2, 1) := by decide +kernel
theorem dX1_staleTimer_7 : decode cX1_staleTimer 7 = .ok (.ifnonnull 7, 3) := by decide +kernel
theorem dX1_staleTimer_10 : decode cX1_staleTimer 10 = .ok (.iconst (-1), 1) := by decide +kernel
theorem dX1_staleTimer_11 : decode cX1_staleTimer 11 = .ok (.goto 7, 3) := by decide +kernel
theorem dX1_staleTimer_14 : decode cX1_staleTimer 14 = .ok (.aload_n 2, 1) := by decide +kernel
theorem dX1_staleTimer_15 : decode cX1_staleTimer 15 = .ok (.getfield 110, 3) := by decide +kernel
theorem dX1_staleTimer_18 : decode cX1_staleTimer 18 = .ok (.ireturn, 1) := by decide +kernel
set_option maxRecDepth 20000 in
theorem ggX1_learnedLength_X1_findPeer : GoodIn wsX1_learnedLength wsX1_findPeer := goodIn_r _ [5, 6, 18, 19, 20, 21, 22, 23, 24, 25, 26] (by decide +kernel) (by decide +kernel)
set_option maxRecDepth 20000 in
theorem gX1_learnedLength_X1_findPeer : GoodIn wsX1_learnedLength (wsV RX1 53 RX1 yX1_findPeer wsX1_findPeer) := goodIn_app (goodIn_of _ (by decide +kernel)) ggX1_learnedLength_X1_findPeer
set_option maxRecDepth 20000 in
theorem ggX1_learnedLength_X1_routeOf : GoodIn wsX1_learnedLength wsX1_routeOf := goodIn_r _ [9] (by decide +kernel) (by decide +kernel)
set_option maxRecDepth 20000 in
theorem gX1_learnedLength_X1_routeOf : GoodIn wsX1_learnedLength (va_wsS RX1 57 yX1_routeOf wsX1_routeOf) := goodIn_app (goodIn_of _ (by decide +kernel)) ggX1_learnedLength_X1_routeOf
theorem dX1_learnedLength_0 : decode cX1_learnedLength 0 = .ok (.aload_n 0, 1) := by decide +kernel
theorem dX1_learnedLength_1 : decode cX1_learnedLength 1 = .ok (.iload_n 1, 1) := by decide +kernel
theorem dX1_learnedLength_2 : decode cX1_learnedLength 2 = .ok (.invokevirtual 53, 3) := by decide +kernel
theorem dX1_learnedLength_5 : decode cX1_learnedLength 5 = .ok (.astore 4, 2) := by decide +kernel
theorem dX1_learnedLength_7 : decode cX1_learnedLength 7 = .ok (.aload 4, 2) := by decide +kernel
theorem dX1_learnedLength_9 : decode cX1_learnedLength 9 = .ok (.ifnonnull 5, 3) := by decide +kernel
theorem dX1_learnedLength_12 : decode cX1_learnedLength 12 = .ok (.iconst (-1), 1) := by decide +kernel
theorem dX1_learnedLength_13 : decode cX1_learnedLength 13 = .ok (.ireturn, 1) := by decide +kernel
theorem dX1_learnedLength_14 : decode cX1_learnedLength 14 = .ok (.iload_n 2, 1) := by decide +kernel
theorem dX1_learnedLength_15 : decode cX1_learnedLength 15 = .ok (.iload_n 3, 1) := by decide +kernel
theorem dX1_learnedLength_16 : decode cX1_learnedLength 16 = .ok (.invokestatic 57, 3) := by decide +kernel
theorem dX1_learnedLength_19 : decode cX1_learnedLength 19 = .ok (.istore 5, 2) := by decide +kernel
theorem dX1_learnedLength_21 : decode cX1_learnedLength 21 = .ok (.iload 5, 2) := by decide +kernel
theorem dX1_learnedLength_23 : decode cX1_learnedLength 23 = .ok (.ifCond .ge 6, 3) := by decide +kernel
theorem dX1_learnedLength_26 : decode cX1_learnedLength 26 = .ok (.bipush (-2), 2) := by decide +kernel
theorem dX1_learnedLength_28 : decode cX1_learnedLength 28 = .ok (.ireturn, 1) := by decide +kernel
theorem dX1_learnedLength_29 : decode cX1_learnedLength 29 = .ok (.aload 4, 2) := by decide +kernel
theorem dX1_learnedLength_31 : decode cX1_learnedLength 31 = .ok (.getfield 113, 3) := by decide +kernel
theorem dX1_learnedLength_34 : decode cX1_learnedLength 34 = .ok (.iload 5, 2) := by decide +kernel
theorem dX1_learnedLength_36 : decode cX1_learnedLength 36 = .ok (.iaload, 1) := by decide +kernel
theorem dX1_learnedLength_37 : decode cX1_learnedLength 37 = .ok (.istore 6, 2) := by decide +kernel
theorem dX1_learnedLength_39 : decode cX1_learnedLength 39 = .ok (.iload 6, 2) := by decide +kernel
theorem dX1_learnedLength_41 : decode cX1_learnedLength 41 = .ok (.ifCond .ne 8, 3) := by decide +kernel
theorem dX1_learnedLength_44 : decode cX1_learnedLength 44 = .ok (.bipush (-6), 2) := by decide +kernel
theorem dX1_learnedLength_46 : decode cX1_learnedLength 46 = .ok (.goto 5, 3) := by decide +kernel
theorem dX1_learnedLength_49 : decode cX1_learnedLength 49 = .ok (.iload 6, 2) := by decide +kernel
theorem dX1_learnedLength_51 : decode cX1_learnedLength 51 = .ok (.ireturn, 1) := by decide +kernel
set_option maxRecDepth 20000 in
theorem ggX1_isLearnedStale_X1_findPeer : GoodIn wsX1_isLearnedStale wsX1_findPeer := goodIn_r _ [5, 6, 18, 19, 20, 21, 22, 23, 24, 25, 26] (by decide +kernel) (by decide +kernel)
set_option maxRecDepth 20000 in
theorem gX1_isLearnedStale_X1_findPeer : GoodIn wsX1_isLearnedStale (wsV RX1 53 RX1 yX1_findPeer wsX1_findPeer) := goodIn_app (goodIn_of _ (by decide +kernel)) ggX1_isLearnedStale_X1_findPeer
set_option maxRecDepth 20000 in
theorem ggX1_isLearnedStale_X1_routeOf : GoodIn wsX1_isLearnedStale wsX1_routeOf := goodIn_r _ [9] (by decide +kernel) (by decide +kernel)
set_option maxRecDepth 20000 in
theorem gX1_isLearnedStale_X1_routeOf : GoodIn wsX1_isLearnedStale (va_wsS RX1 57 yX1_routeOf wsX1_routeOf) := goodIn_app (goodIn_of _ (by decide +kernel)) ggX1_isLearnedStale_X1_routeOf
theorem dX1_isLearnedStale_0 : decode cX1_isLearnedStale 0 = .ok (.aload_n 0, 1) := by decide +kernel
theorem dX1_isLearnedStale_1 : decode cX1_isLearnedStale 1 = .ok (.iload_n 1, 1) := by decide +kernel
theorem dX1_isLearnedStale_2 : decode cX1_isLearnedStale 2 = .ok (.invokevirtual 53, 3) := by decide +kernel
theorem dX1_isLearnedStale_5 : decode cX1_isLearnedStale 5 = .ok (.astore 4, 2) := by decide +kernel
theorem dX1_isLearnedStale_7 : decode cX1_isLearnedStale 7 = .ok (.aload 4, 2) := by decide +kernel
theorem dX1_isLearnedStale_9 : decode cX1_isLearnedStale 9 = .ok (.ifnonnull 5, 3) := by decide +kernel
theorem dX1_isLearnedStale_12 : decode cX1_isLearnedStale 12 = .ok (.iconst (-1), 1) := by decide +kernel
theorem dX1_isLearnedStale_13 : decode cX1_isLearnedStale 13 = .ok (.ireturn, 1) := by decide +kernel
theorem dX1_isLearnedStale_14 : decode cX1_isLearnedStale 14 = .ok (.iload_n 2, 1) := by decide +kernel
theorem dX1_isLearnedStale_15 : decode cX1_isLearnedStale 15 = .ok (.iload_n 3, 1) := by decide +kernel
theorem dX1_isLearnedStale_16 : decode cX1_isLearnedStale 16 = .ok (.invokestatic 57, 3) := by decide +kernel
theorem dX1_isLearnedStale_19 : decode cX1_isLearnedStale 19 = .ok (.istore 5, 2) := by decide +kernel
theorem dX1_isLearnedStale_21 : decode cX1_isLearnedStale 21 = .ok (.iload 5, 2) := by decide +kernel
theorem dX1_isLearnedStale_23 : decode cX1_isLearnedStale 23 = .ok (.ifCond .ge 6, 3) := by decide +kernel
theorem dX1_isLearnedStale_26 : decode cX1_isLearnedStale 26 = .ok (.bipush (-2), 2) := by decide +kernel
theorem dX1_isLearnedStale_28 : decode cX1_isLearnedStale 28 = .ok (.ireturn, 1) := by decide +kernel
theorem dX1_isLearnedStale_29 : decode cX1_isLearnedStale 29 = .ok (.aload 4, 2) := by decide +kernel
theorem dX1_isLearnedStale_31 : decode cX1_isLearnedStale 31 = .ok (.getfield 113, 3) := by decide +kernel
theorem dX1_isLearnedStale_34 : decode cX1_isLearnedStale 34 = .ok (.iload 5, 2) := by decide +kernel
theorem dX1_isLearnedStale_36 : decode cX1_isLearnedStale 36 = .ok (.iaload, 1) := by decide +kernel
theorem dX1_isLearnedStale_37 : decode cX1_isLearnedStale 37 = .ok (.ifCond .ne 6, 3) := by decide +kernel
theorem dX1_isLearnedStale_40 : decode cX1_isLearnedStale 40 = .ok (.bipush (-6), 2) := by decide +kernel
theorem dX1_isLearnedStale_42 : decode cX1_isLearnedStale 42 = .ok (.ireturn, 1) := by decide +kernel
theorem dX1_isLearnedStale_43 : decode cX1_isLearnedStale 43 = .ok (.aload 4, 2) := by decide +kernel
theorem dX1_isLearnedStale_45 : decode cX1_isLearnedStale 45 = .ok (.getfield 116, 3) := by decide +kernel
theorem dX1_isLearnedStale_48 : decode cX1_isLearnedStale 48 = .ok (.iload 5, 2) := by decide +kernel
theorem dX1_isLearnedStale_50 : decode cX1_isLearnedStale 50 = .ok (.baload, 1) := by decide +kernel
theorem dX1_isLearnedStale_51 : decode cX1_isLearnedStale 51 = .ok (.ifCond .eq 7, 3) := by decide +kernel
theorem dX1_isLearnedStale_54 : decode cX1_isLearnedStale 54 = .ok (.iconst 1, 1) := by decide +kernel
theorem dX1_isLearnedStale_55 : decode cX1_isLearnedStale 55 = .ok (.goto 4, 3) := by decide +kernel
theorem dX1_isLearnedStale_58 : decode cX1_isLearnedStale 58 = .ok (.iconst 0, 1) := by decide +kernel
theorem dX1_isLearnedStale_59 : decode cX1_isLearnedStale 59 = .ok (.ireturn, 1) := by decide +kernel
set_option maxRecDepth 20000 in
theorem ggX1_forward_X1_findPeer : GoodIn wsX1_forward wsX1_findPeer := goodIn_r _ [5, 6, 15, 16, 17, 18, 19, 20, 21, 22, 23] (by decide +kernel) (by decide +kernel)
set_option maxRecDepth 20000 in
theorem gX1_forward_X1_findPeer : GoodIn wsX1_forward (wsV RX1 53 RX1 yX1_findPeer wsX1_findPeer) := goodIn_app (goodIn_of _ (by decide +kernel)) ggX1_forward_X1_findPeer
set_option maxRecDepth 20000 in
theorem ggX1_forward_X1_routeOf : GoodIn wsX1_forward wsX1_routeOf := goodIn_r _ [9] (by decide +kernel) (by decide +kernel)
set_option maxRecDepth 20000 in
theorem gX1_forward_X1_routeOf : GoodIn wsX1_forward (va_wsS RX1 57 yX1_routeOf wsX1_routeOf) := goodIn_app (goodIn_of _ (by decide +kernel)) ggX1_forward_X1_routeOf
set_option maxRecDepth 20000 in
theorem ggX1_forward_X1_followPacket : GoodIn wsX1_forward wsX1_followPacket := goodIn_r _ [13, 14, 24, 25, 26, 27, 28, 29, 30, 31, 15, 16, 17, 18, 19, 20, 21, 22, 23] (by decide +kernel) (by decide +kernel)
set_option maxRecDepth 20000 in
theorem gX1_forward_X1_followPacket : GoodIn wsX1_forward (wsV RX1 119 RX1 yX1_followPacket wsX1_followPacket) := goodIn_app (goodIn_of _ (by decide +kernel)) ggX1_forward_X1_followPacket
theorem dX1_forward_0 : decode cX1_forward 0 = .ok (.aload_n 0, 1) := by decide +kernel
theorem dX1_forward_1 : decode cX1_forward 1 = .ok (.iload_n 1, 1) := by decide +kernel
theorem dX1_forward_2 : decode cX1_forward 2 = .ok (.invokevirtual 53, 3) := by decide +kernel
theorem dX1_forward_5 : decode cX1_forward 5 = .ok (.astore 4, 2) := by decide +kernel
theorem dX1_forward_7 : decode cX1_forward 7 = .ok (.aload 4, 2) := by decide +kernel
theorem dX1_forward_9 : decode cX1_forward 9 = .ok (.ifnonnull 5, 3) := by decide +kernel
theorem dX1_forward_12 : decode cX1_forward 12 = .ok (.iconst (-1), 1) := by decide +kernel
theorem dX1_forward_13 : decode cX1_forward 13 = .ok (.ireturn, 1) := by decide +kernel
theorem dX1_forward_14 : decode cX1_forward 14 = .ok (.iload_n 2, 1) := by decide +kernel
theorem dX1_forward_15 : decode cX1_forward 15 = .ok (.iload_n 3, 1) := by decide +kernel
theorem dX1_forward_16 : decode cX1_forward 16 = .ok (.invokestatic 57, 3) := by decide +kernel
theorem dX1_forward_19 : decode cX1_forward 19 = .ok (.istore 5, 2) := by decide +kernel
theorem dX1_forward_21 : decode cX1_forward 21 = .ok (.iload 5, 2) := by decide +kernel
theorem dX1_forward_23 : decode cX1_forward 23 = .ok (.ifCond .ge 6, 3) := by decide +kernel
theorem dX1_forward_26 : decode cX1_forward 26 = .ok (.bipush (-2), 2) := by decide +kernel
theorem dX1_forward_28 : decode cX1_forward 28 = .ok (.ireturn, 1) := by decide +kernel
theorem dX1_forward_29 : decode cX1_forward 29 = .ok (.aload_n 0, 1) := by decide +kernel
theorem dX1_forward_30 : decode cX1_forward 30 = .ok (.aload 4, 2) := by decide +kernel
theorem dX1_forward_32 : decode cX1_forward 32 = .ok (.iload_n 1, 1) := by decide +kernel
theorem dX1_forward_33 : decode cX1_forward 33 = .ok (.iload 5, 2) := by decide +kernel
theorem dX1_forward_35 : decode cX1_forward 35 = .ok (.invokevirtual 119, 3) := by decide +kernel
theorem dX1_forward_38 : decode cX1_forward 38 = .ok (.ireturn, 1) := by decide +kernel
set_option maxRecDepth 20000 in
theorem ggX1_reachableCount_X1_findPeer : GoodIn wsX1_reachableCount wsX1_findPeer := goodIn_r _ [5, 6, 12, 13, 14, 15, 16, 17, 18, 19, 20] (by decide +kernel) (by decide +kernel)
set_option maxRecDepth 20000 in
theorem gX1_reachableCount_X1_findPeer : GoodIn wsX1_reachableCount (wsV RX1 53 RX1 yX1_findPeer wsX1_findPeer) := goodIn_app (goodIn_of _ (by decide +kernel)) ggX1_reachableCount_X1_findPeer
set_option maxRecDepth 20000 in
theorem ggX1_reachableCount_X1_followPacket : GoodIn wsX1_reachableCount wsX1_followPacket := goodIn_r _ [10, 11, 21, 22, 23, 24, 25, 26, 27, 28, 12, 13, 14, 15, 16, 17, 18, 19, 20] (by decide +kernel) (by decide +kernel)
set_option maxRecDepth 20000 in
theorem gX1_reachableCount_X1_followPacket : GoodIn wsX1_reachableCount (wsV RX1 119 RX1 yX1_followPacket wsX1_followPacket) := goodIn_app (goodIn_of _ (by decide +kernel)) ggX1_reachableCount_X1_followPacket
theorem dX1_reachableCount_0 : decode cX1_reachableCount 0 = .ok (.aload_n 0, 1) := by decide +kernel
theorem dX1_reachableCount_1 : decode cX1_reachableCount 1 = .ok (.iload_n 1, 1) := by decide +kernel
theorem dX1_reachableCount_2 : decode cX1_reachableCount 2 = .ok (.invokevirtual 53, 3) := by decide +kernel
theorem dX1_reachableCount_5 : decode cX1_reachableCount 5 = .ok (.astore_n 2, 1) := by decide +kernel
theorem dX1_reachableCount_6 : decode cX1_reachableCount 6 = .ok (.aload_n 2, 1) := by decide +kernel
theorem dX1_reachableCount_7 : decode cX1_reachableCount 7 = .ok (.ifnonnull 5, 3) := by decide +kernel
theorem dX1_reachableCount_10 : decode cX1_reachableCount 10 = .ok (.iconst (-1), 1) := by decide +kernel
theorem dX1_reachableCount_11 : decode cX1_reachableCount 11 = .ok (.ireturn, 1) := by decide +kernel
theorem dX1_reachableCount_12 : decode cX1_reachableCount 12 = .ok (.iconst 0, 1) := by decide +kernel
theorem dX1_reachableCount_13 : decode cX1_reachableCount 13 = .ok (.istore_n 3, 1) := by decide +kernel
theorem dX1_reachableCount_14 : decode cX1_reachableCount 14 = .ok (.iconst 0, 1) := by decide +kernel
theorem dX1_reachableCount_15 : decode cX1_reachableCount 15 = .ok (.istore 4, 2) := by decide +kernel
theorem dX1_reachableCount_17 : decode cX1_reachableCount 17 = .ok (.iload 4, 2) := by decide +kernel
theorem dX1_reachableCount_19 : decode cX1_reachableCount 19 = .ok (.bipush 16, 2) := by decide +kernel
theorem dX1_reachableCount_21 : decode cX1_reachableCount 21 = .ok (.if_icmp .ge 23, 3) := by decide +kernel
theorem dX1_reachableCount_24 : decode cX1_reachableCount 24 = .ok (.aload_n 0, 1) := by decide +kernel
theorem dX1_reachableCount_25 : decode cX1_reachableCount 25 = .ok (.aload_n 2, 1) := by decide +kernel
theorem dX1_reachableCount_26 : decode cX1_reachableCount 26 = .ok (.iload_n 1, 1) := by decide +kernel
theorem dX1_reachableCount_27 : decode cX1_reachableCount 27 = .ok (.iload 4, 2) := by decide +kernel
theorem dX1_reachableCount_29 : decode cX1_reachableCount 29 = .ok (.invokevirtual 119, 3) := by decide +kernel
theorem dX1_reachableCount_32 : decode cX1_reachableCount 32 = .ok (.ifCond .lt 6, 3) := by decide +kernel
theorem dX1_reachableCount_35 : decode cX1_reachableCount 35 = .ok (.iinc 3 1, 3) := by decide +kernel
theorem dX1_reachableCount_38 : decode cX1_reachableCount 38 = .ok (.iinc 4 1, 3) := by decide +kernel
theorem dX1_reachableCount_41 : decode cX1_reachableCount 41 = .ok (.goto (-24), 3) := by decide +kernel
theorem dX1_reachableCount_44 : decode cX1_reachableCount 44 = .ok (.iload_n 3, 1) := by decide +kernel
theorem dX1_reachableCount_45 : decode cX1_reachableCount 45 = .ok (.ireturn, 1) := by decide +kernel
set_option maxRecDepth 20000 in
theorem ggX1_loopCount_X1_countLoops : GoodIn wsX1_loopCount wsX1_countLoops := goodIn_r _ [6, 7, 8, 9, 5, 10, 11, 21, 22, 23, 24, 25, 26, 27, 28, 12, 13, 14, 15, 16, 17, 18, 19, 20] (by decide +kernel) (by decide +kernel)
set_option maxRecDepth 20000 in
theorem gX1_loopCount_X1_countLoops : GoodIn wsX1_loopCount (wsV RX1 123 RX1 yX1_countLoops wsX1_countLoops) := goodIn_app (goodIn_of _ (by decide +kernel)) ggX1_loopCount_X1_countLoops
theorem dX1_loopCount_0 : decode cX1_loopCount 0 = .ok (.iconst 0, 1) := by decide +kernel
theorem dX1_loopCount_1 : decode cX1_loopCount 1 = .ok (.istore_n 1, 1) := by decide +kernel
theorem dX1_loopCount_2 : decode cX1_loopCount 2 = .ok (.iconst 0, 1) := by decide +kernel
theorem dX1_loopCount_3 : decode cX1_loopCount 3 = .ok (.istore_n 2, 1) := by decide +kernel
theorem dX1_loopCount_4 : decode cX1_loopCount 4 = .ok (.iload_n 2, 1) := by decide +kernel
theorem dX1_loopCount_5 : decode cX1_loopCount 5 = .ok (.aload_n 0, 1) := by decide +kernel
theorem dX1_loopCount_6 : decode cX1_loopCount 6 = .ok (.getfield 11, 3) := by decide +kernel
theorem dX1_loopCount_9 : decode cX1_loopCount 9 = .ok (.arraylength, 1) := by decide +kernel
theorem dX1_loopCount_10 : decode cX1_loopCount 10 = .ok (.if_icmp .ge 29, 3) := by decide +kernel
theorem dX1_loopCount_13 : decode cX1_loopCount 13 = .ok (.aload_n 0, 1) := by decide +kernel
theorem dX1_loopCount_14 : decode cX1_loopCount 14 = .ok (.getfield 11, 3) := by decide +kernel
theorem dX1_loopCount_17 : decode cX1_loopCount 17 = .ok (.iload_n 2, 1) := by decide +kernel
theorem dX1_loopCount_18 : decode cX1_loopCount 18 = .ok (.aaload, 1) := by decide +kernel
theorem dX1_loopCount_19 : decode cX1_loopCount 19 = .ok (.astore_n 3, 1) := by decide +kernel
theorem dX1_loopCount_20 : decode cX1_loopCount 20 = .ok (.aload_n 3, 1) := by decide +kernel
theorem dX1_loopCount_21 : decode cX1_loopCount 21 = .ok (.ifnull 12, 3) := by decide +kernel
theorem dX1_loopCount_24 : decode cX1_loopCount 24 = .ok (.iload_n 1, 1) := by decide +kernel
theorem dX1_loopCount_25 : decode cX1_loopCount 25 = .ok (.aload_n 0, 1) := by decide +kernel
theorem dX1_loopCount_26 : decode cX1_loopCount 26 = .ok (.aload_n 3, 1) := by decide +kernel
theorem dX1_loopCount_27 : decode cX1_loopCount 27 = .ok (.iload_n 2, 1) := by decide +kernel
theorem dX1_loopCount_28 : decode cX1_loopCount 28 = .ok (.invokevirtual 123, 3) := by decide +kernel
theorem dX1_loopCount_31 : decode cX1_loopCount 31 = .ok (.iadd, 1) := by decide +kernel
theorem dX1_loopCount_32 : decode cX1_loopCount 32 = .ok (.istore_n 1, 1) := by decide +kernel
theorem dX1_loopCount_33 : decode cX1_loopCount 33 = .ok (.iinc 2 1, 3) := by decide +kernel
theorem dX1_loopCount_36 : decode cX1_loopCount 36 = .ok (.goto (-32), 3) := by decide +kernel
theorem dX1_loopCount_39 : decode cX1_loopCount 39 = .ok (.iload_n 1, 1) := by decide +kernel
theorem dX1_loopCount_40 : decode cX1_loopCount 40 = .ok (.ireturn, 1) := by decide +kernel
theorem dX1_isTime_0 : decode cX1_isTime 0 = .ok (.iload_n 0, 1) := by decide +kernel
theorem dX1_isTime_1 : decode cX1_isTime 1 = .ok (.iconst 1, 1) := by decide +kernel
theorem dX1_isTime_2 : decode cX1_isTime 2 = .ok (.if_icmp .lt 13, 3) := by decide +kernel
theorem dX1_isTime_5 : decode cX1_isTime 5 = .ok (.iload_n 0, 1) := by decide +kernel
theorem dX1_isTime_6 : decode cX1_isTime 6 = .ok (.bipush 50, 2) := by decide +kernel
theorem dX1_isTime_8 : decode cX1_isTime 8 = .ok (.if_icmp .gt 7, 3) := by decide +kernel
theorem dX1_isTime_11 : decode cX1_isTime 11 = .ok (.iconst 1, 1) := by decide +kernel
theorem dX1_isTime_12 : decode cX1_isTime 12 = .ok (.goto 4, 3) := by decide +kernel
theorem dX1_isTime_15 : decode cX1_isTime 15 = .ok (.iconst 0, 1) := by decide +kernel
theorem dX1_isTime_16 : decode cX1_isTime 16 = .ok (.ireturn, 1) := by decide +kernel
theorem dX1_routeOf_0 : decode cX1_routeOf 0 = .ok (.iload_n 0, 1) := by decide +kernel
theorem dX1_routeOf_1 : decode cX1_routeOf 1 = .ok (.ifCond .lt 18, 3) := by decide +kernel
theorem dX1_routeOf_4 : decode cX1_routeOf 4 = .ok (.iload_n 0, 1) := by decide +kernel
theorem dX1_routeOf_5 : decode cX1_routeOf 5 = .ok (.iconst 2, 1) := by decide +kernel
theorem dX1_routeOf_6 : decode cX1_routeOf 6 = .ok (.if_icmp .ge 13, 3) := by decide +kernel
theorem dX1_routeOf_9 : decode cX1_routeOf 9 = .ok (.iload_n 1, 1) := by decide +kernel
theorem dX1_routeOf_10 : decode cX1_routeOf 10 = .ok (.ifCond .lt 9, 3) := by decide +kernel
theorem dX1_routeOf_13 : decode cX1_routeOf 13 = .ok (.iload_n 1, 1) := by decide +kernel
theorem dX1_routeOf_14 : decode cX1_routeOf 14 = .ok (.bipush 8, 2) := by decide +kernel
theorem dX1_routeOf_16 : decode cX1_routeOf 16 = .ok (.if_icmp .lt 5, 3) := by decide +kernel
theorem dX1_routeOf_19 : decode cX1_routeOf 19 = .ok (.iconst (-1), 1) := by decide +kernel
theorem dX1_routeOf_20 : decode cX1_routeOf 20 = .ok (.ireturn, 1) := by decide +kernel
theorem dX1_routeOf_21 : decode cX1_routeOf 21 = .ok (.iload_n 0, 1) := by decide +kernel
theorem dX1_routeOf_22 : decode cX1_routeOf 22 = .ok (.bipush 8, 2) := by decide +kernel
theorem dX1_routeOf_24 : decode cX1_routeOf 24 = .ok (.imul, 1) := by decide +kernel
theorem dX1_routeOf_25 : decode cX1_routeOf 25 = .ok (.iload_n 1, 1) := by decide +kernel
theorem dX1_routeOf_26 : decode cX1_routeOf 26 = .ok (.iadd, 1) := by decide +kernel
theorem dX1_routeOf_27 : decode cX1_routeOf 27 = .ok (.ireturn, 1) := by decide +kernel
theorem dX1_findPeer_0 : decode cX1_findPeer 0 = .ok (.iload_n 1, 1) := by decide +kernel
theorem dX1_findPeer_1 : decode cX1_findPeer 1 = .ok (.ifCond .lt 12, 3) := by decide +kernel
theorem dX1_findPeer_4 : decode cX1_findPeer 4 = .ok (.iload_n 1, 1) := by decide +kernel
theorem dX1_findPeer_5 : decode cX1_findPeer 5 = .ok (.aload_n 0, 1) := by decide +kernel
theorem dX1_findPeer_6 : decode cX1_findPeer 6 = .ok (.getfield 11, 3) := by decide +kernel
theorem dX1_findPeer_9 : decode cX1_findPeer 9 = .ok (.arraylength, 1) := by decide +kernel
theorem dX1_findPeer_10 : decode cX1_findPeer 10 = .ok (.if_icmp .lt 5, 3) := by decide +kernel
theorem dX1_findPeer_13 : decode cX1_findPeer 13 = .ok (.aconst_null, 1) := by decide +kernel
theorem dX1_findPeer_14 : decode cX1_findPeer 14 = .ok (.areturn, 1) := by decide +kernel
theorem dX1_findPeer_15 : decode cX1_findPeer 15 = .ok (.aload_n 0, 1) := by decide +kernel
theorem dX1_findPeer_16 : decode cX1_findPeer 16 = .ok (.getfield 11, 3) := by decide +kernel
theorem dX1_findPeer_19 : decode cX1_findPeer 19 = .ok (.iload_n 1, 1) := by decide +kernel
theorem dX1_findPeer_20 : decode cX1_findPeer 20 = .ok (.aaload, 1) := by decide +kernel
theorem dX1_findPeer_21 : decode cX1_findPeer 21 = .ok (.areturn, 1) := by decide +kernel
set_option maxRecDepth 20000 in
theorem ggX1_selectAfterOffer_X1_select : GoodIn wsX1_selectAfterOffer wsX1_select := goodIn_r _ [6, 7, 8, 9, 10, 11, 12, 13, 14, 15, 16, 17, 18, 5, 19, 20, 21, 22, 23, 24, 25, 26, 27, 28, 29, 30, 31, 32, 33, 34, 35, 36, 37, 38, 39, 40, 41, 42, 43, 44] (by decide +kernel) (by decide +kernel)
set_option maxRecDepth 20000 in
theorem gX1_selectAfterOffer_X1_select : GoodIn wsX1_selectAfterOffer (wsV RX1 127 RX1 yX1_select wsX1_select) := goodIn_app (goodIn_of _ (by decide +kernel)) ggX1_selectAfterOffer_X1_select
theorem dX1_selectAfterOffer_0 : decode cX1_selectAfterOffer 0 = .ok (.aload_n 0, 1) := by decide +kernel
theorem dX1_selectAfterOffer_1 : decode cX1_selectAfterOffer 1 = .ok (.getfield 36, 3) := by decide +kernel
theorem dX1_selectAfterOffer_4 : decode cX1_selectAfterOffer 4 = .ok (.ifCond .ne 15, 3) := by decide +kernel
theorem dX1_selectAfterOffer_7 : decode cX1_selectAfterOffer 7 = .ok (.aload_n 1, 1) := by decide +kernel
theorem dX1_selectAfterOffer_8 : decode cX1_selectAfterOffer 8 = .ok (.getfield 71, 3) := by decide +kernel
theorem dX1_selectAfterOffer_11 : decode cX1_selectAfterOffer 11 = .ok (.ifCond .ne 8, 3) := by decide +kernel
theorem dX1_selectAfterOffer_14 : decode cX1_selectAfterOffer 14 = .ok (.aload_n 0, 1) := by decide +kernel
theorem dX1_selectAfterOffer_15 : decode cX1_selectAfterOffer 15 = .ok (.iload_n 2, 1) := by decide +kernel
theorem dX1_selectAfterOffer_16 : decode cX1_selectAfterOffer 16 = .ok (.invokevirtual 127, 3) := by decide +kernel
theorem dX1_selectAfterOffer_19 : decode cX1_selectAfterOffer 19 = .ok (.return_, 1) := by decide +kernel
set_option maxRecDepth 20000 in
theorem ggX1_selectAll_X1_select : GoodIn wsX1_selectAll wsX1_select := goodIn_r _ [5, 6, 7, 8, 9, 10, 11, 12, 13, 14, 15, 16, 17, 4, 18, 19, 20, 21, 22, 23, 24, 25, 26, 27, 28, 29, 30, 31, 32, 33, 34, 35, 36, 37, 38, 39, 40, 41, 42, 43] (by decide +kernel) (by decide +kernel)
set_option maxRecDepth 20000 in
theorem gX1_selectAll_X1_select : GoodIn wsX1_selectAll (wsV RX1 127 RX1 yX1_select wsX1_select) := goodIn_app (goodIn_of _ (by decide +kernel)) ggX1_selectAll_X1_select
theorem dX1_selectAll_0 : decode cX1_selectAll 0 = .ok (.iconst 0, 1) := by decide +kernel
theorem dX1_selectAll_1 : decode cX1_selectAll 1 = .ok (.istore_n 1, 1) := by decide +kernel
theorem dX1_selectAll_2 : decode cX1_selectAll 2 = .ok (.iload_n 1, 1) := by decide +kernel
theorem dX1_selectAll_3 : decode cX1_selectAll 3 = .ok (.bipush 16, 2) := by decide +kernel
theorem dX1_selectAll_5 : decode cX1_selectAll 5 = .ok (.if_icmp .ge 14, 3) := by decide +kernel
theorem dX1_selectAll_8 : decode cX1_selectAll 8 = .ok (.aload_n 0, 1) := by decide +kernel
theorem dX1_selectAll_9 : decode cX1_selectAll 9 = .ok (.iload_n 1, 1) := by decide +kernel
theorem dX1_selectAll_10 : decode cX1_selectAll 10 = .ok (.invokevirtual 127, 3) := by decide +kernel
theorem dX1_selectAll_13 : decode cX1_selectAll 13 = .ok (.iinc 1 1, 3) := by decide +kernel
theorem dX1_selectAll_16 : decode cX1_selectAll 16 = .ok (.goto (-14), 3) := by decide +kernel
theorem dX1_selectAll_19 : decode cX1_selectAll 19 = .ok (.return_, 1) := by decide +kernel
set_option maxRecDepth 20000 in
theorem ggX1_select_X0_knownOffer : GoodIn wsX1_select wsX0_knownOffer := goodIn_r _ [7, 8, 9, 32, 33, 34, 35, 36, 37, 38, 39] (by decide +kernel) (by decide +kernel)
set_option maxRecDepth 20000 in
theorem gX1_select_X0_knownOffer_n130 : GoodIn wsX1_select (wsX0_knownOffer) := ggX1_select_X0_knownOffer
set_option maxRecDepth 20000 in
theorem ggX1_select_X1_advertise : GoodIn wsX1_select wsX1_advertise := goodIn_r _ [14, 1, 15, 5, 16, 17, 18, 19, 20, 21, 22, 23, 24, 25, 26, 27, 28, 29, 30, 31, 32, 33, 34, 35, 36, 37, 38, 39] (by decide +kernel) (by decide +kernel)
set_option maxRecDepth 20000 in
theorem gX1_select_X1_advertise : GoodIn wsX1_select (wsV RX1 134 RX1 yX1_advertise wsX1_advertise) := goodIn_app (goodIn_of _ (by decide +kernel)) ggX1_select_X1_advertise
theorem dX1_select_0 : decode cX1_select 0 = .ok (.bipush (-6), 2) := by decide +kernel
theorem dX1_select_2 : decode cX1_select 2 = .ok (.istore_n 2, 1) := by decide +kernel
theorem dX1_select_3 : decode cX1_select 3 = .ok (.iconst 0, 1) := by decide +kernel
theorem dX1_select_4 : decode cX1_select 4 = .ok (.istore_n 3, 1) := by decide +kernel
theorem dX1_select_5 : decode cX1_select 5 = .ok (.iconst 0, 1) := by decide +kernel
theorem dX1_select_6 : decode cX1_select 6 = .ok (.istore 4, 2) := by decide +kernel
theorem dX1_select_8 : decode cX1_select 8 = .ok (.iload 4, 2) := by decide +kernel
theorem dX1_select_10 : decode cX1_select 10 = .ok (.aload_n 0, 1) := by decide +kernel
theorem dX1_select_11 : decode cX1_select 11 = .ok (.getfield 11, 3) := by decide +kernel
theorem dX1_select_14 : decode cX1_select 14 = .ok (.arraylength, 1) := by decide +kernel
theorem dX1_select_15 : decode cX1_select 15 = .ok (.if_icmp .ge 58, 3) := by decide +kernel
theorem dX1_select_18 : decode cX1_select 18 = .ok (.aload_n 0, 1) := by decide +kernel
theorem dX1_select_19 : decode cX1_select 19 = .ok (.getfield 11, 3) := by decide +kernel
theorem dX1_select_22 : decode cX1_select 22 = .ok (.iload 4, 2) := by decide +kernel
theorem dX1_select_24 : decode cX1_select 24 = .ok (.aaload, 1) := by decide +kernel
theorem dX1_select_25 : decode cX1_select 25 = .ok (.astore 5, 2) := by decide +kernel
theorem dX1_select_27 : decode cX1_select 27 = .ok (.aload 5, 2) := by decide +kernel
theorem dX1_select_29 : decode cX1_select 29 = .ok (.ifnonnull 7, 3) := by decide +kernel
theorem dX1_select_32 : decode cX1_select 32 = .ok (.iconst 0, 1) := by decide +kernel
theorem dX1_select_33 : decode cX1_select 33 = .ok (.goto 9, 3) := by decide +kernel
theorem dX1_select_36 : decode cX1_select 36 = .ok (.aload 5, 2) := by decide +kernel
theorem dX1_select_38 : decode cX1_select 38 = .ok (.iload_n 1, 1) := by decide +kernel
theorem dX1_select_39 : decode cX1_select 39 = .ok (.invokevirtual 130, 3) := by decide +kernel
theorem dX1_select_42 : decode cX1_select 42 = .ok (.istore 6, 2) := by decide +kernel
theorem dX1_select_44 : decode cX1_select 44 = .ok (.iload 6, 2) := by decide +kernel
theorem dX1_select_46 : decode cX1_select 46 = .ok (.ifCond .le 21, 3) := by decide +kernel
theorem dX1_select_49 : decode cX1_select 49 = .ok (.iload_n 2, 1) := by decide +kernel
theorem dX1_select_50 : decode cX1_select 50 = .ok (.bipush (-6), 2) := by decide +kernel
theorem dX1_select_52 : decode cX1_select 52 = .ok (.if_icmp .eq 9, 3) := by decide +kernel
theorem dX1_select_55 : decode cX1_select 55 = .ok (.iload 6, 2) := by decide +kernel
theorem dX1_select_57 : decode cX1_select 57 = .ok (.iload_n 3, 1) := by decide +kernel
theorem dX1_select_58 : decode cX1_select 58 = .ok (.if_icmp .ge 9, 3) := by decide +kernel
theorem dX1_select_61 : decode cX1_select 61 = .ok (.iload 4, 2) := by decide +kernel
theorem dX1_select_63 : decode cX1_select 63 = .ok (.istore_n 2, 1) := by decide +kernel
theorem dX1_select_64 : decode cX1_select 64 = .ok (.iload 6, 2) := by decide +kernel
theorem dX1_select_66 : decode cX1_select 66 = .ok (.istore_n 3, 1) := by decide +kernel
theorem dX1_select_67 : decode cX1_select 67 = .ok (.iinc 4 1, 3) := by decide +kernel
theorem dX1_select_70 : decode cX1_select 70 = .ok (.goto (-62), 3) := by decide +kernel
theorem dX1_select_73 : decode cX1_select 73 = .ok (.aload_n 0, 1) := by decide +kernel
theorem dX1_select_74 : decode cX1_select 74 = .ok (.getfield 15, 3) := by decide +kernel
theorem dX1_select_77 : decode cX1_select 77 = .ok (.iload_n 1, 1) := by decide +kernel
theorem dX1_select_78 : decode cX1_select 78 = .ok (.iload_n 2, 1) := by decide +kernel
theorem dX1_select_79 : decode cX1_select 79 = .ok (.iastore, 1) := by decide +kernel
theorem dX1_select_80 : decode cX1_select 80 = .ok (.aload_n 0, 1) := by decide +kernel
theorem dX1_select_81 : decode cX1_select 81 = .ok (.getfield 19, 3) := by decide +kernel
theorem dX1_select_84 : decode cX1_select 84 = .ok (.iload_n 1, 1) := by decide +kernel
theorem dX1_select_85 : decode cX1_select 85 = .ok (.iconst 0, 1) := by decide +kernel
theorem dX1_select_86 : decode cX1_select 86 = .ok (.bastore, 1) := by decide +kernel
theorem dX1_select_87 : decode cX1_select 87 = .ok (.aload_n 0, 1) := by decide +kernel
theorem dX1_select_88 : decode cX1_select 88 = .ok (.iload_n 1, 1) := by decide +kernel
theorem dX1_select_89 : decode cX1_select 89 = .ok (.iload_n 2, 1) := by decide +kernel
theorem dX1_select_90 : decode cX1_select 90 = .ok (.iload_n 3, 1) := by decide +kernel
theorem dX1_select_91 : decode cX1_select 91 = .ok (.iconst 1, 1) := by decide +kernel
theorem dX1_select_92 : decode cX1_select 92 = .ok (.iadd, 1) := by decide +kernel
theorem dX1_select_93 : decode cX1_select 93 = .ok (.invokevirtual 134, 3) := by decide +kernel
theorem dX1_select_96 : decode cX1_select 96 = .ok (.return_, 1) := by decide +kernel
set_option maxRecDepth 20000 in
theorem ggX1_advertise_X0_hearNothing : GoodIn wsX1_advertise wsX0_hearNothing := goodIn_r _ [5, 6, 7, 20, 21, 22, 23, 24, 25, 26, 27] (by decide +kernel) (by decide +kernel)
set_option maxRecDepth 20000 in
theorem gX1_advertise_X0_hearNothing_n138 : GoodIn wsX1_advertise (wsX0_hearNothing) := ggX1_advertise_X0_hearNothing
set_option maxRecDepth 20000 in
theorem ggX1_advertise_X0_learn : GoodIn wsX1_advertise wsX0_learn := goodIn_r _ [10, 7, 6, 20, 21, 22, 23, 24, 25, 26, 27] (by decide +kernel) (by decide +kernel)
set_option maxRecDepth 20000 in
theorem gX1_advertise_X0_learn_n141 : GoodIn wsX1_advertise (wsX0_learn) := ggX1_advertise_X0_learn
theorem dX1_advertise_0 : decode cX1_advertise 0 = .ok (.iconst 0, 1) := by decide +kernel
theorem dX1_advertise_1 : decode cX1_advertise 1 = .ok (.istore 4, 2) := by decide +kernel
theorem dX1_advertise_3 : decode cX1_advertise 3 = .ok (.iload 4, 2) := by decide +kernel
theorem dX1_advertise_5 : decode cX1_advertise 5 = .ok (.aload_n 0, 1) := by decide +kernel
theorem dX1_advertise_6 : decode cX1_advertise 6 = .ok (.getfield 11, 3) := by decide +kernel
theorem dX1_advertise_9 : decode cX1_advertise 9 = .ok (.arraylength, 1) := by decide +kernel
theorem dX1_advertise_10 : decode cX1_advertise 10 = .ok (.if_icmp .ge 59, 3) := by decide +kernel
theorem dX1_advertise_13 : decode cX1_advertise 13 = .ok (.aload_n 0, 1) := by decide +kernel
theorem dX1_advertise_14 : decode cX1_advertise 14 = .ok (.getfield 11, 3) := by decide +kernel
theorem dX1_advertise_17 : decode cX1_advertise 17 = .ok (.iload 4, 2) := by decide +kernel
theorem dX1_advertise_19 : decode cX1_advertise 19 = .ok (.aaload, 1) := by decide +kernel
theorem dX1_advertise_20 : decode cX1_advertise 20 = .ok (.astore 5, 2) := by decide +kernel
theorem dX1_advertise_22 : decode cX1_advertise 22 = .ok (.aload 5, 2) := by decide +kernel
theorem dX1_advertise_24 : decode cX1_advertise 24 = .ok (.ifnull 39, 3) := by decide +kernel
theorem dX1_advertise_27 : decode cX1_advertise 27 = .ok (.aload 5, 2) := by decide +kernel
theorem dX1_advertise_29 : decode cX1_advertise 29 = .ok (.getfield 71, 3) := by decide +kernel
theorem dX1_advertise_32 : decode cX1_advertise 32 = .ok (.ifCond .ne 31, 3) := by decide +kernel
theorem dX1_advertise_35 : decode cX1_advertise 35 = .ok (.iload_n 2, 1) := by decide +kernel
theorem dX1_advertise_36 : decode cX1_advertise 36 = .ok (.bipush (-6), 2) := by decide +kernel
theorem dX1_advertise_38 : decode cX1_advertise 38 = .ok (.if_icmp .eq 9, 3) := by decide +kernel
theorem dX1_advertise_41 : decode cX1_advertise 41 = .ok (.iload_n 2, 1) := by decide +kernel
theorem dX1_advertise_42 : decode cX1_advertise 42 = .ok (.iload 4, 2) := by decide +kernel
theorem dX1_advertise_44 : decode cX1_advertise 44 = .ok (.if_icmp .ne 12, 3) := by decide +kernel
theorem dX1_advertise_47 : decode cX1_advertise 47 = .ok (.aload 5, 2) := by decide +kernel
theorem dX1_advertise_49 : decode cX1_advertise 49 = .ok (.iload_n 1, 1) := by decide +kernel
theorem dX1_advertise_50 : decode cX1_advertise 50 = .ok (.invokevirtual 138, 3) := by decide +kernel
theorem dX1_advertise_53 : decode cX1_advertise 53 = .ok (.goto 10, 3) := by decide +kernel
theorem dX1_advertise_56 : decode cX1_advertise 56 = .ok (.aload 5, 2) := by decide +kernel
theorem dX1_advertise_58 : decode cX1_advertise 58 = .ok (.iload_n 1, 1) := by decide +kernel
theorem dX1_advertise_59 : decode cX1_advertise 59 = .ok (.iload_n 3, 1) := by decide +kernel
theorem dX1_advertise_60 : decode cX1_advertise 60 = .ok (.invokevirtual 141, 3) := by decide +kernel
theorem dX1_advertise_63 : decode cX1_advertise 63 = .ok (.iinc 4 1, 3) := by decide +kernel
theorem dX1_advertise_66 : decode cX1_advertise 66 = .ok (.goto (-63), 3) := by decide +kernel
theorem dX1_advertise_69 : decode cX1_advertise 69 = .ok (.return_, 1) := by decide +kernel
theorem dX1_makeEntriesStale_0 : decode cX1_makeEntriesStale 0 = .ok (.iconst 0, 1) := by decide +kernel
theorem dX1_makeEntriesStale_1 : decode cX1_makeEntriesStale 1 = .ok (.istore_n 1, 1) := by decide +kernel
theorem dX1_makeEntriesStale_2 : decode cX1_makeEntriesStale 2 = .ok (.iload_n 1, 1) := by decide +kernel
theorem dX1_makeEntriesStale_3 : decode cX1_makeEntriesStale 3 = .ok (.bipush 16, 2) := by decide +kernel
theorem dX1_makeEntriesStale_5 : decode cX1_makeEntriesStale 5 = .ok (.if_icmp .ge 16, 3) := by decide +kernel
theorem dX1_makeEntriesStale_8 : decode cX1_makeEntriesStale 8 = .ok (.aload_n 0, 1) := by decide +kernel
theorem dX1_makeEntriesStale_9 : decode cX1_makeEntriesStale 9 = .ok (.getfield 19, 3) := by decide +kernel
theorem dX1_makeEntriesStale_12 : decode cX1_makeEntriesStale 12 = .ok (.iload_n 1, 1) := by decide +kernel
theorem dX1_makeEntriesStale_13 : decode cX1_makeEntriesStale 13 = .ok (.iconst 1, 1) := by decide +kernel
theorem dX1_makeEntriesStale_14 : decode cX1_makeEntriesStale 14 = .ok (.bastore, 1) := by decide +kernel
theorem dX1_makeEntriesStale_15 : decode cX1_makeEntriesStale 15 = .ok (.iinc 1 1, 3) := by decide +kernel
theorem dX1_makeEntriesStale_18 : decode cX1_makeEntriesStale 18 = .ok (.goto (-16), 3) := by decide +kernel
theorem dX1_makeEntriesStale_21 : decode cX1_makeEntriesStale 21 = .ok (.return_, 1) := by decide +kernel
theorem dX1_removeEntries_0 : decode cX1_removeEntries 0 = .ok (.iconst 0, 1) := by decide +kernel
theorem dX1_removeEntries_1 : decode cX1_removeEntries 1 = .ok (.istore_n 1, 1) := by decide +kernel
theorem dX1_removeEntries_2 : decode cX1_removeEntries 2 = .ok (.iload_n 1, 1) := by decide +kernel
theorem dX1_removeEntries_3 : decode cX1_removeEntries 3 = .ok (.bipush 16, 2) := by decide +kernel
theorem dX1_removeEntries_5 : decode cX1_removeEntries 5 = .ok (.if_icmp .ge 17, 3) := by decide +kernel
theorem dX1_removeEntries_8 : decode cX1_removeEntries 8 = .ok (.aload_n 0, 1) := by decide +kernel
theorem dX1_removeEntries_9 : decode cX1_removeEntries 9 = .ok (.getfield 15, 3) := by decide +kernel
theorem dX1_removeEntries_12 : decode cX1_removeEntries 12 = .ok (.iload_n 1, 1) := by decide +kernel
theorem dX1_removeEntries_13 : decode cX1_removeEntries 13 = .ok (.bipush (-6), 2) := by decide +kernel
theorem dX1_removeEntries_15 : decode cX1_removeEntries 15 = .ok (.iastore, 1) := by decide +kernel
theorem dX1_removeEntries_16 : decode cX1_removeEntries 16 = .ok (.iinc 1 1, 3) := by decide +kernel
theorem dX1_removeEntries_19 : decode cX1_removeEntries 19 = .ok (.goto (-17), 3) := by decide +kernel
theorem dX1_removeEntries_22 : decode cX1_removeEntries 22 = .ok (.return_, 1) := by decide +kernel
set_option maxRecDepth 20000 in
theorem ggX1_checkDeferral_X1_waitingPeers : GoodIn wsX1_checkDeferral wsX1_waitingPeers := goodIn_r _ [7, 1, 8, 9, 10, 11, 12, 13, 14, 15, 54, 55, 56, 57, 58, 59, 60, 61, 62, 63, 64, 65, 66, 67, 68, 69, 70] (by decide +kernel) (by decide +kernel)
set_option maxRecDepth 20000 in
theorem gX1_checkDeferral_X1_waitingPeers : GoodIn wsX1_checkDeferral (wsV RX1 145 RX1 yX1_waitingPeers wsX1_waitingPeers) := goodIn_app (goodIn_of _ (by decide +kernel)) ggX1_checkDeferral_X1_waitingPeers
set_option maxRecDepth 20000 in
theorem ggX1_checkDeferral_X1_endDeferral : GoodIn wsX1_checkDeferral wsX1_endDeferral := goodIn_r _ [19, 1, 2, 8, 20, 21, 22, 6, 23, 24, 25, 26, 27, 28, 29, 30, 10, 31, 32, 14, 33, 34, 35, 36, 37, 38, 39, 40, 41, 42, 43, 44, 45, 46, 47, 48, 49, 50, 51, 52, 53, 54, 55, 56, 57, 58, 59, 60, 61, 62, 63, 64, 65, 66, 67, 68, 69, 70] (by decide +kernel) (by decide +kernel)
set_option maxRecDepth 20000 in
theorem gX1_checkDeferral_X1_endDeferral : GoodIn wsX1_checkDeferral (wsV RX1 148 RX1 yX1_endDeferral wsX1_endDeferral) := goodIn_app (goodIn_of _ (by decide +kernel)) ggX1_checkDeferral_X1_endDeferral
theorem dX1_checkDeferral_0 : decode cX1_checkDeferral 0 = .ok (.aload_n 0, 1) := by decide +kernel
theorem dX1_checkDeferral_1 : decode cX1_checkDeferral 1 = .ok (.getfield 36, 3) := by decide +kernel
theorem dX1_checkDeferral_4 : decode cX1_checkDeferral 4 = .ok (.ifCond .eq 21, 3) := by decide +kernel
theorem dX1_checkDeferral_7 : decode cX1_checkDeferral 7 = .ok (.aload_n 0, 1) := by decide +kernel
theorem dX1_checkDeferral_8 : decode cX1_checkDeferral 8 = .ok (.getfield 40, 3) := by decide +kernel
theorem dX1_checkDeferral_11 : decode cX1_checkDeferral 11 = .ok (.ifCond .eq 10, 3) := by decide +kernel
theorem dX1_checkDeferral_14 : decode cX1_checkDeferral 14 = .ok (.aload_n 0, 1) := by decide +kernel
theorem dX1_checkDeferral_15 : decode cX1_checkDeferral 15 = .ok (.invokevirtual 145, 3) := by decide +kernel
theorem dX1_checkDeferral_18 : decode cX1_checkDeferral 18 = .ok (.ifCond .ne 7, 3) := by decide +kernel
theorem dX1_checkDeferral_21 : decode cX1_checkDeferral 21 = .ok (.aload_n 0, 1) := by decide +kernel
theorem dX1_checkDeferral_22 : decode cX1_checkDeferral 22 = .ok (.invokevirtual 148, 3) := by decide +kernel
theorem dX1_checkDeferral_25 : decode cX1_checkDeferral 25 = .ok (.return_, 1) := by decide +kernel
set_option maxRecDepth 20000 in
theorem ggX1_endDeferral_X1_selectAll : GoodIn wsX1_endDeferral wsX1_selectAll := goodIn_r _ [8, 9, 10, 11, 7, 12, 3, 13, 14, 15, 16, 17, 18, 19, 20, 21, 22, 23, 24, 25, 26, 27, 28, 29, 30, 31, 32, 41, 42, 43, 44, 45, 46, 47, 48, 49, 50, 51, 52, 53, 54, 55, 56, 57] (by decide +kernel) (by decide +kernel)
set_option maxRecDepth 20000 in
theorem gX1_endDeferral_X1_selectAll : GoodIn wsX1_endDeferral (wsV RX1 50 RX1 yX1_selectAll wsX1_selectAll) := goodIn_app (goodIn_of _ (by decide +kernel)) ggX1_endDeferral_X1_selectAll
set_option maxRecDepth 20000 in
theorem ggX1_endDeferral_X0_endResync : GoodIn wsX1_endDeferral wsX0_endResync := goodIn_r _ [35, 36, 37, 38, 39, 16, 40, 28, 29, 50, 51, 52, 53, 54, 55, 56, 57] (by decide +kernel) (by decide +kernel)
set_option maxRecDepth 20000 in
theorem gX1_endDeferral_X0_endResync_n90 : GoodIn wsX1_endDeferral (wsX0_endResync) := ggX1_endDeferral_X0_endResync
theorem dX1_endDeferral_0 : decode cX1_endDeferral 0 = .ok (.aload_n 0, 1) := by decide +kernel
theorem dX1_endDeferral_1 : decode cX1_endDeferral 1 = .ok (.iconst 0, 1) := by decide +kernel
theorem dX1_endDeferral_2 : decode cX1_endDeferral 2 = .ok (.putfield 36, 3) := by decide +kernel
theorem dX1_endDeferral_5 : decode cX1_endDeferral 5 = .ok (.aload_n 0, 1) := by decide +kernel
theorem dX1_endDeferral_6 : decode cX1_endDeferral 6 = .ok (.iconst 0, 1) := by decide +kernel
theorem dX1_endDeferral_7 : decode cX1_endDeferral 7 = .ok (.putfield 40, 3) := by decide +kernel
theorem dX1_endDeferral_10 : decode cX1_endDeferral 10 = .ok (.aload_n 0, 1) := by decide +kernel
theorem dX1_endDeferral_11 : decode cX1_endDeferral 11 = .ok (.invokevirtual 50, 3) := by decide +kernel
theorem dX1_endDeferral_14 : decode cX1_endDeferral 14 = .ok (.aload_n 0, 1) := by decide +kernel
theorem dX1_endDeferral_15 : decode cX1_endDeferral 15 = .ok (.getfield 11, 3) := by decide +kernel
theorem dX1_endDeferral_18 : decode cX1_endDeferral 18 = .ok (.astore_n 1, 1) := by decide +kernel
theorem dX1_endDeferral_19 : decode cX1_endDeferral 19 = .ok (.aload_n 1, 1) := by decide +kernel
theorem dX1_endDeferral_20 : decode cX1_endDeferral 20 = .ok (.arraylength, 1) := by decide +kernel
theorem dX1_endDeferral_21 : decode cX1_endDeferral 21 = .ok (.istore_n 2, 1) := by decide +kernel
theorem dX1_endDeferral_22 : decode cX1_endDeferral 22 = .ok (.iconst 0, 1) := by decide +kernel
theorem dX1_endDeferral_23 : decode cX1_endDeferral 23 = .ok (.istore_n 3, 1) := by decide +kernel
theorem dX1_endDeferral_24 : decode cX1_endDeferral 24 = .ok (.iload_n 3, 1) := by decide +kernel
theorem dX1_endDeferral_25 : decode cX1_endDeferral 25 = .ok (.iload_n 2, 1) := by decide +kernel
theorem dX1_endDeferral_26 : decode cX1_endDeferral 26 = .ok (.if_icmp .ge 32, 3) := by decide +kernel
theorem dX1_endDeferral_29 : decode cX1_endDeferral 29 = .ok (.aload_n 1, 1) := by decide +kernel
theorem dX1_endDeferral_30 : decode cX1_endDeferral 30 = .ok (.iload_n 3, 1) := by decide +kernel
theorem dX1_endDeferral_31 : decode cX1_endDeferral 31 = .ok (.aaload, 1) := by decide +kernel
theorem dX1_endDeferral_32 : decode cX1_endDeferral 32 = .ok (.astore 4, 2) := by decide +kernel
theorem dX1_endDeferral_34 : decode cX1_endDeferral 34 = .ok (.aload 4, 2) := by decide +kernel
theorem dX1_endDeferral_36 : decode cX1_endDeferral 36 = .ok (.ifnull 16, 3) := by decide +kernel
theorem dX1_endDeferral_39 : decode cX1_endDeferral 39 = .ok (.aload 4, 2) := by decide +kernel
theorem dX1_endDeferral_41 : decode cX1_endDeferral 41 = .ok (.getfield 71, 3) := by decide +kernel
theorem dX1_endDeferral_44 : decode cX1_endDeferral 44 = .ok (.ifCond .ne 8, 3) := by decide +kernel
theorem dX1_endDeferral_47 : decode cX1_endDeferral 47 = .ok (.aload 4, 2) := by decide +kernel
theorem dX1_endDeferral_49 : decode cX1_endDeferral 49 = .ok (.invokevirtual 90, 3) := by decide +kernel
theorem dX1_endDeferral_52 : decode cX1_endDeferral 52 = .ok (.iinc 3 1, 3) := by decide +kernel
theorem dX1_endDeferral_55 : decode cX1_endDeferral 55 = .ok (.goto (-31), 3) := by decide +kernel
theorem dX1_endDeferral_58 : decode cX1_endDeferral 58 = .ok (.return_, 1) := by decide +kernel
set_option maxRecDepth 20000 in
theorem ggX1_countDownPeers_X0_countDown : GoodIn wsX1_countDownPeers wsX0_countDown := goodIn_r _ [5, 6, 7, 8, 9, 10, 3, 11, 12, 13, 14, 15, 16, 17, 18, 19, 20, 21, 22, 32, 33, 34, 35, 36, 37, 38, 39] (by decide +kernel) (by decide +kernel)
set_option maxRecDepth 20000 in
theorem gX1_countDownPeers_X0_countDown_n151 : GoodIn wsX1_countDownPeers (wsX0_countDown) := ggX1_countDownPeers_X0_countDown
theorem dX1_countDownPeers_0 : decode cX1_countDownPeers 0 = .ok (.iconst 0, 1) := by decide +kernel
theorem dX1_countDownPeers_1 : decode cX1_countDownPeers 1 = .ok (.istore_n 1, 1) := by decide +kernel
theorem dX1_countDownPeers_2 : decode cX1_countDownPeers 2 = .ok (.aload_n 0, 1) := by decide +kernel
theorem dX1_countDownPeers_3 : decode cX1_countDownPeers 3 = .ok (.getfield 11, 3) := by decide +kernel
theorem dX1_countDownPeers_6 : decode cX1_countDownPeers 6 = .ok (.astore_n 2, 1) := by decide +kernel
theorem dX1_countDownPeers_7 : decode cX1_countDownPeers 7 = .ok (.aload_n 2, 1) := by decide +kernel
theorem dX1_countDownPeers_8 : decode cX1_countDownPeers 8 = .ok (.arraylength, 1) := by decide +kernel
theorem dX1_countDownPeers_9 : decode cX1_countDownPeers 9 = .ok (.istore_n 3, 1) := by decide +kernel
theorem dX1_countDownPeers_10 : decode cX1_countDownPeers 10 = .ok (.iconst 0, 1) := by decide +kernel
theorem dX1_countDownPeers_11 : decode cX1_countDownPeers 11 = .ok (.istore 4, 2) := by decide +kernel
theorem dX1_countDownPeers_13 : decode cX1_countDownPeers 13 = .ok (.iload 4, 2) := by decide +kernel
theorem dX1_countDownPeers_15 : decode cX1_countDownPeers 15 = .ok (.iload_n 3, 1) := by decide +kernel
theorem dX1_countDownPeers_16 : decode cX1_countDownPeers 16 = .ok (.if_icmp .ge 28, 3) := by decide +kernel
theorem dX1_countDownPeers_19 : decode cX1_countDownPeers 19 = .ok (.aload_n 2, 1) := by decide +kernel
theorem dX1_countDownPeers_20 : decode cX1_countDownPeers 20 = .ok (.iload 4, 2) := by decide +kernel
theorem dX1_countDownPeers_22 : decode cX1_countDownPeers 22 = .ok (.aaload, 1) := by decide +kernel
theorem dX1_countDownPeers_23 : decode cX1_countDownPeers 23 = .ok (.astore 5, 2) := by decide +kernel
theorem dX1_countDownPeers_25 : decode cX1_countDownPeers 25 = .ok (.aload 5, 2) := by decide +kernel
theorem dX1_countDownPeers_27 : decode cX1_countDownPeers 27 = .ok (.ifnull 11, 3) := by decide +kernel
theorem dX1_countDownPeers_30 : decode cX1_countDownPeers 30 = .ok (.iload_n 1, 1) := by decide +kernel
theorem dX1_countDownPeers_31 : decode cX1_countDownPeers 31 = .ok (.aload 5, 2) := by decide +kernel
theorem dX1_countDownPeers_33 : decode cX1_countDownPeers 33 = .ok (.invokevirtual 151, 3) := by decide +kernel
theorem dX1_countDownPeers_36 : decode cX1_countDownPeers 36 = .ok (.iadd, 1) := by decide +kernel
theorem dX1_countDownPeers_37 : decode cX1_countDownPeers 37 = .ok (.istore_n 1, 1) := by decide +kernel
theorem dX1_countDownPeers_38 : decode cX1_countDownPeers 38 = .ok (.iinc 4 1, 3) := by decide +kernel
theorem dX1_countDownPeers_41 : decode cX1_countDownPeers 41 = .ok (.goto (-28), 3) := by decide +kernel
theorem dX1_countDownPeers_44 : decode cX1_countDownPeers 44 = .ok (.iload_n 1, 1) := by decide +kernel
theorem dX1_countDownPeers_45 : decode cX1_countDownPeers 45 = .ok (.ireturn, 1) := by decide +kernel
theorem dX1_followPacket_0 : decode cX1_followPacket 0 = .ok (.aload_n 1, 1) := by decide +kernel
theorem dX1_followPacket_1 : decode cX1_followPacket 1 = .ok (.getfield 113, 3) := by decide +kernel
theorem dX1_followPacket_4 : decode cX1_followPacket 4 = .ok (.iload_n 3, 1) := by decide +kernel
theorem dX1_followPacket_5 : decode cX1_followPacket 5 = .ok (.iaload, 1) := by decide +kernel
theorem dX1_followPacket_6 : decode cX1_followPacket 6 = .ok (.ifCond .ne 6, 3) := by decide +kernel
theorem dX1_followPacket_9 : decode cX1_followPacket 9 = .ok (.bipush (-6), 2) := by decide +kernel
theorem dX1_followPacket_11 : decode cX1_followPacket 11 = .ok (.ireturn, 1) := by decide +kernel
theorem dX1_followPacket_12 : decode cX1_followPacket 12 = .ok (.aload_n 0, 1) := by decide +kernel
theorem dX1_followPacket_13 : decode cX1_followPacket 13 = .ok (.getfield 15, 3) := by decide +kernel
theorem dX1_followPacket_16 : decode cX1_followPacket 16 = .ok (.iload_n 3, 1) := by decide +kernel
theorem dX1_followPacket_17 : decode cX1_followPacket 17 = .ok (.iaload, 1) := by decide +kernel
theorem dX1_followPacket_18 : decode cX1_followPacket 18 = .ok (.istore 4, 2) := by decide +kernel
theorem dX1_followPacket_20 : decode cX1_followPacket 20 = .ok (.iload 4, 2) := by decide +kernel
theorem dX1_followPacket_22 : decode cX1_followPacket 22 = .ok (.bipush (-6), 2) := by decide +kernel
theorem dX1_followPacket_24 : decode cX1_followPacket 24 = .ok (.if_icmp .ne 6, 3) := by decide +kernel
theorem dX1_followPacket_27 : decode cX1_followPacket 27 = .ok (.bipush (-7), 2) := by decide +kernel
theorem dX1_followPacket_29 : decode cX1_followPacket 29 = .ok (.ireturn, 1) := by decide +kernel
theorem dX1_followPacket_30 : decode cX1_followPacket 30 = .ok (.iload 4, 2) := by decide +kernel
theorem dX1_followPacket_32 : decode cX1_followPacket 32 = .ok (.iload_n 2, 1) := by decide +kernel
theorem dX1_followPacket_33 : decode cX1_followPacket 33 = .ok (.if_icmp .ne 8, 3) := by decide +kernel
theorem dX1_followPacket_36 : decode cX1_followPacket 36 = .ok (.bipush (-8), 2) := by decide +kernel
theorem dX1_followPacket_38 : decode cX1_followPacket 38 = .ok (.goto 5, 3) := by decide +kernel
theorem dX1_followPacket_41 : decode cX1_followPacket 41 = .ok (.iload 4, 2) := by decide +kernel
theorem dX1_followPacket_43 : decode cX1_followPacket 43 = .ok (.ireturn, 1) := by decide +kernel
set_option maxRecDepth 20000 in
theorem ggX1_countLoops_X1_followPacket : GoodIn wsX1_countLoops wsX1_followPacket := goodIn_r _ [5, 6, 7, 8, 9, 10, 11, 12, 13, 14, 15, 16, 17, 18, 19, 20, 21, 22, 23] (by decide +kernel) (by decide +kernel)
set_option maxRecDepth 20000 in
theorem gX1_countLoops_X1_followPacket : GoodIn wsX1_countLoops (wsV RX1 119 RX1 yX1_followPacket wsX1_followPacket) := goodIn_app (goodIn_of _ (by decide +kernel)) ggX1_countLoops_X1_followPacket
theorem dX1_countLoops_0 : decode cX1_countLoops 0 = .ok (.iconst 0, 1) := by decide +kernel
theorem dX1_countLoops_1 : decode cX1_countLoops 1 = .ok (.istore_n 3, 1) := by decide +kernel
theorem dX1_countLoops_2 : decode cX1_countLoops 2 = .ok (.iconst 0, 1) := by decide +kernel
theorem dX1_countLoops_3 : decode cX1_countLoops 3 = .ok (.istore 4, 2) := by decide +kernel
theorem dX1_countLoops_5 : decode cX1_countLoops 5 = .ok (.iload 4, 2) := by decide +kernel
theorem dX1_countLoops_7 : decode cX1_countLoops 7 = .ok (.bipush 16, 2) := by decide +kernel
theorem dX1_countLoops_9 : decode cX1_countLoops 9 = .ok (.if_icmp .ge 25, 3) := by decide +kernel
theorem dX1_countLoops_12 : decode cX1_countLoops 12 = .ok (.aload_n 0, 1) := by decide +kernel
theorem dX1_countLoops_13 : decode cX1_countLoops 13 = .ok (.aload_n 1, 1) := by decide +kernel
theorem dX1_countLoops_14 : decode cX1_countLoops 14 = .ok (.iload_n 2, 1) := by decide +kernel
theorem dX1_countLoops_15 : decode cX1_countLoops 15 = .ok (.iload 4, 2) := by decide +kernel
theorem dX1_countLoops_17 : decode cX1_countLoops 17 = .ok (.invokevirtual 119, 3) := by decide +kernel
theorem dX1_countLoops_20 : decode cX1_countLoops 20 = .ok (.bipush (-8), 2) := by decide +kernel
theorem dX1_countLoops_22 : decode cX1_countLoops 22 = .ok (.if_icmp .ne 6, 3) := by decide +kernel
theorem dX1_countLoops_25 : decode cX1_countLoops 25 = .ok (.iinc 3 1, 3) := by decide +kernel
theorem dX1_countLoops_28 : decode cX1_countLoops 28 = .ok (.iinc 4 1, 3) := by decide +kernel
theorem dX1_countLoops_31 : decode cX1_countLoops 31 = .ok (.goto (-26), 3) := by decide +kernel
theorem dX1_countLoops_34 : decode cX1_countLoops 34 = .ok (.iload_n 3, 1) := by decide +kernel
theorem dX1_countLoops_35 : decode cX1_countLoops 35 = .ok (.ireturn, 1) := by decide +kernel

theorem dX2_init_0 : decode cX2_init 0 = .ok (.aload_n 0, 1) := by decide +kernel
theorem dX2_init_1 : decode cX2_init 1 = .ok (.invokespecial 1, 3) := by decide +kernel
theorem dX2_init_4 : decode cX2_init 4 = .ok (.aload_n 0, 1) := by decide +kernel
theorem dX2_init_5 : decode cX2_init 5 = .ok (.bipush 10, 2) := by decide +kernel
theorem dX2_init_7 : decode cX2_init 7 = .ok (.putfield 7, 3) := by decide +kernel
theorem dX2_init_10 : decode cX2_init 10 = .ok (.aload_n 0, 1) := by decide +kernel
theorem dX2_init_11 : decode cX2_init 11 = .ok (.bipush 20, 2) := by decide +kernel
theorem dX2_init_13 : decode cX2_init 13 = .ok (.putfield 13, 3) := by decide +kernel
theorem dX2_init_16 : decode cX2_init 16 = .ok (.aload_n 0, 1) := by decide +kernel
theorem dX2_init_17 : decode cX2_init 17 = .ok (.bipush 15, 2) := by decide +kernel
theorem dX2_init_19 : decode cX2_init 19 = .ok (.putfield 16, 3) := by decide +kernel
theorem dX2_init_22 : decode cX2_init 22 = .ok (.aload_n 0, 1) := by decide +kernel
theorem dX2_init_23 : decode cX2_init 23 = .ok (.iconst 5, 1) := by decide +kernel
theorem dX2_init_24 : decode cX2_init 24 = .ok (.newarray .boolean, 2) := by decide +kernel
theorem dX2_init_26 : decode cX2_init 26 = .ok (.putfield 19, 3) := by decide +kernel
theorem dX2_init_29 : decode cX2_init 29 = .ok (.aload_n 0, 1) := by decide +kernel
theorem dX2_init_30 : decode cX2_init 30 = .ok (.iconst 5, 1) := by decide +kernel
theorem dX2_init_31 : decode cX2_init 31 = .ok (.newarray .int, 2) := by decide +kernel
theorem dX2_init_33 : decode cX2_init 33 = .ok (.putfield 23, 3) := by decide +kernel
theorem dX2_init_36 : decode cX2_init 36 = .ok (.aload_n 0, 1) := by decide +kernel
theorem dX2_init_37 : decode cX2_init 37 = .ok (.iconst 5, 1) := by decide +kernel
theorem dX2_init_38 : decode cX2_init 38 = .ok (.newarray .int, 2) := by decide +kernel
theorem dX2_init_40 : decode cX2_init 40 = .ok (.putfield 27, 3) := by decide +kernel
theorem dX2_init_43 : decode cX2_init 43 = .ok (.aload_n 0, 1) := by decide +kernel
theorem dX2_init_44 : decode cX2_init 44 = .ok (.iconst 5, 1) := by decide +kernel
theorem dX2_init_45 : decode cX2_init 45 = .ok (.newarray .int, 2) := by decide +kernel
theorem dX2_init_47 : decode cX2_init 47 = .ok (.putfield 30, 3) := by decide +kernel
theorem dX2_init_50 : decode cX2_init 50 = .ok (.aload_n 0, 1) := by decide +kernel
theorem dX2_init_51 : decode cX2_init 51 = .ok (.bipush 10, 2) := by decide +kernel
theorem dX2_init_53 : decode cX2_init 53 = .ok (.newarray .boolean, 2) := by decide +kernel
theorem dX2_init_55 : decode cX2_init 55 = .ok (.putfield 33, 3) := by decide +kernel
theorem dX2_init_58 : decode cX2_init 58 = .ok (.aload_n 0, 1) := by decide +kernel
theorem dX2_init_59 : decode cX2_init 59 = .ok (.bipush 80, 2) := by decide +kernel
theorem dX2_init_61 : decode cX2_init 61 = .ok (.newarray .int, 2) := by decide +kernel
theorem dX2_init_63 : decode cX2_init 63 = .ok (.putfield 36, 3) := by decide +kernel
theorem dX2_init_66 : decode cX2_init 66 = .ok (.aload_n 0, 1) := by decide +kernel
theorem dX2_init_67 : decode cX2_init 67 = .ok (.bipush 80, 2) := by decide +kernel
theorem dX2_init_69 : decode cX2_init 69 = .ok (.newarray .int, 2) := by decide +kernel
theorem dX2_init_71 : decode cX2_init 71 = .ok (.putfield 39, 3) := by decide +kernel
theorem dX2_init_74 : decode cX2_init 74 = .ok (.aload_n 0, 1) := by decide +kernel
theorem dX2_init_75 : decode cX2_init 75 = .ok (.bipush 80, 2) := by decide +kernel
theorem dX2_init_77 : decode cX2_init 77 = .ok (.newarray .boolean, 2) := by decide +kernel
theorem dX2_init_79 : decode cX2_init 79 = .ok (.putfield 42, 3) := by decide +kernel
theorem dX2_init_82 : decode cX2_init 82 = .ok (.aload_n 0, 1) := by decide +kernel
theorem dX2_init_83 : decode cX2_init 83 = .ok (.bipush 16, 2) := by decide +kernel
theorem dX2_init_85 : decode cX2_init 85 = .ok (.newarray .int, 2) := by decide +kernel
theorem dX2_init_87 : decode cX2_init 87 = .ok (.putfield 45, 3) := by decide +kernel
theorem dX2_init_90 : decode cX2_init 90 = .ok (.aload_n 0, 1) := by decide +kernel
theorem dX2_init_91 : decode cX2_init 91 = .ok (.bipush 16, 2) := by decide +kernel
theorem dX2_init_93 : decode cX2_init 93 = .ok (.newarray .boolean, 2) := by decide +kernel
theorem dX2_init_95 : decode cX2_init 95 = .ok (.putfield 48, 3) := by decide +kernel
theorem dX2_init_98 : decode cX2_init 98 = .ok (.iconst 0, 1) := by decide +kernel
theorem dX2_init_99 : decode cX2_init 99 = .ok (.istore_n 1, 1) := by decide +kernel
theorem dX2_init_100 : decode cX2_init 100 = .ok (.iload_n 1, 1) := by decide +kernel
theorem dX2_init_101 : decode cX2_init 101 = .ok (.bipush 16, 2) := by decide +kernel
theorem dX2_init_103 : decode cX2_init 103 = .ok (.if_icmp .ge 17, 3) := by decide +kernel
theorem dX2_init_106 : decode cX2_init 106 = .ok (.aload_n 0, 1) := by decide +kernel
theorem dX2_init_107 : decode cX2_init 107 = .ok (.getfield 45, 3) := by decide +kernel
theorem dX2_init_110 : decode cX2_init 110 = .ok (.iload_n 1, 1) := by decide +kernel
theorem dX2_init_111 : decode cX2_init 111 = .ok (.bipush (-6), 2) := by decide +kernel
theorem dX2_init_113 : decode cX2_init 113 = .ok (.iastore, 1) := by decide +kernel
theorem dX2_init_114 : decode cX2_init 114 = .ok (.iinc 1 1, 3) := by decide +kernel
theorem dX2_init_117 : decode cX2_init 117 = .ok (.goto (-17), 3) := by decide +kernel
theorem dX2_init_120 : decode cX2_init 120 = .ok (.return_, 1) := by decide +kernel
theorem dX2_within_0 : decode cX2_within 0 = .ok (.iload_n 0, 1) := by decide +kernel
theorem dX2_within_1 : decode cX2_within 1 = .ok (.iload_n 1, 1) := by decide +kernel
theorem dX2_within_2 : decode cX2_within 2 = .ok (.if_icmp .lt 12, 3) := by decide +kernel
theorem dX2_within_5 : decode cX2_within 5 = .ok (.iload_n 0, 1) := by decide +kernel
theorem dX2_within_6 : decode cX2_within 6 = .ok (.iload_n 2, 1) := by decide +kernel
theorem dX2_within_7 : decode cX2_within 7 = .ok (.if_icmp .gt 7, 3) := by decide +kernel
theorem dX2_within_10 : decode cX2_within 10 = .ok (.iconst 1, 1) := by decide +kernel
theorem dX2_within_11 : decode cX2_within 11 = .ok (.goto 4, 3) := by decide +kernel
theorem dX2_within_14 : decode cX2_within 14 = .ok (.iconst 0, 1) := by decide +kernel
theorem dX2_within_15 : decode cX2_within 15 = .ok (.ireturn, 1) := by decide +kernel
set_option maxRecDepth 20000 in
theorem ggX2_isRoute_X2_within : GoodIn wsX2_isRoute wsX2_within := goodIn_r _ [4] (by decide +kernel) (by decide +kernel)
set_option maxRecDepth 20000 in
theorem gX2_isRoute_X2_within : GoodIn wsX2_isRoute (va_wsS RX2 51 yX2_within wsX2_within) := goodIn_app (goodIn_of _ (by decide +kernel)) ggX2_isRoute_X2_within
theorem dX2_isRoute_0 : decode cX2_isRoute 0 = .ok (.iload_n 0, 1) := by decide +kernel
theorem dX2_isRoute_1 : decode cX2_isRoute 1 = .ok (.iconst 0, 1) := by decide +kernel
theorem dX2_isRoute_2 : decode cX2_isRoute 2 = .ok (.iconst 1, 1) := by decide +kernel
theorem dX2_isRoute_3 : decode cX2_isRoute 3 = .ok (.invokestatic 51, 3) := by decide +kernel
theorem dX2_isRoute_6 : decode cX2_isRoute 6 = .ok (.ifCond .eq 17, 3) := by decide +kernel
theorem dX2_isRoute_9 : decode cX2_isRoute 9 = .ok (.iload_n 1, 1) := by decide +kernel
theorem dX2_isRoute_10 : decode cX2_isRoute 10 = .ok (.iconst 0, 1) := by decide +kernel
theorem dX2_isRoute_11 : decode cX2_isRoute 11 = .ok (.bipush 7, 2) := by decide +kernel
theorem dX2_isRoute_13 : decode cX2_isRoute 13 = .ok (.invokestatic 51, 3) := by decide +kernel
theorem dX2_isRoute_16 : decode cX2_isRoute 16 = .ok (.ifCond .eq 7, 3) := by decide +kernel
theorem dX2_isRoute_19 : decode cX2_isRoute 19 = .ok (.iconst 1, 1) := by decide +kernel
theorem dX2_isRoute_20 : decode cX2_isRoute 20 = .ok (.goto 4, 3) := by decide +kernel
theorem dX2_isRoute_23 : decode cX2_isRoute 23 = .ok (.iconst 0, 1) := by decide +kernel
theorem dX2_isRoute_24 : decode cX2_isRoute 24 = .ok (.ireturn, 1) := by decide +kernel
set_option maxRecDepth 20000 in
theorem ggX2_setRestartTime_X2_within : GoodIn wsX2_setRestartTime wsX2_within := goodIn_r _ [5] (by decide +kernel) (by decide +kernel)
set_option maxRecDepth 20000 in
theorem gX2_setRestartTime_X2_within : GoodIn wsX2_setRestartTime (va_wsS RX2 51 yX2_within wsX2_within) := goodIn_app (goodIn_of _ (by decide +kernel)) ggX2_setRestartTime_X2_within
theorem dX2_setRestartTime_0 : decode cX2_setRestartTime 0 = .ok (.iload_n 1, 1) := by decide +kernel
theorem dX2_setRestartTime_1 : decode cX2_setRestartTime 1 = .ok (.iconst 1, 1) := by decide +kernel
theorem dX2_setRestartTime_2 : decode cX2_setRestartTime 2 = .ok (.bipush 50, 2) := by decide +kernel
theorem dX2_setRestartTime_4 : decode cX2_setRestartTime 4 = .ok (.invokestatic 51, 3) := by decide +kernel
theorem dX2_setRestartTime_7 : decode cX2_setRestartTime 7 = .ok (.ifCond .ne 6, 3) := by decide +kernel
theorem dX2_setRestartTime_10 : decode cX2_setRestartTime 10 = .ok (.bipush (-3), 2) := by decide +kernel
theorem dX2_setRestartTime_12 : decode cX2_setRestartTime 12 = .ok (.ireturn, 1) := by decide +kernel
theorem dX2_setRestartTime_13 : decode cX2_setRestartTime 13 = .ok (.aload_n 0, 1) := by decide +kernel
theorem dX2_setRestartTime_14 : decode cX2_setRestartTime 14 = .ok (.getfield 7, 3) := by decide +kernel
theorem dX2_setRestartTime_17 : decode cX2_setRestartTime 17 = .ok (.istore_n 2, 1) := by decide +kernel
theorem dX2_setRestartTime_18 : decode cX2_setRestartTime 18 = .ok (.aload_n 0, 1) := by decide +kernel
theorem dX2_setRestartTime_19 : decode cX2_setRestartTime 19 = .ok (.iload_n 1, 1) := by decide +kernel
theorem dX2_setRestartTime_20 : decode cX2_setRestartTime 20 = .ok (.putfield 7, 3) := by decide +kernel
theorem dX2_setRestartTime_23 : decode cX2_setRestartTime 23 = .ok (.iload_n 2, 1) := by decide +kernel
theorem dX2_setRestartTime_24 : decode cX2_setRestartTime 24 = .ok (.ireturn, 1) := by decide +kernel
set_option maxRecDepth 20000 in
theorem ggX2_setStaleTime_X2_within : GoodIn wsX2_setStaleTime wsX2_within := goodIn_r _ [5] (by decide +kernel) (by decide +kernel)
set_option maxRecDepth 20000 in
theorem gX2_setStaleTime_X2_within : GoodIn wsX2_setStaleTime (va_wsS RX2 51 yX2_within wsX2_within) := goodIn_app (goodIn_of _ (by decide +kernel)) ggX2_setStaleTime_X2_within
theorem dX2_setStaleTime_0 : decode cX2_setStaleTime 0 = .ok (.iload_n 1, 1) := by decide +kernel
theorem dX2_setStaleTime_1 : decode cX2_setStaleTime 1 = .ok (.iconst 1, 1) := by decide +kernel
theorem dX2_setStaleTime_2 : decode cX2_setStaleTime 2 = .ok (.bipush 50, 2) := by decide +kernel
theorem dX2_setStaleTime_4 : decode cX2_setStaleTime 4 = .ok (.invokestatic 51, 3) := by decide +kernel
theorem dX2_setStaleTime_7 : decode cX2_setStaleTime 7 = .ok (.ifCond .ne 6, 3) := by decide +kernel
theorem dX2_setStaleTime_10 : decode cX2_setStaleTime 10 = .ok (.bipush (-3), 2) := by decide +kernel
theorem dX2_setStaleTime_12 : decode cX2_setStaleTime 12 = .ok (.ireturn, 1) := by decide +kernel
theorem dX2_setStaleTime_13 : decode cX2_setStaleTime 13 = .ok (.aload_n 0, 1) := by decide +kernel
theorem dX2_setStaleTime_14 : decode cX2_setStaleTime 14 = .ok (.getfield 13, 3) := by decide +kernel
theorem dX2_setStaleTime_17 : decode cX2_setStaleTime 17 = .ok (.istore_n 2, 1) := by decide +kernel
theorem dX2_setStaleTime_18 : decode cX2_setStaleTime 18 = .ok (.aload_n 0, 1) := by decide +kernel
theorem dX2_setStaleTime_19 : decode cX2_setStaleTime 19 = .ok (.iload_n 1, 1) := by decide +kernel
theorem dX2_setStaleTime_20 : decode cX2_setStaleTime 20 = .ok (.putfield 13, 3) := by decide +kernel
theorem dX2_setStaleTime_23 : decode cX2_setStaleTime 23 = .ok (.iload_n 2, 1) := by decide +kernel
theorem dX2_setStaleTime_24 : decode cX2_setStaleTime 24 = .ok (.ireturn, 1) := by decide +kernel
set_option maxRecDepth 20000 in
theorem ggX2_setDeferralTime_X2_within : GoodIn wsX2_setDeferralTime wsX2_within := goodIn_r _ [5] (by decide +kernel) (by decide +kernel)
set_option maxRecDepth 20000 in
theorem gX2_setDeferralTime_X2_within : GoodIn wsX2_setDeferralTime (va_wsS RX2 51 yX2_within wsX2_within) := goodIn_app (goodIn_of _ (by decide +kernel)) ggX2_setDeferralTime_X2_within
theorem dX2_setDeferralTime_0 : decode cX2_setDeferralTime 0 = .ok (.iload_n 1, 1) := by decide +kernel
theorem dX2_setDeferralTime_1 : decode cX2_setDeferralTime 1 = .ok (.iconst 1, 1) := by decide +kernel
theorem dX2_setDeferralTime_2 : decode cX2_setDeferralTime 2 = .ok (.bipush 50, 2) := by decide +kernel
theorem dX2_setDeferralTime_4 : decode cX2_setDeferralTime 4 = .ok (.invokestatic 51, 3) := by decide +kernel
theorem dX2_setDeferralTime_7 : decode cX2_setDeferralTime 7 = .ok (.ifCond .ne 6, 3) := by decide +kernel
theorem dX2_setDeferralTime_10 : decode cX2_setDeferralTime 10 = .ok (.bipush (-3), 2) := by decide +kernel
theorem dX2_setDeferralTime_12 : decode cX2_setDeferralTime 12 = .ok (.ireturn, 1) := by decide +kernel
theorem dX2_setDeferralTime_13 : decode cX2_setDeferralTime 13 = .ok (.aload_n 0, 1) := by decide +kernel
theorem dX2_setDeferralTime_14 : decode cX2_setDeferralTime 14 = .ok (.getfield 16, 3) := by decide +kernel
theorem dX2_setDeferralTime_17 : decode cX2_setDeferralTime 17 = .ok (.istore_n 2, 1) := by decide +kernel
theorem dX2_setDeferralTime_18 : decode cX2_setDeferralTime 18 = .ok (.aload_n 0, 1) := by decide +kernel
theorem dX2_setDeferralTime_19 : decode cX2_setDeferralTime 19 = .ok (.iload_n 1, 1) := by decide +kernel
theorem dX2_setDeferralTime_20 : decode cX2_setDeferralTime 20 = .ok (.putfield 16, 3) := by decide +kernel
theorem dX2_setDeferralTime_23 : decode cX2_setDeferralTime 23 = .ok (.iload_n 2, 1) := by decide +kernel
theorem dX2_setDeferralTime_24 : decode cX2_setDeferralTime 24 = .ok (.ireturn, 1) := by decide +kernel
set_option maxRecDepth 20000 in
theorem ggX2_isPeer_X2_within : GoodIn wsX2_isPeer wsX2_within := goodIn_r _ [5] (by decide +kernel) (by decide +kernel)
set_option maxRecDepth 20000 in
theorem gX2_isPeer_X2_within : GoodIn wsX2_isPeer (va_wsS RX2 51 yX2_within wsX2_within) := goodIn_app (goodIn_of _ (by decide +kernel)) ggX2_isPeer_X2_within
theorem dX2_isPeer_0 : decode cX2_isPeer 0 = .ok (.iload_n 1, 1) := by decide +kernel
theorem dX2_isPeer_1 : decode cX2_isPeer 1 = .ok (.iconst 0, 1) := by decide +kernel
theorem dX2_isPeer_2 : decode cX2_isPeer 2 = .ok (.aload_n 0, 1) := by decide +kernel
theorem dX2_isPeer_3 : decode cX2_isPeer 3 = .ok (.getfield 55, 3) := by decide +kernel
theorem dX2_isPeer_6 : decode cX2_isPeer 6 = .ok (.iconst 1, 1) := by decide +kernel
theorem dX2_isPeer_7 : decode cX2_isPeer 7 = .ok (.isub, 1) := by decide +kernel
theorem dX2_isPeer_8 : decode cX2_isPeer 8 = .ok (.invokestatic 51, 3) := by decide +kernel
theorem dX2_isPeer_11 : decode cX2_isPeer 11 = .ok (.ireturn, 1) := by decide +kernel
theorem dX2_bestPeer_0 : decode cX2_bestPeer 0 = .ok (.bipush (-6), 2) := by decide +kernel
theorem dX2_bestPeer_2 : decode cX2_bestPeer 2 = .ok (.istore_n 2, 1) := by decide +kernel
theorem dX2_bestPeer_3 : decode cX2_bestPeer 3 = .ok (.iconst 0, 1) := by decide +kernel
theorem dX2_bestPeer_4 : decode cX2_bestPeer 4 = .ok (.istore_n 3, 1) := by decide +kernel
theorem dX2_bestPeer_5 : decode cX2_bestPeer 5 = .ok (.iload_n 3, 1) := by decide +kernel
theorem dX2_bestPeer_6 : decode cX2_bestPeer 6 = .ok (.aload_n 0, 1) := by decide +kernel
theorem dX2_bestPeer_7 : decode cX2_bestPeer 7 = .ok (.getfield 55, 3) := by decide +kernel
theorem dX2_bestPeer_10 : decode cX2_bestPeer 10 = .ok (.if_icmp .ge 81, 3) := by decide +kernel
theorem dX2_bestPeer_13 : decode cX2_bestPeer 13 = .ok (.aload_n 0, 1) := by decide +kernel
theorem dX2_bestPeer_14 : decode cX2_bestPeer 14 = .ok (.getfield 23, 3) := by decide +kernel
theorem dX2_bestPeer_17 : decode cX2_bestPeer 17 = .ok (.iload_n 3, 1) := by decide +kernel
theorem dX2_bestPeer_18 : decode cX2_bestPeer 18 = .ok (.iaload, 1) := by decide +kernel
theorem dX2_bestPeer_19 : decode cX2_bestPeer 19 = .ok (.ifCond .ne 21, 3) := by decide +kernel
theorem dX2_bestPeer_22 : decode cX2_bestPeer 22 = .ok (.aload_n 0, 1) := by decide +kernel
theorem dX2_bestPeer_23 : decode cX2_bestPeer 23 = .ok (.getfield 36, 3) := by decide +kernel
theorem dX2_bestPeer_26 : decode cX2_bestPeer 26 = .ok (.bipush 16, 2) := by decide +kernel
theorem dX2_bestPeer_28 : decode cX2_bestPeer 28 = .ok (.iload_n 3, 1) := by decide +kernel
theorem dX2_bestPeer_29 : decode cX2_bestPeer 29 = .ok (.imul, 1) := by decide +kernel
theorem dX2_bestPeer_30 : decode cX2_bestPeer 30 = .ok (.iload_n 1, 1) := by decide +kernel
theorem dX2_bestPeer_31 : decode cX2_bestPeer 31 = .ok (.iadd, 1) := by decide +kernel
theorem dX2_bestPeer_32 : decode cX2_bestPeer 32 = .ok (.iaload, 1) := by decide +kernel
theorem dX2_bestPeer_33 : decode cX2_bestPeer 33 = .ok (.ifCond .le 7, 3) := by decide +kernel
theorem dX2_bestPeer_36 : decode cX2_bestPeer 36 = .ok (.iconst 1, 1) := by decide +kernel
theorem dX2_bestPeer_37 : decode cX2_bestPeer 37 = .ok (.goto 4, 3) := by decide +kernel
theorem dX2_bestPeer_40 : decode cX2_bestPeer 40 = .ok (.iconst 0, 1) := by decide +kernel
theorem dX2_bestPeer_41 : decode cX2_bestPeer 41 = .ok (.istore 4, 2) := by decide +kernel
theorem dX2_bestPeer_43 : decode cX2_bestPeer 43 = .ok (.iload 4, 2) := by decide +kernel
theorem dX2_bestPeer_45 : decode cX2_bestPeer 45 = .ok (.ifCond .eq 38, 3) := by decide +kernel
theorem dX2_bestPeer_48 : decode cX2_bestPeer 48 = .ok (.iload_n 2, 1) := by decide +kernel
theorem dX2_bestPeer_49 : decode cX2_bestPeer 49 = .ok (.bipush (-6), 2) := by decide +kernel
theorem dX2_bestPeer_51 : decode cX2_bestPeer 51 = .ok (.if_icmp .eq 28, 3) := by decide +kernel
theorem dX2_bestPeer_54 : decode cX2_bestPeer 54 = .ok (.aload_n 0, 1) := by decide +kernel
theorem dX2_bestPeer_55 : decode cX2_bestPeer 55 = .ok (.getfield 36, 3) := by decide +kernel
theorem dX2_bestPeer_58 : decode cX2_bestPeer 58 = .ok (.bipush 16, 2) := by decide +kernel
theorem dX2_bestPeer_60 : decode cX2_bestPeer 60 = .ok (.iload_n 3, 1) := by decide +kernel
theorem dX2_bestPeer_61 : decode cX2_bestPeer 61 = .ok (.imul, 1) := by decide +kernel
theorem dX2_bestPeer_62 : decode cX2_bestPeer 62 = .ok (.iload_n 1, 1) := by decide +kernel
theorem dX2_bestPeer_63 : decode cX2_bestPeer 63 = .ok (.iadd, 1) := by decide +kernel
theorem dX2_bestPeer_64 : decode cX2_bestPeer 64 = .ok (.iaload, 1) := by decide +kernel
theorem dX2_bestPeer_65 : decode cX2_bestPeer 65 = .ok (.aload_n 0, 1) := by decide +kernel
theorem dX2_bestPeer_66 : decode cX2_bestPeer 66 = .ok (.getfield 36, 3) := by decide +kernel
theorem dX2_bestPeer_69 : decode cX2_bestPeer 69 = .ok (.bipush 16, 2) := by decide +kernel
theorem dX2_bestPeer_71 : decode cX2_bestPeer 71 = .ok (.iload_n 2, 1) := by decide +kernel
theorem dX2_bestPeer_72 : decode cX2_bestPeer 72 = .ok (.imul, 1) := by decide +kernel
theorem dX2_bestPeer_73 : decode cX2_bestPeer 73 = .ok (.iload_n 1, 1) := by decide +kernel
theorem dX2_bestPeer_74 : decode cX2_bestPeer 74 = .ok (.iadd, 1) := by decide +kernel
theorem dX2_bestPeer_75 : decode cX2_bestPeer 75 = .ok (.iaload, 1) := by decide +kernel
theorem dX2_bestPeer_76 : decode cX2_bestPeer 76 = .ok (.if_icmp .ge 7, 3) := by decide +kernel
theorem dX2_bestPeer_79 : decode cX2_bestPeer 79 = .ok (.iload_n 3, 1) := by decide +kernel
theorem dX2_bestPeer_80 : decode cX2_bestPeer 80 = .ok (.goto 4, 3) := by decide +kernel
theorem dX2_bestPeer_83 : decode cX2_bestPeer 83 = .ok (.iload_n 2, 1) := by decide +kernel
theorem dX2_bestPeer_84 : decode cX2_bestPeer 84 = .ok (.istore_n 2, 1) := by decide +kernel
theorem dX2_bestPeer_85 : decode cX2_bestPeer 85 = .ok (.iinc 3 1, 3) := by decide +kernel
theorem dX2_bestPeer_88 : decode cX2_bestPeer 88 = .ok (.goto (-83), 3) := by decide +kernel
theorem dX2_bestPeer_91 : decode cX2_bestPeer 91 = .ok (.iload_n 2, 1) := by decide +kernel
theorem dX2_bestPeer_92 : decode cX2_bestPeer 92 = .ok (.ireturn, 1) := by decide +kernel
theorem dX2_updates_0 : decode cX2_updates 0 = .ok (.bipush 16, 2) := by decide +kernel
theorem dX2_updates_2 : decode cX2_updates 2 = .ok (.iload_n 1, 1) := by decide +kernel
theorem dX2_updates_3 : decode cX2_updates 3 = .ok (.imul, 1) := by decide +kernel
theorem dX2_updates_4 : decode cX2_updates 4 = .ok (.iload_n 2, 1) := by decide +kernel
theorem dX2_updates_5 : decode cX2_updates 5 = .ok (.iadd, 1) := by decide +kernel
theorem dX2_updates_6 : decode cX2_updates 6 = .ok (.istore 4, 2) := by decide +kernel
theorem dX2_updates_8 : decode cX2_updates 8 = .ok (.iload_n 3, 1) := by decide +kernel
theorem dX2_updates_9 : decode cX2_updates 9 = .ok (.bipush (-6), 2) := by decide +kernel
theorem dX2_updates_11 : decode cX2_updates 11 = .ok (.if_icmp .eq 39, 3) := by decide +kernel
theorem dX2_updates_14 : decode cX2_updates 14 = .ok (.iload_n 3, 1) := by decide +kernel
theorem dX2_updates_15 : decode cX2_updates 15 = .ok (.iload_n 1, 1) := by decide +kernel
theorem dX2_updates_16 : decode cX2_updates 16 = .ok (.if_icmp .eq 34, 3) := by decide +kernel
theorem dX2_updates_19 : decode cX2_updates 19 = .ok (.aload_n 0, 1) := by decide +kernel
theorem dX2_updates_20 : decode cX2_updates 20 = .ok (.getfield 39, 3) := by decide +kernel
theorem dX2_updates_23 : decode cX2_updates 23 = .ok (.iload 4, 2) := by decide +kernel
theorem dX2_updates_25 : decode cX2_updates 25 = .ok (.aload_n 0, 1) := by decide +kernel
theorem dX2_updates_26 : decode cX2_updates 26 = .ok (.getfield 36, 3) := by decide +kernel
theorem dX2_updates_29 : decode cX2_updates 29 = .ok (.bipush 16, 2) := by decide +kernel
theorem dX2_updates_31 : decode cX2_updates 31 = .ok (.iload_n 3, 1) := by decide +kernel
theorem dX2_updates_32 : decode cX2_updates 32 = .ok (.imul, 1) := by decide +kernel
theorem dX2_updates_33 : decode cX2_updates 33 = .ok (.iload_n 2, 1) := by decide +kernel
theorem dX2_updates_34 : decode cX2_updates 34 = .ok (.iadd, 1) := by decide +kernel
theorem dX2_updates_35 : decode cX2_updates 35 = .ok (.iaload, 1) := by decide +kernel
theorem dX2_updates_36 : decode cX2_updates 36 = .ok (.iconst 1, 1) := by decide +kernel
theorem dX2_updates_37 : decode cX2_updates 37 = .ok (.iadd, 1) := by decide +kernel
theorem dX2_updates_38 : decode cX2_updates 38 = .ok (.iastore, 1) := by decide +kernel
theorem dX2_updates_39 : decode cX2_updates 39 = .ok (.aload_n 0, 1) := by decide +kernel
theorem dX2_updates_40 : decode cX2_updates 40 = .ok (.getfield 42, 3) := by decide +kernel
theorem dX2_updates_43 : decode cX2_updates 43 = .ok (.iload 4, 2) := by decide +kernel
theorem dX2_updates_45 : decode cX2_updates 45 = .ok (.iconst 0, 1) := by decide +kernel
theorem dX2_updates_46 : decode cX2_updates 46 = .ok (.bastore, 1) := by decide +kernel
theorem dX2_updates_47 : decode cX2_updates 47 = .ok (.goto 21, 3) := by decide +kernel
theorem dX2_updates_50 : decode cX2_updates 50 = .ok (.aload_n 0, 1) := by decide +kernel
theorem dX2_updates_51 : decode cX2_updates 51 = .ok (.getfield 42, 3) := by decide +kernel
theorem dX2_updates_54 : decode cX2_updates 54 = .ok (.iload 4, 2) := by decide +kernel
theorem dX2_updates_56 : decode cX2_updates 56 = .ok (.baload, 1) := by decide +kernel
theorem dX2_updates_57 : decode cX2_updates 57 = .ok (.ifCond .ne 11, 3) := by decide +kernel
theorem dX2_updates_60 : decode cX2_updates 60 = .ok (.aload_n 0, 1) := by decide +kernel
theorem dX2_updates_61 : decode cX2_updates 61 = .ok (.getfield 39, 3) := by decide +kernel
theorem dX2_updates_64 : decode cX2_updates 64 = .ok (.iload 4, 2) := by decide +kernel
theorem dX2_updates_66 : decode cX2_updates 66 = .ok (.iconst 0, 1) := by decide +kernel
theorem dX2_updates_67 : decode cX2_updates 67 = .ok (.iastore, 1) := by decide +kernel
theorem dX2_updates_68 : decode cX2_updates 68 = .ok (.return_, 1) := by decide +kernel
set_option maxRecDepth 20000 in
theorem ggX2_selects_X2_bestPeer : GoodIn wsX2_selects wsX2_bestPeer := goodIn_r _ [9, 3, 4, 10, 17, 18, 19, 20, 21, 22, 23, 24, 25, 26, 27, 28, 29, 30, 31, 32] (by decide +kernel) (by decide +kernel)
set_option maxRecDepth 20000 in
theorem gX2_selects_X2_bestPeer : GoodIn wsX2_selects (wsV RX2 58 RX2 yX2_bestPeer wsX2_bestPeer) := goodIn_app (goodIn_of _ (by decide +kernel)) ggX2_selects_X2_bestPeer
set_option maxRecDepth 20000 in
theorem ggX2_selects_X2_updates : GoodIn wsX2_selects wsX2_updates := goodIn_r _ [14, 15, 10, 16, 17, 18, 19, 20, 21, 22, 23, 24, 25, 26, 27, 28, 29, 30, 31, 32] (by decide +kernel) (by decide +kernel)
set_option maxRecDepth 20000 in
theorem gX2_selects_X2_updates : GoodIn wsX2_selects (wsV RX2 62 RX2 yX2_updates wsX2_updates) := goodIn_app (goodIn_of _ (by decide +kernel)) ggX2_selects_X2_updates
theorem dX2_selects_0 : decode cX2_selects 0 = .ok (.aload_n 0, 1) := by decide +kernel
theorem dX2_selects_1 : decode cX2_selects 1 = .ok (.iload_n 1, 1) := by decide +kernel
theorem dX2_selects_2 : decode cX2_selects 2 = .ok (.invokevirtual 58, 3) := by decide +kernel
theorem dX2_selects_5 : decode cX2_selects 5 = .ok (.istore_n 2, 1) := by decide +kernel
theorem dX2_selects_6 : decode cX2_selects 6 = .ok (.aload_n 0, 1) := by decide +kernel
theorem dX2_selects_7 : decode cX2_selects 7 = .ok (.getfield 45, 3) := by decide +kernel
theorem dX2_selects_10 : decode cX2_selects 10 = .ok (.iload_n 1, 1) := by decide +kernel
theorem dX2_selects_11 : decode cX2_selects 11 = .ok (.iload_n 2, 1) := by decide +kernel
theorem dX2_selects_12 : decode cX2_selects 12 = .ok (.iastore, 1) := by decide +kernel
theorem dX2_selects_13 : decode cX2_selects 13 = .ok (.aload_n 0, 1) := by decide +kernel
theorem dX2_selects_14 : decode cX2_selects 14 = .ok (.getfield 48, 3) := by decide +kernel
theorem dX2_selects_17 : decode cX2_selects 17 = .ok (.iload_n 1, 1) := by decide +kernel
theorem dX2_selects_18 : decode cX2_selects 18 = .ok (.iconst 0, 1) := by decide +kernel
theorem dX2_selects_19 : decode cX2_selects 19 = .ok (.bastore, 1) := by decide +kernel
theorem dX2_selects_20 : decode cX2_selects 20 = .ok (.iconst 0, 1) := by decide +kernel
theorem dX2_selects_21 : decode cX2_selects 21 = .ok (.istore_n 3, 1) := by decide +kernel
theorem dX2_selects_22 : decode cX2_selects 22 = .ok (.iload_n 3, 1) := by decide +kernel
theorem dX2_selects_23 : decode cX2_selects 23 = .ok (.aload_n 0, 1) := by decide +kernel
theorem dX2_selects_24 : decode cX2_selects 24 = .ok (.getfield 55, 3) := by decide +kernel
theorem dX2_selects_27 : decode cX2_selects 27 = .ok (.if_icmp .ge 25, 3) := by decide +kernel
theorem dX2_selects_30 : decode cX2_selects 30 = .ok (.aload_n 0, 1) := by decide +kernel
theorem dX2_selects_31 : decode cX2_selects 31 = .ok (.getfield 23, 3) := by decide +kernel
theorem dX2_selects_34 : decode cX2_selects 34 = .ok (.iload_n 3, 1) := by decide +kernel
theorem dX2_selects_35 : decode cX2_selects 35 = .ok (.iaload, 1) := by decide +kernel
theorem dX2_selects_36 : decode cX2_selects 36 = .ok (.ifCond .ne 10, 3) := by decide +kernel
theorem dX2_selects_39 : decode cX2_selects 39 = .ok (.aload_n 0, 1) := by decide +kernel
theorem dX2_selects_40 : decode cX2_selects 40 = .ok (.iload_n 3, 1) := by decide +kernel
theorem dX2_selects_41 : decode cX2_selects 41 = .ok (.iload_n 1, 1) := by decide +kernel
theorem dX2_selects_42 : decode cX2_selects 42 = .ok (.iload_n 2, 1) := by decide +kernel
theorem dX2_selects_43 : decode cX2_selects 43 = .ok (.invokevirtual 62, 3) := by decide +kernel
theorem dX2_selects_46 : decode cX2_selects 46 = .ok (.iinc 3 1, 3) := by decide +kernel
theorem dX2_selects_49 : decode cX2_selects 49 = .ok (.goto (-27), 3) := by decide +kernel
theorem dX2_selects_52 : decode cX2_selects 52 = .ok (.return_, 1) := by decide +kernel
set_option maxRecDepth 20000 in
theorem ggX2_selectsAll_X2_selects : GoodIn wsX2_selectsAll wsX2_selects := goodIn_r _ [5, 6, 7, 8, 9, 10, 11, 12, 4, 13, 14, 15, 16, 17, 18, 19, 20, 21, 22, 23, 24, 25, 26, 27, 28, 29, 30, 31, 32, 33, 34, 35, 36] (by decide +kernel) (by decide +kernel)
set_option maxRecDepth 20000 in
theorem gX2_selectsAll_X2_selects : GoodIn wsX2_selectsAll (wsV RX2 66 RX2 yX2_selects wsX2_selects) := goodIn_app (goodIn_of _ (by decide +kernel)) ggX2_selectsAll_X2_selects
theorem dX2_selectsAll_0 : decode cX2_selectsAll 0 = .ok (.iconst 0, 1) := by decide +kernel
theorem dX2_selectsAll_1 : decode cX2_selectsAll 1 = .ok (.istore_n 1, 1) := by decide +kernel
theorem dX2_selectsAll_2 : decode cX2_selectsAll 2 = .ok (.iload_n 1, 1) := by decide +kernel
theorem dX2_selectsAll_3 : decode cX2_selectsAll 3 = .ok (.bipush 16, 2) := by decide +kernel
theorem dX2_selectsAll_5 : decode cX2_selectsAll 5 = .ok (.if_icmp .ge 14, 3) := by decide +kernel
theorem dX2_selectsAll_8 : decode cX2_selectsAll 8 = .ok (.aload_n 0, 1) := by decide +kernel
theorem dX2_selectsAll_9 : decode cX2_selectsAll 9 = .ok (.iload_n 1, 1) := by decide +kernel
theorem dX2_selectsAll_10 : decode cX2_selectsAll 10 = .ok (.invokevirtual 66, 3) := by decide +kernel
theorem dX2_selectsAll_13 : decode cX2_selectsAll 13 = .ok (.iinc 1 1, 3) := by decide +kernel
theorem dX2_selectsAll_16 : decode cX2_selectsAll 16 = .ok (.goto (-14), 3) := by decide +kernel
theorem dX2_selectsAll_19 : decode cX2_selectsAll 19 = .ok (.return_, 1) := by decide +kernel
theorem dX2_forgets_0 : decode cX2_forgets 0 = .ok (.iconst 0, 1) := by decide +kernel
theorem dX2_forgets_1 : decode cX2_forgets 1 = .ok (.istore_n 3, 1) := by decide +kernel
theorem dX2_forgets_2 : decode cX2_forgets 2 = .ok (.bipush 16, 2) := by decide +kernel
theorem dX2_forgets_4 : decode cX2_forgets 4 = .ok (.iload_n 1, 1) := by decide +kernel
theorem dX2_forgets_5 : decode cX2_forgets 5 = .ok (.imul, 1) := by decide +kernel
theorem dX2_forgets_6 : decode cX2_forgets 6 = .ok (.istore 4, 2) := by decide +kernel
theorem dX2_forgets_8 : decode cX2_forgets 8 = .ok (.iload 4, 2) := by decide +kernel
theorem dX2_forgets_10 : decode cX2_forgets 10 = .ok (.bipush 16, 2) := by decide +kernel
theorem dX2_forgets_12 : decode cX2_forgets 12 = .ok (.iload_n 1, 1) := by decide +kernel
theorem dX2_forgets_13 : decode cX2_forgets 13 = .ok (.iconst 1, 1) := by decide +kernel
theorem dX2_forgets_14 : decode cX2_forgets 14 = .ok (.iadd, 1) := by decide +kernel
theorem dX2_forgets_15 : decode cX2_forgets 15 = .ok (.imul, 1) := by decide +kernel
theorem dX2_forgets_16 : decode cX2_forgets 16 = .ok (.if_icmp .ge 52, 3) := by decide +kernel
theorem dX2_forgets_19 : decode cX2_forgets 19 = .ok (.aload_n 0, 1) := by decide +kernel
theorem dX2_forgets_20 : decode cX2_forgets 20 = .ok (.getfield 39, 3) := by decide +kernel
theorem dX2_forgets_23 : decode cX2_forgets 23 = .ok (.iload 4, 2) := by decide +kernel
theorem dX2_forgets_25 : decode cX2_forgets 25 = .ok (.iaload, 1) := by decide +kernel
theorem dX2_forgets_26 : decode cX2_forgets 26 = .ok (.ifCond .le 36, 3) := by decide +kernel
theorem dX2_forgets_29 : decode cX2_forgets 29 = .ok (.iload_n 2, 1) := by decide +kernel
theorem dX2_forgets_30 : decode cX2_forgets 30 = .ok (.ifCond .eq 13, 3) := by decide +kernel
theorem dX2_forgets_33 : decode cX2_forgets 33 = .ok (.aload_n 0, 1) := by decide +kernel
theorem dX2_forgets_34 : decode cX2_forgets 34 = .ok (.getfield 42, 3) := by decide +kernel
theorem dX2_forgets_37 : decode cX2_forgets 37 = .ok (.iload 4, 2) := by decide +kernel
theorem dX2_forgets_39 : decode cX2_forgets 39 = .ok (.baload, 1) := by decide +kernel
theorem dX2_forgets_40 : decode cX2_forgets 40 = .ok (.ifCond .eq 22, 3) := by decide +kernel
theorem dX2_forgets_43 : decode cX2_forgets 43 = .ok (.aload_n 0, 1) := by decide +kernel
theorem dX2_forgets_44 : decode cX2_forgets 44 = .ok (.getfield 39, 3) := by decide +kernel
theorem dX2_forgets_47 : decode cX2_forgets 47 = .ok (.iload 4, 2) := by decide +kernel
theorem dX2_forgets_49 : decode cX2_forgets 49 = .ok (.iconst 0, 1) := by decide +kernel
theorem dX2_forgets_50 : decode cX2_forgets 50 = .ok (.iastore, 1) := by decide +kernel
theorem dX2_forgets_51 : decode cX2_forgets 51 = .ok (.aload_n 0, 1) := by decide +kernel
theorem dX2_forgets_52 : decode cX2_forgets 52 = .ok (.getfield 42, 3) := by decide +kernel
theorem dX2_forgets_55 : decode cX2_forgets 55 = .ok (.iload 4, 2) := by decide +kernel
theorem dX2_forgets_57 : decode cX2_forgets 57 = .ok (.iconst 0, 1) := by decide +kernel
theorem dX2_forgets_58 : decode cX2_forgets 58 = .ok (.bastore, 1) := by decide +kernel
theorem dX2_forgets_59 : decode cX2_forgets 59 = .ok (.iinc 3 1, 3) := by decide +kernel
theorem dX2_forgets_62 : decode cX2_forgets 62 = .ok (.iinc 4 1, 3) := by decide +kernel
theorem dX2_forgets_65 : decode cX2_forgets 65 = .ok (.goto (-57), 3) := by decide +kernel
theorem dX2_forgets_68 : decode cX2_forgets 68 = .ok (.iload_n 3, 1) := by decide +kernel
theorem dX2_forgets_69 : decode cX2_forgets 69 = .ok (.ireturn, 1) := by decide +kernel
theorem dX2_waiting_0 : decode cX2_waiting 0 = .ok (.iconst 0, 1) := by decide +kernel
theorem dX2_waiting_1 : decode cX2_waiting 1 = .ok (.istore_n 1, 1) := by decide +kernel
theorem dX2_waiting_2 : decode cX2_waiting 2 = .ok (.iconst 0, 1) := by decide +kernel
theorem dX2_waiting_3 : decode cX2_waiting 3 = .ok (.istore_n 2, 1) := by decide +kernel
theorem dX2_waiting_4 : decode cX2_waiting 4 = .ok (.iload_n 2, 1) := by decide +kernel
theorem dX2_waiting_5 : decode cX2_waiting 5 = .ok (.aload_n 0, 1) := by decide +kernel
theorem dX2_waiting_6 : decode cX2_waiting 6 = .ok (.getfield 55, 3) := by decide +kernel
theorem dX2_waiting_9 : decode cX2_waiting 9 = .ok (.if_icmp .ge 72, 3) := by decide +kernel
theorem dX2_waiting_12 : decode cX2_waiting 12 = .ok (.aload_n 0, 1) := by decide +kernel
theorem dX2_waiting_13 : decode cX2_waiting 13 = .ok (.getfield 19, 3) := by decide +kernel
theorem dX2_waiting_16 : decode cX2_waiting 16 = .ok (.iload_n 2, 1) := by decide +kernel
theorem dX2_waiting_17 : decode cX2_waiting 17 = .ok (.baload, 1) := by decide +kernel
theorem dX2_waiting_18 : decode cX2_waiting 18 = .ok (.ifCond .eq 41, 3) := by decide +kernel
theorem dX2_waiting_21 : decode cX2_waiting 21 = .ok (.aload_n 0, 1) := by decide +kernel
theorem dX2_waiting_22 : decode cX2_waiting 22 = .ok (.getfield 23, 3) := by decide +kernel
theorem dX2_waiting_25 : decode cX2_waiting 25 = .ok (.iload_n 2, 1) := by decide +kernel
theorem dX2_waiting_26 : decode cX2_waiting 26 = .ok (.iaload, 1) := by decide +kernel
theorem dX2_waiting_27 : decode cX2_waiting 27 = .ok (.iconst 2, 1) := by decide +kernel
theorem dX2_waiting_28 : decode cX2_waiting 28 = .ok (.if_icmp .eq 31, 3) := by decide +kernel
theorem dX2_waiting_31 : decode cX2_waiting 31 = .ok (.aload_n 0, 1) := by decide +kernel
theorem dX2_waiting_32 : decode cX2_waiting 32 = .ok (.getfield 33, 3) := by decide +kernel
theorem dX2_waiting_35 : decode cX2_waiting 35 = .ok (.iconst 2, 1) := by decide +kernel
theorem dX2_waiting_36 : decode cX2_waiting 36 = .ok (.iload_n 2, 1) := by decide +kernel
theorem dX2_waiting_37 : decode cX2_waiting 37 = .ok (.imul, 1) := by decide +kernel
theorem dX2_waiting_38 : decode cX2_waiting 38 = .ok (.baload, 1) := by decide +kernel
theorem dX2_waiting_39 : decode cX2_waiting 39 = .ok (.ifCond .eq 16, 3) := by decide +kernel
theorem dX2_waiting_42 : decode cX2_waiting 42 = .ok (.aload_n 0, 1) := by decide +kernel
theorem dX2_waiting_43 : decode cX2_waiting 43 = .ok (.getfield 33, 3) := by decide +kernel
theorem dX2_waiting_46 : decode cX2_waiting 46 = .ok (.iconst 2, 1) := by decide +kernel
theorem dX2_waiting_47 : decode cX2_waiting 47 = .ok (.iload_n 2, 1) := by decide +kernel
theorem dX2_waiting_48 : decode cX2_waiting 48 = .ok (.imul, 1) := by decide +kernel
theorem dX2_waiting_49 : decode cX2_waiting 49 = .ok (.iconst 1, 1) := by decide +kernel
theorem dX2_waiting_50 : decode cX2_waiting 50 = .ok (.iadd, 1) := by decide +kernel
theorem dX2_waiting_51 : decode cX2_waiting 51 = .ok (.baload, 1) := by decide +kernel
theorem dX2_waiting_52 : decode cX2_waiting 52 = .ok (.ifCond .ne 7, 3) := by decide +kernel
theorem dX2_waiting_55 : decode cX2_waiting 55 = .ok (.iconst 1, 1) := by decide +kernel
theorem dX2_waiting_56 : decode cX2_waiting 56 = .ok (.goto 4, 3) := by decide +kernel
theorem dX2_waiting_59 : decode cX2_waiting 59 = .ok (.iconst 0, 1) := by decide +kernel
theorem dX2_waiting_60 : decode cX2_waiting 60 = .ok (.istore_n 3, 1) := by decide +kernel
theorem dX2_waiting_61 : decode cX2_waiting 61 = .ok (.iload_n 1, 1) := by decide +kernel
theorem dX2_waiting_62 : decode cX2_waiting 62 = .ok (.iload_n 3, 1) := by decide +kernel
theorem dX2_waiting_63 : decode cX2_waiting 63 = .ok (.ifCond .eq 9, 3) := by decide +kernel
theorem dX2_waiting_66 : decode cX2_waiting 66 = .ok (.iconst 1, 1) := by decide +kernel
theorem dX2_waiting_67 : decode cX2_waiting 67 = .ok (.iload_n 2, 1) := by decide +kernel
theorem dX2_waiting_68 : decode cX2_waiting 68 = .ok (.ishl, 1) := by decide +kernel
theorem dX2_waiting_69 : decode cX2_waiting 69 = .ok (.goto 4, 3) := by decide +kernel
theorem dX2_waiting_72 : decode cX2_waiting 72 = .ok (.iconst 0, 1) := by decide +kernel
theorem dX2_waiting_73 : decode cX2_waiting 73 = .ok (.ior, 1) := by decide +kernel
theorem dX2_waiting_74 : decode cX2_waiting 74 = .ok (.istore_n 1, 1) := by decide +kernel
theorem dX2_waiting_75 : decode cX2_waiting 75 = .ok (.iinc 2 1, 3) := by decide +kernel
theorem dX2_waiting_78 : decode cX2_waiting 78 = .ok (.goto (-74), 3) := by decide +kernel
theorem dX2_waiting_81 : decode cX2_waiting 81 = .ok (.iload_n 1, 1) := by decide +kernel
theorem dX2_waiting_82 : decode cX2_waiting 82 = .ok (.ireturn, 1) := by decide +kernel
set_option maxRecDepth 20000 in
theorem ggX2_checksDeferral_X2_waiting : GoodIn wsX2_checksDeferral wsX2_waiting := goodIn_r _ [10, 3, 11, 4, 12, 38, 39, 40, 41, 42, 43, 44, 45, 46, 47, 48, 49, 50, 51, 52, 53] (by decide +kernel) (by decide +kernel)
set_option maxRecDepth 20000 in
theorem gX2_checksDeferral_X2_waiting : GoodIn wsX2_checksDeferral (wsV RX2 74 RX2 yX2_waiting wsX2_waiting) := goodIn_app (goodIn_of _ (by decide +kernel)) ggX2_checksDeferral_X2_waiting
set_option maxRecDepth 20000 in
theorem ggX2_checksDeferral_X2_selectsAll : GoodIn wsX2_checksDeferral wsX2_selectsAll := goodIn_r _ [16, 17, 18, 19, 9, 20, 21, 22, 3, 4, 23, 24, 25, 26, 27, 28, 29, 30, 31, 32, 33, 38, 39, 40, 41, 42, 43, 44, 45, 46, 47, 48, 49, 50, 51, 52, 53] (by decide +kernel) (by decide +kernel)
set_option maxRecDepth 20000 in
theorem gX2_checksDeferral_X2_selectsAll : GoodIn wsX2_checksDeferral (wsV RX2 81 RX2 yX2_selectsAll wsX2_selectsAll) := goodIn_app (goodIn_of _ (by decide +kernel)) ggX2_checksDeferral_X2_selectsAll
set_option maxRecDepth 20000 in
theorem ggX2_checksDeferral_X2_forgets : GoodIn wsX2_checksDeferral wsX2_forgets := goodIn_r _ [37, 32, 33, 38, 39, 40, 41, 42, 43, 44, 45, 46, 47, 48, 49, 50, 51, 52, 53] (by decide +kernel) (by decide +kernel)
set_option maxRecDepth 20000 in
theorem gX2_checksDeferral_X2_forgets : GoodIn wsX2_checksDeferral (wsV RX2 84 RX2 yX2_forgets wsX2_forgets) := goodIn_app (goodIn_of _ (by decide +kernel)) ggX2_checksDeferral_X2_forgets
theorem dX2_checksDeferral_0 : decode cX2_checksDeferral 0 = .ok (.aload_n 0, 1) := by decide +kernel
theorem dX2_checksDeferral_1 : decode cX2_checksDeferral 1 = .ok (.getfield 70, 3) := by decide +kernel
theorem dX2_checksDeferral_4 : decode cX2_checksDeferral 4 = .ok (.ifCond .eq 17, 3) := by decide +kernel
theorem dX2_checksDeferral_7 : decode cX2_checksDeferral 7 = .ok (.aload_n 0, 1) := by decide +kernel
theorem dX2_checksDeferral_8 : decode cX2_checksDeferral 8 = .ok (.invokevirtual 74, 3) := by decide +kernel
theorem dX2_checksDeferral_11 : decode cX2_checksDeferral 11 = .ok (.ifCond .eq 11, 3) := by decide +kernel
theorem dX2_checksDeferral_14 : decode cX2_checksDeferral 14 = .ok (.aload_n 0, 1) := by decide +kernel
theorem dX2_checksDeferral_15 : decode cX2_checksDeferral 15 = .ok (.getfield 78, 3) := by decide +kernel
theorem dX2_checksDeferral_18 : decode cX2_checksDeferral 18 = .ok (.ifCond .le 4, 3) := by decide +kernel
theorem dX2_checksDeferral_21 : decode cX2_checksDeferral 21 = .ok (.return_, 1) := by decide +kernel
theorem dX2_checksDeferral_22 : decode cX2_checksDeferral 22 = .ok (.aload_n 0, 1) := by decide +kernel
theorem dX2_checksDeferral_23 : decode cX2_checksDeferral 23 = .ok (.iconst 0, 1) := by decide +kernel
theorem dX2_checksDeferral_24 : decode cX2_checksDeferral 24 = .ok (.putfield 70, 3) := by decide +kernel
theorem dX2_checksDeferral_27 : decode cX2_checksDeferral 27 = .ok (.aload_n 0, 1) := by decide +kernel
theorem dX2_checksDeferral_28 : decode cX2_checksDeferral 28 = .ok (.iconst 0, 1) := by decide +kernel
theorem dX2_checksDeferral_29 : decode cX2_checksDeferral 29 = .ok (.putfield 78, 3) := by decide +kernel
theorem dX2_checksDeferral_32 : decode cX2_checksDeferral 32 = .ok (.aload_n 0, 1) := by decide +kernel
theorem dX2_checksDeferral_33 : decode cX2_checksDeferral 33 = .ok (.invokevirtual 81, 3) := by decide +kernel
theorem dX2_checksDeferral_36 : decode cX2_checksDeferral 36 = .ok (.iconst 0, 1) := by decide +kernel
theorem dX2_checksDeferral_37 : decode cX2_checksDeferral 37 = .ok (.istore_n 1, 1) := by decide +kernel
theorem dX2_checksDeferral_38 : decode cX2_checksDeferral 38 = .ok (.iload_n 1, 1) := by decide +kernel
theorem dX2_checksDeferral_39 : decode cX2_checksDeferral 39 = .ok (.aload_n 0, 1) := by decide +kernel
theorem dX2_checksDeferral_40 : decode cX2_checksDeferral 40 = .ok (.getfield 55, 3) := by decide +kernel
theorem dX2_checksDeferral_43 : decode cX2_checksDeferral 43 = .ok (.if_icmp .ge 32, 3) := by decide +kernel
theorem dX2_checksDeferral_46 : decode cX2_checksDeferral 46 = .ok (.aload_n 0, 1) := by decide +kernel
theorem dX2_checksDeferral_47 : decode cX2_checksDeferral 47 = .ok (.getfield 23, 3) := by decide +kernel
theorem dX2_checksDeferral_50 : decode cX2_checksDeferral 50 = .ok (.iload_n 1, 1) := by decide +kernel
theorem dX2_checksDeferral_51 : decode cX2_checksDeferral 51 = .ok (.iaload, 1) := by decide +kernel
theorem dX2_checksDeferral_52 : decode cX2_checksDeferral 52 = .ok (.ifCond .ne 17, 3) := by decide +kernel
theorem dX2_checksDeferral_55 : decode cX2_checksDeferral 55 = .ok (.aload_n 0, 1) := by decide +kernel
theorem dX2_checksDeferral_56 : decode cX2_checksDeferral 56 = .ok (.iload_n 1, 1) := by decide +kernel
theorem dX2_checksDeferral_57 : decode cX2_checksDeferral 57 = .ok (.iconst 1, 1) := by decide +kernel
theorem dX2_checksDeferral_58 : decode cX2_checksDeferral 58 = .ok (.invokevirtual 84, 3) := by decide +kernel
theorem dX2_checksDeferral_61 : decode cX2_checksDeferral 61 = .ok (.pop, 1) := by decide +kernel
theorem dX2_checksDeferral_62 : decode cX2_checksDeferral 62 = .ok (.aload_n 0, 1) := by decide +kernel
theorem dX2_checksDeferral_63 : decode cX2_checksDeferral 63 = .ok (.getfield 30, 3) := by decide +kernel
theorem dX2_checksDeferral_66 : decode cX2_checksDeferral 66 = .ok (.iload_n 1, 1) := by decide +kernel
theorem dX2_checksDeferral_67 : decode cX2_checksDeferral 67 = .ok (.iconst 0, 1) := by decide +kernel
theorem dX2_checksDeferral_68 : decode cX2_checksDeferral 68 = .ok (.iastore, 1) := by decide +kernel
theorem dX2_checksDeferral_69 : decode cX2_checksDeferral 69 = .ok (.iinc 1 1, 3) := by decide +kernel
theorem dX2_checksDeferral_72 : decode cX2_checksDeferral 72 = .ok (.goto (-34), 3) := by decide +kernel
theorem dX2_checksDeferral_75 : decode cX2_checksDeferral 75 = .ok (.return_, 1) := by decide +kernel
set_option maxRecDepth 20000 in
theorem ggX2_addPeer_X2_selectsAll : GoodIn wsX2_addPeer wsX2_selectsAll := goodIn_r _ [9, 10, 11, 12, 8, 13, 14, 15, 1, 3, 16, 17, 18, 19, 20, 21, 22, 23, 24, 25, 26, 27, 28, 29, 30, 31, 32, 33, 34, 35, 36, 37, 38, 39, 40, 41, 42] (by decide +kernel) (by decide +kernel)
set_option maxRecDepth 20000 in
theorem gX2_addPeer_X2_selectsAll : GoodIn wsX2_addPeer (wsV RX2 81 RX2 yX2_selectsAll wsX2_selectsAll) := goodIn_app (goodIn_of _ (by decide +kernel)) ggX2_addPeer_X2_selectsAll
theorem dX2_addPeer_0 : decode cX2_addPeer 0 = .ok (.aload_n 0, 1) := by decide +kernel
theorem dX2_addPeer_1 : decode cX2_addPeer 1 = .ok (.getfield 55, 3) := by decide +kernel
theorem dX2_addPeer_4 : decode cX2_addPeer 4 = .ok (.iconst 5, 1) := by decide +kernel
theorem dX2_addPeer_5 : decode cX2_addPeer 5 = .ok (.if_icmp .ne 6, 3) := by decide +kernel
theorem dX2_addPeer_8 : decode cX2_addPeer 8 = .ok (.bipush (-5), 2) := by decide +kernel
theorem dX2_addPeer_10 : decode cX2_addPeer 10 = .ok (.ireturn, 1) := by decide +kernel
theorem dX2_addPeer_11 : decode cX2_addPeer 11 = .ok (.aload_n 0, 1) := by decide +kernel
theorem dX2_addPeer_12 : decode cX2_addPeer 12 = .ok (.getfield 19, 3) := by decide +kernel
theorem dX2_addPeer_15 : decode cX2_addPeer 15 = .ok (.aload_n 0, 1) := by decide +kernel
theorem dX2_addPeer_16 : decode cX2_addPeer 16 = .ok (.getfield 55, 3) := by decide +kernel
theorem dX2_addPeer_19 : decode cX2_addPeer 19 = .ok (.iload_n 1, 1) := by decide +kernel
theorem dX2_addPeer_20 : decode cX2_addPeer 20 = .ok (.bastore, 1) := by decide +kernel
theorem dX2_addPeer_21 : decode cX2_addPeer 21 = .ok (.aload_n 0, 1) := by decide +kernel
theorem dX2_addPeer_22 : decode cX2_addPeer 22 = .ok (.getfield 23, 3) := by decide +kernel
theorem dX2_addPeer_25 : decode cX2_addPeer 25 = .ok (.aload_n 0, 1) := by decide +kernel
theorem dX2_addPeer_26 : decode cX2_addPeer 26 = .ok (.getfield 55, 3) := by decide +kernel
theorem dX2_addPeer_29 : decode cX2_addPeer 29 = .ok (.iconst 0, 1) := by decide +kernel
theorem dX2_addPeer_30 : decode cX2_addPeer 30 = .ok (.iastore, 1) := by decide +kernel
theorem dX2_addPeer_31 : decode cX2_addPeer 31 = .ok (.aload_n 0, 1) := by decide +kernel
theorem dX2_addPeer_32 : decode cX2_addPeer 32 = .ok (.dup, 1) := by decide +kernel
theorem dX2_addPeer_33 : decode cX2_addPeer 33 = .ok (.getfield 55, 3) := by decide +kernel
theorem dX2_addPeer_36 : decode cX2_addPeer 36 = .ok (.iconst 1, 1) := by decide +kernel
theorem dX2_addPeer_37 : decode cX2_addPeer 37 = .ok (.iadd, 1) := by decide +kernel
theorem dX2_addPeer_38 : decode cX2_addPeer 38 = .ok (.putfield 55, 3) := by decide +kernel
theorem dX2_addPeer_41 : decode cX2_addPeer 41 = .ok (.aload_n 0, 1) := by decide +kernel
theorem dX2_addPeer_42 : decode cX2_addPeer 42 = .ok (.getfield 70, 3) := by decide +kernel
theorem dX2_addPeer_45 : decode cX2_addPeer 45 = .ok (.ifCond .ne 7, 3) := by decide +kernel
theorem dX2_addPeer_48 : decode cX2_addPeer 48 = .ok (.aload_n 0, 1) := by decide +kernel
theorem dX2_addPeer_49 : decode cX2_addPeer 49 = .ok (.invokevirtual 81, 3) := by decide +kernel
theorem dX2_addPeer_52 : decode cX2_addPeer 52 = .ok (.aload_n 0, 1) := by decide +kernel
theorem dX2_addPeer_53 : decode cX2_addPeer 53 = .ok (.getfield 55, 3) := by decide +kernel
theorem dX2_addPeer_56 : decode cX2_addPeer 56 = .ok (.iconst 1, 1) := by decide +kernel
theorem dX2_addPeer_57 : decode cX2_addPeer 57 = .ok (.isub, 1) := by decide +kernel
theorem dX2_addPeer_58 : decode cX2_addPeer 58 = .ok (.ireturn, 1) := by decide +kernel
set_option maxRecDepth 20000 in
theorem ggX2_refused_X2_isPeer : GoodIn wsX2_refused wsX2_isPeer := goodIn_r _ [5, 6, 7, 8, 4, 9, 13, 14, 15, 16, 17, 18, 19, 20, 21, 22, 23, 24, 25, 26, 27, 28] (by decide +kernel) (by decide +kernel)
set_option maxRecDepth 20000 in
theorem gX2_refused_X2_isPeer : GoodIn wsX2_refused (wsV RX2 88 RX2 yX2_isPeer wsX2_isPeer) := goodIn_app (goodIn_of _ (by decide +kernel)) ggX2_refused_X2_isPeer
set_option maxRecDepth 20000 in
theorem ggX2_refused_X2_isRoute : GoodIn wsX2_refused wsX2_isRoute := goodIn_r _ [12, 7, 8, 4, 9] (by decide +kernel) (by decide +kernel)
set_option maxRecDepth 20000 in
theorem gX2_refused_X2_isRoute : GoodIn wsX2_refused (va_wsS RX2 92 yX2_isRoute wsX2_isRoute) := goodIn_app (goodIn_of _ (by decide +kernel)) ggX2_refused_X2_isRoute
theorem dX2_refused_0 : decode cX2_refused 0 = .ok (.aload_n 0, 1) := by decide +kernel
theorem dX2_refused_1 : decode cX2_refused 1 = .ok (.iload_n 1, 1) := by decide +kernel
theorem dX2_refused_2 : decode cX2_refused 2 = .ok (.invokevirtual 88, 3) := by decide +kernel
theorem dX2_refused_5 : decode cX2_refused 5 = .ok (.ifCond .ne 7, 3) := by decide +kernel
theorem dX2_refused_8 : decode cX2_refused 8 = .ok (.iconst (-1), 1) := by decide +kernel
theorem dX2_refused_9 : decode cX2_refused 9 = .ok (.goto 17, 3) := by decide +kernel
theorem dX2_refused_12 : decode cX2_refused 12 = .ok (.iload_n 2, 1) := by decide +kernel
theorem dX2_refused_13 : decode cX2_refused 13 = .ok (.iload_n 3, 1) := by decide +kernel
theorem dX2_refused_14 : decode cX2_refused 14 = .ok (.invokestatic 92, 3) := by decide +kernel
theorem dX2_refused_17 : decode cX2_refused 17 = .ok (.ifCond .ne 8, 3) := by decide +kernel
theorem dX2_refused_20 : decode cX2_refused 20 = .ok (.bipush (-2), 2) := by decide +kernel
theorem dX2_refused_22 : decode cX2_refused 22 = .ok (.goto 4, 3) := by decide +kernel
theorem dX2_refused_25 : decode cX2_refused 25 = .ok (.iconst 0, 1) := by decide +kernel
theorem dX2_refused_26 : decode cX2_refused 26 = .ok (.ireturn, 1) := by decide +kernel
set_option maxRecDepth 20000 in
theorem ggX2_offers_X2_selects : GoodIn wsX2_offers wsX2_selects := goodIn_r _ [8, 9, 10, 11, 3, 12, 13, 14, 7, 15, 1, 16, 17, 18, 19, 20, 21, 22, 23, 24, 25, 26, 27, 28, 29, 30, 31, 32, 33, 34, 35, 36, 37] (by decide +kernel) (by decide +kernel)
set_option maxRecDepth 20000 in
theorem gX2_offers_X2_selects : GoodIn wsX2_offers (wsV RX2 66 RX2 yX2_selects wsX2_selects) := goodIn_app (goodIn_of _ (by decide +kernel)) ggX2_offers_X2_selects
theorem dX2_offers_0 : decode cX2_offers 0 = .ok (.aload_n 0, 1) := by decide +kernel
theorem dX2_offers_1 : decode cX2_offers 1 = .ok (.getfield 36, 3) := by decide +kernel
theorem dX2_offers_4 : decode cX2_offers 4 = .ok (.bipush 16, 2) := by decide +kernel
theorem dX2_offers_6 : decode cX2_offers 6 = .ok (.iload_n 1, 1) := by decide +kernel
theorem dX2_offers_7 : decode cX2_offers 7 = .ok (.imul, 1) := by decide +kernel
theorem dX2_offers_8 : decode cX2_offers 8 = .ok (.iload_n 2, 1) := by decide +kernel
theorem dX2_offers_9 : decode cX2_offers 9 = .ok (.iadd, 1) := by decide +kernel
theorem dX2_offers_10 : decode cX2_offers 10 = .ok (.iload_n 3, 1) := by decide +kernel
theorem dX2_offers_11 : decode cX2_offers 11 = .ok (.iastore, 1) := by decide +kernel
theorem dX2_offers_12 : decode cX2_offers 12 = .ok (.aload_n 0, 1) := by decide +kernel
theorem dX2_offers_13 : decode cX2_offers 13 = .ok (.getfield 70, 3) := by decide +kernel
theorem dX2_offers_16 : decode cX2_offers 16 = .ok (.ifCond .ne 17, 3) := by decide +kernel
theorem dX2_offers_19 : decode cX2_offers 19 = .ok (.aload_n 0, 1) := by decide +kernel
theorem dX2_offers_20 : decode cX2_offers 20 = .ok (.getfield 23, 3) := by decide +kernel
theorem dX2_offers_23 : decode cX2_offers 23 = .ok (.iload_n 1, 1) := by decide +kernel
theorem dX2_offers_24 : decode cX2_offers 24 = .ok (.iaload, 1) := by decide +kernel
theorem dX2_offers_25 : decode cX2_offers 25 = .ok (.ifCond .ne 8, 3) := by decide +kernel
theorem dX2_offers_28 : decode cX2_offers 28 = .ok (.aload_n 0, 1) := by decide +kernel
theorem dX2_offers_29 : decode cX2_offers 29 = .ok (.iload_n 2, 1) := by decide +kernel
theorem dX2_offers_30 : decode cX2_offers 30 = .ok (.invokevirtual 66, 3) := by decide +kernel
theorem dX2_offers_33 : decode cX2_offers 33 = .ok (.return_, 1) := by decide +kernel
set_option maxRecDepth 20000 in
theorem ggX2_announce_X2_refused : GoodIn wsX2_announce wsX2_refused := goodIn_r _ [6, 7, 8, 9, 5, 10, 11, 12, 13, 14, 15, 16, 17, 40, 41, 42, 43, 44, 45, 46, 47, 48, 49, 50, 51, 52, 53, 54, 55] (by decide +kernel) (by decide +kernel)
set_option maxRecDepth 20000 in
theorem gX2_announce_X2_refused : GoodIn wsX2_announce (wsV RX2 96 RX2 yX2_refused wsX2_refused) := goodIn_app (goodIn_of _ (by decide +kernel)) ggX2_announce_X2_refused
set_option maxRecDepth 20000 in
theorem ggX2_announce_X2_within : GoodIn wsX2_announce wsX2_within := goodIn_r _ [14] (by decide +kernel) (by decide +kernel)
set_option maxRecDepth 20000 in
theorem gX2_announce_X2_within : GoodIn wsX2_announce (va_wsS RX2 51 yX2_within wsX2_within) := goodIn_app (goodIn_of _ (by decide +kernel)) ggX2_announce_X2_within
set_option maxRecDepth 20000 in
theorem ggX2_announce_X2_offers : GoodIn wsX2_announce wsX2_offers := goodIn_r _ [21, 1, 22, 23, 24, 25, 26, 5, 27, 28, 29, 11, 30, 31, 32, 33, 34, 35, 36, 37, 38, 39, 40, 41, 42, 43, 44, 45, 46, 47, 48, 49, 50, 51, 52, 53, 54, 55] (by decide +kernel) (by decide +kernel)
set_option maxRecDepth 20000 in
theorem gX2_announce_X2_offers : GoodIn wsX2_announce (wsV RX2 100 RX2 yX2_offers wsX2_offers) := goodIn_app (goodIn_of _ (by decide +kernel)) ggX2_announce_X2_offers
theorem dX2_announce_0 : decode cX2_announce 0 = .ok (.aload_n 0, 1) := by decide +kernel
theorem dX2_announce_1 : decode cX2_announce 1 = .ok (.iload_n 1, 1) := by decide +kernel
theorem dX2_announce_2 : decode cX2_announce 2 = .ok (.iload_n 2, 1) := by decide +kernel
theorem dX2_announce_3 : decode cX2_announce 3 = .ok (.iload_n 3, 1) := by decide +kernel
theorem dX2_announce_4 : decode cX2_announce 4 = .ok (.invokevirtual 96, 3) := by decide +kernel
theorem dX2_announce_7 : decode cX2_announce 7 = .ok (.istore 5, 2) := by decide +kernel
theorem dX2_announce_9 : decode cX2_announce 9 = .ok (.iload 5, 2) := by decide +kernel
theorem dX2_announce_11 : decode cX2_announce 11 = .ok (.ifCond .eq 6, 3) := by decide +kernel
theorem dX2_announce_14 : decode cX2_announce 14 = .ok (.iload 5, 2) := by decide +kernel
theorem dX2_announce_16 : decode cX2_announce 16 = .ok (.ireturn, 1) := by decide +kernel
theorem dX2_announce_17 : decode cX2_announce 17 = .ok (.iload 4, 2) := by decide +kernel
theorem dX2_announce_19 : decode cX2_announce 19 = .ok (.iconst 1, 1) := by decide +kernel
theorem dX2_announce_20 : decode cX2_announce 20 = .ok (.bipush 20, 2) := by decide +kernel
theorem dX2_announce_22 : decode cX2_announce 22 = .ok (.invokestatic 51, 3) := by decide +kernel
theorem dX2_announce_25 : decode cX2_announce 25 = .ok (.ifCond .ne 6, 3) := by decide +kernel
theorem dX2_announce_28 : decode cX2_announce 28 = .ok (.bipush (-3), 2) := by decide +kernel
theorem dX2_announce_30 : decode cX2_announce 30 = .ok (.ireturn, 1) := by decide +kernel
theorem dX2_announce_31 : decode cX2_announce 31 = .ok (.aload_n 0, 1) := by decide +kernel
theorem dX2_announce_32 : decode cX2_announce 32 = .ok (.getfield 36, 3) := by decide +kernel
theorem dX2_announce_35 : decode cX2_announce 35 = .ok (.bipush 16, 2) := by decide +kernel
theorem dX2_announce_37 : decode cX2_announce 37 = .ok (.iload_n 1, 1) := by decide +kernel
theorem dX2_announce_38 : decode cX2_announce 38 = .ok (.imul, 1) := by decide +kernel
theorem dX2_announce_39 : decode cX2_announce 39 = .ok (.bipush 8, 2) := by decide +kernel
theorem dX2_announce_41 : decode cX2_announce 41 = .ok (.iload_n 2, 1) := by decide +kernel
theorem dX2_announce_42 : decode cX2_announce 42 = .ok (.imul, 1) := by decide +kernel
theorem dX2_announce_43 : decode cX2_announce 43 = .ok (.iadd, 1) := by decide +kernel
theorem dX2_announce_44 : decode cX2_announce 44 = .ok (.iload_n 3, 1) := by decide +kernel
theorem dX2_announce_45 : decode cX2_announce 45 = .ok (.iadd, 1) := by decide +kernel
theorem dX2_announce_46 : decode cX2_announce 46 = .ok (.iaload, 1) := by decide +kernel
theorem dX2_announce_47 : decode cX2_announce 47 = .ok (.istore 6, 2) := by decide +kernel
theorem dX2_announce_49 : decode cX2_announce 49 = .ok (.aload_n 0, 1) := by decide +kernel
theorem dX2_announce_50 : decode cX2_announce 50 = .ok (.iload_n 1, 1) := by decide +kernel
theorem dX2_announce_51 : decode cX2_announce 51 = .ok (.bipush 8, 2) := by decide +kernel
theorem dX2_announce_53 : decode cX2_announce 53 = .ok (.iload_n 2, 1) := by decide +kernel
theorem dX2_announce_54 : decode cX2_announce 54 = .ok (.imul, 1) := by decide +kernel
theorem dX2_announce_55 : decode cX2_announce 55 = .ok (.iload_n 3, 1) := by decide +kernel
theorem dX2_announce_56 : decode cX2_announce 56 = .ok (.iadd, 1) := by decide +kernel
theorem dX2_announce_57 : decode cX2_announce 57 = .ok (.iload 4, 2) := by decide +kernel
theorem dX2_announce_59 : decode cX2_announce 59 = .ok (.invokevirtual 100, 3) := by decide +kernel
theorem dX2_announce_62 : decode cX2_announce 62 = .ok (.iload 6, 2) := by decide +kernel
theorem dX2_announce_64 : decode cX2_announce 64 = .ok (.ireturn, 1) := by decide +kernel
set_option maxRecDepth 20000 in
theorem ggX2_withdraw_X2_refused : GoodIn wsX2_withdraw wsX2_refused := goodIn_r _ [6, 7, 8, 9, 5, 10, 11, 12, 13, 14, 15, 16, 17, 40, 41, 42, 43, 44, 45, 46, 47, 48, 49, 50, 51, 52, 53, 54, 55] (by decide +kernel) (by decide +kernel)
set_option maxRecDepth 20000 in
theorem gX2_withdraw_X2_refused : GoodIn wsX2_withdraw (wsV RX2 96 RX2 yX2_refused wsX2_refused) := goodIn_app (goodIn_of _ (by decide +kernel)) ggX2_withdraw_X2_refused
set_option maxRecDepth 20000 in
theorem ggX2_withdraw_X2_offers : GoodIn wsX2_withdraw wsX2_offers := goodIn_r _ [21, 1, 22, 23, 24, 25, 26, 5, 27, 28, 29, 11, 30, 31, 32, 33, 34, 35, 36, 37, 38, 39, 40, 41, 42, 43, 44, 45, 46, 47, 48, 49, 50, 51, 52, 53, 54, 55] (by decide +kernel) (by decide +kernel)
set_option maxRecDepth 20000 in
theorem gX2_withdraw_X2_offers : GoodIn wsX2_withdraw (wsV RX2 100 RX2 yX2_offers wsX2_offers) := goodIn_app (goodIn_of _ (by decide +kernel)) ggX2_withdraw_X2_offers
theorem dX2_withdraw_0 : decode cX2_withdraw 0 = .ok (.aload_n 0, 1) := by decide +kernel
theorem dX2_withdraw_1 : decode cX2_withdraw 1 = .ok (.iload_n 1, 1) := by decide +kernel
theorem dX2_withdraw_2 : decode cX2_withdraw 2 = .ok (.iload_n 2, 1) := by decide +kernel
theorem dX2_withdraw_3 : decode cX2_withdraw 3 = .ok (.iload_n 3, 1) := by decide +kernel
theorem dX2_withdraw_4 : decode cX2_withdraw 4 = .ok (.invokevirtual 96, 3) := by decide +kernel
theorem dX2_withdraw_7 : decode cX2_withdraw 7 = .ok (.istore 4, 2) := by decide +kernel
theorem dX2_withdraw_9 : decode cX2_withdraw 9 = .ok (.iload 4, 2) := by decide +kernel
theorem dX2_withdraw_11 : decode cX2_withdraw 11 = .ok (.ifCond .eq 6, 3) := by decide +kernel
theorem dX2_withdraw_14 : decode cX2_withdraw 14 = .ok (.iload 4, 2) := by decide +kernel
theorem dX2_withdraw_16 : decode cX2_withdraw 16 = .ok (.ireturn, 1) := by decide +kernel
theorem dX2_withdraw_17 : decode cX2_withdraw 17 = .ok (.aload_n 0, 1) := by decide +kernel
theorem dX2_withdraw_18 : decode cX2_withdraw 18 = .ok (.getfield 36, 3) := by decide +kernel
theorem dX2_withdraw_21 : decode cX2_withdraw 21 = .ok (.bipush 16, 2) := by decide +kernel
theorem dX2_withdraw_23 : decode cX2_withdraw 23 = .ok (.iload_n 1, 1) := by decide +kernel
theorem dX2_withdraw_24 : decode cX2_withdraw 24 = .ok (.imul, 1) := by decide +kernel
theorem dX2_withdraw_25 : decode cX2_withdraw 25 = .ok (.bipush 8, 2) := by decide +kernel
theorem dX2_withdraw_27 : decode cX2_withdraw 27 = .ok (.iload_n 2, 1) := by decide +kernel
theorem dX2_withdraw_28 : decode cX2_withdraw 28 = .ok (.imul, 1) := by decide +kernel
theorem dX2_withdraw_29 : decode cX2_withdraw 29 = .ok (.iadd, 1) := by decide +kernel
theorem dX2_withdraw_30 : decode cX2_withdraw 30 = .ok (.iload_n 3, 1) := by decide +kernel
theorem dX2_withdraw_31 : decode cX2_withdraw 31 = .ok (.iadd, 1) := by decide +kernel
theorem dX2_withdraw_32 : decode cX2_withdraw 32 = .ok (.iaload, 1) := by decide +kernel
theorem dX2_withdraw_33 : decode cX2_withdraw 33 = .ok (.istore 5, 2) := by decide +kernel
theorem dX2_withdraw_35 : decode cX2_withdraw 35 = .ok (.iload 5, 2) := by decide +kernel
theorem dX2_withdraw_37 : decode cX2_withdraw 37 = .ok (.ifCond .ne 6, 3) := by decide +kernel
theorem dX2_withdraw_40 : decode cX2_withdraw 40 = .ok (.bipush (-6), 2) := by decide +kernel
theorem dX2_withdraw_42 : decode cX2_withdraw 42 = .ok (.ireturn, 1) := by decide +kernel
theorem dX2_withdraw_43 : decode cX2_withdraw 43 = .ok (.aload_n 0, 1) := by decide +kernel
theorem dX2_withdraw_44 : decode cX2_withdraw 44 = .ok (.iload_n 1, 1) := by decide +kernel
theorem dX2_withdraw_45 : decode cX2_withdraw 45 = .ok (.bipush 8, 2) := by decide +kernel
theorem dX2_withdraw_47 : decode cX2_withdraw 47 = .ok (.iload_n 2, 1) := by decide +kernel
theorem dX2_withdraw_48 : decode cX2_withdraw 48 = .ok (.imul, 1) := by decide +kernel
theorem dX2_withdraw_49 : decode cX2_withdraw 49 = .ok (.iload_n 3, 1) := by decide +kernel
theorem dX2_withdraw_50 : decode cX2_withdraw 50 = .ok (.iadd, 1) := by decide +kernel
theorem dX2_withdraw_51 : decode cX2_withdraw 51 = .ok (.iconst 0, 1) := by decide +kernel
theorem dX2_withdraw_52 : decode cX2_withdraw 52 = .ok (.invokevirtual 100, 3) := by decide +kernel
theorem dX2_withdraw_55 : decode cX2_withdraw 55 = .ok (.iload 5, 2) := by decide +kernel
theorem dX2_withdraw_57 : decode cX2_withdraw 57 = .ok (.ireturn, 1) := by decide +kernel
set_option maxRecDepth 20000 in
theorem ggX2_losesSession_X2_forgets : GoodIn wsX2_losesSession wsX2_forgets := goodIn_r _ [12, 7, 6, 13, 14, 15, 16, 17, 18, 19, 20, 21, 22, 23, 24, 25, 26, 27, 28] (by decide +kernel) (by decide +kernel)
set_option maxRecDepth 20000 in
theorem gX2_losesSession_X2_forgets : GoodIn wsX2_losesSession (wsV RX2 84 RX2 yX2_forgets wsX2_forgets) := goodIn_app (goodIn_of _ (by decide +kernel)) ggX2_losesSession_X2_forgets
theorem dX2_losesSession_0 : decode cX2_losesSession 0 = .ok (.aload_n 0, 1) := by decide +kernel
theorem dX2_losesSession_1 : decode cX2_losesSession 1 = .ok (.getfield 30, 3) := by decide +kernel
theorem dX2_losesSession_4 : decode cX2_losesSession 4 = .ok (.iload_n 1, 1) := by decide +kernel
theorem dX2_losesSession_5 : decode cX2_losesSession 5 = .ok (.iconst 0, 1) := by decide +kernel
theorem dX2_losesSession_6 : decode cX2_losesSession 6 = .ok (.iastore, 1) := by decide +kernel
theorem dX2_losesSession_7 : decode cX2_losesSession 7 = .ok (.aload_n 0, 1) := by decide +kernel
theorem dX2_losesSession_8 : decode cX2_losesSession 8 = .ok (.getfield 19, 3) := by decide +kernel
theorem dX2_losesSession_11 : decode cX2_losesSession 11 = .ok (.iload_n 1, 1) := by decide +kernel
theorem dX2_losesSession_12 : decode cX2_losesSession 12 = .ok (.baload, 1) := by decide +kernel
theorem dX2_losesSession_13 : decode cX2_losesSession 13 = .ok (.ifCond .ne 18, 3) := by decide +kernel
theorem dX2_losesSession_16 : decode cX2_losesSession 16 = .ok (.aload_n 0, 1) := by decide +kernel
theorem dX2_losesSession_17 : decode cX2_losesSession 17 = .ok (.getfield 23, 3) := by decide +kernel
theorem dX2_losesSession_20 : decode cX2_losesSession 20 = .ok (.iload_n 1, 1) := by decide +kernel
theorem dX2_losesSession_21 : decode cX2_losesSession 21 = .ok (.iconst 2, 1) := by decide +kernel
theorem dX2_losesSession_22 : decode cX2_losesSession 22 = .ok (.iastore, 1) := by decide +kernel
theorem dX2_losesSession_23 : decode cX2_losesSession 23 = .ok (.aload_n 0, 1) := by decide +kernel
theorem dX2_losesSession_24 : decode cX2_losesSession 24 = .ok (.iload_n 1, 1) := by decide +kernel
theorem dX2_losesSession_25 : decode cX2_losesSession 25 = .ok (.iconst 0, 1) := by decide +kernel
theorem dX2_losesSession_26 : decode cX2_losesSession 26 = .ok (.invokevirtual 84, 3) := by decide +kernel
theorem dX2_losesSession_29 : decode cX2_losesSession 29 = .ok (.pop, 1) := by decide +kernel
theorem dX2_losesSession_30 : decode cX2_losesSession 30 = .ok (.return_, 1) := by decide +kernel
theorem dX2_losesSession_31 : decode cX2_losesSession 31 = .ok (.aload_n 0, 1) := by decide +kernel
theorem dX2_losesSession_32 : decode cX2_losesSession 32 = .ok (.getfield 23, 3) := by decide +kernel
theorem dX2_losesSession_35 : decode cX2_losesSession 35 = .ok (.iload_n 1, 1) := by decide +kernel
theorem dX2_losesSession_36 : decode cX2_losesSession 36 = .ok (.iconst 1, 1) := by decide +kernel
theorem dX2_losesSession_37 : decode cX2_losesSession 37 = .ok (.iastore, 1) := by decide +kernel
theorem dX2_losesSession_38 : decode cX2_losesSession 38 = .ok (.aload_n 0, 1) := by decide +kernel
theorem dX2_losesSession_39 : decode cX2_losesSession 39 = .ok (.getfield 27, 3) := by decide +kernel
theorem dX2_losesSession_42 : decode cX2_losesSession 42 = .ok (.iload_n 1, 1) := by decide +kernel
theorem dX2_losesSession_43 : decode cX2_losesSession 43 = .ok (.aload_n 0, 1) := by decide +kernel
theorem dX2_losesSession_44 : decode cX2_losesSession 44 = .ok (.getfield 7, 3) := by decide +kernel
theorem dX2_losesSession_47 : decode cX2_losesSession 47 = .ok (.iastore, 1) := by decide +kernel
theorem dX2_losesSession_48 : decode cX2_losesSession 48 = .ok (.aload_n 0, 1) := by decide +kernel
theorem dX2_losesSession_49 : decode cX2_losesSession 49 = .ok (.iload_n 1, 1) := by decide +kernel
theorem dX2_losesSession_50 : decode cX2_losesSession 50 = .ok (.iconst 1, 1) := by decide +kernel
theorem dX2_losesSession_51 : decode cX2_losesSession 51 = .ok (.invokevirtual 84, 3) := by decide +kernel
theorem dX2_losesSession_54 : decode cX2_losesSession 54 = .ok (.pop, 1) := by decide +kernel
theorem dX2_losesSession_55 : decode cX2_losesSession 55 = .ok (.bipush 16, 2) := by decide +kernel
theorem dX2_losesSession_57 : decode cX2_losesSession 57 = .ok (.iload_n 1, 1) := by decide +kernel
theorem dX2_losesSession_58 : decode cX2_losesSession 58 = .ok (.imul, 1) := by decide +kernel
theorem dX2_losesSession_59 : decode cX2_losesSession 59 = .ok (.istore_n 2, 1) := by decide +kernel
theorem dX2_losesSession_60 : decode cX2_losesSession 60 = .ok (.iload_n 2, 1) := by decide +kernel
theorem dX2_losesSession_61 : decode cX2_losesSession 61 = .ok (.bipush 16, 2) := by decide +kernel
theorem dX2_losesSession_63 : decode cX2_losesSession 63 = .ok (.iload_n 1, 1) := by decide +kernel
theorem dX2_losesSession_64 : decode cX2_losesSession 64 = .ok (.iconst 1, 1) := by decide +kernel
theorem dX2_losesSession_65 : decode cX2_losesSession 65 = .ok (.iadd, 1) := by decide +kernel
theorem dX2_losesSession_66 : decode cX2_losesSession 66 = .ok (.imul, 1) := by decide +kernel
theorem dX2_losesSession_67 : decode cX2_losesSession 67 = .ok (.if_icmp .ge 29, 3) := by decide +kernel
theorem dX2_losesSession_70 : decode cX2_losesSession 70 = .ok (.aload_n 0, 1) := by decide +kernel
theorem dX2_losesSession_71 : decode cX2_losesSession 71 = .ok (.getfield 42, 3) := by decide +kernel
theorem dX2_losesSession_74 : decode cX2_losesSession 74 = .ok (.iload_n 2, 1) := by decide +kernel
theorem dX2_losesSession_75 : decode cX2_losesSession 75 = .ok (.aload_n 0, 1) := by decide +kernel
theorem dX2_losesSession_76 : decode cX2_losesSession 76 = .ok (.getfield 39, 3) := by decide +kernel
theorem dX2_losesSession_79 : decode cX2_losesSession 79 = .ok (.iload_n 2, 1) := by decide +kernel
theorem dX2_losesSession_80 : decode cX2_losesSession 80 = .ok (.iaload, 1) := by decide +kernel
theorem dX2_losesSession_81 : decode cX2_losesSession 81 = .ok (.ifCond .le 7, 3) := by decide +kernel
theorem dX2_losesSession_84 : decode cX2_losesSession 84 = .ok (.iconst 1, 1) := by decide +kernel
theorem dX2_losesSession_85 : decode cX2_losesSession 85 = .ok (.goto 4, 3) := by decide +kernel
theorem dX2_losesSession_88 : decode cX2_losesSession 88 = .ok (.iconst 0, 1) := by decide +kernel
theorem dX2_losesSession_89 : decode cX2_losesSession 89 = .ok (.bastore, 1) := by decide +kernel
theorem dX2_losesSession_90 : decode cX2_losesSession 90 = .ok (.iinc 2 1, 3) := by decide +kernel
theorem dX2_losesSession_93 : decode cX2_losesSession 93 = .ok (.goto (-33), 3) := by decide +kernel
theorem dX2_losesSession_96 : decode cX2_losesSession 96 = .ok (.return_, 1) := by decide +kernel
set_option maxRecDepth 20000 in
theorem ggX2_restart_X2_losesSession : GoodIn wsX2_restart wsX2_losesSession := goodIn_r _ [13, 14, 15, 3, 16, 17, 18, 19, 20, 21, 22, 12, 23, 49, 50, 51, 52, 53, 54, 55, 56, 57, 58, 59, 60, 61, 62, 63, 64] (by decide +kernel) (by decide +kernel)
set_option maxRecDepth 20000 in
theorem gX2_restart_X2_losesSession : GoodIn wsX2_restart (wsV RX2 103 RX2 yX2_losesSession wsX2_losesSession) := goodIn_app (goodIn_of _ (by decide +kernel)) ggX2_restart_X2_losesSession
set_option maxRecDepth 20000 in
theorem ggX2_restart_X2_checksDeferral : GoodIn wsX2_restart wsX2_checksDeferral := goodIn_r _ [27, 6, 8, 1, 3, 14, 28, 29, 30, 12, 31, 15, 2, 32, 33, 34, 35, 36, 37, 38, 39, 4, 5, 40, 41, 42, 43, 44, 45, 46, 47, 48, 19, 18, 20, 21, 22, 23, 49, 50, 51, 52, 53, 54, 55, 56, 57, 58, 59, 60, 61, 62, 63, 64] (by decide +kernel) (by decide +kernel)
set_option maxRecDepth 20000 in
theorem gX2_restart_X2_checksDeferral : GoodIn wsX2_restart (wsV RX2 106 RX2 yX2_checksDeferral wsX2_checksDeferral) := goodIn_app (goodIn_of _ (by decide +kernel)) ggX2_restart_X2_checksDeferral
theorem dX2_restart_0 : decode cX2_restart 0 = .ok (.iconst 0, 1) := by decide +kernel
theorem dX2_restart_1 : decode cX2_restart 1 = .ok (.istore_n 2, 1) := by decide +kernel
theorem dX2_restart_2 : decode cX2_restart 2 = .ok (.iconst 0, 1) := by decide +kernel
theorem dX2_restart_3 : decode cX2_restart 3 = .ok (.istore_n 3, 1) := by decide +kernel
theorem dX2_restart_4 : decode cX2_restart 4 = .ok (.iload_n 3, 1) := by decide +kernel
theorem dX2_restart_5 : decode cX2_restart 5 = .ok (.aload_n 0, 1) := by decide +kernel
theorem dX2_restart_6 : decode cX2_restart 6 = .ok (.getfield 55, 3) := by decide +kernel
theorem dX2_restart_9 : decode cX2_restart 9 = .ok (.if_icmp .ge 46, 3) := by decide +kernel
theorem dX2_restart_12 : decode cX2_restart 12 = .ok (.aload_n 0, 1) := by decide +kernel
theorem dX2_restart_13 : decode cX2_restart 13 = .ok (.getfield 33, 3) := by decide +kernel
theorem dX2_restart_16 : decode cX2_restart 16 = .ok (.iconst 2, 1) := by decide +kernel
theorem dX2_restart_17 : decode cX2_restart 17 = .ok (.iload_n 3, 1) := by decide +kernel
theorem dX2_restart_18 : decode cX2_restart 18 = .ok (.imul, 1) := by decide +kernel
theorem dX2_restart_19 : decode cX2_restart 19 = .ok (.iconst 0, 1) := by decide +kernel
theorem dX2_restart_20 : decode cX2_restart 20 = .ok (.bastore, 1) := by decide +kernel
theorem dX2_restart_21 : decode cX2_restart 21 = .ok (.aload_n 0, 1) := by decide +kernel
theorem dX2_restart_22 : decode cX2_restart 22 = .ok (.getfield 33, 3) := by decide +kernel
theorem dX2_restart_25 : decode cX2_restart 25 = .ok (.iconst 2, 1) := by decide +kernel
theorem dX2_restart_26 : decode cX2_restart 26 = .ok (.iload_n 3, 1) := by decide +kernel
theorem dX2_restart_27 : decode cX2_restart 27 = .ok (.imul, 1) := by decide +kernel
theorem dX2_restart_28 : decode cX2_restart 28 = .ok (.iconst 1, 1) := by decide +kernel
theorem dX2_restart_29 : decode cX2_restart 29 = .ok (.iadd, 1) := by decide +kernel
theorem dX2_restart_30 : decode cX2_restart 30 = .ok (.iconst 0, 1) := by decide +kernel
theorem dX2_restart_31 : decode cX2_restart 31 = .ok (.bastore, 1) := by decide +kernel
theorem dX2_restart_32 : decode cX2_restart 32 = .ok (.aload_n 0, 1) := by decide +kernel
theorem dX2_restart_33 : decode cX2_restart 33 = .ok (.getfield 23, 3) := by decide +kernel
theorem dX2_restart_36 : decode cX2_restart 36 = .ok (.iload_n 3, 1) := by decide +kernel
theorem dX2_restart_37 : decode cX2_restart 37 = .ok (.iaload, 1) := by decide +kernel
theorem dX2_restart_38 : decode cX2_restart 38 = .ok (.ifCond .ne 11, 3) := by decide +kernel
theorem dX2_restart_41 : decode cX2_restart 41 = .ok (.aload_n 0, 1) := by decide +kernel
theorem dX2_restart_42 : decode cX2_restart 42 = .ok (.iload_n 3, 1) := by decide +kernel
theorem dX2_restart_43 : decode cX2_restart 43 = .ok (.invokevirtual 103, 3) := by decide +kernel
theorem dX2_restart_46 : decode cX2_restart 46 = .ok (.iinc 2 1, 3) := by decide +kernel
theorem dX2_restart_49 : decode cX2_restart 49 = .ok (.iinc 3 1, 3) := by decide +kernel
theorem dX2_restart_52 : decode cX2_restart 52 = .ok (.goto (-48), 3) := by decide +kernel
theorem dX2_restart_55 : decode cX2_restart 55 = .ok (.iconst 0, 1) := by decide +kernel
theorem dX2_restart_56 : decode cX2_restart 56 = .ok (.istore_n 3, 1) := by decide +kernel
theorem dX2_restart_57 : decode cX2_restart 57 = .ok (.iload_n 3, 1) := by decide +kernel
theorem dX2_restart_58 : decode cX2_restart 58 = .ok (.bipush 16, 2) := by decide +kernel
theorem dX2_restart_60 : decode cX2_restart 60 = .ok (.if_icmp .ge 52, 3) := by decide +kernel
theorem dX2_restart_63 : decode cX2_restart 63 = .ok (.aload_n 0, 1) := by decide +kernel
theorem dX2_restart_64 : decode cX2_restart 64 = .ok (.getfield 45, 3) := by decide +kernel
theorem dX2_restart_67 : decode cX2_restart 67 = .ok (.iload_n 3, 1) := by decide +kernel
theorem dX2_restart_68 : decode cX2_restart 68 = .ok (.iload_n 1, 1) := by decide +kernel
theorem dX2_restart_69 : decode cX2_restart 69 = .ok (.ifCond .eq 12, 3) := by decide +kernel
theorem dX2_restart_72 : decode cX2_restart 72 = .ok (.aload_n 0, 1) := by decide +kernel
theorem dX2_restart_73 : decode cX2_restart 73 = .ok (.getfield 45, 3) := by decide +kernel
theorem dX2_restart_76 : decode cX2_restart 76 = .ok (.iload_n 3, 1) := by decide +kernel
theorem dX2_restart_77 : decode cX2_restart 77 = .ok (.iaload, 1) := by decide +kernel
theorem dX2_restart_78 : decode cX2_restart 78 = .ok (.goto 5, 3) := by decide +kernel
theorem dX2_restart_81 : decode cX2_restart 81 = .ok (.bipush (-6), 2) := by decide +kernel
theorem dX2_restart_83 : decode cX2_restart 83 = .ok (.iastore, 1) := by decide +kernel
theorem dX2_restart_84 : decode cX2_restart 84 = .ok (.aload_n 0, 1) := by decide +kernel
theorem dX2_restart_85 : decode cX2_restart 85 = .ok (.getfield 48, 3) := by decide +kernel
theorem dX2_restart_88 : decode cX2_restart 88 = .ok (.iload_n 3, 1) := by decide +kernel
theorem dX2_restart_89 : decode cX2_restart 89 = .ok (.aload_n 0, 1) := by decide +kernel
theorem dX2_restart_90 : decode cX2_restart 90 = .ok (.getfield 45, 3) := by decide +kernel
theorem dX2_restart_93 : decode cX2_restart 93 = .ok (.iload_n 3, 1) := by decide +kernel
theorem dX2_restart_94 : decode cX2_restart 94 = .ok (.iaload, 1) := by decide +kernel
theorem dX2_restart_95 : decode cX2_restart 95 = .ok (.bipush (-6), 2) := by decide +kernel
theorem dX2_restart_97 : decode cX2_restart 97 = .ok (.if_icmp .eq 7, 3) := by decide +kernel
theorem dX2_restart_100 : decode cX2_restart 100 = .ok (.iconst 1, 1) := by decide +kernel
theorem dX2_restart_101 : decode cX2_restart 101 = .ok (.goto 4, 3) := by decide +kernel
theorem dX2_restart_104 : decode cX2_restart 104 = .ok (.iconst 0, 1) := by decide +kernel
theorem dX2_restart_105 : decode cX2_restart 105 = .ok (.bastore, 1) := by decide +kernel
theorem dX2_restart_106 : decode cX2_restart 106 = .ok (.iinc 3 1, 3) := by decide +kernel
theorem dX2_restart_109 : decode cX2_restart 109 = .ok (.goto (-52), 3) := by decide +kernel
theorem dX2_restart_112 : decode cX2_restart 112 = .ok (.aload_n 0, 1) := by decide +kernel
theorem dX2_restart_113 : decode cX2_restart 113 = .ok (.iconst 1, 1) := by decide +kernel
theorem dX2_restart_114 : decode cX2_restart 114 = .ok (.putfield 70, 3) := by decide +kernel
theorem dX2_restart_117 : decode cX2_restart 117 = .ok (.aload_n 0, 1) := by decide +kernel
theorem dX2_restart_118 : decode cX2_restart 118 = .ok (.aload_n 0, 1) := by decide +kernel
theorem dX2_restart_119 : decode cX2_restart 119 = .ok (.getfield 16, 3) := by decide +kernel
theorem dX2_restart_122 : decode cX2_restart 122 = .ok (.putfield 78, 3) := by decide +kernel
theorem dX2_restart_125 : decode cX2_restart 125 = .ok (.aload_n 0, 1) := by decide +kernel
theorem dX2_restart_126 : decode cX2_restart 126 = .ok (.invokevirtual 106, 3) := by decide +kernel
theorem dX2_restart_129 : decode cX2_restart 129 = .ok (.iload_n 2, 1) := by decide +kernel
theorem dX2_restart_130 : decode cX2_restart 130 = .ok (.ireturn, 1) := by decide +kernel
theorem dX2_known_0 : decode cX2_known 0 = .ok (.iconst 0, 1) := by decide +kernel
theorem dX2_known_1 : decode cX2_known 1 = .ok (.istore_n 2, 1) := by decide +kernel
theorem dX2_known_2 : decode cX2_known 2 = .ok (.iconst 0, 1) := by decide +kernel
theorem dX2_known_3 : decode cX2_known 3 = .ok (.istore_n 3, 1) := by decide +kernel
theorem dX2_known_4 : decode cX2_known 4 = .ok (.iload_n 3, 1) := by decide +kernel
theorem dX2_known_5 : decode cX2_known 5 = .ok (.bipush 16, 2) := by decide +kernel
theorem dX2_known_7 : decode cX2_known 7 = .ok (.if_icmp .ge 31, 3) := by decide +kernel
theorem dX2_known_10 : decode cX2_known 10 = .ok (.iload_n 2, 1) := by decide +kernel
theorem dX2_known_11 : decode cX2_known 11 = .ok (.aload_n 0, 1) := by decide +kernel
theorem dX2_known_12 : decode cX2_known 12 = .ok (.getfield 36, 3) := by decide +kernel
theorem dX2_known_15 : decode cX2_known 15 = .ok (.bipush 16, 2) := by decide +kernel
theorem dX2_known_17 : decode cX2_known 17 = .ok (.iload_n 1, 1) := by decide +kernel
theorem dX2_known_18 : decode cX2_known 18 = .ok (.imul, 1) := by decide +kernel
theorem dX2_known_19 : decode cX2_known 19 = .ok (.iload_n 3, 1) := by decide +kernel
theorem dX2_known_20 : decode cX2_known 20 = .ok (.iadd, 1) := by decide +kernel
theorem dX2_known_21 : decode cX2_known 21 = .ok (.iaload, 1) := by decide +kernel
theorem dX2_known_22 : decode cX2_known 22 = .ok (.ifCond .le 7, 3) := by decide +kernel
theorem dX2_known_25 : decode cX2_known 25 = .ok (.iconst 1, 1) := by decide +kernel
theorem dX2_known_26 : decode cX2_known 26 = .ok (.goto 4, 3) := by decide +kernel
theorem dX2_known_29 : decode cX2_known 29 = .ok (.iconst 0, 1) := by decide +kernel
theorem dX2_known_30 : decode cX2_known 30 = .ok (.iadd, 1) := by decide +kernel
theorem dX2_known_31 : decode cX2_known 31 = .ok (.istore_n 2, 1) := by decide +kernel
theorem dX2_known_32 : decode cX2_known 32 = .ok (.iinc 3 1, 3) := by decide +kernel
theorem dX2_known_35 : decode cX2_known 35 = .ok (.goto (-31), 3) := by decide +kernel
theorem dX2_known_38 : decode cX2_known 38 = .ok (.iload_n 2, 1) := by decide +kernel
theorem dX2_known_39 : decode cX2_known 39 = .ok (.ireturn, 1) := by decide +kernel
set_option maxRecDepth 20000 in
theorem ggX2_reconnect_X2_isPeer : GoodIn wsX2_reconnect wsX2_isPeer := goodIn_r _ [10, 11, 12, 13, 9, 14, 55, 56, 57, 58, 59, 60, 61, 62, 63, 64, 65, 66, 67, 68, 69, 70] (by decide +kernel) (by decide +kernel)
set_option maxRecDepth 20000 in
theorem gX2_reconnect_X2_isPeer : GoodIn wsX2_reconnect (wsV RX2 88 RX2 yX2_isPeer wsX2_isPeer) := goodIn_app (goodIn_of _ (by decide +kernel)) ggX2_reconnect_X2_isPeer
set_option maxRecDepth 20000 in
theorem ggX2_reconnect_X2_selectsAll : GoodIn wsX2_reconnect wsX2_selectsAll := goodIn_r _ [18, 19, 20, 21, 9, 22, 23, 24, 11, 1, 25, 26, 27, 28, 29, 30, 31, 32, 33, 34, 35, 55, 56, 57, 58, 59, 60, 61, 62, 63, 64, 65, 66, 67, 68, 69, 70] (by decide +kernel) (by decide +kernel)
set_option maxRecDepth 20000 in
theorem gX2_reconnect_X2_selectsAll : GoodIn wsX2_reconnect (wsV RX2 81 RX2 yX2_selectsAll wsX2_selectsAll) := goodIn_app (goodIn_of _ (by decide +kernel)) ggX2_reconnect_X2_selectsAll
set_option maxRecDepth 20000 in
theorem ggX2_reconnect_X2_forgets : GoodIn wsX2_reconnect wsX2_forgets := goodIn_r _ [39, 34, 35, 55, 56, 57, 58, 59, 60, 61, 62, 63, 64, 65, 66, 67, 68, 69, 70] (by decide +kernel) (by decide +kernel)
set_option maxRecDepth 20000 in
theorem gX2_reconnect_X2_forgets : GoodIn wsX2_reconnect (wsV RX2 84 RX2 yX2_forgets wsX2_forgets) := goodIn_app (goodIn_of _ (by decide +kernel)) ggX2_reconnect_X2_forgets
set_option maxRecDepth 20000 in
theorem ggX2_reconnect_X2_checksDeferral : GoodIn wsX2_reconnect wsX2_checksDeferral := goodIn_r _ [43, 5, 44, 11, 1, 3, 45, 46, 47, 9, 48, 49, 50, 15, 16, 17, 18, 19, 20, 21, 22, 23, 24, 25, 26, 27, 28, 29, 30, 31, 32, 33, 34, 35, 36, 37, 38, 39, 55, 56, 57, 58, 59, 60, 61, 62, 63, 64, 65, 66, 67, 68, 69, 70] (by decide +kernel) (by decide +kernel)
set_option maxRecDepth 20000 in
theorem gX2_reconnect_X2_checksDeferral : GoodIn wsX2_reconnect (wsV RX2 106 RX2 yX2_checksDeferral wsX2_checksDeferral) := goodIn_app (goodIn_of _ (by decide +kernel)) ggX2_reconnect_X2_checksDeferral
set_option maxRecDepth 20000 in
theorem ggX2_reconnect_X2_known : GoodIn wsX2_reconnect wsX2_known := goodIn_r _ [54, 29, 55, 56, 57, 58, 59, 60, 61, 62, 63, 64, 65, 66, 67, 68, 69, 70] (by decide +kernel) (by decide +kernel)
set_option maxRecDepth 20000 in
theorem gX2_reconnect_X2_known : GoodIn wsX2_reconnect (wsV RX2 109 RX2 yX2_known wsX2_known) := goodIn_app (goodIn_of _ (by decide +kernel)) ggX2_reconnect_X2_known
theorem dX2_reconnect_0 : decode cX2_reconnect 0 = .ok (.aload_n 0, 1) := by decide +kernel
theorem dX2_reconnect_1 : decode cX2_reconnect 1 = .ok (.iload_n 1, 1) := by decide +kernel
theorem dX2_reconnect_2 : decode cX2_reconnect 2 = .ok (.invokevirtual 88, 3) := by decide +kernel
theorem dX2_reconnect_5 : decode cX2_reconnect 5 = .ok (.ifCond .ne 5, 3) := by decide +kernel
theorem dX2_reconnect_8 : decode cX2_reconnect 8 = .ok (.iconst (-1), 1) := by decide +kernel
theorem dX2_reconnect_9 : decode cX2_reconnect 9 = .ok (.ireturn, 1) := by decide +kernel
theorem dX2_reconnect_10 : decode cX2_reconnect 10 = .ok (.aload_n 0, 1) := by decide +kernel
theorem dX2_reconnect_11 : decode cX2_reconnect 11 = .ok (.getfield 23, 3) := by decide +kernel
theorem dX2_reconnect_14 : decode cX2_reconnect 14 = .ok (.iload_n 1, 1) := by decide +kernel
theorem dX2_reconnect_15 : decode cX2_reconnect 15 = .ok (.iaload, 1) := by decide +kernel
theorem dX2_reconnect_16 : decode cX2_reconnect 16 = .ok (.ifCond .ne 6, 3) := by decide +kernel
theorem dX2_reconnect_19 : decode cX2_reconnect 19 = .ok (.bipush (-4), 2) := by decide +kernel
theorem dX2_reconnect_21 : decode cX2_reconnect 21 = .ok (.ireturn, 1) := by decide +kernel
theorem dX2_reconnect_22 : decode cX2_reconnect 22 = .ok (.aload_n 0, 1) := by decide +kernel
theorem dX2_reconnect_23 : decode cX2_reconnect 23 = .ok (.getfield 23, 3) := by decide +kernel
theorem dX2_reconnect_26 : decode cX2_reconnect 26 = .ok (.iload_n 1, 1) := by decide +kernel
theorem dX2_reconnect_27 : decode cX2_reconnect 27 = .ok (.iaload, 1) := by decide +kernel
theorem dX2_reconnect_28 : decode cX2_reconnect 28 = .ok (.iconst 1, 1) := by decide +kernel
theorem dX2_reconnect_29 : decode cX2_reconnect 29 = .ok (.if_icmp .ne 20, 3) := by decide +kernel
theorem dX2_reconnect_32 : decode cX2_reconnect 32 = .ok (.aload_n 0, 1) := by decide +kernel
theorem dX2_reconnect_33 : decode cX2_reconnect 33 = .ok (.getfield 27, 3) := by decide +kernel
theorem dX2_reconnect_36 : decode cX2_reconnect 36 = .ok (.iload_n 1, 1) := by decide +kernel
theorem dX2_reconnect_37 : decode cX2_reconnect 37 = .ok (.iconst 0, 1) := by decide +kernel
theorem dX2_reconnect_38 : decode cX2_reconnect 38 = .ok (.iastore, 1) := by decide +kernel
theorem dX2_reconnect_39 : decode cX2_reconnect 39 = .ok (.aload_n 0, 1) := by decide +kernel
theorem dX2_reconnect_40 : decode cX2_reconnect 40 = .ok (.getfield 30, 3) := by decide +kernel
theorem dX2_reconnect_43 : decode cX2_reconnect 43 = .ok (.iload_n 1, 1) := by decide +kernel
theorem dX2_reconnect_44 : decode cX2_reconnect 44 = .ok (.aload_n 0, 1) := by decide +kernel
theorem dX2_reconnect_45 : decode cX2_reconnect 45 = .ok (.getfield 13, 3) := by decide +kernel
theorem dX2_reconnect_48 : decode cX2_reconnect 48 = .ok (.iastore, 1) := by decide +kernel
theorem dX2_reconnect_49 : decode cX2_reconnect 49 = .ok (.aload_n 0, 1) := by decide +kernel
theorem dX2_reconnect_50 : decode cX2_reconnect 50 = .ok (.getfield 23, 3) := by decide +kernel
theorem dX2_reconnect_53 : decode cX2_reconnect 53 = .ok (.iload_n 1, 1) := by decide +kernel
theorem dX2_reconnect_54 : decode cX2_reconnect 54 = .ok (.iconst 0, 1) := by decide +kernel
theorem dX2_reconnect_55 : decode cX2_reconnect 55 = .ok (.iastore, 1) := by decide +kernel
theorem dX2_reconnect_56 : decode cX2_reconnect 56 = .ok (.aload_n 0, 1) := by decide +kernel
theorem dX2_reconnect_57 : decode cX2_reconnect 57 = .ok (.getfield 70, 3) := by decide +kernel
theorem dX2_reconnect_60 : decode cX2_reconnect 60 = .ok (.ifCond .ne 21, 3) := by decide +kernel
theorem dX2_reconnect_63 : decode cX2_reconnect 63 = .ok (.aload_n 0, 1) := by decide +kernel
theorem dX2_reconnect_64 : decode cX2_reconnect 64 = .ok (.invokevirtual 81, 3) := by decide +kernel
theorem dX2_reconnect_67 : decode cX2_reconnect 67 = .ok (.aload_n 0, 1) := by decide +kernel
theorem dX2_reconnect_68 : decode cX2_reconnect 68 = .ok (.iload_n 1, 1) := by decide +kernel
theorem dX2_reconnect_69 : decode cX2_reconnect 69 = .ok (.iconst 1, 1) := by decide +kernel
theorem dX2_reconnect_70 : decode cX2_reconnect 70 = .ok (.invokevirtual 84, 3) := by decide +kernel
theorem dX2_reconnect_73 : decode cX2_reconnect 73 = .ok (.pop, 1) := by decide +kernel
theorem dX2_reconnect_74 : decode cX2_reconnect 74 = .ok (.aload_n 0, 1) := by decide +kernel
theorem dX2_reconnect_75 : decode cX2_reconnect 75 = .ok (.getfield 30, 3) := by decide +kernel
theorem dX2_reconnect_78 : decode cX2_reconnect 78 = .ok (.iload_n 1, 1) := by decide +kernel
theorem dX2_reconnect_79 : decode cX2_reconnect 79 = .ok (.iconst 0, 1) := by decide +kernel
theorem dX2_reconnect_80 : decode cX2_reconnect 80 = .ok (.iastore, 1) := by decide +kernel
theorem dX2_reconnect_81 : decode cX2_reconnect 81 = .ok (.aload_n 0, 1) := by decide +kernel
theorem dX2_reconnect_82 : decode cX2_reconnect 82 = .ok (.invokevirtual 106, 3) := by decide +kernel
theorem dX2_reconnect_85 : decode cX2_reconnect 85 = .ok (.aload_n 0, 1) := by decide +kernel
theorem dX2_reconnect_86 : decode cX2_reconnect 86 = .ok (.iload_n 1, 1) := by decide +kernel
theorem dX2_reconnect_87 : decode cX2_reconnect 87 = .ok (.invokevirtual 109, 3) := by decide +kernel
theorem dX2_reconnect_90 : decode cX2_reconnect 90 = .ok (.ireturn, 1) := by decide +kernel
set_option maxRecDepth 20000 in
theorem ggX2_disconnect_X2_isPeer : GoodIn wsX2_disconnect wsX2_isPeer := goodIn_r _ [9, 10, 11, 12, 8, 13, 50, 51, 52, 53, 54, 55, 56, 57, 58, 59, 60, 61, 62, 63, 64, 65] (by decide +kernel) (by decide +kernel)
set_option maxRecDepth 20000 in
theorem gX2_disconnect_X2_isPeer : GoodIn wsX2_disconnect (wsV RX2 88 RX2 yX2_isPeer wsX2_isPeer) := goodIn_app (goodIn_of _ (by decide +kernel)) ggX2_disconnect_X2_isPeer
set_option maxRecDepth 20000 in
theorem ggX2_disconnect_X2_forgets : GoodIn wsX2_disconnect wsX2_forgets := goodIn_r _ [17, 18, 19, 50, 51, 52, 53, 54, 55, 56, 57, 58, 59, 60, 61, 62, 63, 64, 65] (by decide +kernel) (by decide +kernel)
set_option maxRecDepth 20000 in
theorem gX2_disconnect_X2_forgets : GoodIn wsX2_disconnect (wsV RX2 84 RX2 yX2_forgets wsX2_forgets) := goodIn_app (goodIn_of _ (by decide +kernel)) ggX2_disconnect_X2_forgets
set_option maxRecDepth 20000 in
theorem ggX2_disconnect_X2_selectsAll : GoodIn wsX2_disconnect wsX2_selectsAll := goodIn_r _ [23, 24, 25, 26, 8, 27, 28, 29, 10, 1, 30, 31, 32, 33, 34, 35, 36, 37, 38, 18, 19, 50, 51, 52, 53, 54, 55, 56, 57, 58, 59, 60, 61, 62, 63, 64, 65] (by decide +kernel) (by decide +kernel)
set_option maxRecDepth 20000 in
theorem gX2_disconnect_X2_selectsAll : GoodIn wsX2_disconnect (wsV RX2 81 RX2 yX2_selectsAll wsX2_selectsAll) := goodIn_app (goodIn_of _ (by decide +kernel)) ggX2_disconnect_X2_selectsAll
set_option maxRecDepth 20000 in
theorem ggX2_disconnect_X2_checksDeferral : GoodIn wsX2_disconnect wsX2_checksDeferral := goodIn_r _ [42, 4, 43, 10, 1, 3, 44, 45, 46, 8, 47, 48, 49, 20, 21, 22, 23, 24, 25, 26, 27, 28, 29, 30, 31, 32, 33, 34, 35, 36, 37, 38, 18, 19, 14, 15, 16, 17, 50, 51, 52, 53, 54, 55, 56, 57, 58, 59, 60, 61, 62, 63, 64, 65] (by decide +kernel) (by decide +kernel)
set_option maxRecDepth 20000 in
theorem gX2_disconnect_X2_checksDeferral : GoodIn wsX2_disconnect (wsV RX2 106 RX2 yX2_checksDeferral wsX2_checksDeferral) := goodIn_app (goodIn_of _ (by decide +kernel)) ggX2_disconnect_X2_checksDeferral
theorem dX2_disconnect_0 : decode cX2_disconnect 0 = .ok (.aload_n 0, 1) := by decide +kernel
theorem dX2_disconnect_1 : decode cX2_disconnect 1 = .ok (.iload_n 1, 1) := by decide +kernel
theorem dX2_disconnect_2 : decode cX2_disconnect 2 = .ok (.invokevirtual 88, 3) := by decide +kernel
theorem dX2_disconnect_5 : decode cX2_disconnect 5 = .ok (.ifCond .ne 5, 3) := by decide +kernel
theorem dX2_disconnect_8 : decode cX2_disconnect 8 = .ok (.iconst (-1), 1) := by decide +kernel
theorem dX2_disconnect_9 : decode cX2_disconnect 9 = .ok (.ireturn, 1) := by decide +kernel
theorem dX2_disconnect_10 : decode cX2_disconnect 10 = .ok (.aload_n 0, 1) := by decide +kernel
theorem dX2_disconnect_11 : decode cX2_disconnect 11 = .ok (.getfield 23, 3) := by decide +kernel
theorem dX2_disconnect_14 : decode cX2_disconnect 14 = .ok (.iload_n 1, 1) := by decide +kernel
theorem dX2_disconnect_15 : decode cX2_disconnect 15 = .ok (.iaload, 1) := by decide +kernel
theorem dX2_disconnect_16 : decode cX2_disconnect 16 = .ok (.iconst 2, 1) := by decide +kernel
theorem dX2_disconnect_17 : decode cX2_disconnect 17 = .ok (.if_icmp .ne 6, 3) := by decide +kernel
theorem dX2_disconnect_20 : decode cX2_disconnect 20 = .ok (.bipush (-4), 2) := by decide +kernel
theorem dX2_disconnect_22 : decode cX2_disconnect 22 = .ok (.ireturn, 1) := by decide +kernel
theorem dX2_disconnect_23 : decode cX2_disconnect 23 = .ok (.aload_n 0, 1) := by decide +kernel
theorem dX2_disconnect_24 : decode cX2_disconnect 24 = .ok (.getfield 23, 3) := by decide +kernel
theorem dX2_disconnect_27 : decode cX2_disconnect 27 = .ok (.iload_n 1, 1) := by decide +kernel
theorem dX2_disconnect_28 : decode cX2_disconnect 28 = .ok (.iconst 2, 1) := by decide +kernel
theorem dX2_disconnect_29 : decode cX2_disconnect 29 = .ok (.iastore, 1) := by decide +kernel
theorem dX2_disconnect_30 : decode cX2_disconnect 30 = .ok (.aload_n 0, 1) := by decide +kernel
theorem dX2_disconnect_31 : decode cX2_disconnect 31 = .ok (.getfield 27, 3) := by decide +kernel
theorem dX2_disconnect_34 : decode cX2_disconnect 34 = .ok (.iload_n 1, 1) := by decide +kernel
theorem dX2_disconnect_35 : decode cX2_disconnect 35 = .ok (.iconst 0, 1) := by decide +kernel
theorem dX2_disconnect_36 : decode cX2_disconnect 36 = .ok (.iastore, 1) := by decide +kernel
theorem dX2_disconnect_37 : decode cX2_disconnect 37 = .ok (.aload_n 0, 1) := by decide +kernel
theorem dX2_disconnect_38 : decode cX2_disconnect 38 = .ok (.getfield 30, 3) := by decide +kernel
theorem dX2_disconnect_41 : decode cX2_disconnect 41 = .ok (.iload_n 1, 1) := by decide +kernel
theorem dX2_disconnect_42 : decode cX2_disconnect 42 = .ok (.iconst 0, 1) := by decide +kernel
theorem dX2_disconnect_43 : decode cX2_disconnect 43 = .ok (.iastore, 1) := by decide +kernel
theorem dX2_disconnect_44 : decode cX2_disconnect 44 = .ok (.aload_n 0, 1) := by decide +kernel
theorem dX2_disconnect_45 : decode cX2_disconnect 45 = .ok (.iload_n 1, 1) := by decide +kernel
theorem dX2_disconnect_46 : decode cX2_disconnect 46 = .ok (.iconst 0, 1) := by decide +kernel
theorem dX2_disconnect_47 : decode cX2_disconnect 47 = .ok (.invokevirtual 84, 3) := by decide +kernel
theorem dX2_disconnect_50 : decode cX2_disconnect 50 = .ok (.istore_n 2, 1) := by decide +kernel
theorem dX2_disconnect_51 : decode cX2_disconnect 51 = .ok (.aload_n 0, 1) := by decide +kernel
theorem dX2_disconnect_52 : decode cX2_disconnect 52 = .ok (.getfield 70, 3) := by decide +kernel
theorem dX2_disconnect_55 : decode cX2_disconnect 55 = .ok (.ifCond .ne 7, 3) := by decide +kernel
theorem dX2_disconnect_58 : decode cX2_disconnect 58 = .ok (.aload_n 0, 1) := by decide +kernel
theorem dX2_disconnect_59 : decode cX2_disconnect 59 = .ok (.invokevirtual 81, 3) := by decide +kernel
theorem dX2_disconnect_62 : decode cX2_disconnect 62 = .ok (.aload_n 0, 1) := by decide +kernel
theorem dX2_disconnect_63 : decode cX2_disconnect 63 = .ok (.invokevirtual 106, 3) := by decide +kernel
theorem dX2_disconnect_66 : decode cX2_disconnect 66 = .ok (.iload_n 2, 1) := by decide +kernel
theorem dX2_disconnect_67 : decode cX2_disconnect 67 = .ok (.ireturn, 1) := by decide +kernel
set_option maxRecDepth 20000 in
theorem ggX2_endOfTable_X2_isPeer : GoodIn wsX2_endOfTable wsX2_isPeer := goodIn_r _ [7, 8, 9, 10, 6, 11, 49, 50, 51, 52, 53, 54, 55, 56, 57, 58, 59, 60, 61, 62, 63, 64] (by decide +kernel) (by decide +kernel)
set_option maxRecDepth 20000 in
theorem gX2_endOfTable_X2_isPeer : GoodIn wsX2_endOfTable (wsV RX2 88 RX2 yX2_isPeer wsX2_isPeer) := goodIn_app (goodIn_of _ (by decide +kernel)) ggX2_endOfTable_X2_isPeer
set_option maxRecDepth 20000 in
theorem ggX2_endOfTable_X2_within : GoodIn wsX2_endOfTable wsX2_within := goodIn_r _ [11] (by decide +kernel) (by decide +kernel)
set_option maxRecDepth 20000 in
theorem gX2_endOfTable_X2_within : GoodIn wsX2_endOfTable (va_wsS RX2 51 yX2_within wsX2_within) := goodIn_app (goodIn_of _ (by decide +kernel)) ggX2_endOfTable_X2_within
set_option maxRecDepth 20000 in
theorem ggX2_endOfTable_X2_checksDeferral : GoodIn wsX2_endOfTable wsX2_checksDeferral := goodIn_r _ [15, 16, 17, 8, 1, 18, 19, 20, 21, 6, 22, 23, 2, 24, 25, 26, 27, 28, 29, 30, 31, 32, 33, 34, 35, 36, 37, 38, 39, 40, 41, 42, 43, 44, 45, 46, 47, 48, 49, 50, 51, 52, 53, 54, 55, 56, 57, 58, 59, 60, 61, 62, 63, 64] (by decide +kernel) (by decide +kernel)
set_option maxRecDepth 20000 in
theorem gX2_endOfTable_X2_checksDeferral : GoodIn wsX2_endOfTable (wsV RX2 106 RX2 yX2_checksDeferral wsX2_checksDeferral) := goodIn_app (goodIn_of _ (by decide +kernel)) ggX2_endOfTable_X2_checksDeferral
theorem dX2_endOfTable_0 : decode cX2_endOfTable 0 = .ok (.aload_n 0, 1) := by decide +kernel
theorem dX2_endOfTable_1 : decode cX2_endOfTable 1 = .ok (.iload_n 1, 1) := by decide +kernel
theorem dX2_endOfTable_2 : decode cX2_endOfTable 2 = .ok (.invokevirtual 88, 3) := by decide +kernel
theorem dX2_endOfTable_5 : decode cX2_endOfTable 5 = .ok (.ifCond .ne 5, 3) := by decide +kernel
theorem dX2_endOfTable_8 : decode cX2_endOfTable 8 = .ok (.iconst (-1), 1) := by decide +kernel
theorem dX2_endOfTable_9 : decode cX2_endOfTable 9 = .ok (.ireturn, 1) := by decide +kernel
theorem dX2_endOfTable_10 : decode cX2_endOfTable 10 = .ok (.iload_n 2, 1) := by decide +kernel
theorem dX2_endOfTable_11 : decode cX2_endOfTable 11 = .ok (.iconst 0, 1) := by decide +kernel
theorem dX2_endOfTable_12 : decode cX2_endOfTable 12 = .ok (.iconst 1, 1) := by decide +kernel
theorem dX2_endOfTable_13 : decode cX2_endOfTable 13 = .ok (.invokestatic 51, 3) := by decide +kernel
theorem dX2_endOfTable_16 : decode cX2_endOfTable 16 = .ok (.ifCond .ne 6, 3) := by decide +kernel
theorem dX2_endOfTable_19 : decode cX2_endOfTable 19 = .ok (.bipush (-2), 2) := by decide +kernel
theorem dX2_endOfTable_21 : decode cX2_endOfTable 21 = .ok (.ireturn, 1) := by decide +kernel
theorem dX2_endOfTable_22 : decode cX2_endOfTable 22 = .ok (.aload_n 0, 1) := by decide +kernel
theorem dX2_endOfTable_23 : decode cX2_endOfTable 23 = .ok (.getfield 23, 3) := by decide +kernel
theorem dX2_endOfTable_26 : decode cX2_endOfTable 26 = .ok (.iload_n 1, 1) := by decide +kernel
theorem dX2_endOfTable_27 : decode cX2_endOfTable 27 = .ok (.iaload, 1) := by decide +kernel
theorem dX2_endOfTable_28 : decode cX2_endOfTable 28 = .ok (.ifCond .eq 6, 3) := by decide +kernel
theorem dX2_endOfTable_31 : decode cX2_endOfTable 31 = .ok (.bipush (-4), 2) := by decide +kernel
theorem dX2_endOfTable_33 : decode cX2_endOfTable 33 = .ok (.ireturn, 1) := by decide +kernel
theorem dX2_endOfTable_34 : decode cX2_endOfTable 34 = .ok (.aload_n 0, 1) := by decide +kernel
theorem dX2_endOfTable_35 : decode cX2_endOfTable 35 = .ok (.getfield 33, 3) := by decide +kernel
theorem dX2_endOfTable_38 : decode cX2_endOfTable 38 = .ok (.iconst 2, 1) := by decide +kernel
theorem dX2_endOfTable_39 : decode cX2_endOfTable 39 = .ok (.iload_n 1, 1) := by decide +kernel
theorem dX2_endOfTable_40 : decode cX2_endOfTable 40 = .ok (.imul, 1) := by decide +kernel
theorem dX2_endOfTable_41 : decode cX2_endOfTable 41 = .ok (.iload_n 2, 1) := by decide +kernel
theorem dX2_endOfTable_42 : decode cX2_endOfTable 42 = .ok (.iadd, 1) := by decide +kernel
theorem dX2_endOfTable_43 : decode cX2_endOfTable 43 = .ok (.baload, 1) := by decide +kernel
theorem dX2_endOfTable_44 : decode cX2_endOfTable 44 = .ok (.ifCond .eq 5, 3) := by decide +kernel
theorem dX2_endOfTable_47 : decode cX2_endOfTable 47 = .ok (.iconst 0, 1) := by decide +kernel
theorem dX2_endOfTable_48 : decode cX2_endOfTable 48 = .ok (.ireturn, 1) := by decide +kernel
theorem dX2_endOfTable_49 : decode cX2_endOfTable 49 = .ok (.aload_n 0, 1) := by decide +kernel
theorem dX2_endOfTable_50 : decode cX2_endOfTable 50 = .ok (.getfield 33, 3) := by decide +kernel
theorem dX2_endOfTable_53 : decode cX2_endOfTable 53 = .ok (.iconst 2, 1) := by decide +kernel
theorem dX2_endOfTable_54 : decode cX2_endOfTable 54 = .ok (.iload_n 1, 1) := by decide +kernel
theorem dX2_endOfTable_55 : decode cX2_endOfTable 55 = .ok (.imul, 1) := by decide +kernel
theorem dX2_endOfTable_56 : decode cX2_endOfTable 56 = .ok (.iload_n 2, 1) := by decide +kernel
theorem dX2_endOfTable_57 : decode cX2_endOfTable 57 = .ok (.iadd, 1) := by decide +kernel
theorem dX2_endOfTable_58 : decode cX2_endOfTable 58 = .ok (.iconst 1, 1) := by decide +kernel
theorem dX2_endOfTable_59 : decode cX2_endOfTable 59 = .ok (.bastore, 1) := by decide +kernel
theorem dX2_endOfTable_60 : decode cX2_endOfTable 60 = .ok (.aload_n 0, 1) := by decide +kernel
theorem dX2_endOfTable_61 : decode cX2_endOfTable 61 = .ok (.invokevirtual 106, 3) := by decide +kernel
theorem dX2_endOfTable_64 : decode cX2_endOfTable 64 = .ok (.iconst 1, 1) := by decide +kernel
theorem dX2_endOfTable_65 : decode cX2_endOfTable 65 = .ok (.ireturn, 1) := by decide +kernel
set_option maxRecDepth 20000 in
theorem ggX2_ages_X2_forgets : GoodIn wsX2_ages wsX2_forgets := goodIn_r _ [8, 9, 10, 11, 12, 13, 14, 15, 16, 17, 18, 19, 20, 21, 22, 23, 24, 25, 26] (by decide +kernel) (by decide +kernel)
set_option maxRecDepth 20000 in
theorem gX2_ages_X2_forgets : GoodIn wsX2_ages (wsV RX2 84 RX2 yX2_forgets wsX2_forgets) := goodIn_app (goodIn_of _ (by decide +kernel)) ggX2_ages_X2_forgets
theorem dX2_ages_0 : decode cX2_ages 0 = .ok (.iconst 0, 1) := by decide +kernel
theorem dX2_ages_1 : decode cX2_ages 1 = .ok (.istore_n 2, 1) := by decide +kernel
theorem dX2_ages_2 : decode cX2_ages 2 = .ok (.aload_n 0, 1) := by decide +kernel
theorem dX2_ages_3 : decode cX2_ages 3 = .ok (.getfield 27, 3) := by decide +kernel
theorem dX2_ages_6 : decode cX2_ages 6 = .ok (.iload_n 1, 1) := by decide +kernel
theorem dX2_ages_7 : decode cX2_ages 7 = .ok (.iaload, 1) := by decide +kernel
theorem dX2_ages_8 : decode cX2_ages 8 = .ok (.ifCond .le 38, 3) := by decide +kernel
theorem dX2_ages_11 : decode cX2_ages 11 = .ok (.aload_n 0, 1) := by decide +kernel
theorem dX2_ages_12 : decode cX2_ages 12 = .ok (.getfield 27, 3) := by decide +kernel
theorem dX2_ages_15 : decode cX2_ages 15 = .ok (.iload_n 1, 1) := by decide +kernel
theorem dX2_ages_16 : decode cX2_ages 16 = .ok (.dup2, 1) := by decide +kernel
theorem dX2_ages_17 : decode cX2_ages 17 = .ok (.iaload, 1) := by decide +kernel
theorem dX2_ages_18 : decode cX2_ages 18 = .ok (.iconst 1, 1) := by decide +kernel
theorem dX2_ages_19 : decode cX2_ages 19 = .ok (.isub, 1) := by decide +kernel
theorem dX2_ages_20 : decode cX2_ages 20 = .ok (.iastore, 1) := by decide +kernel
theorem dX2_ages_21 : decode cX2_ages 21 = .ok (.aload_n 0, 1) := by decide +kernel
theorem dX2_ages_22 : decode cX2_ages 22 = .ok (.getfield 27, 3) := by decide +kernel
theorem dX2_ages_25 : decode cX2_ages 25 = .ok (.iload_n 1, 1) := by decide +kernel
theorem dX2_ages_26 : decode cX2_ages 26 = .ok (.iaload, 1) := by decide +kernel
theorem dX2_ages_27 : decode cX2_ages 27 = .ok (.ifCond .ne 19, 3) := by decide +kernel
theorem dX2_ages_30 : decode cX2_ages 30 = .ok (.aload_n 0, 1) := by decide +kernel
theorem dX2_ages_31 : decode cX2_ages 31 = .ok (.getfield 23, 3) := by decide +kernel
theorem dX2_ages_34 : decode cX2_ages 34 = .ok (.iload_n 1, 1) := by decide +kernel
theorem dX2_ages_35 : decode cX2_ages 35 = .ok (.iconst 2, 1) := by decide +kernel
theorem dX2_ages_36 : decode cX2_ages 36 = .ok (.iastore, 1) := by decide +kernel
theorem dX2_ages_37 : decode cX2_ages 37 = .ok (.iload_n 2, 1) := by decide +kernel
theorem dX2_ages_38 : decode cX2_ages 38 = .ok (.aload_n 0, 1) := by decide +kernel
theorem dX2_ages_39 : decode cX2_ages 39 = .ok (.iload_n 1, 1) := by decide +kernel
theorem dX2_ages_40 : decode cX2_ages 40 = .ok (.iconst 0, 1) := by decide +kernel
theorem dX2_ages_41 : decode cX2_ages 41 = .ok (.invokevirtual 84, 3) := by decide +kernel
theorem dX2_ages_44 : decode cX2_ages 44 = .ok (.iadd, 1) := by decide +kernel
theorem dX2_ages_45 : decode cX2_ages 45 = .ok (.istore_n 2, 1) := by decide +kernel
theorem dX2_ages_46 : decode cX2_ages 46 = .ok (.aload_n 0, 1) := by decide +kernel
theorem dX2_ages_47 : decode cX2_ages 47 = .ok (.getfield 30, 3) := by decide +kernel
theorem dX2_ages_50 : decode cX2_ages 50 = .ok (.iload_n 1, 1) := by decide +kernel
theorem dX2_ages_51 : decode cX2_ages 51 = .ok (.iaload, 1) := by decide +kernel
theorem dX2_ages_52 : decode cX2_ages 52 = .ok (.ifCond .le 35, 3) := by decide +kernel
theorem dX2_ages_55 : decode cX2_ages 55 = .ok (.aload_n 0, 1) := by decide +kernel
theorem dX2_ages_56 : decode cX2_ages 56 = .ok (.getfield 30, 3) := by decide +kernel
theorem dX2_ages_59 : decode cX2_ages 59 = .ok (.iload_n 1, 1) := by decide +kernel
theorem dX2_ages_60 : decode cX2_ages 60 = .ok (.dup2, 1) := by decide +kernel
theorem dX2_ages_61 : decode cX2_ages 61 = .ok (.iaload, 1) := by decide +kernel
theorem dX2_ages_62 : decode cX2_ages 62 = .ok (.iconst 1, 1) := by decide +kernel
theorem dX2_ages_63 : decode cX2_ages 63 = .ok (.isub, 1) := by decide +kernel
theorem dX2_ages_64 : decode cX2_ages 64 = .ok (.iastore, 1) := by decide +kernel
theorem dX2_ages_65 : decode cX2_ages 65 = .ok (.iload_n 2, 1) := by decide +kernel
theorem dX2_ages_66 : decode cX2_ages 66 = .ok (.aload_n 0, 1) := by decide +kernel
theorem dX2_ages_67 : decode cX2_ages 67 = .ok (.getfield 30, 3) := by decide +kernel
theorem dX2_ages_70 : decode cX2_ages 70 = .ok (.iload_n 1, 1) := by decide +kernel
theorem dX2_ages_71 : decode cX2_ages 71 = .ok (.iaload, 1) := by decide +kernel
theorem dX2_ages_72 : decode cX2_ages 72 = .ok (.ifCond .ne 12, 3) := by decide +kernel
theorem dX2_ages_75 : decode cX2_ages 75 = .ok (.aload_n 0, 1) := by decide +kernel
theorem dX2_ages_76 : decode cX2_ages 76 = .ok (.iload_n 1, 1) := by decide +kernel
theorem dX2_ages_77 : decode cX2_ages 77 = .ok (.iconst 1, 1) := by decide +kernel
theorem dX2_ages_78 : decode cX2_ages 78 = .ok (.invokevirtual 84, 3) := by decide +kernel
theorem dX2_ages_81 : decode cX2_ages 81 = .ok (.goto 4, 3) := by decide +kernel
theorem dX2_ages_84 : decode cX2_ages 84 = .ok (.iconst 0, 1) := by decide +kernel
theorem dX2_ages_85 : decode cX2_ages 85 = .ok (.iadd, 1) := by decide +kernel
theorem dX2_ages_86 : decode cX2_ages 86 = .ok (.istore_n 2, 1) := by decide +kernel
theorem dX2_ages_87 : decode cX2_ages 87 = .ok (.iload_n 2, 1) := by decide +kernel
theorem dX2_ages_88 : decode cX2_ages 88 = .ok (.ireturn, 1) := by decide +kernel
set_option maxRecDepth 20000 in
theorem ggX2_tick_X2_within : GoodIn wsX2_tick wsX2_within := goodIn_r _ [6] (by decide +kernel) (by decide +kernel)
set_option maxRecDepth 20000 in
theorem gX2_tick_X2_within : GoodIn wsX2_tick (va_wsS RX2 51 yX2_within wsX2_within) := goodIn_app (goodIn_of _ (by decide +kernel)) ggX2_tick_X2_within
set_option maxRecDepth 20000 in
theorem ggX2_tick_X2_ages : GoodIn wsX2_tick wsX2_ages := goodIn_r _ [10, 11, 12, 13, 14, 15, 16, 5, 17, 18, 19, 50, 51, 52, 53, 54, 55, 56, 57, 58, 59, 60, 61, 62, 63, 64, 65] (by decide +kernel) (by decide +kernel)
set_option maxRecDepth 20000 in
theorem gX2_tick_X2_ages : GoodIn wsX2_tick (wsV RX2 112 RX2 yX2_ages wsX2_ages) := goodIn_app (goodIn_of _ (by decide +kernel)) ggX2_tick_X2_ages
set_option maxRecDepth 20000 in
theorem ggX2_tick_X2_checksDeferral : GoodIn wsX2_tick wsX2_checksDeferral := goodIn_r _ [23, 24, 2, 1, 12, 13, 25, 26, 27, 5, 28, 29, 30, 31, 32, 33, 34, 35, 36, 37, 38, 39, 40, 41, 42, 43, 44, 45, 46, 47, 48, 49, 18, 19, 14, 15, 16, 17, 50, 51, 52, 53, 54, 55, 56, 57, 58, 59, 60, 61, 62, 63, 64, 65] (by decide +kernel) (by decide +kernel)
set_option maxRecDepth 20000 in
theorem gX2_tick_X2_checksDeferral : GoodIn wsX2_tick (wsV RX2 106 RX2 yX2_checksDeferral wsX2_checksDeferral) := goodIn_app (goodIn_of _ (by decide +kernel)) ggX2_tick_X2_checksDeferral
theorem dX2_tick_0 : decode cX2_tick 0 = .ok (.iload_n 1, 1) := by decide +kernel
theorem dX2_tick_1 : decode cX2_tick 1 = .ok (.iconst 1, 1) := by decide +kernel
theorem dX2_tick_2 : decode cX2_tick 2 = .ok (.bipush 100, 2) := by decide +kernel
theorem dX2_tick_4 : decode cX2_tick 4 = .ok (.invokestatic 51, 3) := by decide +kernel
theorem dX2_tick_7 : decode cX2_tick 7 = .ok (.ifCond .ne 6, 3) := by decide +kernel
theorem dX2_tick_10 : decode cX2_tick 10 = .ok (.bipush (-3), 2) := by decide +kernel
theorem dX2_tick_12 : decode cX2_tick 12 = .ok (.ireturn, 1) := by decide +kernel
theorem dX2_tick_13 : decode cX2_tick 13 = .ok (.iconst 0, 1) := by decide +kernel
theorem dX2_tick_14 : decode cX2_tick 14 = .ok (.istore_n 2, 1) := by decide +kernel
theorem dX2_tick_15 : decode cX2_tick 15 = .ok (.iconst 0, 1) := by decide +kernel
theorem dX2_tick_16 : decode cX2_tick 16 = .ok (.istore_n 3, 1) := by decide +kernel
theorem dX2_tick_17 : decode cX2_tick 17 = .ok (.iload_n 3, 1) := by decide +kernel
theorem dX2_tick_18 : decode cX2_tick 18 = .ok (.iload_n 1, 1) := by decide +kernel
theorem dX2_tick_19 : decode cX2_tick 19 = .ok (.if_icmp .ge 61, 3) := by decide +kernel
theorem dX2_tick_22 : decode cX2_tick 22 = .ok (.iconst 0, 1) := by decide +kernel
theorem dX2_tick_23 : decode cX2_tick 23 = .ok (.istore 4, 2) := by decide +kernel
theorem dX2_tick_25 : decode cX2_tick 25 = .ok (.iload 4, 2) := by decide +kernel
theorem dX2_tick_27 : decode cX2_tick 27 = .ok (.aload_n 0, 1) := by decide +kernel
theorem dX2_tick_28 : decode cX2_tick 28 = .ok (.getfield 55, 3) := by decide +kernel
theorem dX2_tick_31 : decode cX2_tick 31 = .ok (.if_icmp .ge 18, 3) := by decide +kernel
theorem dX2_tick_34 : decode cX2_tick 34 = .ok (.iload_n 2, 1) := by decide +kernel
theorem dX2_tick_35 : decode cX2_tick 35 = .ok (.aload_n 0, 1) := by decide +kernel
theorem dX2_tick_36 : decode cX2_tick 36 = .ok (.iload 4, 2) := by decide +kernel
theorem dX2_tick_38 : decode cX2_tick 38 = .ok (.invokevirtual 112, 3) := by decide +kernel
theorem dX2_tick_41 : decode cX2_tick 41 = .ok (.iadd, 1) := by decide +kernel
theorem dX2_tick_42 : decode cX2_tick 42 = .ok (.istore_n 2, 1) := by decide +kernel
theorem dX2_tick_43 : decode cX2_tick 43 = .ok (.iinc 4 1, 3) := by decide +kernel
theorem dX2_tick_46 : decode cX2_tick 46 = .ok (.goto (-21), 3) := by decide +kernel
theorem dX2_tick_49 : decode cX2_tick 49 = .ok (.aload_n 0, 1) := by decide +kernel
theorem dX2_tick_50 : decode cX2_tick 50 = .ok (.dup, 1) := by decide +kernel
theorem dX2_tick_51 : decode cX2_tick 51 = .ok (.getfield 78, 3) := by decide +kernel
theorem dX2_tick_54 : decode cX2_tick 54 = .ok (.aload_n 0, 1) := by decide +kernel
theorem dX2_tick_55 : decode cX2_tick 55 = .ok (.getfield 78, 3) := by decide +kernel
theorem dX2_tick_58 : decode cX2_tick 58 = .ok (.ifCond .le 7, 3) := by decide +kernel
theorem dX2_tick_61 : decode cX2_tick 61 = .ok (.iconst 1, 1) := by decide +kernel
theorem dX2_tick_62 : decode cX2_tick 62 = .ok (.goto 4, 3) := by decide +kernel
theorem dX2_tick_65 : decode cX2_tick 65 = .ok (.iconst 0, 1) := by decide +kernel
theorem dX2_tick_66 : decode cX2_tick 66 = .ok (.isub, 1) := by decide +kernel
theorem dX2_tick_67 : decode cX2_tick 67 = .ok (.putfield 78, 3) := by decide +kernel
theorem dX2_tick_70 : decode cX2_tick 70 = .ok (.aload_n 0, 1) := by decide +kernel
theorem dX2_tick_71 : decode cX2_tick 71 = .ok (.invokevirtual 106, 3) := by decide +kernel
theorem dX2_tick_74 : decode cX2_tick 74 = .ok (.iinc 3 1, 3) := by decide +kernel
theorem dX2_tick_77 : decode cX2_tick 77 = .ok (.goto (-60), 3) := by decide +kernel
theorem dX2_tick_80 : decode cX2_tick 80 = .ok (.iload_n 2, 1) := by decide +kernel
theorem dX2_tick_81 : decode cX2_tick 81 = .ok (.ireturn, 1) := by decide +kernel
theorem dX2_isDeferring_0 : decode cX2_isDeferring 0 = .ok (.aload_n 0, 1) := by decide +kernel
theorem dX2_isDeferring_1 : decode cX2_isDeferring 1 = .ok (.getfield 70, 3) := by decide +kernel
theorem dX2_isDeferring_4 : decode cX2_isDeferring 4 = .ok (.ifCond .eq 7, 3) := by decide +kernel
theorem dX2_isDeferring_7 : decode cX2_isDeferring 7 = .ok (.iconst 1, 1) := by decide +kernel
theorem dX2_isDeferring_8 : decode cX2_isDeferring 8 = .ok (.goto 4, 3) := by decide +kernel
theorem dX2_isDeferring_11 : decode cX2_isDeferring 11 = .ok (.iconst 0, 1) := by decide +kernel
theorem dX2_isDeferring_12 : decode cX2_isDeferring 12 = .ok (.ireturn, 1) := by decide +kernel
theorem dX2_deferralTimer_0 : decode cX2_deferralTimer 0 = .ok (.aload_n 0, 1) := by decide +kernel
theorem dX2_deferralTimer_1 : decode cX2_deferralTimer 1 = .ok (.getfield 78, 3) := by decide +kernel
theorem dX2_deferralTimer_4 : decode cX2_deferralTimer 4 = .ok (.ireturn, 1) := by decide +kernel
set_option maxRecDepth 20000 in
theorem ggX2_waitingPeers_X2_waiting : GoodIn wsX2_waitingPeers wsX2_waiting := goodIn_r _ [6, 7, 8, 9, 10, 11, 12, 13, 14, 15, 16, 17, 18, 19, 20, 21, 22, 23, 24, 25, 26] (by decide +kernel) (by decide +kernel)
set_option maxRecDepth 20000 in
theorem gX2_waitingPeers_X2_waiting : GoodIn wsX2_waitingPeers (wsV RX2 74 RX2 yX2_waiting wsX2_waiting) := goodIn_app (goodIn_of _ (by decide +kernel)) ggX2_waitingPeers_X2_waiting
theorem dX2_waitingPeers_0 : decode cX2_waitingPeers 0 = .ok (.aload_n 0, 1) := by decide +kernel
theorem dX2_waitingPeers_1 : decode cX2_waitingPeers 1 = .ok (.getfield 70, 3) := by decide +kernel
theorem dX2_waitingPeers_4 : decode cX2_waitingPeers 4 = .ok (.ifCond .eq 10, 3) := by decide +kernel
theorem dX2_waitingPeers_7 : decode cX2_waitingPeers 7 = .ok (.aload_n 0, 1) := by decide +kernel
theorem dX2_waitingPeers_8 : decode cX2_waitingPeers 8 = .ok (.invokevirtual 74, 3) := by decide +kernel
theorem dX2_waitingPeers_11 : decode cX2_waitingPeers 11 = .ok (.goto 4, 3) := by decide +kernel
theorem dX2_waitingPeers_14 : decode cX2_waitingPeers 14 = .ok (.iconst 0, 1) := by decide +kernel
theorem dX2_waitingPeers_15 : decode cX2_waitingPeers 15 = .ok (.ireturn, 1) := by decide +kernel
set_option maxRecDepth 20000 in
theorem ggX2_nextHop_X2_isRoute : GoodIn wsX2_nextHop wsX2_isRoute := goodIn_r _ [5, 6, 7, 4, 8] (by decide +kernel) (by decide +kernel)
set_option maxRecDepth 20000 in
theorem gX2_nextHop_X2_isRoute : GoodIn wsX2_nextHop (va_wsS RX2 92 yX2_isRoute wsX2_isRoute) := goodIn_app (goodIn_of _ (by decide +kernel)) ggX2_nextHop_X2_isRoute
theorem dX2_nextHop_0 : decode cX2_nextHop 0 = .ok (.iload_n 1, 1) := by decide +kernel
theorem dX2_nextHop_1 : decode cX2_nextHop 1 = .ok (.iload_n 2, 1) := by decide +kernel
theorem dX2_nextHop_2 : decode cX2_nextHop 2 = .ok (.invokestatic 92, 3) := by decide +kernel
theorem dX2_nextHop_5 : decode cX2_nextHop 5 = .ok (.ifCond .eq 17, 3) := by decide +kernel
theorem dX2_nextHop_8 : decode cX2_nextHop 8 = .ok (.aload_n 0, 1) := by decide +kernel
theorem dX2_nextHop_9 : decode cX2_nextHop 9 = .ok (.getfield 45, 3) := by decide +kernel
theorem dX2_nextHop_12 : decode cX2_nextHop 12 = .ok (.bipush 8, 2) := by decide +kernel
theorem dX2_nextHop_14 : decode cX2_nextHop 14 = .ok (.iload_n 1, 1) := by decide +kernel
theorem dX2_nextHop_15 : decode cX2_nextHop 15 = .ok (.imul, 1) := by decide +kernel
theorem dX2_nextHop_16 : decode cX2_nextHop 16 = .ok (.iload_n 2, 1) := by decide +kernel
theorem dX2_nextHop_17 : decode cX2_nextHop 17 = .ok (.iadd, 1) := by decide +kernel
theorem dX2_nextHop_18 : decode cX2_nextHop 18 = .ok (.iaload, 1) := by decide +kernel
theorem dX2_nextHop_19 : decode cX2_nextHop 19 = .ok (.goto 5, 3) := by decide +kernel
theorem dX2_nextHop_22 : decode cX2_nextHop 22 = .ok (.bipush (-2), 2) := by decide +kernel
theorem dX2_nextHop_24 : decode cX2_nextHop 24 = .ok (.ireturn, 1) := by decide +kernel
set_option maxRecDepth 20000 in
theorem ggX2_isEntryStale_X2_isRoute : GoodIn wsX2_isEntryStale wsX2_isRoute := goodIn_r _ [6, 7, 8, 5, 9] (by decide +kernel) (by decide +kernel)
set_option maxRecDepth 20000 in
theorem gX2_isEntryStale_X2_isRoute : GoodIn wsX2_isEntryStale (va_wsS RX2 92 yX2_isRoute wsX2_isRoute) := goodIn_app (goodIn_of _ (by decide +kernel)) ggX2_isEntryStale_X2_isRoute
theorem dX2_isEntryStale_0 : decode cX2_isEntryStale 0 = .ok (.iload_n 1, 1) := by decide +kernel
theorem dX2_isEntryStale_1 : decode cX2_isEntryStale 1 = .ok (.iload_n 2, 1) := by decide +kernel
theorem dX2_isEntryStale_2 : decode cX2_isEntryStale 2 = .ok (.invokestatic 92, 3) := by decide +kernel
theorem dX2_isEntryStale_5 : decode cX2_isEntryStale 5 = .ok (.ifCond .ne 6, 3) := by decide +kernel
theorem dX2_isEntryStale_8 : decode cX2_isEntryStale 8 = .ok (.bipush (-2), 2) := by decide +kernel
theorem dX2_isEntryStale_10 : decode cX2_isEntryStale 10 = .ok (.ireturn, 1) := by decide +kernel
theorem dX2_isEntryStale_11 : decode cX2_isEntryStale 11 = .ok (.bipush 8, 2) := by decide +kernel
theorem dX2_isEntryStale_13 : decode cX2_isEntryStale 13 = .ok (.iload_n 1, 1) := by decide +kernel
theorem dX2_isEntryStale_14 : decode cX2_isEntryStale 14 = .ok (.imul, 1) := by decide +kernel
theorem dX2_isEntryStale_15 : decode cX2_isEntryStale 15 = .ok (.iload_n 2, 1) := by decide +kernel
theorem dX2_isEntryStale_16 : decode cX2_isEntryStale 16 = .ok (.iadd, 1) := by decide +kernel
theorem dX2_isEntryStale_17 : decode cX2_isEntryStale 17 = .ok (.istore_n 3, 1) := by decide +kernel
theorem dX2_isEntryStale_18 : decode cX2_isEntryStale 18 = .ok (.aload_n 0, 1) := by decide +kernel
theorem dX2_isEntryStale_19 : decode cX2_isEntryStale 19 = .ok (.getfield 45, 3) := by decide +kernel
theorem dX2_isEntryStale_22 : decode cX2_isEntryStale 22 = .ok (.iload_n 3, 1) := by decide +kernel
theorem dX2_isEntryStale_23 : decode cX2_isEntryStale 23 = .ok (.iaload, 1) := by decide +kernel
theorem dX2_isEntryStale_24 : decode cX2_isEntryStale 24 = .ok (.bipush (-6), 2) := by decide +kernel
theorem dX2_isEntryStale_26 : decode cX2_isEntryStale 26 = .ok (.if_icmp .ne 8, 3) := by decide +kernel
theorem dX2_isEntryStale_29 : decode cX2_isEntryStale 29 = .ok (.bipush (-6), 2) := by decide +kernel
theorem dX2_isEntryStale_31 : decode cX2_isEntryStale 31 = .ok (.goto 17, 3) := by decide +kernel
theorem dX2_isEntryStale_34 : decode cX2_isEntryStale 34 = .ok (.aload_n 0, 1) := by decide +kernel
theorem dX2_isEntryStale_35 : decode cX2_isEntryStale 35 = .ok (.getfield 48, 3) := by decide +kernel
theorem dX2_isEntryStale_38 : decode cX2_isEntryStale 38 = .ok (.iload_n 3, 1) := by decide +kernel
theorem dX2_isEntryStale_39 : decode cX2_isEntryStale 39 = .ok (.baload, 1) := by decide +kernel
theorem dX2_isEntryStale_40 : decode cX2_isEntryStale 40 = .ok (.ifCond .eq 7, 3) := by decide +kernel
theorem dX2_isEntryStale_43 : decode cX2_isEntryStale 43 = .ok (.iconst 1, 1) := by decide +kernel
theorem dX2_isEntryStale_44 : decode cX2_isEntryStale 44 = .ok (.goto 4, 3) := by decide +kernel
theorem dX2_isEntryStale_47 : decode cX2_isEntryStale 47 = .ok (.iconst 0, 1) := by decide +kernel
theorem dX2_isEntryStale_48 : decode cX2_isEntryStale 48 = .ok (.ireturn, 1) := by decide +kernel
set_option maxRecDepth 20000 in
theorem ggX2_sessionState_X2_isPeer : GoodIn wsX2_sessionState wsX2_isPeer := goodIn_r _ [6, 7, 8, 9, 5, 10, 11, 12, 13, 14, 15, 16, 17, 18, 19, 20, 21, 22, 23, 24, 25, 26] (by decide +kernel) (by decide +kernel)
set_option maxRecDepth 20000 in
theorem gX2_sessionState_X2_isPeer : GoodIn wsX2_sessionState (wsV RX2 88 RX2 yX2_isPeer wsX2_isPeer) := goodIn_app (goodIn_of _ (by decide +kernel)) ggX2_sessionState_X2_isPeer
theorem dX2_sessionState_0 : decode cX2_sessionState 0 = .ok (.aload_n 0, 1) := by decide +kernel
theorem dX2_sessionState_1 : decode cX2_sessionState 1 = .ok (.iload_n 1, 1) := by decide +kernel
theorem dX2_sessionState_2 : decode cX2_sessionState 2 = .ok (.invokevirtual 88, 3) := by decide +kernel
theorem dX2_sessionState_5 : decode cX2_sessionState 5 = .ok (.ifCond .eq 12, 3) := by decide +kernel
theorem dX2_sessionState_8 : decode cX2_sessionState 8 = .ok (.aload_n 0, 1) := by decide +kernel
theorem dX2_sessionState_9 : decode cX2_sessionState 9 = .ok (.getfield 23, 3) := by decide +kernel
theorem dX2_sessionState_12 : decode cX2_sessionState 12 = .ok (.iload_n 1, 1) := by decide +kernel
theorem dX2_sessionState_13 : decode cX2_sessionState 13 = .ok (.iaload, 1) := by decide +kernel
theorem dX2_sessionState_14 : decode cX2_sessionState 14 = .ok (.goto 4, 3) := by decide +kernel
theorem dX2_sessionState_17 : decode cX2_sessionState 17 = .ok (.iconst (-1), 1) := by decide +kernel
theorem dX2_sessionState_18 : decode cX2_sessionState 18 = .ok (.ireturn, 1) := by decide +kernel
set_option maxRecDepth 20000 in
theorem ggX2_restartTimer_X2_isPeer : GoodIn wsX2_restartTimer wsX2_isPeer := goodIn_r _ [6, 7, 8, 9, 5, 10, 11, 12, 13, 14, 15, 16, 17, 18, 19, 20, 21, 22, 23, 24, 25, 26] (by decide +kernel) (by decide +kernel)
set_option maxRecDepth 20000 in
theorem gX2_restartTimer_X2_isPeer : GoodIn wsX2_restartTimer (wsV RX2 88 RX2 yX2_isPeer wsX2_isPeer) := goodIn_app (goodIn_of _ (by decide +kernel)) ggX2_restartTimer_X2_isPeer
theorem dX2_restartTimer_0 : decode cX2_restartTimer 0 = .ok (.aload_n 0, 1) := by decide +kernel
theorem dX2_restartTimer_1 : decode cX2_restartTimer 1 = .ok (.iload_n 1, 1) := by decide +kernel
theorem dX2_restartTimer_2 : decode cX2_restartTimer 2 = .ok (.invokevirtual 88, 3) := by decide +kernel
theorem dX2_restartTimer_5 : decode cX2_restartTimer 5 = .ok (.ifCond .eq 12, 3) := by decide +kernel
theorem dX2_restartTimer_8 : decode cX2_restartTimer 8 = .ok (.aload_n 0, 1) := by decide +kernel
theorem dX2_restartTimer_9 : decode cX2_restartTimer 9 = .ok (.getfield 27, 3) := by decide +kernel
theorem dX2_restartTimer_12 : decode cX2_restartTimer 12 = .ok (.iload_n 1, 1) := by decide +kernel
theorem dX2_restartTimer_13 : decode cX2_restartTimer 13 = .ok (.iaload, 1) := by decide +kernel
theorem dX2_restartTimer_14 : decode cX2_restartTimer 14 = .ok (.goto 4, 3) := by decide +kernel
theorem dX2_restartTimer_17 : decode cX2_restartTimer 17 = .ok (.iconst (-1), 1) := by decide +kernel
theorem dX2_restartTimer_18 : decode cX2_restartTimer 18 = .ok (.ireturn, 1) := by decide +kernel
set_option maxRecDepth 20000 in
theorem ggX2_staleTimer_X2_isPeer : GoodIn wsX2_staleTimer wsX2_isPeer := goodIn_r _ [6, 7, 8, 9, 5, 10, 11, 12, 13, 14, 15, 16, 17, 18, 19, 20, 21, 22, 23, 24, 25, 26] (by decide +kernel) (by decide +kernel)
set_option maxRecDepth 20000 in
theorem gX2_staleTimer_X2_isPeer : GoodIn wsX2_staleTimer (wsV RX2 88 RX2 yX2_isPeer wsX2_isPeer) := goodIn_app (goodIn_of _ (by decide +kernel)) ggX2_staleTimer_X2_isPeer
theorem dX2_staleTimer_0 : decode cX2_staleTimer 0 = .ok (.aload_n 0, 1) := by decide +kernel
theorem dX2_staleTimer_1 : decode cX2_staleTimer 1 = .ok (.iload_n 1, 1) := by decide +kernel
theorem dX2_staleTimer_2 : decode cX2_staleTimer 2 = .ok (.invokevirtual 88, 3) := by decide +kernel
theorem dX2_staleTimer_5 : decode cX2_staleTimer 5 = .ok (.ifCond .eq 12, 3) := by decide +kernel
theorem dX2_staleTimer_8 : decode cX2_staleTimer 8 = .ok (.aload_n 0, 1) := by decide +kernel
theorem dX2_staleTimer_9 : decode cX2_staleTimer 9 = .ok (.getfield 30, 3) := by decide +kernel
theorem dX2_staleTimer_12 : decode cX2_staleTimer 12 = .ok (.iload_n 1, 1) := by decide +kernel
theorem dX2_staleTimer_13 : decode cX2_staleTimer 13 = .ok (.iaload, 1) := by decide +kernel
theorem dX2_staleTimer_14 : decode cX2_staleTimer 14 = .ok (.goto 4, 3) := by decide +kernel
theorem dX2_staleTimer_17 : decode cX2_staleTimer 17 = .ok (.iconst (-1), 1) := by decide +kernel
theorem dX2_staleTimer_18 : decode cX2_staleTimer 18 = .ok (.ireturn, 1) := by decide +kernel
set_option maxRecDepth 20000 in
theorem ggX2_learnedLength_X2_refused : GoodIn wsX2_learnedLength wsX2_refused := goodIn_r _ [6, 7, 8, 9, 5, 10, 11, 12, 13, 14, 15, 16, 17, 18, 19, 20, 21, 22, 23, 24, 25, 26, 27, 28, 29, 30, 31, 32, 33] (by decide +kernel) (by decide +kernel)
set_option maxRecDepth 20000 in
theorem gX2_learnedLength_X2_refused : GoodIn wsX2_learnedLength (wsV RX2 96 RX2 yX2_refused wsX2_refused) := goodIn_app (goodIn_of _ (by decide +kernel)) ggX2_learnedLength_X2_refused
theorem dX2_learnedLength_0 : decode cX2_learnedLength 0 = .ok (.aload_n 0, 1) := by decide +kernel
theorem dX2_learnedLength_1 : decode cX2_learnedLength 1 = .ok (.iload_n 1, 1) := by decide +kernel
theorem dX2_learnedLength_2 : decode cX2_learnedLength 2 = .ok (.iload_n 2, 1) := by decide +kernel
theorem dX2_learnedLength_3 : decode cX2_learnedLength 3 = .ok (.iload_n 3, 1) := by decide +kernel
theorem dX2_learnedLength_4 : decode cX2_learnedLength 4 = .ok (.invokevirtual 96, 3) := by decide +kernel
theorem dX2_learnedLength_7 : decode cX2_learnedLength 7 = .ok (.istore 4, 2) := by decide +kernel
theorem dX2_learnedLength_9 : decode cX2_learnedLength 9 = .ok (.iload 4, 2) := by decide +kernel
theorem dX2_learnedLength_11 : decode cX2_learnedLength 11 = .ok (.ifCond .eq 6, 3) := by decide +kernel
theorem dX2_learnedLength_14 : decode cX2_learnedLength 14 = .ok (.iload 4, 2) := by decide +kernel
theorem dX2_learnedLength_16 : decode cX2_learnedLength 16 = .ok (.ireturn, 1) := by decide +kernel
theorem dX2_learnedLength_17 : decode cX2_learnedLength 17 = .ok (.aload_n 0, 1) := by decide +kernel
theorem dX2_learnedLength_18 : decode cX2_learnedLength 18 = .ok (.getfield 39, 3) := by decide +kernel
theorem dX2_learnedLength_21 : decode cX2_learnedLength 21 = .ok (.bipush 16, 2) := by decide +kernel
theorem dX2_learnedLength_23 : decode cX2_learnedLength 23 = .ok (.iload_n 1, 1) := by decide +kernel
theorem dX2_learnedLength_24 : decode cX2_learnedLength 24 = .ok (.imul, 1) := by decide +kernel
theorem dX2_learnedLength_25 : decode cX2_learnedLength 25 = .ok (.bipush 8, 2) := by decide +kernel
theorem dX2_learnedLength_27 : decode cX2_learnedLength 27 = .ok (.iload_n 2, 1) := by decide +kernel
theorem dX2_learnedLength_28 : decode cX2_learnedLength 28 = .ok (.imul, 1) := by decide +kernel
theorem dX2_learnedLength_29 : decode cX2_learnedLength 29 = .ok (.iadd, 1) := by decide +kernel
theorem dX2_learnedLength_30 : decode cX2_learnedLength 30 = .ok (.iload_n 3, 1) := by decide +kernel
theorem dX2_learnedLength_31 : decode cX2_learnedLength 31 = .ok (.iadd, 1) := by decide +kernel
theorem dX2_learnedLength_32 : decode cX2_learnedLength 32 = .ok (.iaload, 1) := by decide +kernel
theorem dX2_learnedLength_33 : decode cX2_learnedLength 33 = .ok (.istore 5, 2) := by decide +kernel
theorem dX2_learnedLength_35 : decode cX2_learnedLength 35 = .ok (.iload 5, 2) := by decide +kernel
theorem dX2_learnedLength_37 : decode cX2_learnedLength 37 = .ok (.ifCond .ne 8, 3) := by decide +kernel
theorem dX2_learnedLength_40 : decode cX2_learnedLength 40 = .ok (.bipush (-6), 2) := by decide +kernel
theorem dX2_learnedLength_42 : decode cX2_learnedLength 42 = .ok (.goto 5, 3) := by decide +kernel
theorem dX2_learnedLength_45 : decode cX2_learnedLength 45 = .ok (.iload 5, 2) := by decide +kernel
theorem dX2_learnedLength_47 : decode cX2_learnedLength 47 = .ok (.ireturn, 1) := by decide +kernel
set_option maxRecDepth 20000 in
theorem ggX2_isLearnedStale_X2_refused : GoodIn wsX2_isLearnedStale wsX2_refused := goodIn_r _ [7, 8, 9, 10, 6, 11, 12, 13, 14, 15, 16, 17, 18, 19, 20, 21, 22, 23, 24, 25, 26, 27, 28, 29, 30, 31, 32, 33, 34] (by decide +kernel) (by decide +kernel)
set_option maxRecDepth 20000 in
theorem gX2_isLearnedStale_X2_refused : GoodIn wsX2_isLearnedStale (wsV RX2 96 RX2 yX2_refused wsX2_refused) := goodIn_app (goodIn_of _ (by decide +kernel)) ggX2_isLearnedStale_X2_refused
theorem dX2_isLearnedStale_0 : decode cX2_isLearnedStale 0 = .ok (.aload_n 0, 1) := by decide +kernel
theorem dX2_isLearnedStale_1 : decode cX2_isLearnedStale 1 = .ok (.iload_n 1, 1) := by decide +kernel
theorem dX2_isLearnedStale_2 : decode cX2_isLearnedStale 2 = .ok (.iload_n 2, 1) := by decide +kernel
theorem dX2_isLearnedStale_3 : decode cX2_isLearnedStale 3 = .ok (.iload_n 3, 1) := by decide +kernel
theorem dX2_isLearnedStale_4 : decode cX2_isLearnedStale 4 = .ok (.invokevirtual 96, 3) := by decide +kernel
theorem dX2_isLearnedStale_7 : decode cX2_isLearnedStale 7 = .ok (.istore 4, 2) := by decide +kernel
theorem dX2_isLearnedStale_9 : decode cX2_isLearnedStale 9 = .ok (.iload 4, 2) := by decide +kernel
theorem dX2_isLearnedStale_11 : decode cX2_isLearnedStale 11 = .ok (.ifCond .eq 6, 3) := by decide +kernel
theorem dX2_isLearnedStale_14 : decode cX2_isLearnedStale 14 = .ok (.iload 4, 2) := by decide +kernel
theorem dX2_isLearnedStale_16 : decode cX2_isLearnedStale 16 = .ok (.ireturn, 1) := by decide +kernel
theorem dX2_isLearnedStale_17 : decode cX2_isLearnedStale 17 = .ok (.bipush 16, 2) := by decide +kernel
theorem dX2_isLearnedStale_19 : decode cX2_isLearnedStale 19 = .ok (.iload_n 1, 1) := by decide +kernel
theorem dX2_isLearnedStale_20 : decode cX2_isLearnedStale 20 = .ok (.imul, 1) := by decide +kernel
theorem dX2_isLearnedStale_21 : decode cX2_isLearnedStale 21 = .ok (.bipush 8, 2) := by decide +kernel
theorem dX2_isLearnedStale_23 : decode cX2_isLearnedStale 23 = .ok (.iload_n 2, 1) := by decide +kernel
theorem dX2_isLearnedStale_24 : decode cX2_isLearnedStale 24 = .ok (.imul, 1) := by decide +kernel
theorem dX2_isLearnedStale_25 : decode cX2_isLearnedStale 25 = .ok (.iadd, 1) := by decide +kernel
theorem dX2_isLearnedStale_26 : decode cX2_isLearnedStale 26 = .ok (.iload_n 3, 1) := by decide +kernel
theorem dX2_isLearnedStale_27 : decode cX2_isLearnedStale 27 = .ok (.iadd, 1) := by decide +kernel
theorem dX2_isLearnedStale_28 : decode cX2_isLearnedStale 28 = .ok (.istore 5, 2) := by decide +kernel
theorem dX2_isLearnedStale_30 : decode cX2_isLearnedStale 30 = .ok (.aload_n 0, 1) := by decide +kernel
theorem dX2_isLearnedStale_31 : decode cX2_isLearnedStale 31 = .ok (.getfield 39, 3) := by decide +kernel
theorem dX2_isLearnedStale_34 : decode cX2_isLearnedStale 34 = .ok (.iload 5, 2) := by decide +kernel
theorem dX2_isLearnedStale_36 : decode cX2_isLearnedStale 36 = .ok (.iaload, 1) := by decide +kernel
theorem dX2_isLearnedStale_37 : decode cX2_isLearnedStale 37 = .ok (.ifCond .ne 8, 3) := by decide +kernel
theorem dX2_isLearnedStale_40 : decode cX2_isLearnedStale 40 = .ok (.bipush (-6), 2) := by decide +kernel
theorem dX2_isLearnedStale_42 : decode cX2_isLearnedStale 42 = .ok (.goto 18, 3) := by decide +kernel
theorem dX2_isLearnedStale_45 : decode cX2_isLearnedStale 45 = .ok (.aload_n 0, 1) := by decide +kernel
theorem dX2_isLearnedStale_46 : decode cX2_isLearnedStale 46 = .ok (.getfield 42, 3) := by decide +kernel
theorem dX2_isLearnedStale_49 : decode cX2_isLearnedStale 49 = .ok (.iload 5, 2) := by decide +kernel
theorem dX2_isLearnedStale_51 : decode cX2_isLearnedStale 51 = .ok (.baload, 1) := by decide +kernel
theorem dX2_isLearnedStale_52 : decode cX2_isLearnedStale 52 = .ok (.ifCond .eq 7, 3) := by decide +kernel
theorem dX2_isLearnedStale_55 : decode cX2_isLearnedStale 55 = .ok (.iconst 1, 1) := by decide +kernel
theorem dX2_isLearnedStale_56 : decode cX2_isLearnedStale 56 = .ok (.goto 4, 3) := by decide +kernel
theorem dX2_isLearnedStale_59 : decode cX2_isLearnedStale 59 = .ok (.iconst 0, 1) := by decide +kernel
theorem dX2_isLearnedStale_60 : decode cX2_isLearnedStale 60 = .ok (.ireturn, 1) := by decide +kernel
theorem dX2_forwards_0 : decode cX2_forwards 0 = .ok (.aload_n 0, 1) := by decide +kernel
theorem dX2_forwards_1 : decode cX2_forwards 1 = .ok (.getfield 39, 3) := by decide +kernel
theorem dX2_forwards_4 : decode cX2_forwards 4 = .ok (.bipush 16, 2) := by decide +kernel
theorem dX2_forwards_6 : decode cX2_forwards 6 = .ok (.iload_n 1, 1) := by decide +kernel
theorem dX2_forwards_7 : decode cX2_forwards 7 = .ok (.imul, 1) := by decide +kernel
theorem dX2_forwards_8 : decode cX2_forwards 8 = .ok (.iload_n 2, 1) := by decide +kernel
theorem dX2_forwards_9 : decode cX2_forwards 9 = .ok (.iadd, 1) := by decide +kernel
theorem dX2_forwards_10 : decode cX2_forwards 10 = .ok (.iaload, 1) := by decide +kernel
theorem dX2_forwards_11 : decode cX2_forwards 11 = .ok (.ifCond .ne 6, 3) := by decide +kernel
theorem dX2_forwards_14 : decode cX2_forwards 14 = .ok (.bipush (-6), 2) := by decide +kernel
theorem dX2_forwards_16 : decode cX2_forwards 16 = .ok (.ireturn, 1) := by decide +kernel
theorem dX2_forwards_17 : decode cX2_forwards 17 = .ok (.aload_n 0, 1) := by decide +kernel
theorem dX2_forwards_18 : decode cX2_forwards 18 = .ok (.getfield 45, 3) := by decide +kernel
theorem dX2_forwards_21 : decode cX2_forwards 21 = .ok (.iload_n 2, 1) := by decide +kernel
theorem dX2_forwards_22 : decode cX2_forwards 22 = .ok (.iaload, 1) := by decide +kernel
theorem dX2_forwards_23 : decode cX2_forwards 23 = .ok (.bipush (-6), 2) := by decide +kernel
theorem dX2_forwards_25 : decode cX2_forwards 25 = .ok (.if_icmp .ne 8, 3) := by decide +kernel
theorem dX2_forwards_28 : decode cX2_forwards 28 = .ok (.bipush (-7), 2) := by decide +kernel
theorem dX2_forwards_30 : decode cX2_forwards 30 = .ok (.goto 24, 3) := by decide +kernel
theorem dX2_forwards_33 : decode cX2_forwards 33 = .ok (.aload_n 0, 1) := by decide +kernel
theorem dX2_forwards_34 : decode cX2_forwards 34 = .ok (.getfield 45, 3) := by decide +kernel
theorem dX2_forwards_37 : decode cX2_forwards 37 = .ok (.iload_n 2, 1) := by decide +kernel
theorem dX2_forwards_38 : decode cX2_forwards 38 = .ok (.iaload, 1) := by decide +kernel
theorem dX2_forwards_39 : decode cX2_forwards 39 = .ok (.iload_n 1, 1) := by decide +kernel
theorem dX2_forwards_40 : decode cX2_forwards 40 = .ok (.if_icmp .ne 8, 3) := by decide +kernel
theorem dX2_forwards_43 : decode cX2_forwards 43 = .ok (.bipush (-8), 2) := by decide +kernel
theorem dX2_forwards_45 : decode cX2_forwards 45 = .ok (.goto 9, 3) := by decide +kernel
theorem dX2_forwards_48 : decode cX2_forwards 48 = .ok (.aload_n 0, 1) := by decide +kernel
theorem dX2_forwards_49 : decode cX2_forwards 49 = .ok (.getfield 45, 3) := by decide +kernel
theorem dX2_forwards_52 : decode cX2_forwards 52 = .ok (.iload_n 2, 1) := by decide +kernel
theorem dX2_forwards_53 : decode cX2_forwards 53 = .ok (.iaload, 1) := by decide +kernel
theorem dX2_forwards_54 : decode cX2_forwards 54 = .ok (.ireturn, 1) := by decide +kernel
set_option maxRecDepth 20000 in
theorem ggX2_forward_X2_refused : GoodIn wsX2_forward wsX2_refused := goodIn_r _ [5, 6, 7, 8, 4, 9, 10, 11, 12, 13, 14, 15, 16, 23, 24, 25, 26, 27, 28, 29, 30, 31, 32, 33, 34, 35, 36, 37, 38] (by decide +kernel) (by decide +kernel)
set_option maxRecDepth 20000 in
theorem gX2_forward_X2_refused : GoodIn wsX2_forward (wsV RX2 96 RX2 yX2_refused wsX2_refused) := goodIn_app (goodIn_of _ (by decide +kernel)) ggX2_forward_X2_refused
set_option maxRecDepth 20000 in
theorem ggX2_forward_X2_forwards : GoodIn wsX2_forward wsX2_forwards := goodIn_r _ [20, 21, 22, 23, 24, 25, 26, 27, 28, 29, 30, 31, 32, 33, 34, 35, 36, 37, 38] (by decide +kernel) (by decide +kernel)
set_option maxRecDepth 20000 in
theorem gX2_forward_X2_forwards : GoodIn wsX2_forward (wsV RX2 115 RX2 yX2_forwards wsX2_forwards) := goodIn_app (goodIn_of _ (by decide +kernel)) ggX2_forward_X2_forwards
theorem dX2_forward_0 : decode cX2_forward 0 = .ok (.aload_n 0, 1) := by decide +kernel
theorem dX2_forward_1 : decode cX2_forward 1 = .ok (.iload_n 1, 1) := by decide +kernel
theorem dX2_forward_2 : decode cX2_forward 2 = .ok (.iload_n 2, 1) := by decide +kernel
theorem dX2_forward_3 : decode cX2_forward 3 = .ok (.iload_n 3, 1) := by decide +kernel
theorem dX2_forward_4 : decode cX2_forward 4 = .ok (.invokevirtual 96, 3) := by decide +kernel
theorem dX2_forward_7 : decode cX2_forward 7 = .ok (.istore 4, 2) := by decide +kernel
theorem dX2_forward_9 : decode cX2_forward 9 = .ok (.iload 4, 2) := by decide +kernel
theorem dX2_forward_11 : decode cX2_forward 11 = .ok (.ifCond .eq 8, 3) := by decide +kernel
theorem dX2_forward_14 : decode cX2_forward 14 = .ok (.iload 4, 2) := by decide +kernel
theorem dX2_forward_16 : decode cX2_forward 16 = .ok (.goto 14, 3) := by decide +kernel
theorem dX2_forward_19 : decode cX2_forward 19 = .ok (.aload_n 0, 1) := by decide +kernel
theorem dX2_forward_20 : decode cX2_forward 20 = .ok (.iload_n 1, 1) := by decide +kernel
theorem dX2_forward_21 : decode cX2_forward 21 = .ok (.bipush 8, 2) := by decide +kernel
theorem dX2_forward_23 : decode cX2_forward 23 = .ok (.iload_n 2, 1) := by decide +kernel
theorem dX2_forward_24 : decode cX2_forward 24 = .ok (.imul, 1) := by decide +kernel
theorem dX2_forward_25 : decode cX2_forward 25 = .ok (.iload_n 3, 1) := by decide +kernel
theorem dX2_forward_26 : decode cX2_forward 26 = .ok (.iadd, 1) := by decide +kernel
theorem dX2_forward_27 : decode cX2_forward 27 = .ok (.invokevirtual 115, 3) := by decide +kernel
theorem dX2_forward_30 : decode cX2_forward 30 = .ok (.ireturn, 1) := by decide +kernel
set_option maxRecDepth 20000 in
theorem ggX2_reachableCount_X2_isPeer : GoodIn wsX2_reachableCount wsX2_isPeer := goodIn_r _ [5, 6, 7, 8, 4, 9, 16, 17, 18, 19, 20, 21, 22, 23, 24, 25, 26, 27, 28, 29, 30, 31] (by decide +kernel) (by decide +kernel)
set_option maxRecDepth 20000 in
theorem gX2_reachableCount_X2_isPeer : GoodIn wsX2_reachableCount (wsV RX2 88 RX2 yX2_isPeer wsX2_isPeer) := goodIn_app (goodIn_of _ (by decide +kernel)) ggX2_reachableCount_X2_isPeer
set_option maxRecDepth 20000 in
theorem ggX2_reachableCount_X2_forwards : GoodIn wsX2_reachableCount wsX2_forwards := goodIn_r _ [13, 14, 15, 16, 17, 18, 19, 20, 21, 22, 23, 24, 25, 26, 27, 28, 29, 30, 31] (by decide +kernel) (by decide +kernel)
set_option maxRecDepth 20000 in
theorem gX2_reachableCount_X2_forwards : GoodIn wsX2_reachableCount (wsV RX2 115 RX2 yX2_forwards wsX2_forwards) := goodIn_app (goodIn_of _ (by decide +kernel)) ggX2_reachableCount_X2_forwards
theorem dX2_reachableCount_0 : decode cX2_reachableCount 0 = .ok (.aload_n 0, 1) := by decide +kernel
theorem dX2_reachableCount_1 : decode cX2_reachableCount 1 = .ok (.iload_n 1, 1) := by decide +kernel
theorem dX2_reachableCount_2 : decode cX2_reachableCount 2 = .ok (.invokevirtual 88, 3) := by decide +kernel
theorem dX2_reachableCount_5 : decode cX2_reachableCount 5 = .ok (.ifCond .ne 5, 3) := by decide +kernel
theorem dX2_reachableCount_8 : decode cX2_reachableCount 8 = .ok (.iconst (-1), 1) := by decide +kernel
theorem dX2_reachableCount_9 : decode cX2_reachableCount 9 = .ok (.ireturn, 1) := by decide +kernel
theorem dX2_reachableCount_10 : decode cX2_reachableCount 10 = .ok (.iconst 0, 1) := by decide +kernel
theorem dX2_reachableCount_11 : decode cX2_reachableCount 11 = .ok (.istore_n 2, 1) := by decide +kernel
theorem dX2_reachableCount_12 : decode cX2_reachableCount 12 = .ok (.iconst 0, 1) := by decide +kernel
theorem dX2_reachableCount_13 : decode cX2_reachableCount 13 = .ok (.istore_n 3, 1) := by decide +kernel
theorem dX2_reachableCount_14 : decode cX2_reachableCount 14 = .ok (.iload_n 3, 1) := by decide +kernel
theorem dX2_reachableCount_15 : decode cX2_reachableCount 15 = .ok (.bipush 16, 2) := by decide +kernel
theorem dX2_reachableCount_17 : decode cX2_reachableCount 17 = .ok (.if_icmp .ge 26, 3) := by decide +kernel
theorem dX2_reachableCount_20 : decode cX2_reachableCount 20 = .ok (.iload_n 2, 1) := by decide +kernel
theorem dX2_reachableCount_21 : decode cX2_reachableCount 21 = .ok (.aload_n 0, 1) := by decide +kernel
theorem dX2_reachableCount_22 : decode cX2_reachableCount 22 = .ok (.iload_n 1, 1) := by decide +kernel
theorem dX2_reachableCount_23 : decode cX2_reachableCount 23 = .ok (.iload_n 3, 1) := by decide +kernel
theorem dX2_reachableCount_24 : decode cX2_reachableCount 24 = .ok (.invokevirtual 115, 3) := by decide +kernel
theorem dX2_reachableCount_27 : decode cX2_reachableCount 27 = .ok (.ifCond .lt 7, 3) := by decide +kernel
theorem dX2_reachableCount_30 : decode cX2_reachableCount 30 = .ok (.iconst 1, 1) := by decide +kernel
theorem dX2_reachableCount_31 : decode cX2_reachableCount 31 = .ok (.goto 4, 3) := by decide +kernel
theorem dX2_reachableCount_34 : decode cX2_reachableCount 34 = .ok (.iconst 0, 1) := by decide +kernel
theorem dX2_reachableCount_35 : decode cX2_reachableCount 35 = .ok (.iadd, 1) := by decide +kernel
theorem dX2_reachableCount_36 : decode cX2_reachableCount 36 = .ok (.istore_n 2, 1) := by decide +kernel
theorem dX2_reachableCount_37 : decode cX2_reachableCount 37 = .ok (.iinc 3 1, 3) := by decide +kernel
theorem dX2_reachableCount_40 : decode cX2_reachableCount 40 = .ok (.goto (-26), 3) := by decide +kernel
theorem dX2_reachableCount_43 : decode cX2_reachableCount 43 = .ok (.iload_n 2, 1) := by decide +kernel
theorem dX2_reachableCount_44 : decode cX2_reachableCount 44 = .ok (.ireturn, 1) := by decide +kernel
set_option maxRecDepth 20000 in
theorem ggX2_loopCount_X2_forwards : GoodIn wsX2_loopCount wsX2_forwards := goodIn_r _ [6, 7, 8, 9, 10, 11, 12, 13, 14, 15, 16, 17, 18, 19, 20, 21, 22, 23, 24] (by decide +kernel) (by decide +kernel)
set_option maxRecDepth 20000 in
theorem gX2_loopCount_X2_forwards : GoodIn wsX2_loopCount (wsV RX2 115 RX2 yX2_forwards wsX2_forwards) := goodIn_app (goodIn_of _ (by decide +kernel)) ggX2_loopCount_X2_forwards
theorem dX2_loopCount_0 : decode cX2_loopCount 0 = .ok (.iconst 0, 1) := by decide +kernel
theorem dX2_loopCount_1 : decode cX2_loopCount 1 = .ok (.istore_n 1, 1) := by decide +kernel
theorem dX2_loopCount_2 : decode cX2_loopCount 2 = .ok (.iconst 0, 1) := by decide +kernel
theorem dX2_loopCount_3 : decode cX2_loopCount 3 = .ok (.istore_n 2, 1) := by decide +kernel
theorem dX2_loopCount_4 : decode cX2_loopCount 4 = .ok (.iload_n 2, 1) := by decide +kernel
theorem dX2_loopCount_5 : decode cX2_loopCount 5 = .ok (.bipush 16, 2) := by decide +kernel
theorem dX2_loopCount_7 : decode cX2_loopCount 7 = .ok (.aload_n 0, 1) := by decide +kernel
theorem dX2_loopCount_8 : decode cX2_loopCount 8 = .ok (.getfield 55, 3) := by decide +kernel
theorem dX2_loopCount_11 : decode cX2_loopCount 11 = .ok (.imul, 1) := by decide +kernel
theorem dX2_loopCount_12 : decode cX2_loopCount 12 = .ok (.if_icmp .ge 34, 3) := by decide +kernel
theorem dX2_loopCount_15 : decode cX2_loopCount 15 = .ok (.iload_n 1, 1) := by decide +kernel
theorem dX2_loopCount_16 : decode cX2_loopCount 16 = .ok (.aload_n 0, 1) := by decide +kernel
theorem dX2_loopCount_17 : decode cX2_loopCount 17 = .ok (.iload_n 2, 1) := by decide +kernel
theorem dX2_loopCount_18 : decode cX2_loopCount 18 = .ok (.bipush 16, 2) := by decide +kernel
theorem dX2_loopCount_20 : decode cX2_loopCount 20 = .ok (.idiv, 1) := by decide +kernel
theorem dX2_loopCount_21 : decode cX2_loopCount 21 = .ok (.iload_n 2, 1) := by decide +kernel
theorem dX2_loopCount_22 : decode cX2_loopCount 22 = .ok (.bipush 16, 2) := by decide +kernel
theorem dX2_loopCount_24 : decode cX2_loopCount 24 = .ok (.irem, 1) := by decide +kernel
theorem dX2_loopCount_25 : decode cX2_loopCount 25 = .ok (.invokevirtual 115, 3) := by decide +kernel
theorem dX2_loopCount_28 : decode cX2_loopCount 28 = .ok (.bipush (-8), 2) := by decide +kernel
theorem dX2_loopCount_30 : decode cX2_loopCount 30 = .ok (.if_icmp .ne 7, 3) := by decide +kernel
theorem dX2_loopCount_33 : decode cX2_loopCount 33 = .ok (.iconst 1, 1) := by decide +kernel
theorem dX2_loopCount_34 : decode cX2_loopCount 34 = .ok (.goto 4, 3) := by decide +kernel
theorem dX2_loopCount_37 : decode cX2_loopCount 37 = .ok (.iconst 0, 1) := by decide +kernel
theorem dX2_loopCount_38 : decode cX2_loopCount 38 = .ok (.iadd, 1) := by decide +kernel
theorem dX2_loopCount_39 : decode cX2_loopCount 39 = .ok (.istore_n 1, 1) := by decide +kernel
theorem dX2_loopCount_40 : decode cX2_loopCount 40 = .ok (.iinc 2 1, 3) := by decide +kernel
theorem dX2_loopCount_43 : decode cX2_loopCount 43 = .ok (.goto (-39), 3) := by decide +kernel
theorem dX2_loopCount_46 : decode cX2_loopCount 46 = .ok (.iload_n 1, 1) := by decide +kernel
theorem dX2_loopCount_47 : decode cX2_loopCount 47 = .ok (.ireturn, 1) := by decide +kernel

theorem dX0_init_0 : decode cX0_init 0 = .ok (.aload_n 0, 1) := by decide +kernel
theorem dX0_init_1 : decode cX0_init 1 = .ok (.invokespecial 3, 3) := by decide +kernel
theorem dX0_init_4 : decode cX0_init 4 = .ok (.aload_n 0, 1) := by decide +kernel
theorem dX0_init_5 : decode cX0_init 5 = .ok (.iload_n 1, 1) := by decide +kernel
theorem dX0_init_6 : decode cX0_init 6 = .ok (.putfield 9, 3) := by decide +kernel
theorem dX0_init_9 : decode cX0_init 9 = .ok (.aload_n 0, 1) := by decide +kernel
theorem dX0_init_10 : decode cX0_init 10 = .ok (.bipush 16, 2) := by decide +kernel
theorem dX0_init_12 : decode cX0_init 12 = .ok (.newarray .int, 2) := by decide +kernel
theorem dX0_init_14 : decode cX0_init 14 = .ok (.putfield 15, 3) := by decide +kernel
theorem dX0_init_17 : decode cX0_init 17 = .ok (.aload_n 0, 1) := by decide +kernel
theorem dX0_init_18 : decode cX0_init 18 = .ok (.bipush 16, 2) := by decide +kernel
theorem dX0_init_20 : decode cX0_init 20 = .ok (.newarray .int, 2) := by decide +kernel
theorem dX0_init_22 : decode cX0_init 22 = .ok (.putfield 19, 3) := by decide +kernel
theorem dX0_init_25 : decode cX0_init 25 = .ok (.aload_n 0, 1) := by decide +kernel
theorem dX0_init_26 : decode cX0_init 26 = .ok (.bipush 16, 2) := by decide +kernel
theorem dX0_init_28 : decode cX0_init 28 = .ok (.newarray .boolean, 2) := by decide +kernel
theorem dX0_init_30 : decode cX0_init 30 = .ok (.putfield 22, 3) := by decide +kernel
theorem dX0_init_33 : decode cX0_init 33 = .ok (.aload_n 0, 1) := by decide +kernel
theorem dX0_init_34 : decode cX0_init 34 = .ok (.iconst 0, 1) := by decide +kernel
theorem dX0_init_35 : decode cX0_init 35 = .ok (.putfield 26, 3) := by decide +kernel
theorem dX0_init_38 : decode cX0_init 38 = .ok (.aload_n 0, 1) := by decide +kernel
theorem dX0_init_39 : decode cX0_init 39 = .ok (.iconst 0, 1) := by decide +kernel
theorem dX0_init_40 : decode cX0_init 40 = .ok (.putfield 30, 3) := by decide +kernel
theorem dX0_init_43 : decode cX0_init 43 = .ok (.aload_n 0, 1) := by decide +kernel
theorem dX0_init_44 : decode cX0_init 44 = .ok (.iconst 0, 1) := by decide +kernel
theorem dX0_init_45 : decode cX0_init 45 = .ok (.putfield 33, 3) := by decide +kernel
theorem dX0_init_48 : decode cX0_init 48 = .ok (.aload_n 0, 1) := by decide +kernel
theorem dX0_init_49 : decode cX0_init 49 = .ok (.iconst 0, 1) := by decide +kernel
theorem dX0_init_50 : decode cX0_init 50 = .ok (.putfield 36, 3) := by decide +kernel
theorem dX0_init_53 : decode cX0_init 53 = .ok (.return_, 1) := by decide +kernel
theorem dX0_knownOffer_0 : decode cX0_knownOffer 0 = .ok (.aload_n 0, 1) := by decide +kernel
theorem dX0_knownOffer_1 : decode cX0_knownOffer 1 = .ok (.getfield 26, 3) := by decide +kernel
theorem dX0_knownOffer_4 : decode cX0_knownOffer 4 = .ok (.ifCond .ne 12, 3) := by decide +kernel
theorem dX0_knownOffer_7 : decode cX0_knownOffer 7 = .ok (.aload_n 0, 1) := by decide +kernel
theorem dX0_knownOffer_8 : decode cX0_knownOffer 8 = .ok (.getfield 15, 3) := by decide +kernel
theorem dX0_knownOffer_11 : decode cX0_knownOffer 11 = .ok (.iload_n 1, 1) := by decide +kernel
theorem dX0_knownOffer_12 : decode cX0_knownOffer 12 = .ok (.iaload, 1) := by decide +kernel
theorem dX0_knownOffer_13 : decode cX0_knownOffer 13 = .ok (.goto 4, 3) := by decide +kernel
theorem dX0_knownOffer_16 : decode cX0_knownOffer 16 = .ok (.iconst 0, 1) := by decide +kernel
theorem dX0_knownOffer_17 : decode cX0_knownOffer 17 = .ok (.ireturn, 1) := by decide +kernel
theorem dX0_countOffers_0 : decode cX0_countOffers 0 = .ok (.iconst 0, 1) := by decide +kernel
theorem dX0_countOffers_1 : decode cX0_countOffers 1 = .ok (.istore_n 1, 1) := by decide +kernel
theorem dX0_countOffers_2 : decode cX0_countOffers 2 = .ok (.aload_n 0, 1) := by decide +kernel
theorem dX0_countOffers_3 : decode cX0_countOffers 3 = .ok (.getfield 15, 3) := by decide +kernel
theorem dX0_countOffers_6 : decode cX0_countOffers 6 = .ok (.astore_n 2, 1) := by decide +kernel
theorem dX0_countOffers_7 : decode cX0_countOffers 7 = .ok (.aload_n 2, 1) := by decide +kernel
theorem dX0_countOffers_8 : decode cX0_countOffers 8 = .ok (.arraylength, 1) := by decide +kernel
theorem dX0_countOffers_9 : decode cX0_countOffers 9 = .ok (.istore_n 3, 1) := by decide +kernel
theorem dX0_countOffers_10 : decode cX0_countOffers 10 = .ok (.iconst 0, 1) := by decide +kernel
theorem dX0_countOffers_11 : decode cX0_countOffers 11 = .ok (.istore 4, 2) := by decide +kernel
theorem dX0_countOffers_13 : decode cX0_countOffers 13 = .ok (.iload 4, 2) := by decide +kernel
theorem dX0_countOffers_15 : decode cX0_countOffers 15 = .ok (.iload_n 3, 1) := by decide +kernel
theorem dX0_countOffers_16 : decode cX0_countOffers 16 = .ok (.if_icmp .ge 23, 3) := by decide +kernel
theorem dX0_countOffers_19 : decode cX0_countOffers 19 = .ok (.aload_n 2, 1) := by decide +kernel
theorem dX0_countOffers_20 : decode cX0_countOffers 20 = .ok (.iload 4, 2) := by decide +kernel
theorem dX0_countOffers_22 : decode cX0_countOffers 22 = .ok (.iaload, 1) := by decide +kernel
theorem dX0_countOffers_23 : decode cX0_countOffers 23 = .ok (.istore 5, 2) := by decide +kernel
theorem dX0_countOffers_25 : decode cX0_countOffers 25 = .ok (.iload 5, 2) := by decide +kernel
theorem dX0_countOffers_27 : decode cX0_countOffers 27 = .ok (.ifCond .le 6, 3) := by decide +kernel
theorem dX0_countOffers_30 : decode cX0_countOffers 30 = .ok (.iinc 1 1, 3) := by decide +kernel
theorem dX0_countOffers_33 : decode cX0_countOffers 33 = .ok (.iinc 4 1, 3) := by decide +kernel
theorem dX0_countOffers_36 : decode cX0_countOffers 36 = .ok (.goto (-23), 3) := by decide +kernel
theorem dX0_countOffers_39 : decode cX0_countOffers 39 = .ok (.iload_n 1, 1) := by decide +kernel
theorem dX0_countOffers_40 : decode cX0_countOffers 40 = .ok (.ireturn, 1) := by decide +kernel
theorem dX0_isAwaited_0 : decode cX0_isAwaited 0 = .ok (.aload_n 0, 1) := by decide +kernel
theorem dX0_isAwaited_1 : decode cX0_isAwaited 1 = .ok (.getfield 9, 3) := by decide +kernel
theorem dX0_isAwaited_4 : decode cX0_isAwaited 4 = .ok (.ifCond .eq 23, 3) := by decide +kernel
theorem dX0_isAwaited_7 : decode cX0_isAwaited 7 = .ok (.aload_n 0, 1) := by decide +kernel
theorem dX0_isAwaited_8 : decode cX0_isAwaited 8 = .ok (.getfield 26, 3) := by decide +kernel
theorem dX0_isAwaited_11 : decode cX0_isAwaited 11 = .ok (.iconst 2, 1) := by decide +kernel
theorem dX0_isAwaited_12 : decode cX0_isAwaited 12 = .ok (.if_icmp .eq 15, 3) := by decide +kernel
theorem dX0_isAwaited_15 : decode cX0_isAwaited 15 = .ok (.aload_n 0, 1) := by decide +kernel
theorem dX0_isAwaited_16 : decode cX0_isAwaited 16 = .ok (.getfield 36, 3) := by decide +kernel
theorem dX0_isAwaited_19 : decode cX0_isAwaited 19 = .ok (.iconst 3, 1) := by decide +kernel
theorem dX0_isAwaited_20 : decode cX0_isAwaited 20 = .ok (.if_icmp .eq 7, 3) := by decide +kernel
theorem dX0_isAwaited_23 : decode cX0_isAwaited 23 = .ok (.iconst 1, 1) := by decide +kernel
theorem dX0_isAwaited_24 : decode cX0_isAwaited 24 = .ok (.goto 4, 3) := by decide +kernel
theorem dX0_isAwaited_27 : decode cX0_isAwaited 27 = .ok (.iconst 0, 1) := by decide +kernel
theorem dX0_isAwaited_28 : decode cX0_isAwaited 28 = .ok (.ireturn, 1) := by decide +kernel
theorem dX0_learn_0 : decode cX0_learn 0 = .ok (.aload_n 0, 1) := by decide +kernel
theorem dX0_learn_1 : decode cX0_learn 1 = .ok (.getfield 19, 3) := by decide +kernel
theorem dX0_learn_4 : decode cX0_learn 4 = .ok (.iload_n 1, 1) := by decide +kernel
theorem dX0_learn_5 : decode cX0_learn 5 = .ok (.iload_n 2, 1) := by decide +kernel
theorem dX0_learn_6 : decode cX0_learn 6 = .ok (.iastore, 1) := by decide +kernel
theorem dX0_learn_7 : decode cX0_learn 7 = .ok (.aload_n 0, 1) := by decide +kernel
theorem dX0_learn_8 : decode cX0_learn 8 = .ok (.getfield 22, 3) := by decide +kernel
theorem dX0_learn_11 : decode cX0_learn 11 = .ok (.iload_n 1, 1) := by decide +kernel
theorem dX0_learn_12 : decode cX0_learn 12 = .ok (.iconst 0, 1) := by decide +kernel
theorem dX0_learn_13 : decode cX0_learn 13 = .ok (.bastore, 1) := by decide +kernel
theorem dX0_learn_14 : decode cX0_learn 14 = .ok (.return_, 1) := by decide +kernel
theorem dX0_hearNothing_0 : decode cX0_hearNothing 0 = .ok (.aload_n 0, 1) := by decide +kernel
theorem dX0_hearNothing_1 : decode cX0_hearNothing 1 = .ok (.getfield 22, 3) := by decide +kernel
theorem dX0_hearNothing_4 : decode cX0_hearNothing 4 = .ok (.iload_n 1, 1) := by decide +kernel
theorem dX0_hearNothing_5 : decode cX0_hearNothing 5 = .ok (.baload, 1) := by decide +kernel
theorem dX0_hearNothing_6 : decode cX0_hearNothing 6 = .ok (.ifCond .ne 10, 3) := by decide +kernel
theorem dX0_hearNothing_9 : decode cX0_hearNothing 9 = .ok (.aload_n 0, 1) := by decide +kernel
theorem dX0_hearNothing_10 : decode cX0_hearNothing 10 = .ok (.getfield 19, 3) := by decide +kernel
theorem dX0_hearNothing_13 : decode cX0_hearNothing 13 = .ok (.iload_n 1, 1) := by decide +kernel
theorem dX0_hearNothing_14 : decode cX0_hearNothing 14 = .ok (.iconst 0, 1) := by decide +kernel
theorem dX0_hearNothing_15 : decode cX0_hearNothing 15 = .ok (.iastore, 1) := by decide +kernel
theorem dX0_hearNothing_16 : decode cX0_hearNothing 16 = .ok (.return_, 1) := by decide +kernel
set_option maxRecDepth 20000 in
theorem ggX0_loseRouter_X0_goDown : GoodIn wsX0_loseRouter wsX0_goDown := goodIn_r _ [11, 2, 6, 5, 12, 13, 14, 10, 15, 4, 3, 20, 21, 22, 23, 24, 25, 26, 27] (by decide +kernel) (by decide +kernel)
set_option maxRecDepth 20000 in
theorem gX0_loseRouter_X0_goDown : GoodIn wsX0_loseRouter (wsV RX0 39 RX0 yX0_goDown wsX0_goDown) := goodIn_app (goodIn_of _ (by decide +kernel)) ggX0_loseRouter_X0_goDown
set_option maxRecDepth 20000 in
theorem ggX0_loseRouter_X0_removeStale : GoodIn wsX0_loseRouter wsX0_removeStale := goodIn_r _ [19, 3, 4, 20, 21, 22, 23, 24, 25, 26, 27] (by decide +kernel) (by decide +kernel)
set_option maxRecDepth 20000 in
theorem gX0_loseRouter_X0_removeStale : GoodIn wsX0_loseRouter (wsV RX0 43 RX0 yX0_removeStale wsX0_removeStale) := goodIn_app (goodIn_of _ (by decide +kernel)) ggX0_loseRouter_X0_removeStale
theorem dX0_loseRouter_0 : decode cX0_loseRouter 0 = .ok (.aload_n 0, 1) := by decide +kernel
theorem dX0_loseRouter_1 : decode cX0_loseRouter 1 = .ok (.getfield 9, 3) := by decide +kernel
theorem dX0_loseRouter_4 : decode cX0_loseRouter 4 = .ok (.ifCond .ne 9, 3) := by decide +kernel
theorem dX0_loseRouter_7 : decode cX0_loseRouter 7 = .ok (.aload_n 0, 1) := by decide +kernel
theorem dX0_loseRouter_8 : decode cX0_loseRouter 8 = .ok (.invokevirtual 39, 3) := by decide +kernel
theorem dX0_loseRouter_11 : decode cX0_loseRouter 11 = .ok (.pop, 1) := by decide +kernel
theorem dX0_loseRouter_12 : decode cX0_loseRouter 12 = .ok (.return_, 1) := by decide +kernel
theorem dX0_loseRouter_13 : decode cX0_loseRouter 13 = .ok (.aload_n 0, 1) := by decide +kernel
theorem dX0_loseRouter_14 : decode cX0_loseRouter 14 = .ok (.iconst 1, 1) := by decide +kernel
theorem dX0_loseRouter_15 : decode cX0_loseRouter 15 = .ok (.putfield 26, 3) := by decide +kernel
theorem dX0_loseRouter_18 : decode cX0_loseRouter 18 = .ok (.aload_n 0, 1) := by decide +kernel
theorem dX0_loseRouter_19 : decode cX0_loseRouter 19 = .ok (.invokevirtual 43, 3) := by decide +kernel
theorem dX0_loseRouter_22 : decode cX0_loseRouter 22 = .ok (.pop, 1) := by decide +kernel
theorem dX0_loseRouter_23 : decode cX0_loseRouter 23 = .ok (.iconst 0, 1) := by decide +kernel
theorem dX0_loseRouter_24 : decode cX0_loseRouter 24 = .ok (.istore_n 2, 1) := by decide +kernel
theorem dX0_loseRouter_25 : decode cX0_loseRouter 25 = .ok (.iload_n 2, 1) := by decide +kernel
theorem dX0_loseRouter_26 : decode cX0_loseRouter 26 = .ok (.bipush 16, 2) := by decide +kernel
theorem dX0_loseRouter_28 : decode cX0_loseRouter 28 = .ok (.if_icmp .ge 29, 3) := by decide +kernel
theorem dX0_loseRouter_31 : decode cX0_loseRouter 31 = .ok (.aload_n 0, 1) := by decide +kernel
theorem dX0_loseRouter_32 : decode cX0_loseRouter 32 = .ok (.getfield 22, 3) := by decide +kernel
theorem dX0_loseRouter_35 : decode cX0_loseRouter 35 = .ok (.iload_n 2, 1) := by decide +kernel
theorem dX0_loseRouter_36 : decode cX0_loseRouter 36 = .ok (.aload_n 0, 1) := by decide +kernel
theorem dX0_loseRouter_37 : decode cX0_loseRouter 37 = .ok (.getfield 19, 3) := by decide +kernel
theorem dX0_loseRouter_40 : decode cX0_loseRouter 40 = .ok (.iload_n 2, 1) := by decide +kernel
theorem dX0_loseRouter_41 : decode cX0_loseRouter 41 = .ok (.iaload, 1) := by decide +kernel
theorem dX0_loseRouter_42 : decode cX0_loseRouter 42 = .ok (.ifCond .eq 7, 3) := by decide +kernel
theorem dX0_loseRouter_45 : decode cX0_loseRouter 45 = .ok (.iconst 1, 1) := by decide +kernel
theorem dX0_loseRouter_46 : decode cX0_loseRouter 46 = .ok (.goto 4, 3) := by decide +kernel
theorem dX0_loseRouter_49 : decode cX0_loseRouter 49 = .ok (.iconst 0, 1) := by decide +kernel
theorem dX0_loseRouter_50 : decode cX0_loseRouter 50 = .ok (.bastore, 1) := by decide +kernel
theorem dX0_loseRouter_51 : decode cX0_loseRouter 51 = .ok (.iinc 2 1, 3) := by decide +kernel
theorem dX0_loseRouter_54 : decode cX0_loseRouter 54 = .ok (.goto (-29), 3) := by decide +kernel
theorem dX0_loseRouter_57 : decode cX0_loseRouter 57 = .ok (.aload_n 0, 1) := by decide +kernel
theorem dX0_loseRouter_58 : decode cX0_loseRouter 58 = .ok (.iconst 0, 1) := by decide +kernel
theorem dX0_loseRouter_59 : decode cX0_loseRouter 59 = .ok (.putfield 33, 3) := by decide +kernel
theorem dX0_loseRouter_62 : decode cX0_loseRouter 62 = .ok (.aload_n 0, 1) := by decide +kernel
theorem dX0_loseRouter_63 : decode cX0_loseRouter 63 = .ok (.iload_n 1, 1) := by decide +kernel
theorem dX0_loseRouter_64 : decode cX0_loseRouter 64 = .ok (.putfield 30, 3) := by decide +kernel
theorem dX0_loseRouter_67 : decode cX0_loseRouter 67 = .ok (.return_, 1) := by decide +kernel
theorem dX0_meetRouter_0 : decode cX0_meetRouter 0 = .ok (.aload_n 0, 1) := by decide +kernel
theorem dX0_meetRouter_1 : decode cX0_meetRouter 1 = .ok (.getfield 26, 3) := by decide +kernel
theorem dX0_meetRouter_4 : decode cX0_meetRouter 4 = .ok (.iconst 1, 1) := by decide +kernel
theorem dX0_meetRouter_5 : decode cX0_meetRouter 5 = .ok (.if_icmp .ne 13, 3) := by decide +kernel
theorem dX0_meetRouter_8 : decode cX0_meetRouter 8 = .ok (.aload_n 0, 1) := by decide +kernel
theorem dX0_meetRouter_9 : decode cX0_meetRouter 9 = .ok (.iconst 0, 1) := by decide +kernel
theorem dX0_meetRouter_10 : decode cX0_meetRouter 10 = .ok (.putfield 30, 3) := by decide +kernel
theorem dX0_meetRouter_13 : decode cX0_meetRouter 13 = .ok (.aload_n 0, 1) := by decide +kernel
theorem dX0_meetRouter_14 : decode cX0_meetRouter 14 = .ok (.iload_n 1, 1) := by decide +kernel
theorem dX0_meetRouter_15 : decode cX0_meetRouter 15 = .ok (.putfield 33, 3) := by decide +kernel
theorem dX0_meetRouter_18 : decode cX0_meetRouter 18 = .ok (.aload_n 0, 1) := by decide +kernel
theorem dX0_meetRouter_19 : decode cX0_meetRouter 19 = .ok (.iconst 0, 1) := by decide +kernel
theorem dX0_meetRouter_20 : decode cX0_meetRouter 20 = .ok (.putfield 26, 3) := by decide +kernel
theorem dX0_meetRouter_23 : decode cX0_meetRouter 23 = .ok (.return_, 1) := by decide +kernel
set_option maxRecDepth 20000 in
theorem ggX0_endResync_X0_removeStale : GoodIn wsX0_endResync wsX0_removeStale := goodIn_r _ [6, 7, 8, 9, 10, 11, 12, 13, 14, 15, 16] (by decide +kernel) (by decide +kernel)
set_option maxRecDepth 20000 in
theorem gX0_endResync_X0_removeStale : GoodIn wsX0_endResync (wsV RX0 43 RX0 yX0_removeStale wsX0_removeStale) := goodIn_app (goodIn_of _ (by decide +kernel)) ggX0_endResync_X0_removeStale
theorem dX0_endResync_0 : decode cX0_endResync 0 = .ok (.aload_n 0, 1) := by decide +kernel
theorem dX0_endResync_1 : decode cX0_endResync 1 = .ok (.invokevirtual 43, 3) := by decide +kernel
theorem dX0_endResync_4 : decode cX0_endResync 4 = .ok (.pop, 1) := by decide +kernel
theorem dX0_endResync_5 : decode cX0_endResync 5 = .ok (.aload_n 0, 1) := by decide +kernel
theorem dX0_endResync_6 : decode cX0_endResync 6 = .ok (.iconst 0, 1) := by decide +kernel
theorem dX0_endResync_7 : decode cX0_endResync 7 = .ok (.putfield 33, 3) := by decide +kernel
theorem dX0_endResync_10 : decode cX0_endResync 10 = .ok (.return_, 1) := by decide +kernel
set_option maxRecDepth 20000 in
theorem ggX0_goDown_X0_removeLearned : GoodIn wsX0_goDown wsX0_removeLearned := goodIn_r _ [8, 9, 10, 11, 12, 13, 14, 15, 16, 17, 18] (by decide +kernel) (by decide +kernel)
set_option maxRecDepth 20000 in
theorem gX0_goDown_X0_removeLearned : GoodIn wsX0_goDown (wsV RX0 46 RX0 yX0_removeLearned wsX0_removeLearned) := goodIn_app (goodIn_of _ (by decide +kernel)) ggX0_goDown_X0_removeLearned
theorem dX0_goDown_0 : decode cX0_goDown 0 = .ok (.aload_n 0, 1) := by decide +kernel
theorem dX0_goDown_1 : decode cX0_goDown 1 = .ok (.iconst 2, 1) := by decide +kernel
theorem dX0_goDown_2 : decode cX0_goDown 2 = .ok (.putfield 26, 3) := by decide +kernel
theorem dX0_goDown_5 : decode cX0_goDown 5 = .ok (.aload_n 0, 1) := by decide +kernel
theorem dX0_goDown_6 : decode cX0_goDown 6 = .ok (.iconst 0, 1) := by decide +kernel
theorem dX0_goDown_7 : decode cX0_goDown 7 = .ok (.putfield 30, 3) := by decide +kernel
theorem dX0_goDown_10 : decode cX0_goDown 10 = .ok (.aload_n 0, 1) := by decide +kernel
theorem dX0_goDown_11 : decode cX0_goDown 11 = .ok (.iconst 0, 1) := by decide +kernel
theorem dX0_goDown_12 : decode cX0_goDown 12 = .ok (.putfield 33, 3) := by decide +kernel
theorem dX0_goDown_15 : decode cX0_goDown 15 = .ok (.aload_n 0, 1) := by decide +kernel
theorem dX0_goDown_16 : decode cX0_goDown 16 = .ok (.invokevirtual 46, 3) := by decide +kernel
theorem dX0_goDown_19 : decode cX0_goDown 19 = .ok (.ireturn, 1) := by decide +kernel
set_option maxRecDepth 20000 in
theorem ggX0_countDown_X0_goDown : GoodIn wsX0_countDown wsX0_goDown := goodIn_r _ [7, 8, 1, 2, 9, 10, 11, 6, 12, 13, 14, 19, 20, 21, 22, 23, 24, 25, 26] (by decide +kernel) (by decide +kernel)
set_option maxRecDepth 20000 in
theorem gX0_countDown_X0_goDown : GoodIn wsX0_countDown (wsV RX0 39 RX0 yX0_goDown wsX0_goDown) := goodIn_app (goodIn_of _ (by decide +kernel)) ggX0_countDown_X0_goDown
set_option maxRecDepth 20000 in
theorem ggX0_countDown_X0_removeStale : GoodIn wsX0_countDown wsX0_removeStale := goodIn_r _ [18, 14, 13, 19, 20, 21, 22, 23, 24, 25, 26] (by decide +kernel) (by decide +kernel)
set_option maxRecDepth 20000 in
theorem gX0_countDown_X0_removeStale : GoodIn wsX0_countDown (wsV RX0 43 RX0 yX0_removeStale wsX0_removeStale) := goodIn_app (goodIn_of _ (by decide +kernel)) ggX0_countDown_X0_removeStale
theorem dX0_countDown_0 : decode cX0_countDown 0 = .ok (.iconst 0, 1) := by decide +kernel
theorem dX0_countDown_1 : decode cX0_countDown 1 = .ok (.istore_n 1, 1) := by decide +kernel
theorem dX0_countDown_2 : decode cX0_countDown 2 = .ok (.aload_n 0, 1) := by decide +kernel
theorem dX0_countDown_3 : decode cX0_countDown 3 = .ok (.getfield 30, 3) := by decide +kernel
theorem dX0_countDown_6 : decode cX0_countDown 6 = .ok (.ifCond .le 27, 3) := by decide +kernel
theorem dX0_countDown_9 : decode cX0_countDown 9 = .ok (.aload_n 0, 1) := by decide +kernel
theorem dX0_countDown_10 : decode cX0_countDown 10 = .ok (.dup, 1) := by decide +kernel
theorem dX0_countDown_11 : decode cX0_countDown 11 = .ok (.getfield 30, 3) := by decide +kernel
theorem dX0_countDown_14 : decode cX0_countDown 14 = .ok (.iconst 1, 1) := by decide +kernel
theorem dX0_countDown_15 : decode cX0_countDown 15 = .ok (.isub, 1) := by decide +kernel
theorem dX0_countDown_16 : decode cX0_countDown 16 = .ok (.putfield 30, 3) := by decide +kernel
theorem dX0_countDown_19 : decode cX0_countDown 19 = .ok (.aload_n 0, 1) := by decide +kernel
theorem dX0_countDown_20 : decode cX0_countDown 20 = .ok (.getfield 30, 3) := by decide +kernel
theorem dX0_countDown_23 : decode cX0_countDown 23 = .ok (.ifCond .ne 10, 3) := by decide +kernel
theorem dX0_countDown_26 : decode cX0_countDown 26 = .ok (.iload_n 1, 1) := by decide +kernel
theorem dX0_countDown_27 : decode cX0_countDown 27 = .ok (.aload_n 0, 1) := by decide +kernel
theorem dX0_countDown_28 : decode cX0_countDown 28 = .ok (.invokevirtual 39, 3) := by decide +kernel
theorem dX0_countDown_31 : decode cX0_countDown 31 = .ok (.iadd, 1) := by decide +kernel
theorem dX0_countDown_32 : decode cX0_countDown 32 = .ok (.istore_n 1, 1) := by decide +kernel
theorem dX0_countDown_33 : decode cX0_countDown 33 = .ok (.aload_n 0, 1) := by decide +kernel
theorem dX0_countDown_34 : decode cX0_countDown 34 = .ok (.getfield 33, 3) := by decide +kernel
theorem dX0_countDown_37 : decode cX0_countDown 37 = .ok (.ifCond .le 27, 3) := by decide +kernel
theorem dX0_countDown_40 : decode cX0_countDown 40 = .ok (.aload_n 0, 1) := by decide +kernel
theorem dX0_countDown_41 : decode cX0_countDown 41 = .ok (.dup, 1) := by decide +kernel
theorem dX0_countDown_42 : decode cX0_countDown 42 = .ok (.getfield 33, 3) := by decide +kernel
theorem dX0_countDown_45 : decode cX0_countDown 45 = .ok (.iconst 1, 1) := by decide +kernel
theorem dX0_countDown_46 : decode cX0_countDown 46 = .ok (.isub, 1) := by decide +kernel
theorem dX0_countDown_47 : decode cX0_countDown 47 = .ok (.putfield 33, 3) := by decide +kernel
theorem dX0_countDown_50 : decode cX0_countDown 50 = .ok (.aload_n 0, 1) := by decide +kernel
theorem dX0_countDown_51 : decode cX0_countDown 51 = .ok (.getfield 33, 3) := by decide +kernel
theorem dX0_countDown_54 : decode cX0_countDown 54 = .ok (.ifCond .ne 10, 3) := by decide +kernel
theorem dX0_countDown_57 : decode cX0_countDown 57 = .ok (.iload_n 1, 1) := by decide +kernel
theorem dX0_countDown_58 : decode cX0_countDown 58 = .ok (.aload_n 0, 1) := by decide +kernel
theorem dX0_countDown_59 : decode cX0_countDown 59 = .ok (.invokevirtual 43, 3) := by decide +kernel
theorem dX0_countDown_62 : decode cX0_countDown 62 = .ok (.iadd, 1) := by decide +kernel
theorem dX0_countDown_63 : decode cX0_countDown 63 = .ok (.istore_n 1, 1) := by decide +kernel
theorem dX0_countDown_64 : decode cX0_countDown 64 = .ok (.iload_n 1, 1) := by decide +kernel
theorem dX0_countDown_65 : decode cX0_countDown 65 = .ok (.ireturn, 1) := by decide +kernel
theorem dX0_removeLearned_0 : decode cX0_removeLearned 0 = .ok (.iconst 0, 1) := by decide +kernel
theorem dX0_removeLearned_1 : decode cX0_removeLearned 1 = .ok (.istore_n 1, 1) := by decide +kernel
theorem dX0_removeLearned_2 : decode cX0_removeLearned 2 = .ok (.iconst 0, 1) := by decide +kernel
theorem dX0_removeLearned_3 : decode cX0_removeLearned 3 = .ok (.istore_n 2, 1) := by decide +kernel
theorem dX0_removeLearned_4 : decode cX0_removeLearned 4 = .ok (.iload_n 2, 1) := by decide +kernel
theorem dX0_removeLearned_5 : decode cX0_removeLearned 5 = .ok (.bipush 16, 2) := by decide +kernel
theorem dX0_removeLearned_7 : decode cX0_removeLearned 7 = .ok (.if_icmp .ge 35, 3) := by decide +kernel
theorem dX0_removeLearned_10 : decode cX0_removeLearned 10 = .ok (.aload_n 0, 1) := by decide +kernel
theorem dX0_removeLearned_11 : decode cX0_removeLearned 11 = .ok (.getfield 19, 3) := by decide +kernel
theorem dX0_removeLearned_14 : decode cX0_removeLearned 14 = .ok (.iload_n 2, 1) := by decide +kernel
theorem dX0_removeLearned_15 : decode cX0_removeLearned 15 = .ok (.iaload, 1) := by decide +kernel
theorem dX0_removeLearned_16 : decode cX0_removeLearned 16 = .ok (.ifCond .eq 6, 3) := by decide +kernel
theorem dX0_removeLearned_19 : decode cX0_removeLearned 19 = .ok (.iinc 1 1, 3) := by decide +kernel
theorem dX0_removeLearned_22 : decode cX0_removeLearned 22 = .ok (.aload_n 0, 1) := by decide +kernel
theorem dX0_removeLearned_23 : decode cX0_removeLearned 23 = .ok (.getfield 19, 3) := by decide +kernel
theorem dX0_removeLearned_26 : decode cX0_removeLearned 26 = .ok (.iload_n 2, 1) := by decide +kernel
theorem dX0_removeLearned_27 : decode cX0_removeLearned 27 = .ok (.iconst 0, 1) := by decide +kernel
theorem dX0_removeLearned_28 : decode cX0_removeLearned 28 = .ok (.iastore, 1) := by decide +kernel
theorem dX0_removeLearned_29 : decode cX0_removeLearned 29 = .ok (.aload_n 0, 1) := by decide +kernel
theorem dX0_removeLearned_30 : decode cX0_removeLearned 30 = .ok (.getfield 22, 3) := by decide +kernel
theorem dX0_removeLearned_33 : decode cX0_removeLearned 33 = .ok (.iload_n 2, 1) := by decide +kernel
theorem dX0_removeLearned_34 : decode cX0_removeLearned 34 = .ok (.iconst 0, 1) := by decide +kernel
theorem dX0_removeLearned_35 : decode cX0_removeLearned 35 = .ok (.bastore, 1) := by decide +kernel
theorem dX0_removeLearned_36 : decode cX0_removeLearned 36 = .ok (.iinc 2 1, 3) := by decide +kernel
theorem dX0_removeLearned_39 : decode cX0_removeLearned 39 = .ok (.goto (-35), 3) := by decide +kernel
theorem dX0_removeLearned_42 : decode cX0_removeLearned 42 = .ok (.iload_n 1, 1) := by decide +kernel
theorem dX0_removeLearned_43 : decode cX0_removeLearned 43 = .ok (.ireturn, 1) := by decide +kernel
theorem dX0_removeStale_0 : decode cX0_removeStale 0 = .ok (.iconst 0, 1) := by decide +kernel
theorem dX0_removeStale_1 : decode cX0_removeStale 1 = .ok (.istore_n 1, 1) := by decide +kernel
theorem dX0_removeStale_2 : decode cX0_removeStale 2 = .ok (.iconst 0, 1) := by decide +kernel
theorem dX0_removeStale_3 : decode cX0_removeStale 3 = .ok (.istore_n 2, 1) := by decide +kernel
theorem dX0_removeStale_4 : decode cX0_removeStale 4 = .ok (.iload_n 2, 1) := by decide +kernel
theorem dX0_removeStale_5 : decode cX0_removeStale 5 = .ok (.bipush 16, 2) := by decide +kernel
theorem dX0_removeStale_7 : decode cX0_removeStale 7 = .ok (.if_icmp .ge 35, 3) := by decide +kernel
theorem dX0_removeStale_10 : decode cX0_removeStale 10 = .ok (.aload_n 0, 1) := by decide +kernel
theorem dX0_removeStale_11 : decode cX0_removeStale 11 = .ok (.getfield 22, 3) := by decide +kernel
theorem dX0_removeStale_14 : decode cX0_removeStale 14 = .ok (.iload_n 2, 1) := by decide +kernel
theorem dX0_removeStale_15 : decode cX0_removeStale 15 = .ok (.baload, 1) := by decide +kernel
theorem dX0_removeStale_16 : decode cX0_removeStale 16 = .ok (.ifCond .eq 20, 3) := by decide +kernel
theorem dX0_removeStale_19 : decode cX0_removeStale 19 = .ok (.aload_n 0, 1) := by decide +kernel
theorem dX0_removeStale_20 : decode cX0_removeStale 20 = .ok (.getfield 19, 3) := by decide +kernel
theorem dX0_removeStale_23 : decode cX0_removeStale 23 = .ok (.iload_n 2, 1) := by decide +kernel
theorem dX0_removeStale_24 : decode cX0_removeStale 24 = .ok (.iconst 0, 1) := by decide +kernel
theorem dX0_removeStale_25 : decode cX0_removeStale 25 = .ok (.iastore, 1) := by decide +kernel
theorem dX0_removeStale_26 : decode cX0_removeStale 26 = .ok (.aload_n 0, 1) := by decide +kernel
theorem dX0_removeStale_27 : decode cX0_removeStale 27 = .ok (.getfield 22, 3) := by decide +kernel
theorem dX0_removeStale_30 : decode cX0_removeStale 30 = .ok (.iload_n 2, 1) := by decide +kernel
theorem dX0_removeStale_31 : decode cX0_removeStale 31 = .ok (.iconst 0, 1) := by decide +kernel
theorem dX0_removeStale_32 : decode cX0_removeStale 32 = .ok (.bastore, 1) := by decide +kernel
theorem dX0_removeStale_33 : decode cX0_removeStale 33 = .ok (.iinc 1 1, 3) := by decide +kernel
theorem dX0_removeStale_36 : decode cX0_removeStale 36 = .ok (.iinc 2 1, 3) := by decide +kernel
theorem dX0_removeStale_39 : decode cX0_removeStale 39 = .ok (.goto (-35), 3) := by decide +kernel
theorem dX0_removeStale_42 : decode cX0_removeStale 42 = .ok (.iload_n 1, 1) := by decide +kernel
theorem dX0_removeStale_43 : decode cX0_removeStale 43 = .ok (.ireturn, 1) := by decide +kernel

theorem dX0_init_0 : decode cX0_init 0 = .ok (.aload_n 0, 1) := by decide +kernel
theorem dX0_init_1 : decode cX0_init 1 = .ok (.invokespecial 1, 3) := by decide +kernel
theorem dX0_init_4 : decode cX0_init 4 = .ok (.aload_n 0, 1) := by decide +kernel
theorem dX0_init_5 : decode cX0_init 5 = .ok (.iload_n 1, 1) := by decide +kernel
theorem dX0_init_6 : decode cX0_init 6 = .ok (.putfield 7, 3) := by decide +kernel
theorem dX0_init_9 : decode cX0_init 9 = .ok (.return_, 1) := by decide +kernel
theorem dX0_canTake_0 : decode cX0_canTake 0 = .ok (.aload_n 0, 1) := by decide +kernel
theorem dX0_canTake_1 : decode cX0_canTake 1 = .ok (.getfield 13, 3) := by decide +kernel
theorem dX0_canTake_4 : decode cX0_canTake 4 = .ok (.ifnonnull 18, 3) := by decide +kernel
theorem dX0_canTake_7 : decode cX0_canTake 7 = .ok (.aload_n 0, 1) := by decide +kernel
theorem dX0_canTake_8 : decode cX0_canTake 8 = .ok (.getfield 7, 3) := by decide +kernel
theorem dX0_canTake_11 : decode cX0_canTake 11 = .ok (.aload_n 1, 1) := by decide +kernel
theorem dX0_canTake_12 : decode cX0_canTake 12 = .ok (.getfield 17, 3) := by decide +kernel
theorem dX0_canTake_15 : decode cX0_canTake 15 = .ok (.if_icmp .le 7, 3) := by decide +kernel
theorem dX0_canTake_18 : decode cX0_canTake 18 = .ok (.iconst 1, 1) := by decide +kernel
theorem dX0_canTake_19 : decode cX0_canTake 19 = .ok (.goto 4, 3) := by decide +kernel
theorem dX0_canTake_22 : decode cX0_canTake 22 = .ok (.iconst 0, 1) := by decide +kernel
theorem dX0_canTake_23 : decode cX0_canTake 23 = .ok (.ireturn, 1) := by decide +kernel
theorem dX1_init_0 : decode cX1_init 0 = .ok (.aload_n 0, 1) := by decide +kernel
theorem dX1_init_1 : decode cX1_init 1 = .ok (.invokespecial 3, 3) := by decide +kernel
theorem dX1_init_4 : decode cX1_init 4 = .ok (.aload_n 0, 1) := by decide +kernel
theorem dX1_init_5 : decode cX1_init 5 = .ok (.iload_n 1, 1) := by decide +kernel
theorem dX1_init_6 : decode cX1_init 6 = .ok (.putfield 9, 3) := by decide +kernel
theorem dX1_init_9 : decode cX1_init 9 = .ok (.aload_n 0, 1) := by decide +kernel
theorem dX1_init_10 : decode cX1_init 10 = .ok (.iload_n 2, 1) := by decide +kernel
theorem dX1_init_11 : decode cX1_init 11 = .ok (.putfield 15, 3) := by decide +kernel
theorem dX1_init_14 : decode cX1_init 14 = .ok (.aload_n 0, 1) := by decide +kernel
theorem dX1_init_15 : decode cX1_init 15 = .ok (.iload_n 3, 1) := by decide +kernel
theorem dX1_init_16 : decode cX1_init 16 = .ok (.putfield 18, 3) := by decide +kernel
theorem dX1_init_19 : decode cX1_init 19 = .ok (.aload_n 0, 1) := by decide +kernel
theorem dX1_init_20 : decode cX1_init 20 = .ok (.iload 4, 2) := by decide +kernel
theorem dX1_init_22 : decode cX1_init 22 = .ok (.putfield 21, 3) := by decide +kernel
theorem dX1_init_25 : decode cX1_init 25 = .ok (.aload_n 0, 1) := by decide +kernel
theorem dX1_init_26 : decode cX1_init 26 = .ok (.iconst (-1), 1) := by decide +kernel
theorem dX1_init_27 : decode cX1_init 27 = .ok (.putfield 24, 3) := by decide +kernel
theorem dX1_init_30 : decode cX1_init 30 = .ok (.aload_n 0, 1) := by decide +kernel
theorem dX1_init_31 : decode cX1_init 31 = .ok (.iconst (-1), 1) := by decide +kernel
theorem dX1_init_32 : decode cX1_init 32 = .ok (.putfield 27, 3) := by decide +kernel
theorem dX1_init_35 : decode cX1_init 35 = .ok (.return_, 1) := by decide +kernel
theorem dX1_isFlying_0 : decode cX1_isFlying 0 = .ok (.aload_n 0, 1) := by decide +kernel
theorem dX1_isFlying_1 : decode cX1_isFlying 1 = .ok (.getfield 27, 3) := by decide +kernel
theorem dX1_isFlying_4 : decode cX1_isFlying 4 = .ok (.iconst (-1), 1) := by decide +kernel
theorem dX1_isFlying_5 : decode cX1_isFlying 5 = .ok (.if_icmp .eq 7, 3) := by decide +kernel
theorem dX1_isFlying_8 : decode cX1_isFlying 8 = .ok (.iconst 1, 1) := by decide +kernel
theorem dX1_isFlying_9 : decode cX1_isFlying 9 = .ok (.goto 4, 3) := by decide +kernel
theorem dX1_isFlying_12 : decode cX1_isFlying 12 = .ok (.iconst 0, 1) := by decide +kernel
theorem dX1_isFlying_13 : decode cX1_isFlying 13 = .ok (.ireturn, 1) := by decide +kernel
theorem dX1_isLendable_0 : decode cX1_isLendable 0 = .ok (.aload_n 0, 1) := by decide +kernel
theorem dX1_isLendable_1 : decode cX1_isLendable 1 = .ok (.getfield 24, 3) := by decide +kernel
theorem dX1_isLendable_4 : decode cX1_isLendable 4 = .ok (.iconst (-1), 1) := by decide +kernel
theorem dX1_isLendable_5 : decode cX1_isLendable 5 = .ok (.if_icmp .ne 21, 3) := by decide +kernel
theorem dX1_isLendable_8 : decode cX1_isLendable 8 = .ok (.aload_n 0, 1) := by decide +kernel
theorem dX1_isLendable_9 : decode cX1_isLendable 9 = .ok (.getfield 30, 3) := by decide +kernel
theorem dX1_isLendable_12 : decode cX1_isLendable 12 = .ok (.ifCond .ne 14, 3) := by decide +kernel
theorem dX1_isLendable_15 : decode cX1_isLendable 15 = .ok (.aload_n 0, 1) := by decide +kernel
theorem dX1_isLendable_16 : decode cX1_isLendable 16 = .ok (.getfield 34, 3) := by decide +kernel
theorem dX1_isLendable_19 : decode cX1_isLendable 19 = .ok (.ifCond .ne 7, 3) := by decide +kernel
theorem dX1_isLendable_22 : decode cX1_isLendable 22 = .ok (.iconst 1, 1) := by decide +kernel
theorem dX1_isLendable_23 : decode cX1_isLendable 23 = .ok (.goto 4, 3) := by decide +kernel
theorem dX1_isLendable_26 : decode cX1_isLendable 26 = .ok (.iconst 0, 1) := by decide +kernel
theorem dX1_isLendable_27 : decode cX1_isLendable 27 = .ok (.ireturn, 1) := by decide +kernel
set_option maxRecDepth 20000 in
theorem ggX1_isReadyIn_X1_isFlying : GoodIn wsX1_isReadyIn wsX1_isFlying := goodIn_r _ [7, 8, 27, 28, 29, 30, 31, 32, 33, 34, 35] (by decide +kernel) (by decide +kernel)
set_option maxRecDepth 20000 in
theorem gX1_isReadyIn_X1_isFlying : GoodIn wsX1_isReadyIn (wsV RX1 37 RX1 yX1_isFlying wsX1_isFlying) := goodIn_app (goodIn_of _ (by decide +kernel)) ggX1_isReadyIn_X1_isFlying
set_option maxRecDepth 20000 in
theorem ggX1_isReadyIn_X1_holdsIn : GoodIn wsX1_isReadyIn wsX1_holdsIn := goodIn_r _ [12, 13, 14, 15, 6, 16, 17, 18, 19, 20, 21, 22, 23, 24, 25, 26, 27, 28, 29, 30, 31, 32, 33, 34, 35] (by decide +kernel) (by decide +kernel)
set_option maxRecDepth 20000 in
theorem gX1_isReadyIn_X1_holdsIn : GoodIn wsX1_isReadyIn (wsV RX1 41 RX1 yX1_holdsIn wsX1_holdsIn) := goodIn_app (goodIn_of _ (by decide +kernel)) ggX1_isReadyIn_X1_holdsIn
theorem dX1_isReadyIn_0 : decode cX1_isReadyIn 0 = .ok (.aload_n 0, 1) := by decide +kernel
theorem dX1_isReadyIn_1 : decode cX1_isReadyIn 1 = .ok (.getfield 24, 3) := by decide +kernel
theorem dX1_isReadyIn_4 : decode cX1_isReadyIn 4 = .ok (.iconst (-1), 1) := by decide +kernel
theorem dX1_isReadyIn_5 : decode cX1_isReadyIn 5 = .ok (.if_icmp .eq 29, 3) := by decide +kernel
theorem dX1_isReadyIn_8 : decode cX1_isReadyIn 8 = .ok (.aload_n 0, 1) := by decide +kernel
theorem dX1_isReadyIn_9 : decode cX1_isReadyIn 9 = .ok (.getfield 30, 3) := by decide +kernel
theorem dX1_isReadyIn_12 : decode cX1_isReadyIn 12 = .ok (.ifCond .ne 22, 3) := by decide +kernel
theorem dX1_isReadyIn_15 : decode cX1_isReadyIn 15 = .ok (.aload_n 0, 1) := by decide +kernel
theorem dX1_isReadyIn_16 : decode cX1_isReadyIn 16 = .ok (.invokevirtual 37, 3) := by decide +kernel
theorem dX1_isReadyIn_19 : decode cX1_isReadyIn 19 = .ok (.ifCond .ne 15, 3) := by decide +kernel
theorem dX1_isReadyIn_22 : decode cX1_isReadyIn 22 = .ok (.aload_n 0, 1) := by decide +kernel
theorem dX1_isReadyIn_23 : decode cX1_isReadyIn 23 = .ok (.iload_n 1, 1) := by decide +kernel
theorem dX1_isReadyIn_24 : decode cX1_isReadyIn 24 = .ok (.invokevirtual 41, 3) := by decide +kernel
theorem dX1_isReadyIn_27 : decode cX1_isReadyIn 27 = .ok (.ifCond .eq 7, 3) := by decide +kernel
theorem dX1_isReadyIn_30 : decode cX1_isReadyIn 30 = .ok (.iconst 1, 1) := by decide +kernel
theorem dX1_isReadyIn_31 : decode cX1_isReadyIn 31 = .ok (.goto 4, 3) := by decide +kernel
theorem dX1_isReadyIn_34 : decode cX1_isReadyIn 34 = .ok (.iconst 0, 1) := by decide +kernel
theorem dX1_isReadyIn_35 : decode cX1_isReadyIn 35 = .ok (.ireturn, 1) := by decide +kernel
set_option maxRecDepth 20000 in
theorem ggX1_holdsIn_X1_pullIn : GoodIn wsX1_holdsIn wsX1_pullIn := goodIn_r _ [5, 6, 7, 8, 9, 4, 10, 11, 12, 16, 17, 18, 19, 20, 21, 22, 23, 24] (by decide +kernel) (by decide +kernel)
set_option maxRecDepth 20000 in
theorem gX1_holdsIn_X1_pullIn : GoodIn wsX1_holdsIn (wsV RX1 45 RX1 yX1_pullIn wsX1_pullIn) := goodIn_app (goodIn_of _ (by decide +kernel)) ggX1_holdsIn_X1_pullIn
set_option maxRecDepth 20000 in
theorem ggX1_holdsIn_X2_isWithin : GoodIn wsX1_holdsIn wsX2_isWithin := goodIn_r _ [15] (by decide +kernel) (by decide +kernel)
set_option maxRecDepth 20000 in
theorem gX1_holdsIn_X2_isWithin_n49 : GoodIn wsX1_holdsIn (wsX2_isWithin) := ggX1_holdsIn_X2_isWithin
theorem dX1_holdsIn_0 : decode cX1_holdsIn 0 = .ok (.aload_n 0, 1) := by decide +kernel
theorem dX1_holdsIn_1 : decode cX1_holdsIn 1 = .ok (.iload_n 1, 1) := by decide +kernel
theorem dX1_holdsIn_2 : decode cX1_holdsIn 2 = .ok (.invokevirtual 45, 3) := by decide +kernel
theorem dX1_holdsIn_5 : decode cX1_holdsIn 5 = .ok (.bipush 100, 2) := by decide +kernel
theorem dX1_holdsIn_7 : decode cX1_holdsIn 7 = .ok (.sipush 6000, 3) := by decide +kernel
theorem dX1_holdsIn_10 : decode cX1_holdsIn 10 = .ok (.invokestatic 49, 3) := by decide +kernel
theorem dX1_holdsIn_13 : decode cX1_holdsIn 13 = .ok (.ireturn, 1) := by decide +kernel
set_option maxRecDepth 20000 in
theorem ggX1_pullIn_X1_liftIn : GoodIn wsX1_pullIn wsX1_liftIn := goodIn_r _ [6, 7, 8, 9, 10, 11, 12, 13, 14, 15, 16, 17] (by decide +kernel) (by decide +kernel)
set_option maxRecDepth 20000 in
theorem gX1_pullIn_X1_liftIn : GoodIn wsX1_pullIn (wsV RX1 53 RX1 yX1_liftIn wsX1_liftIn) := goodIn_app (goodIn_of _ (by decide +kernel)) ggX1_pullIn_X1_liftIn
theorem dX1_pullIn_0 : decode cX1_pullIn 0 = .ok (.aload_n 0, 1) := by decide +kernel
theorem dX1_pullIn_1 : decode cX1_pullIn 1 = .ok (.iload_n 1, 1) := by decide +kernel
theorem dX1_pullIn_2 : decode cX1_pullIn 2 = .ok (.invokevirtual 53, 3) := by decide +kernel
theorem dX1_pullIn_5 : decode cX1_pullIn 5 = .ok (.bipush 100, 2) := by decide +kernel
theorem dX1_pullIn_7 : decode cX1_pullIn 7 = .ok (.aload_n 0, 1) := by decide +kernel
theorem dX1_pullIn_8 : decode cX1_pullIn 8 = .ok (.getfield 21, 3) := by decide +kernel
theorem dX1_pullIn_11 : decode cX1_pullIn 11 = .ok (.imul, 1) := by decide +kernel
theorem dX1_pullIn_12 : decode cX1_pullIn 12 = .ok (.isub, 1) := by decide +kernel
theorem dX1_pullIn_13 : decode cX1_pullIn 13 = .ok (.ireturn, 1) := by decide +kernel
theorem dX1_liftIn_0 : decode cX1_liftIn 0 = .ok (.aload_n 0, 1) := by decide +kernel
theorem dX1_liftIn_1 : decode cX1_liftIn 1 = .ok (.getfield 15, 3) := by decide +kernel
theorem dX1_liftIn_4 : decode cX1_liftIn 4 = .ok (.lookupswitch 49 #[(0, 28), (1, 39)], 28) := by decide +kernel
theorem dX1_liftIn_32 : decode cX1_liftIn 32 = .ok (.iconst 5, 1) := by decide +kernel
theorem dX1_liftIn_33 : decode cX1_liftIn 33 = .ok (.aload_n 0, 1) := by decide +kernel
theorem dX1_liftIn_34 : decode cX1_liftIn 34 = .ok (.getfield 18, 3) := by decide +kernel
theorem dX1_liftIn_37 : decode cX1_liftIn 37 = .ok (.imul, 1) := by decide +kernel
theorem dX1_liftIn_38 : decode cX1_liftIn 38 = .ok (.iload_n 1, 1) := by decide +kernel
theorem dX1_liftIn_39 : decode cX1_liftIn 39 = .ok (.imul, 1) := by decide +kernel
theorem dX1_liftIn_40 : decode cX1_liftIn 40 = .ok (.iload_n 1, 1) := by decide +kernel
theorem dX1_liftIn_41 : decode cX1_liftIn 41 = .ok (.imul, 1) := by decide +kernel
theorem dX1_liftIn_42 : decode cX1_liftIn 42 = .ok (.ireturn, 1) := by decide +kernel
theorem dX1_liftIn_43 : decode cX1_liftIn 43 = .ok (.bipush 60, 2) := by decide +kernel
theorem dX1_liftIn_45 : decode cX1_liftIn 45 = .ok (.aload_n 0, 1) := by decide +kernel
theorem dX1_liftIn_46 : decode cX1_liftIn 46 = .ok (.getfield 18, 3) := by decide +kernel
theorem dX1_liftIn_49 : decode cX1_liftIn 49 = .ok (.imul, 1) := by decide +kernel
theorem dX1_liftIn_50 : decode cX1_liftIn 50 = .ok (.iload_n 1, 1) := by decide +kernel
theorem dX1_liftIn_51 : decode cX1_liftIn 51 = .ok (.imul, 1) := by decide +kernel
theorem dX1_liftIn_52 : decode cX1_liftIn 52 = .ok (.ireturn, 1) := by decide +kernel
theorem dX1_liftIn_53 : decode cX1_liftIn 53 = .ok (.bipush 80, 2) := by decide +kernel
theorem dX1_liftIn_55 : decode cX1_liftIn 55 = .ok (.aload_n 0, 1) := by decide +kernel
theorem dX1_liftIn_56 : decode cX1_liftIn 56 = .ok (.getfield 18, 3) := by decide +kernel
theorem dX1_liftIn_59 : decode cX1_liftIn 59 = .ok (.imul, 1) := by decide +kernel
theorem dX1_liftIn_60 : decode cX1_liftIn 60 = .ok (.iload_n 1, 1) := by decide +kernel
theorem dX1_liftIn_61 : decode cX1_liftIn 61 = .ok (.bipush 10, 2) := by decide +kernel
theorem dX1_liftIn_63 : decode cX1_liftIn 63 = .ok (.if_icmp .le 8, 3) := by decide +kernel
theorem dX1_liftIn_66 : decode cX1_liftIn 66 = .ok (.bipush 10, 2) := by decide +kernel
theorem dX1_liftIn_68 : decode cX1_liftIn 68 = .ok (.goto 4, 3) := by decide +kernel
theorem dX1_liftIn_71 : decode cX1_liftIn 71 = .ok (.iload_n 1, 1) := by decide +kernel
theorem dX1_liftIn_72 : decode cX1_liftIn 72 = .ok (.imul, 1) := by decide +kernel
theorem dX1_liftIn_73 : decode cX1_liftIn 73 = .ok (.ireturn, 1) := by decide +kernel
set_option maxRecDepth 20000 in
theorem ggX1_pullByStepsTo_X1_liftAddedBy : GoodIn wsX1_pullByStepsTo wsX1_liftAddedBy := goodIn_r _ [6, 7, 8, 9, 10, 11, 12, 13, 14, 15, 16, 17] (by decide +kernel) (by decide +kernel)
set_option maxRecDepth 20000 in
theorem gX1_pullByStepsTo_X1_liftAddedBy : GoodIn wsX1_pullByStepsTo (wsV RX1 56 RX1 yX1_liftAddedBy wsX1_liftAddedBy) := goodIn_app (goodIn_of _ (by decide +kernel)) ggX1_pullByStepsTo_X1_liftAddedBy
theorem dX1_pullByStepsTo_0 : decode cX1_pullByStepsTo 0 = .ok (.bipush (-100), 2) := by decide +kernel
theorem dX1_pullByStepsTo_2 : decode cX1_pullByStepsTo 2 = .ok (.aload_n 0, 1) := by decide +kernel
theorem dX1_pullByStepsTo_3 : decode cX1_pullByStepsTo 3 = .ok (.getfield 21, 3) := by decide +kernel
theorem dX1_pullByStepsTo_6 : decode cX1_pullByStepsTo 6 = .ok (.imul, 1) := by decide +kernel
theorem dX1_pullByStepsTo_7 : decode cX1_pullByStepsTo 7 = .ok (.istore_n 2, 1) := by decide +kernel
theorem dX1_pullByStepsTo_8 : decode cX1_pullByStepsTo 8 = .ok (.iconst 1, 1) := by decide +kernel
theorem dX1_pullByStepsTo_9 : decode cX1_pullByStepsTo 9 = .ok (.istore_n 3, 1) := by decide +kernel
theorem dX1_pullByStepsTo_10 : decode cX1_pullByStepsTo 10 = .ok (.iload_n 3, 1) := by decide +kernel
theorem dX1_pullByStepsTo_11 : decode cX1_pullByStepsTo 11 = .ok (.iload_n 1, 1) := by decide +kernel
theorem dX1_pullByStepsTo_12 : decode cX1_pullByStepsTo 12 = .ok (.if_icmp .gt 17, 3) := by decide +kernel
theorem dX1_pullByStepsTo_15 : decode cX1_pullByStepsTo 15 = .ok (.iload_n 2, 1) := by decide +kernel
theorem dX1_pullByStepsTo_16 : decode cX1_pullByStepsTo 16 = .ok (.aload_n 0, 1) := by decide +kernel
theorem dX1_pullByStepsTo_17 : decode cX1_pullByStepsTo 17 = .ok (.iload_n 3, 1) := by decide +kernel
theorem dX1_pullByStepsTo_18 : decode cX1_pullByStepsTo 18 = .ok (.invokevirtual 56, 3) := by decide +kernel
theorem dX1_pullByStepsTo_21 : decode cX1_pullByStepsTo 21 = .ok (.iadd, 1) := by decide +kernel
theorem dX1_pullByStepsTo_22 : decode cX1_pullByStepsTo 22 = .ok (.istore_n 2, 1) := by decide +kernel
theorem dX1_pullByStepsTo_23 : decode cX1_pullByStepsTo 23 = .ok (.iinc 3 1, 3) := by decide +kernel
theorem dX1_pullByStepsTo_26 : decode cX1_pullByStepsTo 26 = .ok (.goto (-16), 3) := by decide +kernel
theorem dX1_pullByStepsTo_29 : decode cX1_pullByStepsTo 29 = .ok (.iload_n 2, 1) := by decide +kernel
theorem dX1_pullByStepsTo_30 : decode cX1_pullByStepsTo 30 = .ok (.ireturn, 1) := by decide +kernel
theorem dX1_liftAddedBy_0 : decode cX1_liftAddedBy 0 = .ok (.aload_n 0, 1) := by decide +kernel
theorem dX1_liftAddedBy_1 : decode cX1_liftAddedBy 1 = .ok (.getfield 15, 3) := by decide +kernel
theorem dX1_liftAddedBy_4 : decode cX1_liftAddedBy 4 = .ok (.lookupswitch 49 #[(0, 28), (1, 41)], 28) := by decide +kernel
theorem dX1_liftAddedBy_32 : decode cX1_liftAddedBy 32 = .ok (.iconst 5, 1) := by decide +kernel
theorem dX1_liftAddedBy_33 : decode cX1_liftAddedBy 33 = .ok (.aload_n 0, 1) := by decide +kernel
theorem dX1_liftAddedBy_34 : decode cX1_liftAddedBy 34 = .ok (.getfield 18, 3) := by decide +kernel
theorem dX1_liftAddedBy_37 : decode cX1_liftAddedBy 37 = .ok (.imul, 1) := by decide +kernel
theorem dX1_liftAddedBy_38 : decode cX1_liftAddedBy 38 = .ok (.iconst 2, 1) := by decide +kernel
theorem dX1_liftAddedBy_39 : decode cX1_liftAddedBy 39 = .ok (.iload_n 1, 1) := by decide +kernel
theorem dX1_liftAddedBy_40 : decode cX1_liftAddedBy 40 = .ok (.imul, 1) := by decide +kernel
theorem dX1_liftAddedBy_41 : decode cX1_liftAddedBy 41 = .ok (.iconst 1, 1) := by decide +kernel
theorem dX1_liftAddedBy_42 : decode cX1_liftAddedBy 42 = .ok (.isub, 1) := by decide +kernel
theorem dX1_liftAddedBy_43 : decode cX1_liftAddedBy 43 = .ok (.imul, 1) := by decide +kernel
theorem dX1_liftAddedBy_44 : decode cX1_liftAddedBy 44 = .ok (.ireturn, 1) := by decide +kernel
theorem dX1_liftAddedBy_45 : decode cX1_liftAddedBy 45 = .ok (.bipush 60, 2) := by decide +kernel
theorem dX1_liftAddedBy_47 : decode cX1_liftAddedBy 47 = .ok (.aload_n 0, 1) := by decide +kernel
theorem dX1_liftAddedBy_48 : decode cX1_liftAddedBy 48 = .ok (.getfield 18, 3) := by decide +kernel
theorem dX1_liftAddedBy_51 : decode cX1_liftAddedBy 51 = .ok (.imul, 1) := by decide +kernel
theorem dX1_liftAddedBy_52 : decode cX1_liftAddedBy 52 = .ok (.ireturn, 1) := by decide +kernel
theorem dX1_liftAddedBy_53 : decode cX1_liftAddedBy 53 = .ok (.iload_n 1, 1) := by decide +kernel
theorem dX1_liftAddedBy_54 : decode cX1_liftAddedBy 54 = .ok (.bipush 10, 2) := by decide +kernel
theorem dX1_liftAddedBy_56 : decode cX1_liftAddedBy 56 = .ok (.if_icmp .gt 13, 3) := by decide +kernel
theorem dX1_liftAddedBy_59 : decode cX1_liftAddedBy 59 = .ok (.bipush 80, 2) := by decide +kernel
theorem dX1_liftAddedBy_61 : decode cX1_liftAddedBy 61 = .ok (.aload_n 0, 1) := by decide +kernel
theorem dX1_liftAddedBy_62 : decode cX1_liftAddedBy 62 = .ok (.getfield 18, 3) := by decide +kernel
theorem dX1_liftAddedBy_65 : decode cX1_liftAddedBy 65 = .ok (.imul, 1) := by decide +kernel
theorem dX1_liftAddedBy_66 : decode cX1_liftAddedBy 66 = .ok (.goto 4, 3) := by decide +kernel
theorem dX1_liftAddedBy_69 : decode cX1_liftAddedBy 69 = .ok (.iconst 0, 1) := by decide +kernel
theorem dX1_liftAddedBy_70 : decode cX1_liftAddedBy 70 = .ok (.ireturn, 1) := by decide +kernel
set_option maxRecDepth 20000 in
theorem ggX1_endIn_X1_endAt : GoodIn wsX1_endIn wsX1_endAt := goodIn_r _ [7, 8, 9, 10, 6, 11, 12, 13, 14, 15, 16, 17, 18, 19, 20, 21, 22, 23, 24, 25, 26, 27] (by decide +kernel) (by decide +kernel)
set_option maxRecDepth 20000 in
theorem gX1_endIn_X1_endAt : GoodIn wsX1_endIn (wsV RX1 63 RX1 yX1_endAt wsX1_endAt) := goodIn_app (goodIn_of _ (by decide +kernel)) ggX1_endIn_X1_endAt
theorem dX1_endIn_0 : decode cX1_endIn 0 = .ok (.aload_n 0, 1) := by decide +kernel
theorem dX1_endIn_1 : decode cX1_endIn 1 = .ok (.aload_n 0, 1) := by decide +kernel
theorem dX1_endIn_2 : decode cX1_endIn 2 = .ok (.getfield 27, 3) := by decide +kernel
theorem dX1_endIn_5 : decode cX1_endIn 5 = .ok (.aload_n 0, 1) := by decide +kernel
theorem dX1_endIn_6 : decode cX1_endIn 6 = .ok (.getfield 60, 3) := by decide +kernel
theorem dX1_endIn_9 : decode cX1_endIn 9 = .ok (.iload_n 1, 1) := by decide +kernel
theorem dX1_endIn_10 : decode cX1_endIn 10 = .ok (.iload_n 2, 1) := by decide +kernel
theorem dX1_endIn_11 : decode cX1_endIn 11 = .ok (.invokevirtual 63, 3) := by decide +kernel
theorem dX1_endIn_14 : decode cX1_endIn 14 = .ok (.ireturn, 1) := by decide +kernel
set_option maxRecDepth 20000 in
theorem ggX1_endAt_X1_pullIn : GoodIn wsX1_endAt wsX1_pullIn := goodIn_r _ [5, 6, 7, 8, 9, 4, 10, 11, 12, 13, 14, 15, 16, 17, 18, 19, 20, 21] (by decide +kernel) (by decide +kernel)
set_option maxRecDepth 20000 in
theorem gX1_endAt_X1_pullIn : GoodIn wsX1_endAt (wsV RX1 45 RX1 yX1_pullIn wsX1_pullIn) := goodIn_app (goodIn_of _ (by decide +kernel)) ggX1_endAt_X1_pullIn
theorem dX1_endAt_0 : decode cX1_endAt 0 = .ok (.sipush 1000, 3) := by decide +kernel
theorem dX1_endAt_3 : decode cX1_endAt 3 = .ok (.aload_n 0, 1) := by decide +kernel
theorem dX1_endAt_4 : decode cX1_endAt 4 = .ok (.iload_n 3, 1) := by decide +kernel
theorem dX1_endAt_5 : decode cX1_endAt 5 = .ok (.invokevirtual 45, 3) := by decide +kernel
theorem dX1_endAt_8 : decode cX1_endAt 8 = .ok (.iadd, 1) := by decide +kernel
theorem dX1_endAt_9 : decode cX1_endAt 9 = .ok (.istore 5, 2) := by decide +kernel
theorem dX1_endAt_11 : decode cX1_endAt 11 = .ok (.iload 5, 2) := by decide +kernel
theorem dX1_endAt_13 : decode cX1_endAt 13 = .ok (.ifCond .le 17, 3) := by decide +kernel
theorem dX1_endAt_16 : decode cX1_endAt 16 = .ok (.iload 4, 2) := by decide +kernel
theorem dX1_endAt_18 : decode cX1_endAt 18 = .ok (.iload_n 2, 1) := by decide +kernel
theorem dX1_endAt_19 : decode cX1_endAt 19 = .ok (.imul, 1) := by decide +kernel
theorem dX1_endAt_20 : decode cX1_endAt 20 = .ok (.sipush 1000, 3) := by decide +kernel
theorem dX1_endAt_23 : decode cX1_endAt 23 = .ok (.imul, 1) := by decide +kernel
theorem dX1_endAt_24 : decode cX1_endAt 24 = .ok (.iload 5, 2) := by decide +kernel
theorem dX1_endAt_26 : decode cX1_endAt 26 = .ok (.idiv, 1) := by decide +kernel
theorem dX1_endAt_27 : decode cX1_endAt 27 = .ok (.goto 4, 3) := by decide +kernel
theorem dX1_endAt_30 : decode cX1_endAt 30 = .ok (.iconst 0, 1) := by decide +kernel
theorem dX1_endAt_31 : decode cX1_endAt 31 = .ok (.istore 6, 2) := by decide +kernel
theorem dX1_endAt_33 : decode cX1_endAt 33 = .ok (.bipush 100, 2) := by decide +kernel
theorem dX1_endAt_35 : decode cX1_endAt 35 = .ok (.iload_n 1, 1) := by decide +kernel
theorem dX1_endAt_36 : decode cX1_endAt 36 = .ok (.imul, 1) := by decide +kernel
theorem dX1_endAt_37 : decode cX1_endAt 37 = .ok (.iload 6, 2) := by decide +kernel
theorem dX1_endAt_39 : decode cX1_endAt 39 = .ok (.iadd, 1) := by decide +kernel
theorem dX1_endAt_40 : decode cX1_endAt 40 = .ok (.ireturn, 1) := by decide +kernel
set_option maxRecDepth 20000 in
theorem ggX1_spendHour_X1_isFlying : GoodIn wsX1_spendHour wsX1_isFlying := goodIn_r _ [6, 7, 8, 9, 10, 11, 12, 13, 14, 15, 16] (by decide +kernel) (by decide +kernel)
set_option maxRecDepth 20000 in
theorem gX1_spendHour_X1_isFlying : GoodIn wsX1_spendHour (wsV RX1 37 RX1 yX1_isFlying wsX1_isFlying) := goodIn_app (goodIn_of _ (by decide +kernel)) ggX1_spendHour_X1_isFlying
theorem dX1_spendHour_0 : decode cX1_spendHour 0 = .ok (.iload_n 1, 1) := by decide +kernel
theorem dX1_spendHour_1 : decode cX1_spendHour 1 = .ok (.ifCond .eq 19, 3) := by decide +kernel
theorem dX1_spendHour_4 : decode cX1_spendHour 4 = .ok (.aload_n 0, 1) := by decide +kernel
theorem dX1_spendHour_5 : decode cX1_spendHour 5 = .ok (.invokevirtual 37, 3) := by decide +kernel
theorem dX1_spendHour_8 : decode cX1_spendHour 8 = .ok (.ifCond .eq 12, 3) := by decide +kernel
theorem dX1_spendHour_11 : decode cX1_spendHour 11 = .ok (.aload_n 0, 1) := by decide +kernel
theorem dX1_spendHour_12 : decode cX1_spendHour 12 = .ok (.bipush 6, 2) := by decide +kernel
theorem dX1_spendHour_14 : decode cX1_spendHour 14 = .ok (.putfield 34, 3) := by decide +kernel
theorem dX1_spendHour_17 : decode cX1_spendHour 17 = .ok (.goto 20, 3) := by decide +kernel
theorem dX1_spendHour_20 : decode cX1_spendHour 20 = .ok (.aload_n 0, 1) := by decide +kernel
theorem dX1_spendHour_21 : decode cX1_spendHour 21 = .ok (.getfield 34, 3) := by decide +kernel
theorem dX1_spendHour_24 : decode cX1_spendHour 24 = .ok (.ifCond .le 13, 3) := by decide +kernel
theorem dX1_spendHour_27 : decode cX1_spendHour 27 = .ok (.aload_n 0, 1) := by decide +kernel
theorem dX1_spendHour_28 : decode cX1_spendHour 28 = .ok (.dup, 1) := by decide +kernel
theorem dX1_spendHour_29 : decode cX1_spendHour 29 = .ok (.getfield 34, 3) := by decide +kernel
theorem dX1_spendHour_32 : decode cX1_spendHour 32 = .ok (.iconst 1, 1) := by decide +kernel
theorem dX1_spendHour_33 : decode cX1_spendHour 33 = .ok (.isub, 1) := by decide +kernel
theorem dX1_spendHour_34 : decode cX1_spendHour 34 = .ok (.putfield 34, 3) := by decide +kernel
theorem dX1_spendHour_37 : decode cX1_spendHour 37 = .ok (.return_, 1) := by decide +kernel
theorem dX2_init_0 : decode cX2_init 0 = .ok (.aload_n 0, 1) := by decide +kernel
theorem dX2_init_1 : decode cX2_init 1 = .ok (.invokespecial 3, 3) := by decide +kernel
theorem dX2_init_4 : decode cX2_init 4 = .ok (.aload_n 0, 1) := by decide +kernel
theorem dX2_init_5 : decode cX2_init 5 = .ok (.bipush 8, 2) := by decide +kernel
theorem dX2_init_7 : decode cX2_init 7 = .ok (.anewarray 9, 3) := by decide +kernel
theorem dX2_init_10 : decode cX2_init 10 = .ok (.putfield 11, 3) := by decide +kernel
theorem dX2_init_13 : decode cX2_init 13 = .ok (.aload_n 0, 1) := by decide +kernel
theorem dX2_init_14 : decode cX2_init 14 = .ok (.bipush 8, 2) := by decide +kernel
theorem dX2_init_16 : decode cX2_init 16 = .ok (.anewarray 15, 3) := by decide +kernel
theorem dX2_init_19 : decode cX2_init 19 = .ok (.putfield 17, 3) := by decide +kernel
theorem dX2_init_22 : decode cX2_init 22 = .ok (.aload_n 0, 1) := by decide +kernel
theorem dX2_init_23 : decode cX2_init 23 = .ok (.bipush 10, 2) := by decide +kernel
theorem dX2_init_25 : decode cX2_init 25 = .ok (.anewarray 9, 3) := by decide +kernel
theorem dX2_init_28 : decode cX2_init 28 = .ok (.putfield 21, 3) := by decide +kernel
theorem dX2_init_31 : decode cX2_init 31 = .ok (.return_, 1) := by decide +kernel
set_option maxRecDepth 20000 in
theorem ggX2_kite_X2_isWithin : GoodIn wsX2_kite wsX2_isWithin := goodIn_r _ [13] (by decide +kernel) (by decide +kernel)
set_option maxRecDepth 20000 in
theorem gX2_kite_X2_isWithin : GoodIn wsX2_kite (va_wsS RX2 24 yX2_isWithin wsX2_isWithin) := goodIn_app (goodIn_of _ (by decide +kernel)) ggX2_kite_X2_isWithin
set_option maxRecDepth 20000 in
theorem ggX2_kite_X1_init : GoodIn wsX2_kite wsX1_init := goodIn_r _ [16, 17, 18, 19, 20, 21, 22, 23, 24, 25, 35, 36, 37, 38, 39, 40, 41, 42, 43] (by decide +kernel) (by decide +kernel)
set_option maxRecDepth 20000 in
theorem gX2_kite_X1_init : GoodIn wsX2_kite (wsX1_init) := ggX2_kite_X1_init
theorem dX2_kite_0 : decode cX2_kite 0 = .ok (.iload_n 1, 1) := by decide +kernel
theorem dX2_kite_1 : decode cX2_kite 1 = .ok (.iconst 0, 1) := by decide +kernel
theorem dX2_kite_2 : decode cX2_kite 2 = .ok (.iconst 2, 1) := by decide +kernel
theorem dX2_kite_3 : decode cX2_kite 3 = .ok (.invokestatic 24, 3) := by decide +kernel
theorem dX2_kite_6 : decode cX2_kite 6 = .ok (.ifCond .eq 23, 3) := by decide +kernel
theorem dX2_kite_9 : decode cX2_kite 9 = .ok (.iload_n 2, 1) := by decide +kernel
theorem dX2_kite_10 : decode cX2_kite 10 = .ok (.iconst 1, 1) := by decide +kernel
theorem dX2_kite_11 : decode cX2_kite 11 = .ok (.bipush 20, 2) := by decide +kernel
theorem dX2_kite_13 : decode cX2_kite 13 = .ok (.invokestatic 24, 3) := by decide +kernel
theorem dX2_kite_16 : decode cX2_kite 16 = .ok (.ifCond .eq 13, 3) := by decide +kernel
theorem dX2_kite_19 : decode cX2_kite 19 = .ok (.iload_n 3, 1) := by decide +kernel
theorem dX2_kite_20 : decode cX2_kite 20 = .ok (.iconst 1, 1) := by decide +kernel
theorem dX2_kite_21 : decode cX2_kite 21 = .ok (.bipush 20, 2) := by decide +kernel
theorem dX2_kite_23 : decode cX2_kite 23 = .ok (.invokestatic 24, 3) := by decide +kernel
theorem dX2_kite_26 : decode cX2_kite 26 = .ok (.ifCond .ne 13, 3) := by decide +kernel
theorem dX2_kite_29 : decode cX2_kite 29 = .ok (.new 28, 3) := by decide +kernel
theorem dX2_kite_32 : decode cX2_kite 32 = .ok (.dup, 1) := by decide +kernel
theorem dX2_kite_33 : decode cX2_kite 33 = .ok (.ldc 30, 2) := by decide +kernel
theorem dX2_kite_35 : decode cX2_kite 35 = .ok (.invokespecial 32, 3) := by decide +kernel
theorem dX2_kite_38 : decode cX2_kite 38 = .ok (.athrow, 1) := by decide +kernel
theorem dX2_kite_39 : decode cX2_kite 39 = .ok (.aload_n 0, 1) := by decide +kernel
theorem dX2_kite_40 : decode cX2_kite 40 = .ok (.getfield 35, 3) := by decide +kernel
theorem dX2_kite_43 : decode cX2_kite 43 = .ok (.bipush 8, 2) := by decide +kernel
theorem dX2_kite_45 : decode cX2_kite 45 = .ok (.if_icmp .lt 13, 3) := by decide +kernel
theorem dX2_kite_48 : decode cX2_kite 48 = .ok (.new 39, 3) := by decide +kernel
theorem dX2_kite_51 : decode cX2_kite 51 = .ok (.dup, 1) := by decide +kernel
theorem dX2_kite_52 : decode cX2_kite 52 = .ok (.ldc 41, 2) := by decide +kernel
theorem dX2_kite_54 : decode cX2_kite 54 = .ok (.invokespecial 43, 3) := by decide +kernel
theorem dX2_kite_57 : decode cX2_kite 57 = .ok (.athrow, 1) := by decide +kernel
theorem dX2_kite_58 : decode cX2_kite 58 = .ok (.aload_n 0, 1) := by decide +kernel
theorem dX2_kite_59 : decode cX2_kite 59 = .ok (.getfield 35, 3) := by decide +kernel
theorem dX2_kite_62 : decode cX2_kite 62 = .ok (.istore 4, 2) := by decide +kernel
theorem dX2_kite_64 : decode cX2_kite 64 = .ok (.aload_n 0, 1) := by decide +kernel
theorem dX2_kite_65 : decode cX2_kite 65 = .ok (.getfield 11, 3) := by decide +kernel
theorem dX2_kite_68 : decode cX2_kite 68 = .ok (.iload 4, 2) := by decide +kernel
theorem dX2_kite_70 : decode cX2_kite 70 = .ok (.new 9, 3) := by decide +kernel
theorem dX2_kite_73 : decode cX2_kite 73 = .ok (.dup, 1) := by decide +kernel
theorem dX2_kite_74 : decode cX2_kite 74 = .ok (.iload 4, 2) := by decide +kernel
theorem dX2_kite_76 : decode cX2_kite 76 = .ok (.iload_n 1, 1) := by decide +kernel
theorem dX2_kite_77 : decode cX2_kite 77 = .ok (.iload_n 2, 1) := by decide +kernel
theorem dX2_kite_78 : decode cX2_kite 78 = .ok (.iload_n 3, 1) := by decide +kernel
theorem dX2_kite_79 : decode cX2_kite 79 = .ok (.invokespecial 44, 3) := by decide +kernel
theorem dX2_kite_82 : decode cX2_kite 82 = .ok (.aastore, 1) := by decide +kernel
theorem dX2_kite_83 : decode cX2_kite 83 = .ok (.aload_n 0, 1) := by decide +kernel
theorem dX2_kite_84 : decode cX2_kite 84 = .ok (.dup, 1) := by decide +kernel
theorem dX2_kite_85 : decode cX2_kite 85 = .ok (.getfield 35, 3) := by decide +kernel
theorem dX2_kite_88 : decode cX2_kite 88 = .ok (.iconst 1, 1) := by decide +kernel
theorem dX2_kite_89 : decode cX2_kite 89 = .ok (.iadd, 1) := by decide +kernel
theorem dX2_kite_90 : decode cX2_kite 90 = .ok (.putfield 35, 3) := by decide +kernel
theorem dX2_kite_93 : decode cX2_kite 93 = .ok (.iload 4, 2) := by decide +kernel
theorem dX2_kite_95 : decode cX2_kite 95 = .ok (.ireturn, 1) := by decide +kernel
set_option maxRecDepth 20000 in
theorem ggX2_patch_X2_kiteAt : GoodIn wsX2_patch wsX2_kiteAt := goodIn_ca (goodIn_r _ [9, 10, 11, 12, 13, 14, 8, 15, 25, 26, 27, 28, 29, 30, 31, 32, 33] (by decide +kernel) (by decide +kernel)) (goodIn_sub (fun _ h => List.mem_cons_of_mem _ (List.mem_append_right _ h)) (by decide +kernel))
set_option maxRecDepth 20000 in
theorem gX2_patch_X2_kiteAt : GoodIn wsX2_patch (wsV RX2 47 RX2 yX2_kiteAt wsX2_kiteAt) := goodIn_app (goodIn_of _ (by decide +kernel)) ggX2_patch_X2_kiteAt
theorem dX2_patch_0 : decode cX2_patch 0 = .ok (.aload_n 0, 1) := by decide +kernel
theorem dX2_patch_1 : decode cX2_patch 1 = .ok (.iload_n 1, 1) := by decide +kernel
theorem dX2_patch_2 : decode cX2_patch 2 = .ok (.invokevirtual 47, 3) := by decide +kernel
theorem dX2_patch_5 : decode cX2_patch 5 = .ok (.astore_n 2, 1) := by decide +kernel
theorem dX2_patch_6 : decode cX2_patch 6 = .ok (.aload_n 2, 1) := by decide +kernel
theorem dX2_patch_7 : decode cX2_patch 7 = .ok (.getfield 51, 3) := by decide +kernel
theorem dX2_patch_10 : decode cX2_patch 10 = .ok (.ifCond .ne 13, 3) := by decide +kernel
theorem dX2_patch_13 : decode cX2_patch 13 = .ok (.new 39, 3) := by decide +kernel
theorem dX2_patch_16 : decode cX2_patch 16 = .ok (.dup, 1) := by decide +kernel
theorem dX2_patch_17 : decode cX2_patch 17 = .ok (.ldc 55, 2) := by decide +kernel
theorem dX2_patch_19 : decode cX2_patch 19 = .ok (.invokespecial 43, 3) := by decide +kernel
theorem dX2_patch_22 : decode cX2_patch 22 = .ok (.athrow, 1) := by decide +kernel
theorem dX2_patch_23 : decode cX2_patch 23 = .ok (.aload_n 2, 1) := by decide +kernel
theorem dX2_patch_24 : decode cX2_patch 24 = .ok (.getfield 57, 3) := by decide +kernel
theorem dX2_patch_27 : decode cX2_patch 27 = .ok (.iconst 2, 1) := by decide +kernel
theorem dX2_patch_28 : decode cX2_patch 28 = .ok (.iadd, 1) := by decide +kernel
theorem dX2_patch_29 : decode cX2_patch 29 = .ok (.bipush 40, 2) := by decide +kernel
theorem dX2_patch_31 : decode cX2_patch 31 = .ok (.if_icmp .le 13, 3) := by decide +kernel
theorem dX2_patch_34 : decode cX2_patch 34 = .ok (.new 39, 3) := by decide +kernel
theorem dX2_patch_37 : decode cX2_patch 37 = .ok (.dup, 1) := by decide +kernel
theorem dX2_patch_38 : decode cX2_patch 38 = .ok (.ldc 60, 2) := by decide +kernel
theorem dX2_patch_40 : decode cX2_patch 40 = .ok (.invokespecial 43, 3) := by decide +kernel
theorem dX2_patch_43 : decode cX2_patch 43 = .ok (.athrow, 1) := by decide +kernel
theorem dX2_patch_44 : decode cX2_patch 44 = .ok (.aload_n 2, 1) := by decide +kernel
theorem dX2_patch_45 : decode cX2_patch 45 = .ok (.iconst 0, 1) := by decide +kernel
theorem dX2_patch_46 : decode cX2_patch 46 = .ok (.putfield 51, 3) := by decide +kernel
theorem dX2_patch_49 : decode cX2_patch 49 = .ok (.aload_n 2, 1) := by decide +kernel
theorem dX2_patch_50 : decode cX2_patch 50 = .ok (.dup, 1) := by decide +kernel
theorem dX2_patch_51 : decode cX2_patch 51 = .ok (.getfield 57, 3) := by decide +kernel
theorem dX2_patch_54 : decode cX2_patch 54 = .ok (.iconst 2, 1) := by decide +kernel
theorem dX2_patch_55 : decode cX2_patch 55 = .ok (.iadd, 1) := by decide +kernel
theorem dX2_patch_56 : decode cX2_patch 56 = .ok (.putfield 57, 3) := by decide +kernel
theorem dX2_patch_59 : decode cX2_patch 59 = .ok (.aload_n 2, 1) := by decide +kernel
theorem dX2_patch_60 : decode cX2_patch 60 = .ok (.getfield 57, 3) := by decide +kernel
theorem dX2_patch_63 : decode cX2_patch 63 = .ok (.ireturn, 1) := by decide +kernel
set_option maxRecDepth 20000 in
theorem ggX2_borrower_X2_isWithin : GoodIn wsX2_borrower wsX2_isWithin := goodIn_r _ [13] (by decide +kernel) (by decide +kernel)
set_option maxRecDepth 20000 in
theorem gX2_borrower_X2_isWithin : GoodIn wsX2_borrower (va_wsS RX2 24 yX2_isWithin wsX2_isWithin) := goodIn_app (goodIn_of _ (by decide +kernel)) ggX2_borrower_X2_isWithin
set_option maxRecDepth 20000 in
theorem ggX2_borrower_X0_init : GoodIn wsX2_borrower wsX0_init := goodIn_r _ [16, 17, 18, 19, 20, 30, 31] (by decide +kernel) (by decide +kernel)
set_option maxRecDepth 20000 in
theorem gX2_borrower_X0_init : GoodIn wsX2_borrower (wsX0_init) := ggX2_borrower_X0_init
theorem dX2_borrower_0 : decode cX2_borrower 0 = .ok (.iload_n 1, 1) := by decide +kernel
theorem dX2_borrower_1 : decode cX2_borrower 1 = .ok (.iconst 1, 1) := by decide +kernel
theorem dX2_borrower_2 : decode cX2_borrower 2 = .ok (.iconst 3, 1) := by decide +kernel
theorem dX2_borrower_3 : decode cX2_borrower 3 = .ok (.invokestatic 24, 3) := by decide +kernel
theorem dX2_borrower_6 : decode cX2_borrower 6 = .ok (.ifCond .ne 13, 3) := by decide +kernel
theorem dX2_borrower_9 : decode cX2_borrower 9 = .ok (.new 28, 3) := by decide +kernel
theorem dX2_borrower_12 : decode cX2_borrower 12 = .ok (.dup, 1) := by decide +kernel
theorem dX2_borrower_13 : decode cX2_borrower 13 = .ok (.ldc 62, 2) := by decide +kernel
theorem dX2_borrower_15 : decode cX2_borrower 15 = .ok (.invokespecial 32, 3) := by decide +kernel
theorem dX2_borrower_18 : decode cX2_borrower 18 = .ok (.athrow, 1) := by decide +kernel
theorem dX2_borrower_19 : decode cX2_borrower 19 = .ok (.aload_n 0, 1) := by decide +kernel
theorem dX2_borrower_20 : decode cX2_borrower 20 = .ok (.getfield 64, 3) := by decide +kernel
theorem dX2_borrower_23 : decode cX2_borrower 23 = .ok (.bipush 8, 2) := by decide +kernel
theorem dX2_borrower_25 : decode cX2_borrower 25 = .ok (.if_icmp .lt 13, 3) := by decide +kernel
theorem dX2_borrower_28 : decode cX2_borrower 28 = .ok (.new 39, 3) := by decide +kernel
theorem dX2_borrower_31 : decode cX2_borrower 31 = .ok (.dup, 1) := by decide +kernel
theorem dX2_borrower_32 : decode cX2_borrower 32 = .ok (.ldc 67, 2) := by decide +kernel
theorem dX2_borrower_34 : decode cX2_borrower 34 = .ok (.invokespecial 43, 3) := by decide +kernel
theorem dX2_borrower_37 : decode cX2_borrower 37 = .ok (.athrow, 1) := by decide +kernel
theorem dX2_borrower_38 : decode cX2_borrower 38 = .ok (.aload_n 0, 1) := by decide +kernel
theorem dX2_borrower_39 : decode cX2_borrower 39 = .ok (.getfield 64, 3) := by decide +kernel
theorem dX2_borrower_42 : decode cX2_borrower 42 = .ok (.istore_n 2, 1) := by decide +kernel
theorem dX2_borrower_43 : decode cX2_borrower 43 = .ok (.aload_n 0, 1) := by decide +kernel
theorem dX2_borrower_44 : decode cX2_borrower 44 = .ok (.getfield 17, 3) := by decide +kernel
theorem dX2_borrower_47 : decode cX2_borrower 47 = .ok (.iload_n 2, 1) := by decide +kernel
theorem dX2_borrower_48 : decode cX2_borrower 48 = .ok (.new 15, 3) := by decide +kernel
theorem dX2_borrower_51 : decode cX2_borrower 51 = .ok (.dup, 1) := by decide +kernel
theorem dX2_borrower_52 : decode cX2_borrower 52 = .ok (.iload_n 1, 1) := by decide +kernel
theorem dX2_borrower_53 : decode cX2_borrower 53 = .ok (.invokespecial 69, 3) := by decide +kernel
theorem dX2_borrower_56 : decode cX2_borrower 56 = .ok (.aastore, 1) := by decide +kernel
theorem dX2_borrower_57 : decode cX2_borrower 57 = .ok (.aload_n 0, 1) := by decide +kernel
theorem dX2_borrower_58 : decode cX2_borrower 58 = .ok (.dup, 1) := by decide +kernel
theorem dX2_borrower_59 : decode cX2_borrower 59 = .ok (.getfield 64, 3) := by decide +kernel
theorem dX2_borrower_62 : decode cX2_borrower 62 = .ok (.iconst 1, 1) := by decide +kernel
theorem dX2_borrower_63 : decode cX2_borrower 63 = .ok (.iadd, 1) := by decide +kernel
theorem dX2_borrower_64 : decode cX2_borrower 64 = .ok (.putfield 64, 3) := by decide +kernel
theorem dX2_borrower_67 : decode cX2_borrower 67 = .ok (.iload_n 2, 1) := by decide +kernel
theorem dX2_borrower_68 : decode cX2_borrower 68 = .ok (.ireturn, 1) := by decide +kernel
set_option maxRecDepth 20000 in
theorem ggX2_lend_X2_kiteAt : GoodIn wsX2_lend wsX2_kiteAt := goodIn_ca (goodIn_r _ [9, 10, 11, 12, 13, 14, 8, 15, 48, 49, 50, 51, 52, 53, 54, 55, 56] (by decide +kernel) (by decide +kernel)) (goodIn_sub (fun _ h => List.mem_cons_of_mem _ (List.mem_append_right _ h)) (by decide +kernel))
set_option maxRecDepth 20000 in
theorem gX2_lend_X2_kiteAt : GoodIn wsX2_lend (wsV RX2 47 RX2 yX2_kiteAt wsX2_kiteAt) := goodIn_app (goodIn_of _ (by decide +kernel)) ggX2_lend_X2_kiteAt
set_option maxRecDepth 20000 in
theorem ggX2_lend_X2_borrowerAt : GoodIn wsX2_lend wsX2_borrowerAt := goodIn_ca (goodIn_r _ [19, 10, 11, 20, 13, 14, 8, 15, 48, 49, 50, 51, 52, 53, 54, 55, 56] (by decide +kernel) (by decide +kernel)) (goodIn_sub (fun _ h => List.mem_cons_of_mem _ (List.mem_append_right _ h)) (by decide +kernel))
set_option maxRecDepth 20000 in
theorem gX2_lend_X2_borrowerAt : GoodIn wsX2_lend (wsV RX2 72 RX2 yX2_borrowerAt wsX2_borrowerAt) := goodIn_app (goodIn_of _ (by decide +kernel)) ggX2_lend_X2_borrowerAt
set_option maxRecDepth 20000 in
theorem ggX2_lend_X1_isLendable : GoodIn wsX2_lend wsX1_isLendable := goodIn_r _ [25, 26, 27, 28, 37, 38, 39, 40, 41, 42, 43, 44, 45] (by decide +kernel) (by decide +kernel)
set_option maxRecDepth 20000 in
theorem gX2_lend_X1_isLendable : GoodIn wsX2_lend (wsV RX2 76 RX1 yX1_isLendable wsX1_isLendable) := goodIn_app (goodIn_of _ (by decide +kernel)) ggX2_lend_X1_isLendable
set_option maxRecDepth 20000 in
theorem ggX2_lend_X0_canTake : GoodIn wsX2_lend wsX0_canTake := goodIn_r _ [33, 34, 35, 36, 46, 47, 37, 38, 39, 40, 41, 42, 43, 44, 45] (by decide +kernel) (by decide +kernel)
set_option maxRecDepth 20000 in
theorem gX2_lend_X0_canTake : GoodIn wsX2_lend (wsV RX2 80 RX0 yX0_canTake wsX0_canTake) := goodIn_app (goodIn_of _ (by decide +kernel)) ggX2_lend_X0_canTake
theorem dX2_lend_0 : decode cX2_lend 0 = .ok (.aload_n 0, 1) := by decide +kernel
theorem dX2_lend_1 : decode cX2_lend 1 = .ok (.iload_n 1, 1) := by decide +kernel
theorem dX2_lend_2 : decode cX2_lend 2 = .ok (.invokevirtual 47, 3) := by decide +kernel
theorem dX2_lend_5 : decode cX2_lend 5 = .ok (.astore_n 3, 1) := by decide +kernel
theorem dX2_lend_6 : decode cX2_lend 6 = .ok (.aload_n 0, 1) := by decide +kernel
theorem dX2_lend_7 : decode cX2_lend 7 = .ok (.iload_n 2, 1) := by decide +kernel
theorem dX2_lend_8 : decode cX2_lend 8 = .ok (.invokevirtual 72, 3) := by decide +kernel
theorem dX2_lend_11 : decode cX2_lend 11 = .ok (.astore 4, 2) := by decide +kernel
theorem dX2_lend_13 : decode cX2_lend 13 = .ok (.aload_n 3, 1) := by decide +kernel
theorem dX2_lend_14 : decode cX2_lend 14 = .ok (.invokevirtual 76, 3) := by decide +kernel
theorem dX2_lend_17 : decode cX2_lend 17 = .ok (.ifCond .eq 12, 3) := by decide +kernel
theorem dX2_lend_20 : decode cX2_lend 20 = .ok (.aload 4, 2) := by decide +kernel
theorem dX2_lend_22 : decode cX2_lend 22 = .ok (.aload_n 3, 1) := by decide +kernel
theorem dX2_lend_23 : decode cX2_lend 23 = .ok (.invokevirtual 80, 3) := by decide +kernel
theorem dX2_lend_26 : decode cX2_lend 26 = .ok (.ifCond .ne 13, 3) := by decide +kernel
theorem dX2_lend_29 : decode cX2_lend 29 = .ok (.new 39, 3) := by decide +kernel
theorem dX2_lend_32 : decode cX2_lend 32 = .ok (.dup, 1) := by decide +kernel
theorem dX2_lend_33 : decode cX2_lend 33 = .ok (.ldc 84, 2) := by decide +kernel
theorem dX2_lend_35 : decode cX2_lend 35 = .ok (.invokespecial 43, 3) := by decide +kernel
theorem dX2_lend_38 : decode cX2_lend 38 = .ok (.athrow, 1) := by decide +kernel
theorem dX2_lend_39 : decode cX2_lend 39 = .ok (.aload_n 3, 1) := by decide +kernel
theorem dX2_lend_40 : decode cX2_lend 40 = .ok (.iload_n 2, 1) := by decide +kernel
theorem dX2_lend_41 : decode cX2_lend 41 = .ok (.putfield 86, 3) := by decide +kernel
theorem dX2_lend_44 : decode cX2_lend 44 = .ok (.aload 4, 2) := by decide +kernel
theorem dX2_lend_46 : decode cX2_lend 46 = .ok (.aload_n 3, 1) := by decide +kernel
theorem dX2_lend_47 : decode cX2_lend 47 = .ok (.putfield 89, 3) := by decide +kernel
theorem dX2_lend_50 : decode cX2_lend 50 = .ok (.return_, 1) := by decide +kernel
set_option maxRecDepth 20000 in
theorem ggX2_giveBack_X2_borrowerAt : GoodIn wsX2_giveBack wsX2_borrowerAt := goodIn_ca (goodIn_r _ [10, 11, 12, 13, 14, 15, 9, 16, 34, 35, 36, 37, 38, 39, 40, 41, 42] (by decide +kernel) (by decide +kernel)) (goodIn_sub (fun _ h => List.mem_cons_of_mem _ (List.mem_append_right _ h)) (by decide +kernel))
set_option maxRecDepth 20000 in
theorem gX2_giveBack_X2_borrowerAt : GoodIn wsX2_giveBack (wsV RX2 72 RX2 yX2_borrowerAt wsX2_borrowerAt) := goodIn_app (goodIn_of _ (by decide +kernel)) ggX2_giveBack_X2_borrowerAt
set_option maxRecDepth 20000 in
theorem ggX2_giveBack_X1_isFlying : GoodIn wsX2_giveBack wsX1_isFlying := goodIn_r _ [21, 22, 25, 26, 27, 28, 29, 30, 31, 32, 33] (by decide +kernel) (by decide +kernel)
set_option maxRecDepth 20000 in
theorem gX2_giveBack_X1_isFlying : GoodIn wsX2_giveBack (wsV RX2 93 RX1 yX1_isFlying wsX1_isFlying) := goodIn_app (goodIn_of _ (by decide +kernel)) ggX2_giveBack_X1_isFlying
theorem dX2_giveBack_0 : decode cX2_giveBack 0 = .ok (.aload_n 0, 1) := by decide +kernel
theorem dX2_giveBack_1 : decode cX2_giveBack 1 = .ok (.iload_n 1, 1) := by decide +kernel
theorem dX2_giveBack_2 : decode cX2_giveBack 2 = .ok (.invokevirtual 72, 3) := by decide +kernel
theorem dX2_giveBack_5 : decode cX2_giveBack 5 = .ok (.astore_n 2, 1) := by decide +kernel
theorem dX2_giveBack_6 : decode cX2_giveBack 6 = .ok (.aload_n 2, 1) := by decide +kernel
theorem dX2_giveBack_7 : decode cX2_giveBack 7 = .ok (.getfield 89, 3) := by decide +kernel
theorem dX2_giveBack_10 : decode cX2_giveBack 10 = .ok (.astore_n 3, 1) := by decide +kernel
theorem dX2_giveBack_11 : decode cX2_giveBack 11 = .ok (.aload_n 3, 1) := by decide +kernel
theorem dX2_giveBack_12 : decode cX2_giveBack 12 = .ok (.ifnull 10, 3) := by decide +kernel
theorem dX2_giveBack_15 : decode cX2_giveBack 15 = .ok (.aload_n 3, 1) := by decide +kernel
theorem dX2_giveBack_16 : decode cX2_giveBack 16 = .ok (.invokevirtual 93, 3) := by decide +kernel
theorem dX2_giveBack_19 : decode cX2_giveBack 19 = .ok (.ifCond .eq 13, 3) := by decide +kernel
theorem dX2_giveBack_22 : decode cX2_giveBack 22 = .ok (.new 39, 3) := by decide +kernel
theorem dX2_giveBack_25 : decode cX2_giveBack 25 = .ok (.dup, 1) := by decide +kernel
theorem dX2_giveBack_26 : decode cX2_giveBack 26 = .ok (.ldc 96, 2) := by decide +kernel
theorem dX2_giveBack_28 : decode cX2_giveBack 28 = .ok (.invokespecial 43, 3) := by decide +kernel
theorem dX2_giveBack_31 : decode cX2_giveBack 31 = .ok (.athrow, 1) := by decide +kernel
theorem dX2_giveBack_32 : decode cX2_giveBack 32 = .ok (.aload_n 2, 1) := by decide +kernel
theorem dX2_giveBack_33 : decode cX2_giveBack 33 = .ok (.aconst_null, 1) := by decide +kernel
theorem dX2_giveBack_34 : decode cX2_giveBack 34 = .ok (.putfield 89, 3) := by decide +kernel
theorem dX2_giveBack_37 : decode cX2_giveBack 37 = .ok (.aload_n 3, 1) := by decide +kernel
theorem dX2_giveBack_38 : decode cX2_giveBack 38 = .ok (.iconst (-1), 1) := by decide +kernel
theorem dX2_giveBack_39 : decode cX2_giveBack 39 = .ok (.putfield 86, 3) := by decide +kernel
theorem dX2_giveBack_42 : decode cX2_giveBack 42 = .ok (.aload_n 3, 1) := by decide +kernel
theorem dX2_giveBack_43 : decode cX2_giveBack 43 = .ok (.getfield 98, 3) := by decide +kernel
theorem dX2_giveBack_46 : decode cX2_giveBack 46 = .ok (.ireturn, 1) := by decide +kernel
set_option maxRecDepth 20000 in
theorem ggX2_fly_X2_kiteAt : GoodIn wsX2_fly wsX2_kiteAt := goodIn_ca (goodIn_r _ [16, 1, 2, 17, 18, 19, 15, 20, 65, 66, 67, 68, 69, 70, 71, 72, 73] (by decide +kernel) (by decide +kernel)) (goodIn_sub (fun _ h => List.mem_cons_of_mem _ (List.mem_append_left _ (List.mem_append_left _ (List.mem_append_right _ h)))) (by decide +kernel))
set_option maxRecDepth 20000 in
theorem gX2_fly_X2_kiteAt : GoodIn wsX2_fly (wsV RX2 47 RX2 yX2_kiteAt wsX2_kiteAt) := goodIn_app (goodIn_of _ (by decide +kernel)) ggX2_fly_X2_kiteAt
set_option maxRecDepth 20000 in
theorem ggX2_fly_X2_isLane : GoodIn wsX2_fly wsX2_isLane := goodIn_r _ [23, 18, 19, 15, 20] (by decide +kernel) (by decide +kernel)
set_option maxRecDepth 20000 in
theorem gX2_fly_X2_isLane : GoodIn wsX2_fly (va_wsS RX2 101 yX2_isLane wsX2_isLane) := goodIn_app (goodIn_of _ (by decide +kernel)) ggX2_fly_X2_isLane
set_option maxRecDepth 20000 in
theorem ggX2_fly_X2_isWithin : GoodIn wsX2_fly wsX2_isWithin := goodIn_r _ [20] (by decide +kernel) (by decide +kernel)
set_option maxRecDepth 20000 in
theorem gX2_fly_X2_isWithin : GoodIn wsX2_fly (va_wsS RX2 24 yX2_isWithin wsX2_isWithin) := goodIn_app (goodIn_of _ (by decide +kernel)) ggX2_fly_X2_isWithin
set_option maxRecDepth 20000 in
theorem ggX2_fly_X1_isReadyIn : GoodIn wsX2_fly wsX1_isReadyIn := goodIn_r _ [28, 29, 30, 31, 32, 33, 27, 34, 35, 36, 37, 38, 39, 40, 41, 42, 43, 44, 45, 46, 47, 48, 49, 50, 19, 15, 20, 74, 75, 76, 77, 78, 79, 80, 81, 82] (by decide +kernel) (by decide +kernel)
set_option maxRecDepth 20000 in
theorem gX2_fly_X1_isReadyIn : GoodIn wsX2_fly (wsV RX2 115 RX1 yX1_isReadyIn wsX1_isReadyIn) := goodIn_app (goodIn_of _ (by decide +kernel)) ggX2_fly_X1_isReadyIn
set_option maxRecDepth 20000 in
theorem ggX2_fly_X1_endAt : GoodIn wsX2_fly wsX1_endAt := goodIn_r _ [54, 40, 41, 42, 27, 43, 44, 45, 46, 47, 48, 49, 50, 74, 75, 76, 77, 78, 79, 80, 81, 82] (by decide +kernel) (by decide +kernel)
set_option maxRecDepth 20000 in
theorem gX2_fly_X1_endAt : GoodIn wsX2_fly (wsV RX2 123 RX1 yX1_endAt wsX1_endAt) := goodIn_app (goodIn_of _ (by decide +kernel)) ggX2_fly_X1_endAt
set_option maxRecDepth 20000 in
theorem ggX2_fly_X2_wouldCross : GoodIn wsX2_fly wsX2_wouldCross := goodIn_r _ [58, 8, 7, 9, 59, 60, 61, 27, 62, 35, 63, 64, 52, 53, 54, 40, 41, 42, 43, 44, 45, 46, 47, 48, 49, 50, 65, 66, 67, 68, 69, 70, 71, 72, 73, 74, 75, 76, 77, 78, 79, 80, 81, 82] (by decide +kernel) (by decide +kernel)
set_option maxRecDepth 20000 in
theorem gX2_fly_X2_wouldCross : GoodIn wsX2_fly (wsV RX2 127 RX2 yX2_wouldCross wsX2_wouldCross) := goodIn_app (goodIn_of _ (by decide +kernel)) ggX2_fly_X2_wouldCross
theorem dX2_fly_0 : decode cX2_fly 0 = .ok (.aload_n 0, 1) := by decide +kernel
theorem dX2_fly_1 : decode cX2_fly 1 = .ok (.iload_n 1, 1) := by decide +kernel
theorem dX2_fly_2 : decode cX2_fly 2 = .ok (.invokevirtual 47, 3) := by decide +kernel
theorem dX2_fly_5 : decode cX2_fly 5 = .ok (.astore 4, 2) := by decide +kernel
theorem dX2_fly_7 : decode cX2_fly 7 = .ok (.iload_n 2, 1) := by decide +kernel
theorem dX2_fly_8 : decode cX2_fly 8 = .ok (.invokestatic 101, 3) := by decide +kernel
theorem dX2_fly_11 : decode cX2_fly 11 = .ok (.ifCond .ne 13, 3) := by decide +kernel
theorem dX2_fly_14 : decode cX2_fly 14 = .ok (.new 105, 3) := by decide +kernel
theorem dX2_fly_17 : decode cX2_fly 17 = .ok (.dup, 1) := by decide +kernel
theorem dX2_fly_18 : decode cX2_fly 18 = .ok (.ldc 107, 2) := by decide +kernel
theorem dX2_fly_20 : decode cX2_fly 20 = .ok (.invokespecial 109, 3) := by decide +kernel
theorem dX2_fly_23 : decode cX2_fly 23 = .ok (.athrow, 1) := by decide +kernel
theorem dX2_fly_24 : decode cX2_fly 24 = .ok (.iload_n 3, 1) := by decide +kernel
theorem dX2_fly_25 : decode cX2_fly 25 = .ok (.bipush 10, 2) := by decide +kernel
theorem dX2_fly_27 : decode cX2_fly 27 = .ok (.bipush 100, 2) := by decide +kernel
theorem dX2_fly_29 : decode cX2_fly 29 = .ok (.invokestatic 24, 3) := by decide +kernel
theorem dX2_fly_32 : decode cX2_fly 32 = .ok (.ifCond .ne 13, 3) := by decide +kernel
theorem dX2_fly_35 : decode cX2_fly 35 = .ok (.new 28, 3) := by decide +kernel
theorem dX2_fly_38 : decode cX2_fly 38 = .ok (.dup, 1) := by decide +kernel
theorem dX2_fly_39 : decode cX2_fly 39 = .ok (.ldc 110, 2) := by decide +kernel
theorem dX2_fly_41 : decode cX2_fly 41 = .ok (.invokespecial 32, 3) := by decide +kernel
theorem dX2_fly_44 : decode cX2_fly 44 = .ok (.athrow, 1) := by decide +kernel
theorem dX2_fly_45 : decode cX2_fly 45 = .ok (.aload 4, 2) := by decide +kernel
theorem dX2_fly_47 : decode cX2_fly 47 = .ok (.aload_n 0, 1) := by decide +kernel
theorem dX2_fly_48 : decode cX2_fly 48 = .ok (.getfield 112, 3) := by decide +kernel
theorem dX2_fly_51 : decode cX2_fly 51 = .ok (.invokevirtual 115, 3) := by decide +kernel
theorem dX2_fly_54 : decode cX2_fly 54 = .ok (.ifCond .eq 12, 3) := by decide +kernel
theorem dX2_fly_57 : decode cX2_fly 57 = .ok (.aload_n 0, 1) := by decide +kernel
theorem dX2_fly_58 : decode cX2_fly 58 = .ok (.getfield 21, 3) := by decide +kernel
theorem dX2_fly_61 : decode cX2_fly 61 = .ok (.iload_n 2, 1) := by decide +kernel
theorem dX2_fly_62 : decode cX2_fly 62 = .ok (.aaload, 1) := by decide +kernel
theorem dX2_fly_63 : decode cX2_fly 63 = .ok (.ifnull 13, 3) := by decide +kernel
theorem dX2_fly_66 : decode cX2_fly 66 = .ok (.new 39, 3) := by decide +kernel
theorem dX2_fly_69 : decode cX2_fly 69 = .ok (.dup, 1) := by decide +kernel
theorem dX2_fly_70 : decode cX2_fly 70 = .ok (.ldc 118, 2) := by decide +kernel
theorem dX2_fly_72 : decode cX2_fly 72 = .ok (.invokespecial 43, 3) := by decide +kernel
theorem dX2_fly_75 : decode cX2_fly 75 = .ok (.athrow, 1) := by decide +kernel
theorem dX2_fly_76 : decode cX2_fly 76 = .ok (.aload 4, 2) := by decide +kernel
theorem dX2_fly_78 : decode cX2_fly 78 = .ok (.iload_n 2, 1) := by decide +kernel
theorem dX2_fly_79 : decode cX2_fly 79 = .ok (.iload_n 3, 1) := by decide +kernel
theorem dX2_fly_80 : decode cX2_fly 80 = .ok (.aload_n 0, 1) := by decide +kernel
theorem dX2_fly_81 : decode cX2_fly 81 = .ok (.getfield 112, 3) := by decide +kernel
theorem dX2_fly_84 : decode cX2_fly 84 = .ok (.aload_n 0, 1) := by decide +kernel
theorem dX2_fly_85 : decode cX2_fly 85 = .ok (.getfield 120, 3) := by decide +kernel
theorem dX2_fly_88 : decode cX2_fly 88 = .ok (.invokevirtual 123, 3) := by decide +kernel
theorem dX2_fly_91 : decode cX2_fly 91 = .ok (.istore 5, 2) := by decide +kernel
theorem dX2_fly_93 : decode cX2_fly 93 = .ok (.aload_n 0, 1) := by decide +kernel
theorem dX2_fly_94 : decode cX2_fly 94 = .ok (.iload_n 2, 1) := by decide +kernel
theorem dX2_fly_95 : decode cX2_fly 95 = .ok (.iload 5, 2) := by decide +kernel
theorem dX2_fly_97 : decode cX2_fly 97 = .ok (.invokevirtual 127, 3) := by decide +kernel
theorem dX2_fly_100 : decode cX2_fly 100 = .ok (.ifCond .eq 13, 3) := by decide +kernel
theorem dX2_fly_103 : decode cX2_fly 103 = .ok (.new 39, 3) := by decide +kernel
theorem dX2_fly_106 : decode cX2_fly 106 = .ok (.dup, 1) := by decide +kernel
theorem dX2_fly_107 : decode cX2_fly 107 = .ok (.ldc 131, 2) := by decide +kernel
theorem dX2_fly_109 : decode cX2_fly 109 = .ok (.invokespecial 43, 3) := by decide +kernel
theorem dX2_fly_112 : decode cX2_fly 112 = .ok (.athrow, 1) := by decide +kernel
theorem dX2_fly_113 : decode cX2_fly 113 = .ok (.aload 4, 2) := by decide +kernel
theorem dX2_fly_115 : decode cX2_fly 115 = .ok (.iload_n 2, 1) := by decide +kernel
theorem dX2_fly_116 : decode cX2_fly 116 = .ok (.putfield 133, 3) := by decide +kernel
theorem dX2_fly_119 : decode cX2_fly 119 = .ok (.aload 4, 2) := by decide +kernel
theorem dX2_fly_121 : decode cX2_fly 121 = .ok (.iload_n 3, 1) := by decide +kernel
theorem dX2_fly_122 : decode cX2_fly 122 = .ok (.putfield 136, 3) := by decide +kernel
theorem dX2_fly_125 : decode cX2_fly 125 = .ok (.aload_n 0, 1) := by decide +kernel
theorem dX2_fly_126 : decode cX2_fly 126 = .ok (.getfield 21, 3) := by decide +kernel
theorem dX2_fly_129 : decode cX2_fly 129 = .ok (.iload_n 2, 1) := by decide +kernel
theorem dX2_fly_130 : decode cX2_fly 130 = .ok (.aload 4, 2) := by decide +kernel
theorem dX2_fly_132 : decode cX2_fly 132 = .ok (.aastore, 1) := by decide +kernel
theorem dX2_fly_133 : decode cX2_fly 133 = .ok (.iload 5, 2) := by decide +kernel
theorem dX2_fly_135 : decode cX2_fly 135 = .ok (.ireturn, 1) := by decide +kernel
set_option maxRecDepth 20000 in
theorem ggX2_land_X2_kiteAt : GoodIn wsX2_land wsX2_kiteAt := goodIn_ca (goodIn_r _ [8, 9, 10, 11, 12, 13, 7, 14, 32, 33, 34, 35, 36, 37, 38, 39, 40] (by decide +kernel) (by decide +kernel)) (goodIn_sub (fun _ h => List.mem_cons_of_mem _ (List.mem_append_right _ h)) (by decide +kernel))
set_option maxRecDepth 20000 in
theorem gX2_land_X2_kiteAt : GoodIn wsX2_land (wsV RX2 47 RX2 yX2_kiteAt wsX2_kiteAt) := goodIn_app (goodIn_of _ (by decide +kernel)) ggX2_land_X2_kiteAt
set_option maxRecDepth 20000 in
theorem ggX2_land_X2_isLane : GoodIn wsX2_land wsX2_isLane := goodIn_r _ [17, 12, 13, 7, 14] (by decide +kernel) (by decide +kernel)
set_option maxRecDepth 20000 in
theorem gX2_land_X2_isLane : GoodIn wsX2_land (va_wsS RX2 101 yX2_isLane wsX2_isLane) := goodIn_app (goodIn_of _ (by decide +kernel)) ggX2_land_X2_isLane
set_option maxRecDepth 20000 in
theorem ggX2_land_X2_clearLane : GoodIn wsX2_land wsX2_clearLane := goodIn_r _ [21, 22, 3, 15, 16, 7, 17, 12, 13, 14, 32, 33, 34, 35, 36, 37, 38, 39, 40, 23, 24, 25, 26, 27, 28, 29, 30, 31] (by decide +kernel) (by decide +kernel)
set_option maxRecDepth 20000 in
theorem gX2_land_X2_clearLane : GoodIn wsX2_land (wsV RX2 141 RX2 yX2_clearLane wsX2_clearLane) := goodIn_app (goodIn_of _ (by decide +kernel)) ggX2_land_X2_clearLane
theorem dX2_land_0 : decode cX2_land 0 = .ok (.aload_n 0, 1) := by decide +kernel
theorem dX2_land_1 : decode cX2_land 1 = .ok (.iload_n 1, 1) := by decide +kernel
theorem dX2_land_2 : decode cX2_land 2 = .ok (.invokevirtual 47, 3) := by decide +kernel
theorem dX2_land_5 : decode cX2_land 5 = .ok (.astore_n 2, 1) := by decide +kernel
theorem dX2_land_6 : decode cX2_land 6 = .ok (.aload_n 2, 1) := by decide +kernel
theorem dX2_land_7 : decode cX2_land 7 = .ok (.getfield 133, 3) := by decide +kernel
theorem dX2_land_10 : decode cX2_land 10 = .ok (.istore_n 3, 1) := by decide +kernel
theorem dX2_land_11 : decode cX2_land 11 = .ok (.iload_n 3, 1) := by decide +kernel
theorem dX2_land_12 : decode cX2_land 12 = .ok (.invokestatic 101, 3) := by decide +kernel
theorem dX2_land_15 : decode cX2_land 15 = .ok (.ifCond .ne 13, 3) := by decide +kernel
theorem dX2_land_18 : decode cX2_land 18 = .ok (.new 39, 3) := by decide +kernel
theorem dX2_land_21 : decode cX2_land 21 = .ok (.dup, 1) := by decide +kernel
theorem dX2_land_22 : decode cX2_land 22 = .ok (.ldc 139, 2) := by decide +kernel
theorem dX2_land_24 : decode cX2_land 24 = .ok (.invokespecial 43, 3) := by decide +kernel
theorem dX2_land_27 : decode cX2_land 27 = .ok (.athrow, 1) := by decide +kernel
theorem dX2_land_28 : decode cX2_land 28 = .ok (.aload_n 0, 1) := by decide +kernel
theorem dX2_land_29 : decode cX2_land 29 = .ok (.iload_n 3, 1) := by decide +kernel
theorem dX2_land_30 : decode cX2_land 30 = .ok (.invokevirtual 141, 3) := by decide +kernel
theorem dX2_land_33 : decode cX2_land 33 = .ok (.iload_n 3, 1) := by decide +kernel
theorem dX2_land_34 : decode cX2_land 34 = .ok (.ireturn, 1) := by decide +kernel
set_option maxRecDepth 20000 in
theorem ggX2_wind_X2_isSpeed : GoodIn wsX2_wind wsX2_isSpeed := goodIn_r _ [9, 10, 11, 8, 12] (by decide +kernel) (by decide +kernel)
set_option maxRecDepth 20000 in
theorem gX2_wind_X2_isSpeed : GoodIn wsX2_wind (va_wsS RX2 144 yX2_isSpeed wsX2_isSpeed) := goodIn_app (goodIn_of _ (by decide +kernel)) ggX2_wind_X2_isSpeed
set_option maxRecDepth 20000 in
theorem ggX2_wind_X2_isWithin : GoodIn wsX2_wind wsX2_isWithin := goodIn_r _ [12] (by decide +kernel) (by decide +kernel)
set_option maxRecDepth 20000 in
theorem gX2_wind_X2_isWithin : GoodIn wsX2_wind (va_wsS RX2 24 yX2_isWithin wsX2_isWithin) := goodIn_app (goodIn_of _ (by decide +kernel)) ggX2_wind_X2_isWithin
set_option maxRecDepth 20000 in
theorem ggX2_wind_X2_callDownUnheld : GoodIn wsX2_wind wsX2_callDownUnheld := goodIn_r _ [16, 17, 3, 18, 19, 20, 21, 22, 23, 24, 25, 26, 27, 28, 29, 30, 31, 32, 33, 34, 11, 8, 12, 35, 36, 37, 38, 39, 5, 40, 41, 42, 43, 44, 45, 46, 47, 10, 66, 67, 68, 69, 70, 71, 72, 73, 74, 75, 76, 77, 78, 79, 80, 81, 82, 83] (by decide +kernel) (by decide +kernel)
set_option maxRecDepth 20000 in
theorem gX2_wind_X2_callDownUnheld : GoodIn wsX2_wind (wsV RX2 152 RX2 yX2_callDownUnheld wsX2_callDownUnheld) := goodIn_app (goodIn_of _ (by decide +kernel)) ggX2_wind_X2_callDownUnheld
set_option maxRecDepth 20000 in
theorem ggX2_wind_X2_callDownCrossing : GoodIn wsX2_wind wsX2_callDownCrossing := goodIn_r _ [51, 52, 53, 54, 8, 55, 17, 3, 4, 56, 57, 58, 22, 59, 60, 61, 62, 63, 64, 65, 24, 25, 26, 27, 28, 29, 30, 31, 32, 33, 34, 35, 36, 37, 38, 39, 5, 40, 41, 42, 43, 44, 45, 46, 47, 10, 11, 12, 66, 67, 68, 69, 70, 71, 72, 73, 74, 75, 76, 77, 78, 79, 80, 81, 82, 83] (by decide +kernel) (by decide +kernel)
set_option maxRecDepth 20000 in
theorem gX2_wind_X2_callDownCrossing : GoodIn wsX2_wind (wsV RX2 155 RX2 yX2_callDownCrossing wsX2_callDownCrossing) := goodIn_app (goodIn_of _ (by decide +kernel)) ggX2_wind_X2_callDownCrossing
theorem dX2_wind_0 : decode cX2_wind 0 = .ok (.iload_n 1, 1) := by decide +kernel
theorem dX2_wind_1 : decode cX2_wind 1 = .ok (.invokestatic 144, 3) := by decide +kernel
theorem dX2_wind_4 : decode cX2_wind 4 = .ok (.ifCond .eq 13, 3) := by decide +kernel
theorem dX2_wind_7 : decode cX2_wind 7 = .ok (.iload_n 2, 1) := by decide +kernel
theorem dX2_wind_8 : decode cX2_wind 8 = .ok (.bipush (-5), 2) := by decide +kernel
theorem dX2_wind_10 : decode cX2_wind 10 = .ok (.iconst 5, 1) := by decide +kernel
theorem dX2_wind_11 : decode cX2_wind 11 = .ok (.invokestatic 24, 3) := by decide +kernel
theorem dX2_wind_14 : decode cX2_wind 14 = .ok (.ifCond .ne 13, 3) := by decide +kernel
theorem dX2_wind_17 : decode cX2_wind 17 = .ok (.new 28, 3) := by decide +kernel
theorem dX2_wind_20 : decode cX2_wind 20 = .ok (.dup, 1) := by decide +kernel
theorem dX2_wind_21 : decode cX2_wind 21 = .ok (.ldc 147, 2) := by decide +kernel
theorem dX2_wind_23 : decode cX2_wind 23 = .ok (.invokespecial 32, 3) := by decide +kernel
theorem dX2_wind_26 : decode cX2_wind 26 = .ok (.athrow, 1) := by decide +kernel
theorem dX2_wind_27 : decode cX2_wind 27 = .ok (.aload_n 0, 1) := by decide +kernel
theorem dX2_wind_28 : decode cX2_wind 28 = .ok (.iload_n 1, 1) := by decide +kernel
theorem dX2_wind_29 : decode cX2_wind 29 = .ok (.putfield 112, 3) := by decide +kernel
theorem dX2_wind_32 : decode cX2_wind 32 = .ok (.aload_n 0, 1) := by decide +kernel
theorem dX2_wind_33 : decode cX2_wind 33 = .ok (.iload_n 2, 1) := by decide +kernel
theorem dX2_wind_34 : decode cX2_wind 34 = .ok (.putfield 120, 3) := by decide +kernel
theorem dX2_wind_37 : decode cX2_wind 37 = .ok (.aload_n 0, 1) := by decide +kernel
theorem dX2_wind_38 : decode cX2_wind 38 = .ok (.getfield 149, 3) := by decide +kernel
theorem dX2_wind_41 : decode cX2_wind 41 = .ok (.istore_n 3, 1) := by decide +kernel
theorem dX2_wind_42 : decode cX2_wind 42 = .ok (.aload_n 0, 1) := by decide +kernel
theorem dX2_wind_43 : decode cX2_wind 43 = .ok (.invokevirtual 152, 3) := by decide +kernel
theorem dX2_wind_46 : decode cX2_wind 46 = .ok (.aload_n 0, 1) := by decide +kernel
theorem dX2_wind_47 : decode cX2_wind 47 = .ok (.invokevirtual 155, 3) := by decide +kernel
theorem dX2_wind_50 : decode cX2_wind 50 = .ok (.aload_n 0, 1) := by decide +kernel
theorem dX2_wind_51 : decode cX2_wind 51 = .ok (.getfield 149, 3) := by decide +kernel
theorem dX2_wind_54 : decode cX2_wind 54 = .ok (.iload_n 3, 1) := by decide +kernel
theorem dX2_wind_55 : decode cX2_wind 55 = .ok (.isub, 1) := by decide +kernel
theorem dX2_wind_56 : decode cX2_wind 56 = .ok (.ireturn, 1) := by decide +kernel
theorem dX2_rain_0 : decode cX2_rain 0 = .ok (.aload_n 0, 1) := by decide +kernel
theorem dX2_rain_1 : decode cX2_rain 1 = .ok (.getfield 158, 3) := by decide +kernel
theorem dX2_rain_4 : decode cX2_rain 4 = .ok (.istore_n 2, 1) := by decide +kernel
theorem dX2_rain_5 : decode cX2_rain 5 = .ok (.aload_n 0, 1) := by decide +kernel
theorem dX2_rain_6 : decode cX2_rain 6 = .ok (.iload_n 1, 1) := by decide +kernel
theorem dX2_rain_7 : decode cX2_rain 7 = .ok (.putfield 158, 3) := by decide +kernel
theorem dX2_rain_10 : decode cX2_rain 10 = .ok (.iload_n 2, 1) := by decide +kernel
theorem dX2_rain_11 : decode cX2_rain 11 = .ok (.ireturn, 1) := by decide +kernel
set_option maxRecDepth 20000 in
theorem ggX2_pass_X2_isWithin : GoodIn wsX2_pass wsX2_isWithin := goodIn_r _ [6] (by decide +kernel) (by decide +kernel)
set_option maxRecDepth 20000 in
theorem gX2_pass_X2_isWithin : GoodIn wsX2_pass (va_wsS RX2 24 yX2_isWithin wsX2_isWithin) := goodIn_app (goodIn_of _ (by decide +kernel)) ggX2_pass_X2_isWithin
set_option maxRecDepth 20000 in
theorem ggX2_pass_X2_spendHour : GoodIn wsX2_pass wsX2_spendHour := goodIn_r _ [10, 11, 12, 13, 14, 15, 16, 17, 18, 19, 20, 21, 22, 23, 29, 30, 31, 32, 33, 34, 35, 36, 37, 38, 39, 40, 41, 42, 43, 44, 45, 46] (by decide +kernel) (by decide +kernel)
set_option maxRecDepth 20000 in
theorem gX2_pass_X2_spendHour : GoodIn wsX2_pass (wsV RX2 163 RX2 yX2_spendHour wsX2_spendHour) := goodIn_app (goodIn_of _ (by decide +kernel)) ggX2_pass_X2_spendHour
set_option maxRecDepth 20000 in
theorem ggX2_pass_X2_countWet : GoodIn wsX2_pass wsX2_countWet := goodIn_r _ [27, 11, 28, 29, 30, 31, 32, 33, 34, 35, 36, 37, 38, 39, 40, 41, 42, 43, 44, 45, 46] (by decide +kernel) (by decide +kernel)
set_option maxRecDepth 20000 in
theorem gX2_pass_X2_countWet : GoodIn wsX2_pass (wsV RX2 166 RX2 yX2_countWet wsX2_countWet) := goodIn_app (goodIn_of _ (by decide +kernel)) ggX2_pass_X2_countWet
theorem dX2_pass_0 : decode cX2_pass 0 = .ok (.iload_n 1, 1) := by decide +kernel
theorem dX2_pass_1 : decode cX2_pass 1 = .ok (.iconst 1, 1) := by decide +kernel
theorem dX2_pass_2 : decode cX2_pass 2 = .ok (.bipush 24, 2) := by decide +kernel
theorem dX2_pass_4 : decode cX2_pass 4 = .ok (.invokestatic 24, 3) := by decide +kernel
theorem dX2_pass_7 : decode cX2_pass 7 = .ok (.ifCond .ne 13, 3) := by decide +kernel
theorem dX2_pass_10 : decode cX2_pass 10 = .ok (.new 28, 3) := by decide +kernel
theorem dX2_pass_13 : decode cX2_pass 13 = .ok (.dup, 1) := by decide +kernel
theorem dX2_pass_14 : decode cX2_pass 14 = .ok (.ldc 161, 2) := by decide +kernel
theorem dX2_pass_16 : decode cX2_pass 16 = .ok (.invokespecial 32, 3) := by decide +kernel
theorem dX2_pass_19 : decode cX2_pass 19 = .ok (.athrow, 1) := by decide +kernel
theorem dX2_pass_20 : decode cX2_pass 20 = .ok (.iconst 0, 1) := by decide +kernel
theorem dX2_pass_21 : decode cX2_pass 21 = .ok (.istore_n 2, 1) := by decide +kernel
theorem dX2_pass_22 : decode cX2_pass 22 = .ok (.iload_n 2, 1) := by decide +kernel
theorem dX2_pass_23 : decode cX2_pass 23 = .ok (.iload_n 1, 1) := by decide +kernel
theorem dX2_pass_24 : decode cX2_pass 24 = .ok (.if_icmp .ge 13, 3) := by decide +kernel
theorem dX2_pass_27 : decode cX2_pass 27 = .ok (.aload_n 0, 1) := by decide +kernel
theorem dX2_pass_28 : decode cX2_pass 28 = .ok (.invokevirtual 163, 3) := by decide +kernel
theorem dX2_pass_31 : decode cX2_pass 31 = .ok (.iinc 2 1, 3) := by decide +kernel
theorem dX2_pass_34 : decode cX2_pass 34 = .ok (.goto (-12), 3) := by decide +kernel
theorem dX2_pass_37 : decode cX2_pass 37 = .ok (.aload_n 0, 1) := by decide +kernel
theorem dX2_pass_38 : decode cX2_pass 38 = .ok (.invokevirtual 166, 3) := by decide +kernel
theorem dX2_pass_41 : decode cX2_pass 41 = .ok (.ireturn, 1) := by decide +kernel
set_option maxRecDepth 20000 in
theorem ggX2_pull_X2_kiteAt : GoodIn wsX2_pull wsX2_kiteAt := goodIn_ca (goodIn_r _ [7, 8, 9, 10, 11, 12, 6, 13, 29, 30, 31, 32, 33, 34, 35, 36, 37] (by decide +kernel) (by decide +kernel)) (goodIn_sub (fun _ h => List.mem_cons_of_mem _ (List.mem_append_right _ h)) (by decide +kernel))
set_option maxRecDepth 20000 in
theorem gX2_pull_X2_kiteAt : GoodIn wsX2_pull (wsV RX2 47 RX2 yX2_kiteAt wsX2_kiteAt) := goodIn_app (goodIn_of _ (by decide +kernel)) ggX2_pull_X2_kiteAt
set_option maxRecDepth 20000 in
theorem ggX2_pull_X2_isSpeed : GoodIn wsX2_pull wsX2_isSpeed := goodIn_r _ [16, 11, 12, 6, 13] (by decide +kernel) (by decide +kernel)
set_option maxRecDepth 20000 in
theorem gX2_pull_X2_isSpeed : GoodIn wsX2_pull (va_wsS RX2 144 yX2_isSpeed wsX2_isSpeed) := goodIn_app (goodIn_of _ (by decide +kernel)) ggX2_pull_X2_isSpeed
set_option maxRecDepth 20000 in
theorem ggX2_pull_X1_pullIn : GoodIn wsX2_pull wsX1_pullIn := goodIn_r _ [21, 22, 23, 24, 25, 20, 26, 27, 28, 38, 39, 40, 41, 42, 43, 44, 45, 46] (by decide +kernel) (by decide +kernel)
set_option maxRecDepth 20000 in
theorem gX2_pull_X1_pullIn : GoodIn wsX2_pull (wsV RX2 172 RX1 yX1_pullIn wsX1_pullIn) := goodIn_app (goodIn_of _ (by decide +kernel)) ggX2_pull_X1_pullIn
theorem dX2_pull_0 : decode cX2_pull 0 = .ok (.aload_n 0, 1) := by decide +kernel
theorem dX2_pull_1 : decode cX2_pull 1 = .ok (.iload_n 1, 1) := by decide +kernel
theorem dX2_pull_2 : decode cX2_pull 2 = .ok (.invokevirtual 47, 3) := by decide +kernel
theorem dX2_pull_5 : decode cX2_pull 5 = .ok (.astore_n 3, 1) := by decide +kernel
theorem dX2_pull_6 : decode cX2_pull 6 = .ok (.iload_n 2, 1) := by decide +kernel
theorem dX2_pull_7 : decode cX2_pull 7 = .ok (.invokestatic 144, 3) := by decide +kernel
theorem dX2_pull_10 : decode cX2_pull 10 = .ok (.ifCond .ne 13, 3) := by decide +kernel
theorem dX2_pull_13 : decode cX2_pull 13 = .ok (.new 28, 3) := by decide +kernel
theorem dX2_pull_16 : decode cX2_pull 16 = .ok (.dup, 1) := by decide +kernel
theorem dX2_pull_17 : decode cX2_pull 17 = .ok (.ldc 170, 2) := by decide +kernel
theorem dX2_pull_19 : decode cX2_pull 19 = .ok (.invokespecial 32, 3) := by decide +kernel
theorem dX2_pull_22 : decode cX2_pull 22 = .ok (.athrow, 1) := by decide +kernel
theorem dX2_pull_23 : decode cX2_pull 23 = .ok (.aload_n 3, 1) := by decide +kernel
theorem dX2_pull_24 : decode cX2_pull 24 = .ok (.iload_n 2, 1) := by decide +kernel
theorem dX2_pull_25 : decode cX2_pull 25 = .ok (.invokevirtual 172, 3) := by decide +kernel
theorem dX2_pull_28 : decode cX2_pull 28 = .ok (.ireturn, 1) := by decide +kernel
set_option maxRecDepth 20000 in
theorem ggX2_pullAnew_X2_kiteAt : GoodIn wsX2_pullAnew wsX2_kiteAt := goodIn_ca (goodIn_r _ [7, 8, 9, 10, 11, 12, 6, 13, 29, 30, 31, 32, 33, 34, 35, 36, 37] (by decide +kernel) (by decide +kernel)) (goodIn_sub (fun _ h => List.mem_cons_of_mem _ (List.mem_append_right _ h)) (by decide +kernel))
set_option maxRecDepth 20000 in
theorem gX2_pullAnew_X2_kiteAt : GoodIn wsX2_pullAnew (wsV RX2 47 RX2 yX2_kiteAt wsX2_kiteAt) := goodIn_app (goodIn_of _ (by decide +kernel)) ggX2_pullAnew_X2_kiteAt
set_option maxRecDepth 20000 in
theorem ggX2_pullAnew_X2_isSpeed : GoodIn wsX2_pullAnew wsX2_isSpeed := goodIn_r _ [16, 11, 12, 6, 13] (by decide +kernel) (by decide +kernel)
set_option maxRecDepth 20000 in
theorem gX2_pullAnew_X2_isSpeed : GoodIn wsX2_pullAnew (va_wsS RX2 144 yX2_isSpeed wsX2_isSpeed) := goodIn_app (goodIn_of _ (by decide +kernel)) ggX2_pullAnew_X2_isSpeed
set_option maxRecDepth 20000 in
theorem ggX2_pullAnew_X1_pullByStepsTo : GoodIn wsX2_pullAnew wsX1_pullByStepsTo := goodIn_r _ [21, 22, 23, 24, 25, 20, 26, 27, 28, 38, 39, 40, 41, 42, 43, 44, 45, 46] (by decide +kernel) (by decide +kernel)
set_option maxRecDepth 20000 in
theorem gX2_pullAnew_X1_pullByStepsTo : GoodIn wsX2_pullAnew (wsV RX2 176 RX1 yX1_pullByStepsTo wsX1_pullByStepsTo) := goodIn_app (goodIn_of _ (by decide +kernel)) ggX2_pullAnew_X1_pullByStepsTo
theorem dX2_pullAnew_0 : decode cX2_pullAnew 0 = .ok (.aload_n 0, 1) := by decide +kernel
theorem dX2_pullAnew_1 : decode cX2_pullAnew 1 = .ok (.iload_n 1, 1) := by decide +kernel
theorem dX2_pullAnew_2 : decode cX2_pullAnew 2 = .ok (.invokevirtual 47, 3) := by decide +kernel
theorem dX2_pullAnew_5 : decode cX2_pullAnew 5 = .ok (.astore_n 3, 1) := by decide +kernel
theorem dX2_pullAnew_6 : decode cX2_pullAnew 6 = .ok (.iload_n 2, 1) := by decide +kernel
theorem dX2_pullAnew_7 : decode cX2_pullAnew 7 = .ok (.invokestatic 144, 3) := by decide +kernel
theorem dX2_pullAnew_10 : decode cX2_pullAnew 10 = .ok (.ifCond .ne 13, 3) := by decide +kernel
theorem dX2_pullAnew_13 : decode cX2_pullAnew 13 = .ok (.new 28, 3) := by decide +kernel
theorem dX2_pullAnew_16 : decode cX2_pullAnew 16 = .ok (.dup, 1) := by decide +kernel
theorem dX2_pullAnew_17 : decode cX2_pullAnew 17 = .ok (.ldc 170, 2) := by decide +kernel
theorem dX2_pullAnew_19 : decode cX2_pullAnew 19 = .ok (.invokespecial 32, 3) := by decide +kernel
theorem dX2_pullAnew_22 : decode cX2_pullAnew 22 = .ok (.athrow, 1) := by decide +kernel
theorem dX2_pullAnew_23 : decode cX2_pullAnew 23 = .ok (.aload_n 3, 1) := by decide +kernel
theorem dX2_pullAnew_24 : decode cX2_pullAnew 24 = .ok (.iload_n 2, 1) := by decide +kernel
theorem dX2_pullAnew_25 : decode cX2_pullAnew 25 = .ok (.invokevirtual 176, 3) := by decide +kernel
theorem dX2_pullAnew_28 : decode cX2_pullAnew 28 = .ok (.ireturn, 1) := by decide +kernel
set_option maxRecDepth 20000 in
theorem ggX2_window_X2_kiteAt : GoodIn wsX2_window wsX2_kiteAt := goodIn_ca (goodIn_r _ [5, 6, 7, 8, 9, 10, 4, 11, 28, 29, 30, 31, 32, 33, 34, 35, 36] (by decide +kernel) (by decide +kernel)) (goodIn_sub (fun _ h => List.mem_cons_of_mem _ (List.mem_append_right _ h)) (by decide +kernel))
set_option maxRecDepth 20000 in
theorem gX2_window_X2_kiteAt : GoodIn wsX2_window (wsV RX2 47 RX2 yX2_kiteAt wsX2_kiteAt) := goodIn_app (goodIn_of _ (by decide +kernel)) ggX2_window_X2_kiteAt
set_option maxRecDepth 20000 in
theorem ggX2_window_X1_holdsIn : GoodIn wsX2_window wsX1_holdsIn := goodIn_r _ [16, 17, 18, 19, 15, 20, 21, 22, 23, 24, 25, 26, 27, 10, 4, 11, 37, 38, 39, 40, 41, 42, 43, 44, 45] (by decide +kernel) (by decide +kernel)
set_option maxRecDepth 20000 in
theorem gX2_window_X1_holdsIn : GoodIn wsX2_window (wsV RX2 187 RX1 yX1_holdsIn wsX1_holdsIn) := goodIn_app (goodIn_of _ (by decide +kernel)) ggX2_window_X1_holdsIn
theorem dX2_window_0 : decode cX2_window 0 = .ok (.aload_n 0, 1) := by decide +kernel
theorem dX2_window_1 : decode cX2_window 1 = .ok (.iload_n 1, 1) := by decide +kernel
theorem dX2_window_2 : decode cX2_window 2 = .ok (.invokevirtual 47, 3) := by decide +kernel
theorem dX2_window_5 : decode cX2_window 5 = .ok (.astore_n 3, 1) := by decide +kernel
theorem dX2_window_6 : decode cX2_window 6 = .ok (.iconst 0, 1) := by decide +kernel
theorem dX2_window_7 : decode cX2_window 7 = .ok (.istore 4, 2) := by decide +kernel
theorem dX2_window_9 : decode cX2_window 9 = .ok (.iload 4, 2) := by decide +kernel
theorem dX2_window_11 : decode cX2_window 11 = .ok (.bipush 30, 2) := by decide +kernel
theorem dX2_window_13 : decode cX2_window 13 = .ok (.if_icmp .gt 37, 3) := by decide +kernel
theorem dX2_window_16 : decode cX2_window 16 = .ok (.iload_n 2, 1) := by decide +kernel
theorem dX2_window_17 : decode cX2_window 17 = .ok (.ifCond .eq 11, 3) := by decide +kernel
theorem dX2_window_20 : decode cX2_window 20 = .ok (.bipush 30, 2) := by decide +kernel
theorem dX2_window_22 : decode cX2_window 22 = .ok (.iload 4, 2) := by decide +kernel
theorem dX2_window_24 : decode cX2_window 24 = .ok (.isub, 1) := by decide +kernel
theorem dX2_window_25 : decode cX2_window 25 = .ok (.goto 5, 3) := by decide +kernel
theorem dX2_window_28 : decode cX2_window 28 = .ok (.iload 4, 2) := by decide +kernel
theorem dX2_window_30 : decode cX2_window 30 = .ok (.istore 5, 2) := by decide +kernel
theorem dX2_window_32 : decode cX2_window 32 = .ok (.aload_n 3, 1) := by decide +kernel
theorem dX2_window_33 : decode cX2_window 33 = .ok (.iload 5, 2) := by decide +kernel
theorem dX2_window_35 : decode cX2_window 35 = .ok (.invokevirtual 187, 3) := by decide +kernel
theorem dX2_window_38 : decode cX2_window 38 = .ok (.ifCond .eq 6, 3) := by decide +kernel
theorem dX2_window_41 : decode cX2_window 41 = .ok (.iload 5, 2) := by decide +kernel
theorem dX2_window_43 : decode cX2_window 43 = .ok (.ireturn, 1) := by decide +kernel
theorem dX2_window_44 : decode cX2_window 44 = .ok (.iinc 4 1, 3) := by decide +kernel
theorem dX2_window_47 : decode cX2_window 47 = .ok (.goto (-38), 3) := by decide +kernel
theorem dX2_window_50 : decode cX2_window 50 = .ok (.iconst (-1), 1) := by decide +kernel
theorem dX2_window_51 : decode cX2_window 51 = .ok (.ireturn, 1) := by decide +kernel
set_option maxRecDepth 20000 in
theorem ggX2_about_X2_kiteAt : GoodIn wsX2_about wsX2_kiteAt := goodIn_ca (goodIn_r _ [14, 15, 16, 17, 18, 19, 13, 20, 56, 57, 58, 59, 60, 61, 62, 63, 64] (by decide +kernel) (by decide +kernel)) (goodIn_sub (fun _ h => List.mem_cons_of_mem _ (List.mem_append_right _ h)) (by decide +kernel))
set_option maxRecDepth 20000 in
theorem gX2_about_X2_kiteAt : GoodIn wsX2_about (wsV RX2 47 RX2 yX2_kiteAt wsX2_kiteAt) := goodIn_app (goodIn_of _ (by decide +kernel)) ggX2_about_X2_kiteAt
set_option maxRecDepth 20000 in
theorem ggX2_about_X1_isFlying : GoodIn wsX2_about wsX1_isFlying := goodIn_r _ [25, 26, 47, 48, 49, 50, 51, 52, 53, 54, 55] (by decide +kernel) (by decide +kernel)
set_option maxRecDepth 20000 in
theorem gX2_about_X1_isFlying : GoodIn wsX2_about (wsV RX2 93 RX1 yX1_isFlying wsX1_isFlying) := goodIn_app (goodIn_of _ (by decide +kernel)) ggX2_about_X1_isFlying
set_option maxRecDepth 20000 in
theorem ggX2_about_X1_endIn : GoodIn wsX2_about wsX1_endIn := goodIn_r _ [30, 26, 31, 32, 33, 34, 24, 35, 36, 37, 38, 39, 40, 41, 42, 43, 44, 45, 46, 47, 48, 49, 50, 51, 52, 53, 54, 55] (by decide +kernel) (by decide +kernel)
set_option maxRecDepth 20000 in
theorem gX2_about_X1_endIn : GoodIn wsX2_about (wsV RX2 193 RX1 yX1_endIn wsX1_endIn) := goodIn_app (goodIn_of _ (by decide +kernel)) ggX2_about_X1_endIn
theorem dX2_about_0 : decode cX2_about 0 = .ok (.aload_n 0, 1) := by decide +kernel
theorem dX2_about_1 : decode cX2_about 1 = .ok (.iload_n 1, 1) := by decide +kernel
theorem dX2_about_2 : decode cX2_about 2 = .ok (.invokevirtual 47, 3) := by decide +kernel
theorem dX2_about_5 : decode cX2_about 5 = .ok (.astore_n 3, 1) := by decide +kernel
theorem dX2_about_6 : decode cX2_about 6 = .ok (.iload_n 2, 1) := by decide +kernel
theorem dX2_about_7 : decode cX2_about 7 = .ok (.tableswitch 94 0 5 #[37, 42, 55, 60, 65, 70], 37) := by decide +kernel
theorem dX2_about_44 : decode cX2_about 44 = .ok (.aload_n 3, 1) := by decide +kernel
theorem dX2_about_45 : decode cX2_about 45 = .ok (.getfield 57, 3) := by decide +kernel
theorem dX2_about_48 : decode cX2_about 48 = .ok (.ireturn, 1) := by decide +kernel
theorem dX2_about_49 : decode cX2_about 49 = .ok (.aload_n 3, 1) := by decide +kernel
theorem dX2_about_50 : decode cX2_about 50 = .ok (.getfield 51, 3) := by decide +kernel
theorem dX2_about_53 : decode cX2_about 53 = .ok (.ifCond .eq 7, 3) := by decide +kernel
theorem dX2_about_56 : decode cX2_about 56 = .ok (.iconst 1, 1) := by decide +kernel
theorem dX2_about_57 : decode cX2_about 57 = .ok (.goto 4, 3) := by decide +kernel
theorem dX2_about_60 : decode cX2_about 60 = .ok (.iconst 0, 1) := by decide +kernel
theorem dX2_about_61 : decode cX2_about 61 = .ok (.ireturn, 1) := by decide +kernel
theorem dX2_about_62 : decode cX2_about 62 = .ok (.aload_n 3, 1) := by decide +kernel
theorem dX2_about_63 : decode cX2_about 63 = .ok (.getfield 190, 3) := by decide +kernel
theorem dX2_about_66 : decode cX2_about 66 = .ok (.ireturn, 1) := by decide +kernel
theorem dX2_about_67 : decode cX2_about 67 = .ok (.aload_n 3, 1) := by decide +kernel
theorem dX2_about_68 : decode cX2_about 68 = .ok (.getfield 86, 3) := by decide +kernel
theorem dX2_about_71 : decode cX2_about 71 = .ok (.ireturn, 1) := by decide +kernel
theorem dX2_about_72 : decode cX2_about 72 = .ok (.aload_n 3, 1) := by decide +kernel
theorem dX2_about_73 : decode cX2_about 73 = .ok (.getfield 133, 3) := by decide +kernel
theorem dX2_about_76 : decode cX2_about 76 = .ok (.ireturn, 1) := by decide +kernel
theorem dX2_about_77 : decode cX2_about 77 = .ok (.aload_n 3, 1) := by decide +kernel
theorem dX2_about_78 : decode cX2_about 78 = .ok (.invokevirtual 93, 3) := by decide +kernel
theorem dX2_about_81 : decode cX2_about 81 = .ok (.ifCond .eq 18, 3) := by decide +kernel
theorem dX2_about_84 : decode cX2_about 84 = .ok (.aload_n 3, 1) := by decide +kernel
theorem dX2_about_85 : decode cX2_about 85 = .ok (.aload_n 0, 1) := by decide +kernel
theorem dX2_about_86 : decode cX2_about 86 = .ok (.getfield 112, 3) := by decide +kernel
theorem dX2_about_89 : decode cX2_about 89 = .ok (.aload_n 0, 1) := by decide +kernel
theorem dX2_about_90 : decode cX2_about 90 = .ok (.getfield 120, 3) := by decide +kernel
theorem dX2_about_93 : decode cX2_about 93 = .ok (.invokevirtual 193, 3) := by decide +kernel
theorem dX2_about_96 : decode cX2_about 96 = .ok (.goto 4, 3) := by decide +kernel
theorem dX2_about_99 : decode cX2_about 99 = .ok (.iconst (-1), 1) := by decide +kernel
theorem dX2_about_100 : decode cX2_about 100 = .ok (.ireturn, 1) := by decide +kernel
theorem dX2_about_101 : decode cX2_about 101 = .ok (.new 28, 3) := by decide +kernel
theorem dX2_about_104 : decode cX2_about 104 = .ok (.dup, 1) := by decide +kernel
theorem dX2_about_105 : decode cX2_about 105 = .ok (.ldc 197, 2) := by decide +kernel
theorem dX2_about_107 : decode cX2_about 107 = .ok (.invokespecial 32, 3) := by decide +kernel
theorem dX2_about_110 : decode cX2_about 110 = .ok (.athrow, 1) := by decide +kernel
set_option maxRecDepth 20000 in
theorem ggX2_lane_X2_isLane : GoodIn wsX2_lane wsX2_isLane := goodIn_r _ [8, 9, 10, 7, 11] (by decide +kernel) (by decide +kernel)
set_option maxRecDepth 20000 in
theorem gX2_lane_X2_isLane : GoodIn wsX2_lane (va_wsS RX2 101 yX2_isLane wsX2_isLane) := goodIn_app (goodIn_of _ (by decide +kernel)) ggX2_lane_X2_isLane
theorem dX2_lane_0 : decode cX2_lane 0 = .ok (.iload_n 1, 1) := by decide +kernel
theorem dX2_lane_1 : decode cX2_lane 1 = .ok (.invokestatic 101, 3) := by decide +kernel
theorem dX2_lane_4 : decode cX2_lane 4 = .ok (.ifCond .ne 13, 3) := by decide +kernel
theorem dX2_lane_7 : decode cX2_lane 7 = .ok (.new 105, 3) := by decide +kernel
theorem dX2_lane_10 : decode cX2_lane 10 = .ok (.dup, 1) := by decide +kernel
theorem dX2_lane_11 : decode cX2_lane 11 = .ok (.ldc 107, 2) := by decide +kernel
theorem dX2_lane_13 : decode cX2_lane 13 = .ok (.invokespecial 109, 3) := by decide +kernel
theorem dX2_lane_16 : decode cX2_lane 16 = .ok (.athrow, 1) := by decide +kernel
theorem dX2_lane_17 : decode cX2_lane 17 = .ok (.aload_n 0, 1) := by decide +kernel
theorem dX2_lane_18 : decode cX2_lane 18 = .ok (.getfield 21, 3) := by decide +kernel
theorem dX2_lane_21 : decode cX2_lane 21 = .ok (.iload_n 1, 1) := by decide +kernel
theorem dX2_lane_22 : decode cX2_lane 22 = .ok (.aaload, 1) := by decide +kernel
theorem dX2_lane_23 : decode cX2_lane 23 = .ok (.astore_n 2, 1) := by decide +kernel
theorem dX2_lane_24 : decode cX2_lane 24 = .ok (.aload_n 2, 1) := by decide +kernel
theorem dX2_lane_25 : decode cX2_lane 25 = .ok (.ifnonnull 7, 3) := by decide +kernel
theorem dX2_lane_28 : decode cX2_lane 28 = .ok (.iconst (-1), 1) := by decide +kernel
theorem dX2_lane_29 : decode cX2_lane 29 = .ok (.goto 7, 3) := by decide +kernel
theorem dX2_lane_32 : decode cX2_lane 32 = .ok (.aload_n 2, 1) := by decide +kernel
theorem dX2_lane_33 : decode cX2_lane 33 = .ok (.getfield 98, 3) := by decide +kernel
theorem dX2_lane_36 : decode cX2_lane 36 = .ok (.ireturn, 1) := by decide +kernel
theorem dX2_called_0 : decode cX2_called 0 = .ok (.aload_n 0, 1) := by decide +kernel
theorem dX2_called_1 : decode cX2_called 1 = .ok (.getfield 149, 3) := by decide +kernel
theorem dX2_called_4 : decode cX2_called 4 = .ok (.ireturn, 1) := by decide +kernel
theorem dX2_isWithin_0 : decode cX2_isWithin 0 = .ok (.iload_n 0, 1) := by decide +kernel
theorem dX2_isWithin_1 : decode cX2_isWithin 1 = .ok (.iload_n 1, 1) := by decide +kernel
theorem dX2_isWithin_2 : decode cX2_isWithin 2 = .ok (.if_icmp .lt 12, 3) := by decide +kernel
theorem dX2_isWithin_5 : decode cX2_isWithin 5 = .ok (.iload_n 0, 1) := by decide +kernel
theorem dX2_isWithin_6 : decode cX2_isWithin 6 = .ok (.iload_n 2, 1) := by decide +kernel
theorem dX2_isWithin_7 : decode cX2_isWithin 7 = .ok (.if_icmp .gt 7, 3) := by decide +kernel
theorem dX2_isWithin_10 : decode cX2_isWithin 10 = .ok (.iconst 1, 1) := by decide +kernel
theorem dX2_isWithin_11 : decode cX2_isWithin 11 = .ok (.goto 4, 3) := by decide +kernel
theorem dX2_isWithin_14 : decode cX2_isWithin 14 = .ok (.iconst 0, 1) := by decide +kernel
theorem dX2_isWithin_15 : decode cX2_isWithin 15 = .ok (.ireturn, 1) := by decide +kernel
set_option maxRecDepth 20000 in
theorem ggX2_isSpeed_X2_isWithin : GoodIn wsX2_isSpeed wsX2_isWithin := goodIn_r _ [4] (by decide +kernel) (by decide +kernel)
set_option maxRecDepth 20000 in
theorem gX2_isSpeed_X2_isWithin : GoodIn wsX2_isSpeed (va_wsS RX2 24 yX2_isWithin wsX2_isWithin) := goodIn_app (goodIn_of _ (by decide +kernel)) ggX2_isSpeed_X2_isWithin
theorem dX2_isSpeed_0 : decode cX2_isSpeed 0 = .ok (.iload_n 0, 1) := by decide +kernel
theorem dX2_isSpeed_1 : decode cX2_isSpeed 1 = .ok (.iconst 0, 1) := by decide +kernel
theorem dX2_isSpeed_2 : decode cX2_isSpeed 2 = .ok (.bipush 30, 2) := by decide +kernel
theorem dX2_isSpeed_4 : decode cX2_isSpeed 4 = .ok (.invokestatic 24, 3) := by decide +kernel
theorem dX2_isSpeed_7 : decode cX2_isSpeed 7 = .ok (.ireturn, 1) := by decide +kernel
set_option maxRecDepth 20000 in
theorem ggX2_isLane_X2_isWithin : GoodIn wsX2_isLane wsX2_isWithin := goodIn_r _ [4] (by decide +kernel) (by decide +kernel)
set_option maxRecDepth 20000 in
theorem gX2_isLane_X2_isWithin : GoodIn wsX2_isLane (va_wsS RX2 24 yX2_isWithin wsX2_isWithin) := goodIn_app (goodIn_of _ (by decide +kernel)) ggX2_isLane_X2_isWithin
theorem dX2_isLane_0 : decode cX2_isLane 0 = .ok (.iload_n 0, 1) := by decide +kernel
theorem dX2_isLane_1 : decode cX2_isLane 1 = .ok (.iconst 0, 1) := by decide +kernel
theorem dX2_isLane_2 : decode cX2_isLane 2 = .ok (.bipush 9, 2) := by decide +kernel
theorem dX2_isLane_4 : decode cX2_isLane 4 = .ok (.invokestatic 24, 3) := by decide +kernel
theorem dX2_isLane_7 : decode cX2_isLane 7 = .ok (.ireturn, 1) := by decide +kernel
set_option maxRecDepth 20000 in
theorem ggX2_kiteAt_X2_isWithin : GoodIn wsX2_kiteAt wsX2_isWithin := goodIn_r _ [7] (by decide +kernel) (by decide +kernel)
set_option maxRecDepth 20000 in
theorem gX2_kiteAt_X2_isWithin : GoodIn wsX2_kiteAt (va_wsS RX2 24 yX2_isWithin wsX2_isWithin) := goodIn_app (goodIn_of _ (by decide +kernel)) ggX2_kiteAt_X2_isWithin
theorem dX2_kiteAt_0 : decode cX2_kiteAt 0 = .ok (.iload_n 1, 1) := by decide +kernel
theorem dX2_kiteAt_1 : decode cX2_kiteAt 1 = .ok (.iconst 0, 1) := by decide +kernel
theorem dX2_kiteAt_2 : decode cX2_kiteAt 2 = .ok (.bipush 7, 2) := by decide +kernel
theorem dX2_kiteAt_4 : decode cX2_kiteAt 4 = .ok (.invokestatic 24, 3) := by decide +kernel
theorem dX2_kiteAt_7 : decode cX2_kiteAt 7 = .ok (.ifCond .eq 12, 3) := by decide +kernel
theorem dX2_kiteAt_10 : decode cX2_kiteAt 10 = .ok (.aload_n 0, 1) := by decide +kernel
theorem dX2_kiteAt_11 : decode cX2_kiteAt 11 = .ok (.getfield 11, 3) := by decide +kernel
theorem dX2_kiteAt_14 : decode cX2_kiteAt 14 = .ok (.iload_n 1, 1) := by decide +kernel
theorem dX2_kiteAt_15 : decode cX2_kiteAt 15 = .ok (.aaload, 1) := by decide +kernel
theorem dX2_kiteAt_16 : decode cX2_kiteAt 16 = .ok (.goto 4, 3) := by decide +kernel
theorem dX2_kiteAt_19 : decode cX2_kiteAt 19 = .ok (.aconst_null, 1) := by decide +kernel
theorem dX2_kiteAt_20 : decode cX2_kiteAt 20 = .ok (.astore_n 2, 1) := by decide +kernel
theorem dX2_kiteAt_21 : decode cX2_kiteAt 21 = .ok (.aload_n 2, 1) := by decide +kernel
theorem dX2_kiteAt_22 : decode cX2_kiteAt 22 = .ok (.ifnonnull 13, 3) := by decide +kernel
theorem dX2_kiteAt_25 : decode cX2_kiteAt 25 = .ok (.new 105, 3) := by decide +kernel
theorem dX2_kiteAt_28 : decode cX2_kiteAt 28 = .ok (.dup, 1) := by decide +kernel
theorem dX2_kiteAt_29 : decode cX2_kiteAt 29 = .ok (.ldc 199, 2) := by decide +kernel
theorem dX2_kiteAt_31 : decode cX2_kiteAt 31 = .ok (.invokespecial 109, 3) := by decide +kernel
theorem dX2_kiteAt_34 : decode cX2_kiteAt 34 = .ok (.athrow, 1) := by decide +kernel
theorem dX2_kiteAt_35 : decode cX2_kiteAt 35 = .ok (.aload_n 2, 1) := by decide +kernel
theorem dX2_kiteAt_36 : decode cX2_kiteAt 36 = .ok (.areturn, 1) := by decide +kernel
set_option maxRecDepth 20000 in
theorem ggX2_borrowerAt_X2_isWithin : GoodIn wsX2_borrowerAt wsX2_isWithin := goodIn_r _ [7] (by decide +kernel) (by decide +kernel)
set_option maxRecDepth 20000 in
theorem gX2_borrowerAt_X2_isWithin : GoodIn wsX2_borrowerAt (va_wsS RX2 24 yX2_isWithin wsX2_isWithin) := goodIn_app (goodIn_of _ (by decide +kernel)) ggX2_borrowerAt_X2_isWithin
theorem dX2_borrowerAt_0 : decode cX2_borrowerAt 0 = .ok (.iload_n 1, 1) := by decide +kernel
theorem dX2_borrowerAt_1 : decode cX2_borrowerAt 1 = .ok (.iconst 0, 1) := by decide +kernel
theorem dX2_borrowerAt_2 : decode cX2_borrowerAt 2 = .ok (.bipush 7, 2) := by decide +kernel
theorem dX2_borrowerAt_4 : decode cX2_borrowerAt 4 = .ok (.invokestatic 24, 3) := by decide +kernel
theorem dX2_borrowerAt_7 : decode cX2_borrowerAt 7 = .ok (.ifCond .eq 12, 3) := by decide +kernel
theorem dX2_borrowerAt_10 : decode cX2_borrowerAt 10 = .ok (.aload_n 0, 1) := by decide +kernel
theorem dX2_borrowerAt_11 : decode cX2_borrowerAt 11 = .ok (.getfield 17, 3) := by decide +kernel
theorem dX2_borrowerAt_14 : decode cX2_borrowerAt 14 = .ok (.iload_n 1, 1) := by decide +kernel
theorem dX2_borrowerAt_15 : decode cX2_borrowerAt 15 = .ok (.aaload, 1) := by decide +kernel
theorem dX2_borrowerAt_16 : decode cX2_borrowerAt 16 = .ok (.goto 4, 3) := by decide +kernel
theorem dX2_borrowerAt_19 : decode cX2_borrowerAt 19 = .ok (.aconst_null, 1) := by decide +kernel
theorem dX2_borrowerAt_20 : decode cX2_borrowerAt 20 = .ok (.astore_n 2, 1) := by decide +kernel
theorem dX2_borrowerAt_21 : decode cX2_borrowerAt 21 = .ok (.aload_n 2, 1) := by decide +kernel
theorem dX2_borrowerAt_22 : decode cX2_borrowerAt 22 = .ok (.ifnonnull 13, 3) := by decide +kernel
theorem dX2_borrowerAt_25 : decode cX2_borrowerAt 25 = .ok (.new 105, 3) := by decide +kernel
theorem dX2_borrowerAt_28 : decode cX2_borrowerAt 28 = .ok (.dup, 1) := by decide +kernel
theorem dX2_borrowerAt_29 : decode cX2_borrowerAt 29 = .ok (.ldc 201, 2) := by decide +kernel
theorem dX2_borrowerAt_31 : decode cX2_borrowerAt 31 = .ok (.invokespecial 109, 3) := by decide +kernel
theorem dX2_borrowerAt_34 : decode cX2_borrowerAt 34 = .ok (.athrow, 1) := by decide +kernel
theorem dX2_borrowerAt_35 : decode cX2_borrowerAt 35 = .ok (.aload_n 2, 1) := by decide +kernel
theorem dX2_borrowerAt_36 : decode cX2_borrowerAt 36 = .ok (.areturn, 1) := by decide +kernel
set_option maxRecDepth 20000 in
theorem ggX2_wouldCross_X1_endIn : GoodIn wsX2_wouldCross wsX1_endIn := goodIn_r _ [8, 9, 10, 11, 12, 13, 7, 14, 15, 16, 17, 18, 19, 20, 21, 22, 23, 24, 25, 35, 36, 37, 38, 39, 40, 41, 42, 43] (by decide +kernel) (by decide +kernel)
set_option maxRecDepth 20000 in
theorem gX2_wouldCross_X1_endIn : GoodIn wsX2_wouldCross (wsV RX2 193 RX1 yX1_endIn wsX1_endIn) := goodIn_app (goodIn_of _ (by decide +kernel)) ggX2_wouldCross_X1_endIn
theorem dX2_wouldCross_0 : decode cX2_wouldCross 0 = .ok (.iconst 0, 1) := by decide +kernel
theorem dX2_wouldCross_1 : decode cX2_wouldCross 1 = .ok (.istore_n 3, 1) := by decide +kernel
theorem dX2_wouldCross_2 : decode cX2_wouldCross 2 = .ok (.iload_n 3, 1) := by decide +kernel
theorem dX2_wouldCross_3 : decode cX2_wouldCross 3 = .ok (.bipush 10, 2) := by decide +kernel
theorem dX2_wouldCross_5 : decode cX2_wouldCross 5 = .ok (.if_icmp .ge 59, 3) := by decide +kernel
theorem dX2_wouldCross_8 : decode cX2_wouldCross 8 = .ok (.aload_n 0, 1) := by decide +kernel
theorem dX2_wouldCross_9 : decode cX2_wouldCross 9 = .ok (.getfield 21, 3) := by decide +kernel
theorem dX2_wouldCross_12 : decode cX2_wouldCross 12 = .ok (.iload_n 3, 1) := by decide +kernel
theorem dX2_wouldCross_13 : decode cX2_wouldCross 13 = .ok (.aaload, 1) := by decide +kernel
theorem dX2_wouldCross_14 : decode cX2_wouldCross 14 = .ok (.astore 4, 2) := by decide +kernel
theorem dX2_wouldCross_16 : decode cX2_wouldCross 16 = .ok (.aload 4, 2) := by decide +kernel
theorem dX2_wouldCross_18 : decode cX2_wouldCross 18 = .ok (.ifnull 40, 3) := by decide +kernel
theorem dX2_wouldCross_21 : decode cX2_wouldCross 21 = .ok (.aload 4, 2) := by decide +kernel
theorem dX2_wouldCross_23 : decode cX2_wouldCross 23 = .ok (.aload_n 0, 1) := by decide +kernel
theorem dX2_wouldCross_24 : decode cX2_wouldCross 24 = .ok (.getfield 112, 3) := by decide +kernel
theorem dX2_wouldCross_27 : decode cX2_wouldCross 27 = .ok (.aload_n 0, 1) := by decide +kernel
theorem dX2_wouldCross_28 : decode cX2_wouldCross 28 = .ok (.getfield 120, 3) := by decide +kernel
theorem dX2_wouldCross_31 : decode cX2_wouldCross 31 = .ok (.invokevirtual 193, 3) := by decide +kernel
theorem dX2_wouldCross_34 : decode cX2_wouldCross 34 = .ok (.istore 5, 2) := by decide +kernel
theorem dX2_wouldCross_36 : decode cX2_wouldCross 36 = .ok (.iload_n 3, 1) := by decide +kernel
theorem dX2_wouldCross_37 : decode cX2_wouldCross 37 = .ok (.iload_n 1, 1) := by decide +kernel
theorem dX2_wouldCross_38 : decode cX2_wouldCross 38 = .ok (.if_icmp .ge 12, 3) := by decide +kernel
theorem dX2_wouldCross_41 : decode cX2_wouldCross 41 = .ok (.iload 5, 2) := by decide +kernel
theorem dX2_wouldCross_43 : decode cX2_wouldCross 43 = .ok (.iload_n 2, 1) := by decide +kernel
theorem dX2_wouldCross_44 : decode cX2_wouldCross 44 = .ok (.if_icmp .lt 14, 3) := by decide +kernel
theorem dX2_wouldCross_47 : decode cX2_wouldCross 47 = .ok (.goto 9, 3) := by decide +kernel
theorem dX2_wouldCross_50 : decode cX2_wouldCross 50 = .ok (.iload_n 2, 1) := by decide +kernel
theorem dX2_wouldCross_51 : decode cX2_wouldCross 51 = .ok (.iload 5, 2) := by decide +kernel
theorem dX2_wouldCross_53 : decode cX2_wouldCross 53 = .ok (.if_icmp .lt 5, 3) := by decide +kernel
theorem dX2_wouldCross_56 : decode cX2_wouldCross 56 = .ok (.iconst 1, 1) := by decide +kernel
theorem dX2_wouldCross_57 : decode cX2_wouldCross 57 = .ok (.ireturn, 1) := by decide +kernel
theorem dX2_wouldCross_58 : decode cX2_wouldCross 58 = .ok (.iinc 3 1, 3) := by decide +kernel
theorem dX2_wouldCross_61 : decode cX2_wouldCross 61 = .ok (.goto (-59), 3) := by decide +kernel
theorem dX2_wouldCross_64 : decode cX2_wouldCross 64 = .ok (.iconst 0, 1) := by decide +kernel
theorem dX2_wouldCross_65 : decode cX2_wouldCross 65 = .ok (.ireturn, 1) := by decide +kernel
set_option maxRecDepth 20000 in
theorem ggX2_clearLane_X2_isLane : GoodIn wsX2_clearLane wsX2_isLane := goodIn_r _ [6, 7, 8, 5, 9] (by decide +kernel) (by decide +kernel)
set_option maxRecDepth 20000 in
theorem gX2_clearLane_X2_isLane : GoodIn wsX2_clearLane (va_wsS RX2 101 yX2_isLane wsX2_isLane) := goodIn_app (goodIn_of _ (by decide +kernel)) ggX2_clearLane_X2_isLane
theorem dX2_clearLane_0 : decode cX2_clearLane 0 = .ok (.iload_n 1, 1) := by decide +kernel
theorem dX2_clearLane_1 : decode cX2_clearLane 1 = .ok (.invokestatic 101, 3) := by decide +kernel
theorem dX2_clearLane_4 : decode cX2_clearLane 4 = .ok (.ifCond .eq 12, 3) := by decide +kernel
theorem dX2_clearLane_7 : decode cX2_clearLane 7 = .ok (.aload_n 0, 1) := by decide +kernel
theorem dX2_clearLane_8 : decode cX2_clearLane 8 = .ok (.getfield 21, 3) := by decide +kernel
theorem dX2_clearLane_11 : decode cX2_clearLane 11 = .ok (.iload_n 1, 1) := by decide +kernel
theorem dX2_clearLane_12 : decode cX2_clearLane 12 = .ok (.aaload, 1) := by decide +kernel
theorem dX2_clearLane_13 : decode cX2_clearLane 13 = .ok (.goto 4, 3) := by decide +kernel
theorem dX2_clearLane_16 : decode cX2_clearLane 16 = .ok (.aconst_null, 1) := by decide +kernel
theorem dX2_clearLane_17 : decode cX2_clearLane 17 = .ok (.astore_n 2, 1) := by decide +kernel
theorem dX2_clearLane_18 : decode cX2_clearLane 18 = .ok (.aload_n 2, 1) := by decide +kernel
theorem dX2_clearLane_19 : decode cX2_clearLane 19 = .ok (.ifnull 15, 3) := by decide +kernel
theorem dX2_clearLane_22 : decode cX2_clearLane 22 = .ok (.aload_n 2, 1) := by decide +kernel
theorem dX2_clearLane_23 : decode cX2_clearLane 23 = .ok (.iconst (-1), 1) := by decide +kernel
theorem dX2_clearLane_24 : decode cX2_clearLane 24 = .ok (.putfield 133, 3) := by decide +kernel
theorem dX2_clearLane_27 : decode cX2_clearLane 27 = .ok (.aload_n 0, 1) := by decide +kernel
theorem dX2_clearLane_28 : decode cX2_clearLane 28 = .ok (.getfield 21, 3) := by decide +kernel
theorem dX2_clearLane_31 : decode cX2_clearLane 31 = .ok (.iload_n 1, 1) := by decide +kernel
theorem dX2_clearLane_32 : decode cX2_clearLane 32 = .ok (.aconst_null, 1) := by decide +kernel
theorem dX2_clearLane_33 : decode cX2_clearLane 33 = .ok (.aastore, 1) := by decide +kernel
theorem dX2_clearLane_34 : decode cX2_clearLane 34 = .ok (.return_, 1) := by decide +kernel
set_option maxRecDepth 20000 in
theorem ggX2_callDown_X2_clearLane : GoodIn wsX2_callDown wsX2_clearLane := goodIn_r _ [6, 7, 8, 9, 10, 5, 11, 12, 13, 14, 15, 16, 17, 18, 19, 20, 21, 22, 23, 24, 25, 26, 27, 28, 29, 30, 31, 32] (by decide +kernel) (by decide +kernel)
set_option maxRecDepth 20000 in
theorem gX2_callDown_X2_clearLane : GoodIn wsX2_callDown (wsV RX2 141 RX2 yX2_clearLane wsX2_clearLane) := goodIn_app (goodIn_of _ (by decide +kernel)) ggX2_callDown_X2_clearLane
theorem dX2_callDown_0 : decode cX2_callDown 0 = .ok (.aload_n 0, 1) := by decide +kernel
theorem dX2_callDown_1 : decode cX2_callDown 1 = .ok (.iload_n 1, 1) := by decide +kernel
theorem dX2_callDown_2 : decode cX2_callDown 2 = .ok (.invokevirtual 141, 3) := by decide +kernel
theorem dX2_callDown_5 : decode cX2_callDown 5 = .ok (.aload_n 0, 1) := by decide +kernel
theorem dX2_callDown_6 : decode cX2_callDown 6 = .ok (.dup, 1) := by decide +kernel
theorem dX2_callDown_7 : decode cX2_callDown 7 = .ok (.getfield 149, 3) := by decide +kernel
theorem dX2_callDown_10 : decode cX2_callDown 10 = .ok (.iconst 1, 1) := by decide +kernel
theorem dX2_callDown_11 : decode cX2_callDown 11 = .ok (.iadd, 1) := by decide +kernel
theorem dX2_callDown_12 : decode cX2_callDown 12 = .ok (.putfield 149, 3) := by decide +kernel
theorem dX2_callDown_15 : decode cX2_callDown 15 = .ok (.return_, 1) := by decide +kernel
set_option maxRecDepth 20000 in
theorem ggX2_callDownUnheld_X1_holdsIn : GoodIn wsX2_callDownUnheld wsX1_holdsIn := goodIn_r _ [8, 9, 10, 11, 7, 12, 13, 14, 15, 16, 17, 18, 19, 20, 21, 22, 47, 48, 49, 50, 51, 52, 53, 54, 55] (by decide +kernel) (by decide +kernel)
set_option maxRecDepth 20000 in
theorem gX2_callDownUnheld_X1_holdsIn : GoodIn wsX2_callDownUnheld (wsV RX2 187 RX1 yX1_holdsIn wsX1_holdsIn) := goodIn_app (goodIn_of _ (by decide +kernel)) ggX2_callDownUnheld_X1_holdsIn
set_option maxRecDepth 20000 in
theorem ggX2_callDownUnheld_X1_pullIn : GoodIn wsX2_callDownUnheld wsX1_pullIn := goodIn_r _ [12, 13, 14, 15, 16, 7, 17, 18, 19, 47, 48, 49, 50, 51, 52, 53, 54, 55] (by decide +kernel) (by decide +kernel)
set_option maxRecDepth 20000 in
theorem gX2_callDownUnheld_X1_pullIn : GoodIn wsX2_callDownUnheld (wsV RX2 172 RX1 yX1_pullIn wsX1_pullIn) := goodIn_app (goodIn_of _ (by decide +kernel)) ggX2_callDownUnheld_X1_pullIn
set_option maxRecDepth 20000 in
theorem ggX2_callDownUnheld_X2_callDown : GoodIn wsX2_callDownUnheld wsX2_callDown := goodIn_r _ [27, 28, 29, 30, 31, 21, 32, 1, 33, 34, 35, 36, 37, 20, 22, 38, 39, 40, 41, 42, 43, 44, 45, 46, 47, 48, 49, 50, 51, 52, 53, 54, 55] (by decide +kernel) (by decide +kernel)
set_option maxRecDepth 20000 in
theorem gX2_callDownUnheld_X2_callDown : GoodIn wsX2_callDownUnheld (wsV RX2 203 RX2 yX2_callDown wsX2_callDown) := goodIn_app (goodIn_of _ (by decide +kernel)) ggX2_callDownUnheld_X2_callDown
theorem dX2_callDownUnheld_0 : decode cX2_callDownUnheld 0 = .ok (.iconst 0, 1) := by decide +kernel
theorem dX2_callDownUnheld_1 : decode cX2_callDownUnheld 1 = .ok (.istore_n 1, 1) := by decide +kernel
theorem dX2_callDownUnheld_2 : decode cX2_callDownUnheld 2 = .ok (.iload_n 1, 1) := by decide +kernel
theorem dX2_callDownUnheld_3 : decode cX2_callDownUnheld 3 = .ok (.bipush 10, 2) := by decide +kernel
theorem dX2_callDownUnheld_5 : decode cX2_callDownUnheld 5 = .ok (.if_icmp .ge 59, 3) := by decide +kernel
theorem dX2_callDownUnheld_8 : decode cX2_callDownUnheld 8 = .ok (.aload_n 0, 1) := by decide +kernel
theorem dX2_callDownUnheld_9 : decode cX2_callDownUnheld 9 = .ok (.getfield 21, 3) := by decide +kernel
theorem dX2_callDownUnheld_12 : decode cX2_callDownUnheld 12 = .ok (.iload_n 1, 1) := by decide +kernel
theorem dX2_callDownUnheld_13 : decode cX2_callDownUnheld 13 = .ok (.aaload, 1) := by decide +kernel
theorem dX2_callDownUnheld_14 : decode cX2_callDownUnheld 14 = .ok (.astore_n 2, 1) := by decide +kernel
theorem dX2_callDownUnheld_15 : decode cX2_callDownUnheld 15 = .ok (.aload_n 2, 1) := by decide +kernel
theorem dX2_callDownUnheld_16 : decode cX2_callDownUnheld 16 = .ok (.ifnull 42, 3) := by decide +kernel
theorem dX2_callDownUnheld_19 : decode cX2_callDownUnheld 19 = .ok (.aload_n 2, 1) := by decide +kernel
theorem dX2_callDownUnheld_20 : decode cX2_callDownUnheld 20 = .ok (.aload_n 0, 1) := by decide +kernel
theorem dX2_callDownUnheld_21 : decode cX2_callDownUnheld 21 = .ok (.getfield 112, 3) := by decide +kernel
theorem dX2_callDownUnheld_24 : decode cX2_callDownUnheld 24 = .ok (.invokevirtual 187, 3) := by decide +kernel
theorem dX2_callDownUnheld_27 : decode cX2_callDownUnheld 27 = .ok (.ifCond .ne 31, 3) := by decide +kernel
theorem dX2_callDownUnheld_30 : decode cX2_callDownUnheld 30 = .ok (.aload_n 2, 1) := by decide +kernel
theorem dX2_callDownUnheld_31 : decode cX2_callDownUnheld 31 = .ok (.aload_n 2, 1) := by decide +kernel
theorem dX2_callDownUnheld_32 : decode cX2_callDownUnheld 32 = .ok (.aload_n 0, 1) := by decide +kernel
theorem dX2_callDownUnheld_33 : decode cX2_callDownUnheld 33 = .ok (.getfield 112, 3) := by decide +kernel
theorem dX2_callDownUnheld_36 : decode cX2_callDownUnheld 36 = .ok (.invokevirtual 172, 3) := by decide +kernel
theorem dX2_callDownUnheld_39 : decode cX2_callDownUnheld 39 = .ok (.sipush 6000, 3) := by decide +kernel
theorem dX2_callDownUnheld_42 : decode cX2_callDownUnheld 42 = .ok (.if_icmp .le 7, 3) := by decide +kernel
theorem dX2_callDownUnheld_45 : decode cX2_callDownUnheld 45 = .ok (.iconst 1, 1) := by decide +kernel
theorem dX2_callDownUnheld_46 : decode cX2_callDownUnheld 46 = .ok (.goto 4, 3) := by decide +kernel
theorem dX2_callDownUnheld_49 : decode cX2_callDownUnheld 49 = .ok (.iconst 0, 1) := by decide +kernel
theorem dX2_callDownUnheld_50 : decode cX2_callDownUnheld 50 = .ok (.putfield 51, 3) := by decide +kernel
theorem dX2_callDownUnheld_53 : decode cX2_callDownUnheld 53 = .ok (.aload_n 0, 1) := by decide +kernel
theorem dX2_callDownUnheld_54 : decode cX2_callDownUnheld 54 = .ok (.iload_n 1, 1) := by decide +kernel
theorem dX2_callDownUnheld_55 : decode cX2_callDownUnheld 55 = .ok (.invokevirtual 203, 3) := by decide +kernel
theorem dX2_callDownUnheld_58 : decode cX2_callDownUnheld 58 = .ok (.iinc 1 1, 3) := by decide +kernel
theorem dX2_callDownUnheld_61 : decode cX2_callDownUnheld 61 = .ok (.goto (-59), 3) := by decide +kernel
theorem dX2_callDownUnheld_64 : decode cX2_callDownUnheld 64 = .ok (.return_, 1) := by decide +kernel
set_option maxRecDepth 20000 in
theorem ggX2_callDownCrossing_X2_weakerLaneOfFirstCrossing : GoodIn wsX2_callDownCrossing wsX2_weakerLaneOfFirstCrossing := goodIn_r _ [5, 6, 7, 8, 9, 10, 11, 12, 13, 14, 15, 16, 17, 18, 19, 20, 21, 22, 23, 24, 25, 26, 27, 28, 29, 30, 31, 48, 49, 50, 51, 52, 53, 54, 55, 56, 57, 58, 59, 60, 61, 62, 63, 64, 65] (by decide +kernel) (by decide +kernel)
set_option maxRecDepth 20000 in
theorem gX2_callDownCrossing_X2_weakerLaneOfFirstCrossing : GoodIn wsX2_callDownCrossing (wsV RX2 206 RX2 yX2_weakerLaneOfFirstCrossing wsX2_weakerLaneOfFirstCrossing) := goodIn_app (goodIn_of _ (by decide +kernel)) ggX2_callDownCrossing_X2_weakerLaneOfFirstCrossing
set_option maxRecDepth 20000 in
theorem ggX2_callDownCrossing_X2_callDown : GoodIn wsX2_callDownCrossing wsX2_callDown := goodIn_r _ [35, 36, 37, 38, 39, 4, 40, 6, 41, 42, 43, 44, 45, 46, 47, 48, 49, 50, 51, 52, 53, 54, 55, 56, 57, 58, 59, 60, 61, 62, 63, 64, 65] (by decide +kernel) (by decide +kernel)
set_option maxRecDepth 20000 in
theorem gX2_callDownCrossing_X2_callDown : GoodIn wsX2_callDownCrossing (wsV RX2 203 RX2 yX2_callDown wsX2_callDown) := goodIn_app (goodIn_of _ (by decide +kernel)) ggX2_callDownCrossing_X2_callDown
theorem dX2_callDownCrossing_0 : decode cX2_callDownCrossing 0 = .ok (.iconst 0, 1) := by decide +kernel
theorem dX2_callDownCrossing_1 : decode cX2_callDownCrossing 1 = .ok (.istore_n 1, 1) := by decide +kernel
theorem dX2_callDownCrossing_2 : decode cX2_callDownCrossing 2 = .ok (.iload_n 1, 1) := by decide +kernel
theorem dX2_callDownCrossing_3 : decode cX2_callDownCrossing 3 = .ok (.bipush 10, 2) := by decide +kernel
theorem dX2_callDownCrossing_5 : decode cX2_callDownCrossing 5 = .ok (.if_icmp .ge 25, 3) := by decide +kernel
theorem dX2_callDownCrossing_8 : decode cX2_callDownCrossing 8 = .ok (.aload_n 0, 1) := by decide +kernel
theorem dX2_callDownCrossing_9 : decode cX2_callDownCrossing 9 = .ok (.invokevirtual 206, 3) := by decide +kernel
theorem dX2_callDownCrossing_12 : decode cX2_callDownCrossing 12 = .ok (.istore_n 2, 1) := by decide +kernel
theorem dX2_callDownCrossing_13 : decode cX2_callDownCrossing 13 = .ok (.iload_n 2, 1) := by decide +kernel
theorem dX2_callDownCrossing_14 : decode cX2_callDownCrossing 14 = .ok (.iconst (-1), 1) := by decide +kernel
theorem dX2_callDownCrossing_15 : decode cX2_callDownCrossing 15 = .ok (.if_icmp .ne 4, 3) := by decide +kernel
theorem dX2_callDownCrossing_18 : decode cX2_callDownCrossing 18 = .ok (.return_, 1) := by decide +kernel
theorem dX2_callDownCrossing_19 : decode cX2_callDownCrossing 19 = .ok (.aload_n 0, 1) := by decide +kernel
theorem dX2_callDownCrossing_20 : decode cX2_callDownCrossing 20 = .ok (.iload_n 2, 1) := by decide +kernel
theorem dX2_callDownCrossing_21 : decode cX2_callDownCrossing 21 = .ok (.invokevirtual 203, 3) := by decide +kernel
theorem dX2_callDownCrossing_24 : decode cX2_callDownCrossing 24 = .ok (.iinc 1 1, 3) := by decide +kernel
theorem dX2_callDownCrossing_27 : decode cX2_callDownCrossing 27 = .ok (.goto (-25), 3) := by decide +kernel
theorem dX2_callDownCrossing_30 : decode cX2_callDownCrossing 30 = .ok (.return_, 1) := by decide +kernel
set_option maxRecDepth 20000 in
theorem ggX2_weakerLaneOfFirstCrossing_X1_endIn : GoodIn wsX2_weakerLaneOfFirstCrossing wsX1_endIn := goodIn_r _ [8, 9, 10, 11, 12, 13, 7, 14, 15, 16, 17, 18, 19, 20, 21, 22, 23, 24, 25, 36, 37, 38, 39, 40, 41, 42, 43, 44] (by decide +kernel) (by decide +kernel)
set_option maxRecDepth 20000 in
theorem gX2_weakerLaneOfFirstCrossing_X1_endIn : GoodIn wsX2_weakerLaneOfFirstCrossing (wsV RX2 193 RX1 yX1_endIn wsX1_endIn) := goodIn_app (goodIn_of _ (by decide +kernel)) ggX2_weakerLaneOfFirstCrossing_X1_endIn
set_option maxRecDepth 20000 in
theorem ggX2_weakerLaneOfFirstCrossing_X1_pullIn : GoodIn wsX2_weakerLaneOfFirstCrossing wsX1_pullIn := goodIn_r _ [18, 19, 20, 21, 22, 7, 23, 24, 25, 36, 37, 38, 39, 40, 41, 42, 43, 44] (by decide +kernel) (by decide +kernel)
set_option maxRecDepth 20000 in
theorem gX2_weakerLaneOfFirstCrossing_X1_pullIn : GoodIn wsX2_weakerLaneOfFirstCrossing (wsV RX2 172 RX1 yX1_pullIn wsX1_pullIn) := goodIn_app (goodIn_of _ (by decide +kernel)) ggX2_weakerLaneOfFirstCrossing_X1_pullIn
theorem dX2_weakerLaneOfFirstCrossing_0 : decode cX2_weakerLaneOfFirstCrossing 0 = .ok (.iconst 0, 1) := by decide +kernel
theorem dX2_weakerLaneOfFirstCrossing_1 : decode cX2_weakerLaneOfFirstCrossing 1 = .ok (.istore_n 1, 1) := by decide +kernel
theorem dX2_weakerLaneOfFirstCrossing_2 : decode cX2_weakerLaneOfFirstCrossing 2 = .ok (.iload_n 1, 1) := by decide +kernel
theorem dX2_weakerLaneOfFirstCrossing_3 : decode cX2_weakerLaneOfFirstCrossing 3 = .ok (.bipush 10, 2) := by decide +kernel
theorem dX2_weakerLaneOfFirstCrossing_5 : decode cX2_weakerLaneOfFirstCrossing 5 = .ok (.if_icmp .ge 103, 3) := by decide +kernel
theorem dX2_weakerLaneOfFirstCrossing_8 : decode cX2_weakerLaneOfFirstCrossing 8 = .ok (.iload_n 1, 1) := by decide +kernel
theorem dX2_weakerLaneOfFirstCrossing_9 : decode cX2_weakerLaneOfFirstCrossing 9 = .ok (.iconst 1, 1) := by decide +kernel
theorem dX2_weakerLaneOfFirstCrossing_10 : decode cX2_weakerLaneOfFirstCrossing 10 = .ok (.iadd, 1) := by decide +kernel
theorem dX2_weakerLaneOfFirstCrossing_11 : decode cX2_weakerLaneOfFirstCrossing 11 = .ok (.istore_n 2, 1) := by decide +kernel
theorem dX2_weakerLaneOfFirstCrossing_12 : decode cX2_weakerLaneOfFirstCrossing 12 = .ok (.iload_n 2, 1) := by decide +kernel
theorem dX2_weakerLaneOfFirstCrossing_13 : decode cX2_weakerLaneOfFirstCrossing 13 = .ok (.bipush 10, 2) := by decide +kernel
theorem dX2_weakerLaneOfFirstCrossing_15 : decode cX2_weakerLaneOfFirstCrossing 15 = .ok (.if_icmp .ge 87, 3) := by decide +kernel
theorem dX2_weakerLaneOfFirstCrossing_18 : decode cX2_weakerLaneOfFirstCrossing 18 = .ok (.aload_n 0, 1) := by decide +kernel
theorem dX2_weakerLaneOfFirstCrossing_19 : decode cX2_weakerLaneOfFirstCrossing 19 = .ok (.getfield 21, 3) := by decide +kernel
theorem dX2_weakerLaneOfFirstCrossing_22 : decode cX2_weakerLaneOfFirstCrossing 22 = .ok (.iload_n 1, 1) := by decide +kernel
theorem dX2_weakerLaneOfFirstCrossing_23 : decode cX2_weakerLaneOfFirstCrossing 23 = .ok (.aaload, 1) := by decide +kernel
theorem dX2_weakerLaneOfFirstCrossing_24 : decode cX2_weakerLaneOfFirstCrossing 24 = .ok (.astore_n 3, 1) := by decide +kernel
theorem dX2_weakerLaneOfFirstCrossing_25 : decode cX2_weakerLaneOfFirstCrossing 25 = .ok (.aload_n 0, 1) := by decide +kernel
theorem dX2_weakerLaneOfFirstCrossing_26 : decode cX2_weakerLaneOfFirstCrossing 26 = .ok (.getfield 21, 3) := by decide +kernel
theorem dX2_weakerLaneOfFirstCrossing_29 : decode cX2_weakerLaneOfFirstCrossing 29 = .ok (.iload_n 2, 1) := by decide +kernel
theorem dX2_weakerLaneOfFirstCrossing_30 : decode cX2_weakerLaneOfFirstCrossing 30 = .ok (.aaload, 1) := by decide +kernel
theorem dX2_weakerLaneOfFirstCrossing_31 : decode cX2_weakerLaneOfFirstCrossing 31 = .ok (.astore 4, 2) := by decide +kernel
theorem dX2_weakerLaneOfFirstCrossing_33 : decode cX2_weakerLaneOfFirstCrossing 33 = .ok (.aload_n 3, 1) := by decide +kernel
theorem dX2_weakerLaneOfFirstCrossing_34 : decode cX2_weakerLaneOfFirstCrossing 34 = .ok (.ifnull 62, 3) := by decide +kernel
theorem dX2_weakerLaneOfFirstCrossing_37 : decode cX2_weakerLaneOfFirstCrossing 37 = .ok (.aload 4, 2) := by decide +kernel
theorem dX2_weakerLaneOfFirstCrossing_39 : decode cX2_weakerLaneOfFirstCrossing 39 = .ok (.ifnull 57, 3) := by decide +kernel
theorem dX2_weakerLaneOfFirstCrossing_42 : decode cX2_weakerLaneOfFirstCrossing 42 = .ok (.aload_n 3, 1) := by decide +kernel
theorem dX2_weakerLaneOfFirstCrossing_43 : decode cX2_weakerLaneOfFirstCrossing 43 = .ok (.aload_n 0, 1) := by decide +kernel
theorem dX2_weakerLaneOfFirstCrossing_44 : decode cX2_weakerLaneOfFirstCrossing 44 = .ok (.getfield 112, 3) := by decide +kernel
theorem dX2_weakerLaneOfFirstCrossing_47 : decode cX2_weakerLaneOfFirstCrossing 47 = .ok (.aload_n 0, 1) := by decide +kernel
theorem dX2_weakerLaneOfFirstCrossing_48 : decode cX2_weakerLaneOfFirstCrossing 48 = .ok (.getfield 120, 3) := by decide +kernel
theorem dX2_weakerLaneOfFirstCrossing_51 : decode cX2_weakerLaneOfFirstCrossing 51 = .ok (.invokevirtual 193, 3) := by decide +kernel
theorem dX2_weakerLaneOfFirstCrossing_54 : decode cX2_weakerLaneOfFirstCrossing 54 = .ok (.aload 4, 2) := by decide +kernel
theorem dX2_weakerLaneOfFirstCrossing_56 : decode cX2_weakerLaneOfFirstCrossing 56 = .ok (.aload_n 0, 1) := by decide +kernel
theorem dX2_weakerLaneOfFirstCrossing_57 : decode cX2_weakerLaneOfFirstCrossing 57 = .ok (.getfield 112, 3) := by decide +kernel
theorem dX2_weakerLaneOfFirstCrossing_60 : decode cX2_weakerLaneOfFirstCrossing 60 = .ok (.aload_n 0, 1) := by decide +kernel
theorem dX2_weakerLaneOfFirstCrossing_61 : decode cX2_weakerLaneOfFirstCrossing 61 = .ok (.getfield 120, 3) := by decide +kernel
theorem dX2_weakerLaneOfFirstCrossing_64 : decode cX2_weakerLaneOfFirstCrossing 64 = .ok (.invokevirtual 193, 3) := by decide +kernel
theorem dX2_weakerLaneOfFirstCrossing_67 : decode cX2_weakerLaneOfFirstCrossing 67 = .ok (.if_icmp .lt 29, 3) := by decide +kernel
theorem dX2_weakerLaneOfFirstCrossing_70 : decode cX2_weakerLaneOfFirstCrossing 70 = .ok (.aload_n 3, 1) := by decide +kernel
theorem dX2_weakerLaneOfFirstCrossing_71 : decode cX2_weakerLaneOfFirstCrossing 71 = .ok (.aload_n 0, 1) := by decide +kernel
theorem dX2_weakerLaneOfFirstCrossing_72 : decode cX2_weakerLaneOfFirstCrossing 72 = .ok (.getfield 112, 3) := by decide +kernel
theorem dX2_weakerLaneOfFirstCrossing_75 : decode cX2_weakerLaneOfFirstCrossing 75 = .ok (.invokevirtual 172, 3) := by decide +kernel
theorem dX2_weakerLaneOfFirstCrossing_78 : decode cX2_weakerLaneOfFirstCrossing 78 = .ok (.aload 4, 2) := by decide +kernel
theorem dX2_weakerLaneOfFirstCrossing_80 : decode cX2_weakerLaneOfFirstCrossing 80 = .ok (.aload_n 0, 1) := by decide +kernel
theorem dX2_weakerLaneOfFirstCrossing_81 : decode cX2_weakerLaneOfFirstCrossing 81 = .ok (.getfield 112, 3) := by decide +kernel
theorem dX2_weakerLaneOfFirstCrossing_84 : decode cX2_weakerLaneOfFirstCrossing 84 = .ok (.invokevirtual 172, 3) := by decide +kernel
theorem dX2_weakerLaneOfFirstCrossing_87 : decode cX2_weakerLaneOfFirstCrossing 87 = .ok (.if_icmp .ge 7, 3) := by decide +kernel
theorem dX2_weakerLaneOfFirstCrossing_90 : decode cX2_weakerLaneOfFirstCrossing 90 = .ok (.iload_n 1, 1) := by decide +kernel
theorem dX2_weakerLaneOfFirstCrossing_91 : decode cX2_weakerLaneOfFirstCrossing 91 = .ok (.goto 4, 3) := by decide +kernel
theorem dX2_weakerLaneOfFirstCrossing_94 : decode cX2_weakerLaneOfFirstCrossing 94 = .ok (.iload_n 2, 1) := by decide +kernel
theorem dX2_weakerLaneOfFirstCrossing_95 : decode cX2_weakerLaneOfFirstCrossing 95 = .ok (.ireturn, 1) := by decide +kernel
theorem dX2_weakerLaneOfFirstCrossing_96 : decode cX2_weakerLaneOfFirstCrossing 96 = .ok (.iinc 2 1, 3) := by decide +kernel
theorem dX2_weakerLaneOfFirstCrossing_99 : decode cX2_weakerLaneOfFirstCrossing 99 = .ok (.goto (-87), 3) := by decide +kernel
theorem dX2_weakerLaneOfFirstCrossing_102 : decode cX2_weakerLaneOfFirstCrossing 102 = .ok (.iinc 1 1, 3) := by decide +kernel
theorem dX2_weakerLaneOfFirstCrossing_105 : decode cX2_weakerLaneOfFirstCrossing 105 = .ok (.goto (-103), 3) := by decide +kernel
theorem dX2_weakerLaneOfFirstCrossing_108 : decode cX2_weakerLaneOfFirstCrossing 108 = .ok (.iconst (-1), 1) := by decide +kernel
theorem dX2_weakerLaneOfFirstCrossing_109 : decode cX2_weakerLaneOfFirstCrossing 109 = .ok (.ireturn, 1) := by decide +kernel
set_option maxRecDepth 20000 in
theorem ggX2_spendHour_X1_spendHour : GoodIn wsX2_spendHour wsX1_spendHour := goodIn_r _ [7, 8, 9, 10, 11, 6, 12, 13, 23, 24, 25, 26, 27, 28, 29, 30, 31] (by decide +kernel) (by decide +kernel)
set_option maxRecDepth 20000 in
theorem gX2_spendHour_X1_spendHour : GoodIn wsX2_spendHour (wsV RX2 209 RX1 yX1_spendHour wsX1_spendHour) := goodIn_app (goodIn_of _ (by decide +kernel)) ggX2_spendHour_X1_spendHour
theorem dX2_spendHour_0 : decode cX2_spendHour 0 = .ok (.aload_n 0, 1) := by decide +kernel
theorem dX2_spendHour_1 : decode cX2_spendHour 1 = .ok (.getfield 11, 3) := by decide +kernel
theorem dX2_spendHour_4 : decode cX2_spendHour 4 = .ok (.astore_n 1, 1) := by decide +kernel
theorem dX2_spendHour_5 : decode cX2_spendHour 5 = .ok (.aload_n 1, 1) := by decide +kernel
theorem dX2_spendHour_6 : decode cX2_spendHour 6 = .ok (.arraylength, 1) := by decide +kernel
theorem dX2_spendHour_7 : decode cX2_spendHour 7 = .ok (.istore_n 2, 1) := by decide +kernel
theorem dX2_spendHour_8 : decode cX2_spendHour 8 = .ok (.iconst 0, 1) := by decide +kernel
theorem dX2_spendHour_9 : decode cX2_spendHour 9 = .ok (.istore_n 3, 1) := by decide +kernel
theorem dX2_spendHour_10 : decode cX2_spendHour 10 = .ok (.iload_n 3, 1) := by decide +kernel
theorem dX2_spendHour_11 : decode cX2_spendHour 11 = .ok (.iload_n 2, 1) := by decide +kernel
theorem dX2_spendHour_12 : decode cX2_spendHour 12 = .ok (.if_icmp .ge 28, 3) := by decide +kernel
theorem dX2_spendHour_15 : decode cX2_spendHour 15 = .ok (.aload_n 1, 1) := by decide +kernel
theorem dX2_spendHour_16 : decode cX2_spendHour 16 = .ok (.iload_n 3, 1) := by decide +kernel
theorem dX2_spendHour_17 : decode cX2_spendHour 17 = .ok (.aaload, 1) := by decide +kernel
theorem dX2_spendHour_18 : decode cX2_spendHour 18 = .ok (.astore 4, 2) := by decide +kernel
theorem dX2_spendHour_20 : decode cX2_spendHour 20 = .ok (.aload 4, 2) := by decide +kernel
theorem dX2_spendHour_22 : decode cX2_spendHour 22 = .ok (.ifnull 12, 3) := by decide +kernel
theorem dX2_spendHour_25 : decode cX2_spendHour 25 = .ok (.aload 4, 2) := by decide +kernel
theorem dX2_spendHour_27 : decode cX2_spendHour 27 = .ok (.aload_n 0, 1) := by decide +kernel
theorem dX2_spendHour_28 : decode cX2_spendHour 28 = .ok (.getfield 158, 3) := by decide +kernel
theorem dX2_spendHour_31 : decode cX2_spendHour 31 = .ok (.invokevirtual 209, 3) := by decide +kernel
theorem dX2_spendHour_34 : decode cX2_spendHour 34 = .ok (.iinc 3 1, 3) := by decide +kernel
theorem dX2_spendHour_37 : decode cX2_spendHour 37 = .ok (.goto (-27), 3) := by decide +kernel
theorem dX2_spendHour_40 : decode cX2_spendHour 40 = .ok (.return_, 1) := by decide +kernel
theorem dX2_countWet_0 : decode cX2_countWet 0 = .ok (.iconst 0, 1) := by decide +kernel
theorem dX2_countWet_1 : decode cX2_countWet 1 = .ok (.istore_n 1, 1) := by decide +kernel
theorem dX2_countWet_2 : decode cX2_countWet 2 = .ok (.aload_n 0, 1) := by decide +kernel
theorem dX2_countWet_3 : decode cX2_countWet 3 = .ok (.getfield 11, 3) := by decide +kernel
theorem dX2_countWet_6 : decode cX2_countWet 6 = .ok (.astore_n 2, 1) := by decide +kernel
theorem dX2_countWet_7 : decode cX2_countWet 7 = .ok (.aload_n 2, 1) := by decide +kernel
theorem dX2_countWet_8 : decode cX2_countWet 8 = .ok (.arraylength, 1) := by decide +kernel
theorem dX2_countWet_9 : decode cX2_countWet 9 = .ok (.istore_n 3, 1) := by decide +kernel
theorem dX2_countWet_10 : decode cX2_countWet 10 = .ok (.iconst 0, 1) := by decide +kernel
theorem dX2_countWet_11 : decode cX2_countWet 11 = .ok (.istore 4, 2) := by decide +kernel
theorem dX2_countWet_13 : decode cX2_countWet 13 = .ok (.iload 4, 2) := by decide +kernel
theorem dX2_countWet_15 : decode cX2_countWet 15 = .ok (.iload_n 3, 1) := by decide +kernel
theorem dX2_countWet_16 : decode cX2_countWet 16 = .ok (.if_icmp .ge 31, 3) := by decide +kernel
theorem dX2_countWet_19 : decode cX2_countWet 19 = .ok (.aload_n 2, 1) := by decide +kernel
theorem dX2_countWet_20 : decode cX2_countWet 20 = .ok (.iload 4, 2) := by decide +kernel
theorem dX2_countWet_22 : decode cX2_countWet 22 = .ok (.aaload, 1) := by decide +kernel
theorem dX2_countWet_23 : decode cX2_countWet 23 = .ok (.astore 5, 2) := by decide +kernel
theorem dX2_countWet_25 : decode cX2_countWet 25 = .ok (.aload 5, 2) := by decide +kernel
theorem dX2_countWet_27 : decode cX2_countWet 27 = .ok (.ifnull 14, 3) := by decide +kernel
theorem dX2_countWet_30 : decode cX2_countWet 30 = .ok (.aload 5, 2) := by decide +kernel
theorem dX2_countWet_32 : decode cX2_countWet 32 = .ok (.getfield 190, 3) := by decide +kernel
theorem dX2_countWet_35 : decode cX2_countWet 35 = .ok (.ifCond .le 6, 3) := by decide +kernel
theorem dX2_countWet_38 : decode cX2_countWet 38 = .ok (.iinc 1 1, 3) := by decide +kernel
theorem dX2_countWet_41 : decode cX2_countWet 41 = .ok (.iinc 4 1, 3) := by decide +kernel
theorem dX2_countWet_44 : decode cX2_countWet 44 = .ok (.goto (-31), 3) := by decide +kernel
theorem dX2_countWet_47 : decode cX2_countWet 47 = .ok (.iload_n 1, 1) := by decide +kernel
theorem dX2_countWet_48 : decode cX2_countWet 48 = .ok (.ireturn, 1) := by decide +kernel

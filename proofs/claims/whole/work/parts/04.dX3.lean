theorem dX3_init_0 : decode cX3_init 0 = .ok (.aload_n 0, 1) := by decide +kernel
theorem dX3_init_1 : decode cX3_init 1 = .ok (.invokespecial 1, 3) := by decide +kernel
theorem dX3_init_4 : decode cX3_init 4 = .ok (.aload_n 0, 1) := by decide +kernel
theorem dX3_init_5 : decode cX3_init 5 = .ok (.bipush 8, 2) := by decide +kernel
theorem dX3_init_7 : decode cX3_init 7 = .ok (.newarray .int, 2) := by decide +kernel
theorem dX3_init_9 : decode cX3_init 9 = .ok (.putfield 7, 3) := by decide +kernel
theorem dX3_init_12 : decode cX3_init 12 = .ok (.aload_n 0, 1) := by decide +kernel
theorem dX3_init_13 : decode cX3_init 13 = .ok (.bipush 8, 2) := by decide +kernel
theorem dX3_init_15 : decode cX3_init 15 = .ok (.newarray .int, 2) := by decide +kernel
theorem dX3_init_17 : decode cX3_init 17 = .ok (.putfield 13, 3) := by decide +kernel
theorem dX3_init_20 : decode cX3_init 20 = .ok (.aload_n 0, 1) := by decide +kernel
theorem dX3_init_21 : decode cX3_init 21 = .ok (.bipush 8, 2) := by decide +kernel
theorem dX3_init_23 : decode cX3_init 23 = .ok (.newarray .int, 2) := by decide +kernel
theorem dX3_init_25 : decode cX3_init 25 = .ok (.putfield 16, 3) := by decide +kernel
theorem dX3_init_28 : decode cX3_init 28 = .ok (.aload_n 0, 1) := by decide +kernel
theorem dX3_init_29 : decode cX3_init 29 = .ok (.bipush 8, 2) := by decide +kernel
theorem dX3_init_31 : decode cX3_init 31 = .ok (.newarray .boolean, 2) := by decide +kernel
theorem dX3_init_33 : decode cX3_init 33 = .ok (.putfield 19, 3) := by decide +kernel
theorem dX3_init_36 : decode cX3_init 36 = .ok (.aload_n 0, 1) := by decide +kernel
theorem dX3_init_37 : decode cX3_init 37 = .ok (.bipush 8, 2) := by decide +kernel
theorem dX3_init_39 : decode cX3_init 39 = .ok (.newarray .int, 2) := by decide +kernel
theorem dX3_init_41 : decode cX3_init 41 = .ok (.putfield 23, 3) := by decide +kernel
theorem dX3_init_44 : decode cX3_init 44 = .ok (.aload_n 0, 1) := by decide +kernel
theorem dX3_init_45 : decode cX3_init 45 = .ok (.bipush 8, 2) := by decide +kernel
theorem dX3_init_47 : decode cX3_init 47 = .ok (.newarray .int, 2) := by decide +kernel
theorem dX3_init_49 : decode cX3_init 49 = .ok (.putfield 26, 3) := by decide +kernel
theorem dX3_init_52 : decode cX3_init 52 = .ok (.aload_n 0, 1) := by decide +kernel
theorem dX3_init_53 : decode cX3_init 53 = .ok (.bipush 8, 2) := by decide +kernel
theorem dX3_init_55 : decode cX3_init 55 = .ok (.newarray .int, 2) := by decide +kernel
theorem dX3_init_57 : decode cX3_init 57 = .ok (.putfield 29, 3) := by decide +kernel
theorem dX3_init_60 : decode cX3_init 60 = .ok (.aload_n 0, 1) := by decide +kernel
theorem dX3_init_61 : decode cX3_init 61 = .ok (.bipush 8, 2) := by decide +kernel
theorem dX3_init_63 : decode cX3_init 63 = .ok (.newarray .int, 2) := by decide +kernel
theorem dX3_init_65 : decode cX3_init 65 = .ok (.putfield 32, 3) := by decide +kernel
theorem dX3_init_68 : decode cX3_init 68 = .ok (.aload_n 0, 1) := by decide +kernel
theorem dX3_init_69 : decode cX3_init 69 = .ok (.bipush 8, 2) := by decide +kernel
theorem dX3_init_71 : decode cX3_init 71 = .ok (.newarray .int, 2) := by decide +kernel
theorem dX3_init_73 : decode cX3_init 73 = .ok (.putfield 35, 3) := by decide +kernel
theorem dX3_init_76 : decode cX3_init 76 = .ok (.return_, 1) := by decide +kernel
theorem dX3_thrown_0 : decode cX3_thrown 0 = .ok (.aload_n 0, 1) := by decide +kernel
theorem dX3_thrown_1 : decode cX3_thrown 1 = .ok (.getfield 38, 3) := by decide +kernel
theorem dX3_thrown_4 : decode cX3_thrown 4 = .ok (.ireturn, 1) := by decide +kernel
theorem dX3_holds_0 : decode cX3_holds 0 = .ok (.aload_n 0, 1) := by decide +kernel
theorem dX3_holds_1 : decode cX3_holds 1 = .ok (.iload_n 1, 1) := by decide +kernel
theorem dX3_holds_2 : decode cX3_holds 2 = .ok (.putfield 38, 3) := by decide +kernel
theorem dX3_holds_5 : decode cX3_holds 5 = .ok (.iload_n 1, 1) := by decide +kernel
theorem dX3_holds_6 : decode cX3_holds 6 = .ok (.ifCond .ne 7, 3) := by decide +kernel
theorem dX3_holds_9 : decode cX3_holds 9 = .ok (.iconst 1, 1) := by decide +kernel
theorem dX3_holds_10 : decode cX3_holds 10 = .ok (.goto 4, 3) := by decide +kernel
theorem dX3_holds_13 : decode cX3_holds 13 = .ok (.iconst 0, 1) := by decide +kernel
theorem dX3_holds_14 : decode cX3_holds 14 = .ok (.ireturn, 1) := by decide +kernel
theorem dX3_isIn_0 : decode cX3_isIn 0 = .ok (.iload_n 0, 1) := by decide +kernel
theorem dX3_isIn_1 : decode cX3_isIn 1 = .ok (.iload_n 1, 1) := by decide +kernel
theorem dX3_isIn_2 : decode cX3_isIn 2 = .ok (.if_icmp .lt 12, 3) := by decide +kernel
theorem dX3_isIn_5 : decode cX3_isIn 5 = .ok (.iload_n 0, 1) := by decide +kernel
theorem dX3_isIn_6 : decode cX3_isIn 6 = .ok (.iload_n 2, 1) := by decide +kernel
theorem dX3_isIn_7 : decode cX3_isIn 7 = .ok (.if_icmp .gt 7, 3) := by decide +kernel
theorem dX3_isIn_10 : decode cX3_isIn 10 = .ok (.iconst 1, 1) := by decide +kernel
theorem dX3_isIn_11 : decode cX3_isIn 11 = .ok (.goto 4, 3) := by decide +kernel
theorem dX3_isIn_14 : decode cX3_isIn 14 = .ok (.iconst 0, 1) := by decide +kernel
theorem dX3_isIn_15 : decode cX3_isIn 15 = .ok (.ireturn, 1) := by decide +kernel
set_option maxRecDepth 20000 in
theorem ggX3_isKite_X3_isIn : GoodIn wsX3_isKite wsX3_isIn := goodIn_r _ [5] (by decide +kernel) (by decide +kernel)
set_option maxRecDepth 20000 in
theorem gX3_isKite_X3_isIn : GoodIn wsX3_isKite (va_wsS RX3 45 yX3_isIn wsX3_isIn) := goodIn_app (goodIn_of _ (by decide +kernel)) ggX3_isKite_X3_isIn
theorem dX3_isKite_0 : decode cX3_isKite 0 = .ok (.iload_n 1, 1) := by decide +kernel
theorem dX3_isKite_1 : decode cX3_isKite 1 = .ok (.iconst 0, 1) := by decide +kernel
theorem dX3_isKite_2 : decode cX3_isKite 2 = .ok (.aload_n 0, 1) := by decide +kernel
theorem dX3_isKite_3 : decode cX3_isKite 3 = .ok (.getfield 42, 3) := by decide +kernel
theorem dX3_isKite_6 : decode cX3_isKite 6 = .ok (.iconst 1, 1) := by decide +kernel
theorem dX3_isKite_7 : decode cX3_isKite 7 = .ok (.isub, 1) := by decide +kernel
theorem dX3_isKite_8 : decode cX3_isKite 8 = .ok (.invokestatic 45, 3) := by decide +kernel
theorem dX3_isKite_11 : decode cX3_isKite 11 = .ok (.ireturn, 1) := by decide +kernel
set_option maxRecDepth 20000 in
theorem ggX3_isPerson_X3_isIn : GoodIn wsX3_isPerson wsX3_isIn := goodIn_r _ [5] (by decide +kernel) (by decide +kernel)
set_option maxRecDepth 20000 in
theorem gX3_isPerson_X3_isIn : GoodIn wsX3_isPerson (va_wsS RX3 45 yX3_isIn wsX3_isIn) := goodIn_app (goodIn_of _ (by decide +kernel)) ggX3_isPerson_X3_isIn
theorem dX3_isPerson_0 : decode cX3_isPerson 0 = .ok (.iload_n 1, 1) := by decide +kernel
theorem dX3_isPerson_1 : decode cX3_isPerson 1 = .ok (.iconst 0, 1) := by decide +kernel
theorem dX3_isPerson_2 : decode cX3_isPerson 2 = .ok (.aload_n 0, 1) := by decide +kernel
theorem dX3_isPerson_3 : decode cX3_isPerson 3 = .ok (.getfield 49, 3) := by decide +kernel
theorem dX3_isPerson_6 : decode cX3_isPerson 6 = .ok (.iconst 1, 1) := by decide +kernel
theorem dX3_isPerson_7 : decode cX3_isPerson 7 = .ok (.isub, 1) := by decide +kernel
theorem dX3_isPerson_8 : decode cX3_isPerson 8 = .ok (.invokestatic 45, 3) := by decide +kernel
theorem dX3_isPerson_11 : decode cX3_isPerson 11 = .ok (.ireturn, 1) := by decide +kernel
set_option maxRecDepth 20000 in
theorem ggX3_isLane_X3_isIn : GoodIn wsX3_isLane wsX3_isIn := goodIn_r _ [4] (by decide +kernel) (by decide +kernel)
set_option maxRecDepth 20000 in
theorem gX3_isLane_X3_isIn : GoodIn wsX3_isLane (va_wsS RX3 45 yX3_isIn wsX3_isIn) := goodIn_app (goodIn_of _ (by decide +kernel)) ggX3_isLane_X3_isIn
theorem dX3_isLane_0 : decode cX3_isLane 0 = .ok (.iload_n 0, 1) := by decide +kernel
theorem dX3_isLane_1 : decode cX3_isLane 1 = .ok (.iconst 0, 1) := by decide +kernel
theorem dX3_isLane_2 : decode cX3_isLane 2 = .ok (.bipush 9, 2) := by decide +kernel
theorem dX3_isLane_4 : decode cX3_isLane 4 = .ok (.invokestatic 45, 3) := by decide +kernel
theorem dX3_isLane_7 : decode cX3_isLane 7 = .ok (.ireturn, 1) := by decide +kernel
theorem dX3_pullIn_0 : decode cX3_pullIn 0 = .ok (.bipush 60, 2) := by decide +kernel
theorem dX3_pullIn_2 : decode cX3_pullIn 2 = .ok (.aload_n 0, 1) := by decide +kernel
theorem dX3_pullIn_3 : decode cX3_pullIn 3 = .ok (.getfield 13, 3) := by decide +kernel
theorem dX3_pullIn_6 : decode cX3_pullIn 6 = .ok (.iload_n 1, 1) := by decide +kernel
theorem dX3_pullIn_7 : decode cX3_pullIn 7 = .ok (.iaload, 1) := by decide +kernel
theorem dX3_pullIn_8 : decode cX3_pullIn 8 = .ok (.imul, 1) := by decide +kernel
theorem dX3_pullIn_9 : decode cX3_pullIn 9 = .ok (.iload_n 2, 1) := by decide +kernel
theorem dX3_pullIn_10 : decode cX3_pullIn 10 = .ok (.imul, 1) := by decide +kernel
theorem dX3_pullIn_11 : decode cX3_pullIn 11 = .ok (.istore_n 3, 1) := by decide +kernel
theorem dX3_pullIn_12 : decode cX3_pullIn 12 = .ok (.aload_n 0, 1) := by decide +kernel
theorem dX3_pullIn_13 : decode cX3_pullIn 13 = .ok (.getfield 7, 3) := by decide +kernel
theorem dX3_pullIn_16 : decode cX3_pullIn 16 = .ok (.iload_n 1, 1) := by decide +kernel
theorem dX3_pullIn_17 : decode cX3_pullIn 17 = .ok (.iaload, 1) := by decide +kernel
theorem dX3_pullIn_18 : decode cX3_pullIn 18 = .ok (.ifCond .ne 16, 3) := by decide +kernel
theorem dX3_pullIn_21 : decode cX3_pullIn 21 = .ok (.iconst 5, 1) := by decide +kernel
theorem dX3_pullIn_22 : decode cX3_pullIn 22 = .ok (.aload_n 0, 1) := by decide +kernel
theorem dX3_pullIn_23 : decode cX3_pullIn 23 = .ok (.getfield 13, 3) := by decide +kernel
theorem dX3_pullIn_26 : decode cX3_pullIn 26 = .ok (.iload_n 1, 1) := by decide +kernel
theorem dX3_pullIn_27 : decode cX3_pullIn 27 = .ok (.iaload, 1) := by decide +kernel
theorem dX3_pullIn_28 : decode cX3_pullIn 28 = .ok (.imul, 1) := by decide +kernel
theorem dX3_pullIn_29 : decode cX3_pullIn 29 = .ok (.iload_n 2, 1) := by decide +kernel
theorem dX3_pullIn_30 : decode cX3_pullIn 30 = .ok (.imul, 1) := by decide +kernel
theorem dX3_pullIn_31 : decode cX3_pullIn 31 = .ok (.iload_n 2, 1) := by decide +kernel
theorem dX3_pullIn_32 : decode cX3_pullIn 32 = .ok (.imul, 1) := by decide +kernel
theorem dX3_pullIn_33 : decode cX3_pullIn 33 = .ok (.istore_n 3, 1) := by decide +kernel
theorem dX3_pullIn_34 : decode cX3_pullIn 34 = .ok (.aload_n 0, 1) := by decide +kernel
theorem dX3_pullIn_35 : decode cX3_pullIn 35 = .ok (.getfield 7, 3) := by decide +kernel
theorem dX3_pullIn_38 : decode cX3_pullIn 38 = .ok (.iload_n 1, 1) := by decide +kernel
theorem dX3_pullIn_39 : decode cX3_pullIn 39 = .ok (.iaload, 1) := by decide +kernel
theorem dX3_pullIn_40 : decode cX3_pullIn 40 = .ok (.iconst 2, 1) := by decide +kernel
theorem dX3_pullIn_41 : decode cX3_pullIn 41 = .ok (.if_icmp .ne 26, 3) := by decide +kernel
theorem dX3_pullIn_44 : decode cX3_pullIn 44 = .ok (.bipush 80, 2) := by decide +kernel
theorem dX3_pullIn_46 : decode cX3_pullIn 46 = .ok (.aload_n 0, 1) := by decide +kernel
theorem dX3_pullIn_47 : decode cX3_pullIn 47 = .ok (.getfield 13, 3) := by decide +kernel
theorem dX3_pullIn_50 : decode cX3_pullIn 50 = .ok (.iload_n 1, 1) := by decide +kernel
theorem dX3_pullIn_51 : decode cX3_pullIn 51 = .ok (.iaload, 1) := by decide +kernel
theorem dX3_pullIn_52 : decode cX3_pullIn 52 = .ok (.imul, 1) := by decide +kernel
theorem dX3_pullIn_53 : decode cX3_pullIn 53 = .ok (.iload_n 2, 1) := by decide +kernel
theorem dX3_pullIn_54 : decode cX3_pullIn 54 = .ok (.bipush 10, 2) := by decide +kernel
theorem dX3_pullIn_56 : decode cX3_pullIn 56 = .ok (.if_icmp .le 8, 3) := by decide +kernel
theorem dX3_pullIn_59 : decode cX3_pullIn 59 = .ok (.bipush 10, 2) := by decide +kernel
theorem dX3_pullIn_61 : decode cX3_pullIn 61 = .ok (.goto 4, 3) := by decide +kernel
theorem dX3_pullIn_64 : decode cX3_pullIn 64 = .ok (.iload_n 2, 1) := by decide +kernel
theorem dX3_pullIn_65 : decode cX3_pullIn 65 = .ok (.imul, 1) := by decide +kernel
theorem dX3_pullIn_66 : decode cX3_pullIn 66 = .ok (.istore_n 3, 1) := by decide +kernel
theorem dX3_pullIn_67 : decode cX3_pullIn 67 = .ok (.iload_n 3, 1) := by decide +kernel
theorem dX3_pullIn_68 : decode cX3_pullIn 68 = .ok (.bipush 100, 2) := by decide +kernel
theorem dX3_pullIn_70 : decode cX3_pullIn 70 = .ok (.aload_n 0, 1) := by decide +kernel
theorem dX3_pullIn_71 : decode cX3_pullIn 71 = .ok (.getfield 16, 3) := by decide +kernel
theorem dX3_pullIn_74 : decode cX3_pullIn 74 = .ok (.iload_n 1, 1) := by decide +kernel
theorem dX3_pullIn_75 : decode cX3_pullIn 75 = .ok (.iaload, 1) := by decide +kernel
theorem dX3_pullIn_76 : decode cX3_pullIn 76 = .ok (.imul, 1) := by decide +kernel
theorem dX3_pullIn_77 : decode cX3_pullIn 77 = .ok (.isub, 1) := by decide +kernel
theorem dX3_pullIn_78 : decode cX3_pullIn 78 = .ok (.ireturn, 1) := by decide +kernel
set_option maxRecDepth 20000 in
theorem ggX3_isHeld_X3_pullIn : GoodIn wsX3_isHeld wsX3_pullIn := goodIn_r _ [5, 6, 7, 8, 12, 13, 14, 15, 16, 17, 18, 19, 20, 21, 22, 23, 24, 25, 26, 27] (by decide +kernel) (by decide +kernel)
set_option maxRecDepth 20000 in
theorem gX3_isHeld_X3_pullIn : GoodIn wsX3_isHeld (wsV RX3 52 RX3 yX3_pullIn wsX3_pullIn) := goodIn_app (goodIn_of _ (by decide +kernel)) ggX3_isHeld_X3_pullIn
set_option maxRecDepth 20000 in
theorem ggX3_isHeld_X3_isIn : GoodIn wsX3_isHeld wsX3_isIn := goodIn_r _ [11] (by decide +kernel) (by decide +kernel)
set_option maxRecDepth 20000 in
theorem gX3_isHeld_X3_isIn : GoodIn wsX3_isHeld (va_wsS RX3 45 yX3_isIn wsX3_isIn) := goodIn_app (goodIn_of _ (by decide +kernel)) ggX3_isHeld_X3_isIn
theorem dX3_isHeld_0 : decode cX3_isHeld 0 = .ok (.aload_n 0, 1) := by decide +kernel
theorem dX3_isHeld_1 : decode cX3_isHeld 1 = .ok (.iload_n 1, 1) := by decide +kernel
theorem dX3_isHeld_2 : decode cX3_isHeld 2 = .ok (.iload_n 2, 1) := by decide +kernel
theorem dX3_isHeld_3 : decode cX3_isHeld 3 = .ok (.invokevirtual 52, 3) := by decide +kernel
theorem dX3_isHeld_6 : decode cX3_isHeld 6 = .ok (.bipush 100, 2) := by decide +kernel
theorem dX3_isHeld_8 : decode cX3_isHeld 8 = .ok (.sipush 6000, 3) := by decide +kernel
theorem dX3_isHeld_11 : decode cX3_isHeld 11 = .ok (.invokestatic 45, 3) := by decide +kernel
theorem dX3_isHeld_14 : decode cX3_isHeld 14 = .ok (.ireturn, 1) := by decide +kernel
set_option maxRecDepth 20000 in
theorem ggX3_endOf_X3_pullIn : GoodIn wsX3_endOf wsX3_pullIn := goodIn_r _ [7, 8, 9, 10, 11, 12, 13, 14, 15, 16, 17, 18, 19, 20, 21, 22, 23, 24, 25, 26] (by decide +kernel) (by decide +kernel)
set_option maxRecDepth 20000 in
theorem gX3_endOf_X3_pullIn : GoodIn wsX3_endOf (wsV RX3 52 RX3 yX3_pullIn wsX3_pullIn) := goodIn_app (goodIn_of _ (by decide +kernel)) ggX3_endOf_X3_pullIn
theorem dX3_endOf_0 : decode cX3_endOf 0 = .ok (.bipush 100, 2) := by decide +kernel
theorem dX3_endOf_2 : decode cX3_endOf 2 = .ok (.iload_n 2, 1) := by decide +kernel
theorem dX3_endOf_3 : decode cX3_endOf 3 = .ok (.imul, 1) := by decide +kernel
theorem dX3_endOf_4 : decode cX3_endOf 4 = .ok (.aload_n 0, 1) := by decide +kernel
theorem dX3_endOf_5 : decode cX3_endOf 5 = .ok (.getfield 56, 3) := by decide +kernel
theorem dX3_endOf_8 : decode cX3_endOf 8 = .ok (.iload_n 3, 1) := by decide +kernel
theorem dX3_endOf_9 : decode cX3_endOf 9 = .ok (.imul, 1) := by decide +kernel
theorem dX3_endOf_10 : decode cX3_endOf 10 = .ok (.sipush 1000, 3) := by decide +kernel
theorem dX3_endOf_13 : decode cX3_endOf 13 = .ok (.imul, 1) := by decide +kernel
theorem dX3_endOf_14 : decode cX3_endOf 14 = .ok (.sipush 1000, 3) := by decide +kernel
theorem dX3_endOf_17 : decode cX3_endOf 17 = .ok (.aload_n 0, 1) := by decide +kernel
theorem dX3_endOf_18 : decode cX3_endOf 18 = .ok (.iload_n 1, 1) := by decide +kernel
theorem dX3_endOf_19 : decode cX3_endOf 19 = .ok (.aload_n 0, 1) := by decide +kernel
theorem dX3_endOf_20 : decode cX3_endOf 20 = .ok (.getfield 59, 3) := by decide +kernel
theorem dX3_endOf_23 : decode cX3_endOf 23 = .ok (.invokevirtual 52, 3) := by decide +kernel
theorem dX3_endOf_26 : decode cX3_endOf 26 = .ok (.iadd, 1) := by decide +kernel
theorem dX3_endOf_27 : decode cX3_endOf 27 = .ok (.idiv, 1) := by decide +kernel
theorem dX3_endOf_28 : decode cX3_endOf 28 = .ok (.iadd, 1) := by decide +kernel
theorem dX3_endOf_29 : decode cX3_endOf 29 = .ok (.ireturn, 1) := by decide +kernel
theorem dX3_inLane_0 : decode cX3_inLane 0 = .ok (.iconst (-1), 1) := by decide +kernel
theorem dX3_inLane_1 : decode cX3_inLane 1 = .ok (.istore_n 2, 1) := by decide +kernel
theorem dX3_inLane_2 : decode cX3_inLane 2 = .ok (.iconst 0, 1) := by decide +kernel
theorem dX3_inLane_3 : decode cX3_inLane 3 = .ok (.istore_n 3, 1) := by decide +kernel
theorem dX3_inLane_4 : decode cX3_inLane 4 = .ok (.iload_n 3, 1) := by decide +kernel
theorem dX3_inLane_5 : decode cX3_inLane 5 = .ok (.aload_n 0, 1) := by decide +kernel
theorem dX3_inLane_6 : decode cX3_inLane 6 = .ok (.getfield 42, 3) := by decide +kernel
theorem dX3_inLane_9 : decode cX3_inLane 9 = .ok (.if_icmp .ge 25, 3) := by decide +kernel
theorem dX3_inLane_12 : decode cX3_inLane 12 = .ok (.aload_n 0, 1) := by decide +kernel
theorem dX3_inLane_13 : decode cX3_inLane 13 = .ok (.getfield 29, 3) := by decide +kernel
theorem dX3_inLane_16 : decode cX3_inLane 16 = .ok (.iload_n 3, 1) := by decide +kernel
theorem dX3_inLane_17 : decode cX3_inLane 17 = .ok (.iaload, 1) := by decide +kernel
theorem dX3_inLane_18 : decode cX3_inLane 18 = .ok (.iload_n 1, 1) := by decide +kernel
theorem dX3_inLane_19 : decode cX3_inLane 19 = .ok (.if_icmp .ne 7, 3) := by decide +kernel
theorem dX3_inLane_22 : decode cX3_inLane 22 = .ok (.iload_n 3, 1) := by decide +kernel
theorem dX3_inLane_23 : decode cX3_inLane 23 = .ok (.goto 4, 3) := by decide +kernel
theorem dX3_inLane_26 : decode cX3_inLane 26 = .ok (.iload_n 2, 1) := by decide +kernel
theorem dX3_inLane_27 : decode cX3_inLane 27 = .ok (.istore_n 2, 1) := by decide +kernel
theorem dX3_inLane_28 : decode cX3_inLane 28 = .ok (.iinc 3 1, 3) := by decide +kernel
theorem dX3_inLane_31 : decode cX3_inLane 31 = .ok (.goto (-27), 3) := by decide +kernel
theorem dX3_inLane_34 : decode cX3_inLane 34 = .ok (.iload_n 2, 1) := by decide +kernel
theorem dX3_inLane_35 : decode cX3_inLane 35 = .ok (.ireturn, 1) := by decide +kernel
set_option maxRecDepth 20000 in
theorem ggX3_end_X3_endOf : GoodIn wsX3_end wsX3_endOf := goodIn_r _ [7, 8, 9, 10, 11, 12, 6, 13, 14, 15, 16, 17, 18, 19, 20, 21, 22, 23, 24, 25, 26, 27, 28, 29, 30, 31, 32] (by decide +kernel) (by decide +kernel)
set_option maxRecDepth 20000 in
theorem gX3_end_X3_endOf : GoodIn wsX3_end (wsV RX3 62 RX3 yX3_endOf wsX3_endOf) := goodIn_app (goodIn_of _ (by decide +kernel)) ggX3_end_X3_endOf
theorem dX3_end_0 : decode cX3_end 0 = .ok (.aload_n 0, 1) := by decide +kernel
theorem dX3_end_1 : decode cX3_end 1 = .ok (.iload_n 1, 1) := by decide +kernel
theorem dX3_end_2 : decode cX3_end 2 = .ok (.aload_n 0, 1) := by decide +kernel
theorem dX3_end_3 : decode cX3_end 3 = .ok (.getfield 29, 3) := by decide +kernel
theorem dX3_end_6 : decode cX3_end 6 = .ok (.iload_n 1, 1) := by decide +kernel
theorem dX3_end_7 : decode cX3_end 7 = .ok (.iaload, 1) := by decide +kernel
theorem dX3_end_8 : decode cX3_end 8 = .ok (.aload_n 0, 1) := by decide +kernel
theorem dX3_end_9 : decode cX3_end 9 = .ok (.getfield 32, 3) := by decide +kernel
theorem dX3_end_12 : decode cX3_end 12 = .ok (.iload_n 1, 1) := by decide +kernel
theorem dX3_end_13 : decode cX3_end 13 = .ok (.iaload, 1) := by decide +kernel
theorem dX3_end_14 : decode cX3_end 14 = .ok (.invokevirtual 62, 3) := by decide +kernel
theorem dX3_end_17 : decode cX3_end 17 = .ok (.ireturn, 1) := by decide +kernel
set_option maxRecDepth 20000 in
theorem ggX3_kite_X3_isIn : GoodIn wsX3_kite wsX3_isIn := goodIn_r _ [10] (by decide +kernel) (by decide +kernel)
set_option maxRecDepth 20000 in
theorem gX3_kite_X3_isIn : GoodIn wsX3_kite (va_wsS RX3 45 yX3_isIn wsX3_isIn) := goodIn_app (goodIn_of _ (by decide +kernel)) ggX3_kite_X3_isIn
set_option maxRecDepth 20000 in
theorem ggX3_kite_X3_holds : GoodIn wsX3_kite wsX3_holds := goodIn_r _ [14, 15, 16, 17, 18, 19, 20, 21, 22, 23, 24, 25, 26, 27, 28, 29, 30, 31] (by decide +kernel) (by decide +kernel)
set_option maxRecDepth 20000 in
theorem gX3_kite_X3_holds : GoodIn wsX3_kite (wsV RX3 66 RX3 yX3_holds wsX3_holds) := goodIn_app (goodIn_of _ (by decide +kernel)) ggX3_kite_X3_holds
theorem dX3_kite_0 : decode cX3_kite 0 = .ok (.iload_n 1, 1) := by decide +kernel
theorem dX3_kite_1 : decode cX3_kite 1 = .ok (.iconst 0, 1) := by decide +kernel
theorem dX3_kite_2 : decode cX3_kite 2 = .ok (.iconst 2, 1) := by decide +kernel
theorem dX3_kite_3 : decode cX3_kite 3 = .ok (.invokestatic 45, 3) := by decide +kernel
theorem dX3_kite_6 : decode cX3_kite 6 = .ok (.ifCond .eq 27, 3) := by decide +kernel
theorem dX3_kite_9 : decode cX3_kite 9 = .ok (.iload_n 2, 1) := by decide +kernel
theorem dX3_kite_10 : decode cX3_kite 10 = .ok (.iconst 1, 1) := by decide +kernel
theorem dX3_kite_11 : decode cX3_kite 11 = .ok (.bipush 20, 2) := by decide +kernel
theorem dX3_kite_13 : decode cX3_kite 13 = .ok (.invokestatic 45, 3) := by decide +kernel
theorem dX3_kite_16 : decode cX3_kite 16 = .ok (.ifCond .eq 17, 3) := by decide +kernel
theorem dX3_kite_19 : decode cX3_kite 19 = .ok (.iload_n 3, 1) := by decide +kernel
theorem dX3_kite_20 : decode cX3_kite 20 = .ok (.iconst 1, 1) := by decide +kernel
theorem dX3_kite_21 : decode cX3_kite 21 = .ok (.bipush 20, 2) := by decide +kernel
theorem dX3_kite_23 : decode cX3_kite 23 = .ok (.invokestatic 45, 3) := by decide +kernel
theorem dX3_kite_26 : decode cX3_kite 26 = .ok (.ifCond .eq 7, 3) := by decide +kernel
theorem dX3_kite_29 : decode cX3_kite 29 = .ok (.iconst 1, 1) := by decide +kernel
theorem dX3_kite_30 : decode cX3_kite 30 = .ok (.goto 4, 3) := by decide +kernel
theorem dX3_kite_33 : decode cX3_kite 33 = .ok (.iconst 0, 1) := by decide +kernel
theorem dX3_kite_34 : decode cX3_kite 34 = .ok (.istore 4, 2) := by decide +kernel
theorem dX3_kite_36 : decode cX3_kite 36 = .ok (.aload_n 0, 1) := by decide +kernel
theorem dX3_kite_37 : decode cX3_kite 37 = .ok (.iload 4, 2) := by decide +kernel
theorem dX3_kite_39 : decode cX3_kite 39 = .ok (.ifCond .ne 7, 3) := by decide +kernel
theorem dX3_kite_42 : decode cX3_kite 42 = .ok (.iconst 1, 1) := by decide +kernel
theorem dX3_kite_43 : decode cX3_kite 43 = .ok (.goto 17, 3) := by decide +kernel
theorem dX3_kite_46 : decode cX3_kite 46 = .ok (.aload_n 0, 1) := by decide +kernel
theorem dX3_kite_47 : decode cX3_kite 47 = .ok (.getfield 42, 3) := by decide +kernel
theorem dX3_kite_50 : decode cX3_kite 50 = .ok (.bipush 8, 2) := by decide +kernel
theorem dX3_kite_52 : decode cX3_kite 52 = .ok (.if_icmp .ne 7, 3) := by decide +kernel
theorem dX3_kite_55 : decode cX3_kite 55 = .ok (.iconst 2, 1) := by decide +kernel
theorem dX3_kite_56 : decode cX3_kite 56 = .ok (.goto 4, 3) := by decide +kernel
theorem dX3_kite_59 : decode cX3_kite 59 = .ok (.iconst 0, 1) := by decide +kernel
theorem dX3_kite_60 : decode cX3_kite 60 = .ok (.invokevirtual 66, 3) := by decide +kernel
theorem dX3_kite_63 : decode cX3_kite 63 = .ok (.ifCond .ne 5, 3) := by decide +kernel
theorem dX3_kite_66 : decode cX3_kite 66 = .ok (.iconst 0, 1) := by decide +kernel
theorem dX3_kite_67 : decode cX3_kite 67 = .ok (.ireturn, 1) := by decide +kernel
theorem dX3_kite_68 : decode cX3_kite 68 = .ok (.aload_n 0, 1) := by decide +kernel
theorem dX3_kite_69 : decode cX3_kite 69 = .ok (.getfield 7, 3) := by decide +kernel
theorem dX3_kite_72 : decode cX3_kite 72 = .ok (.aload_n 0, 1) := by decide +kernel
theorem dX3_kite_73 : decode cX3_kite 73 = .ok (.getfield 42, 3) := by decide +kernel
theorem dX3_kite_76 : decode cX3_kite 76 = .ok (.iload_n 1, 1) := by decide +kernel
theorem dX3_kite_77 : decode cX3_kite 77 = .ok (.iastore, 1) := by decide +kernel
theorem dX3_kite_78 : decode cX3_kite 78 = .ok (.aload_n 0, 1) := by decide +kernel
theorem dX3_kite_79 : decode cX3_kite 79 = .ok (.getfield 13, 3) := by decide +kernel
theorem dX3_kite_82 : decode cX3_kite 82 = .ok (.aload_n 0, 1) := by decide +kernel
theorem dX3_kite_83 : decode cX3_kite 83 = .ok (.getfield 42, 3) := by decide +kernel
theorem dX3_kite_86 : decode cX3_kite 86 = .ok (.iload_n 2, 1) := by decide +kernel
theorem dX3_kite_87 : decode cX3_kite 87 = .ok (.iastore, 1) := by decide +kernel
theorem dX3_kite_88 : decode cX3_kite 88 = .ok (.aload_n 0, 1) := by decide +kernel
theorem dX3_kite_89 : decode cX3_kite 89 = .ok (.getfield 16, 3) := by decide +kernel
theorem dX3_kite_92 : decode cX3_kite 92 = .ok (.aload_n 0, 1) := by decide +kernel
theorem dX3_kite_93 : decode cX3_kite 93 = .ok (.getfield 42, 3) := by decide +kernel
theorem dX3_kite_96 : decode cX3_kite 96 = .ok (.iload_n 3, 1) := by decide +kernel
theorem dX3_kite_97 : decode cX3_kite 97 = .ok (.iastore, 1) := by decide +kernel
theorem dX3_kite_98 : decode cX3_kite 98 = .ok (.aload_n 0, 1) := by decide +kernel
theorem dX3_kite_99 : decode cX3_kite 99 = .ok (.getfield 26, 3) := by decide +kernel
theorem dX3_kite_102 : decode cX3_kite 102 = .ok (.aload_n 0, 1) := by decide +kernel
theorem dX3_kite_103 : decode cX3_kite 103 = .ok (.getfield 42, 3) := by decide +kernel
theorem dX3_kite_106 : decode cX3_kite 106 = .ok (.iconst (-1), 1) := by decide +kernel
theorem dX3_kite_107 : decode cX3_kite 107 = .ok (.iastore, 1) := by decide +kernel
theorem dX3_kite_108 : decode cX3_kite 108 = .ok (.aload_n 0, 1) := by decide +kernel
theorem dX3_kite_109 : decode cX3_kite 109 = .ok (.getfield 29, 3) := by decide +kernel
theorem dX3_kite_112 : decode cX3_kite 112 = .ok (.aload_n 0, 1) := by decide +kernel
theorem dX3_kite_113 : decode cX3_kite 113 = .ok (.getfield 42, 3) := by decide +kernel
theorem dX3_kite_116 : decode cX3_kite 116 = .ok (.iconst (-1), 1) := by decide +kernel
theorem dX3_kite_117 : decode cX3_kite 117 = .ok (.iastore, 1) := by decide +kernel
theorem dX3_kite_118 : decode cX3_kite 118 = .ok (.aload_n 0, 1) := by decide +kernel
theorem dX3_kite_119 : decode cX3_kite 119 = .ok (.dup, 1) := by decide +kernel
theorem dX3_kite_120 : decode cX3_kite 120 = .ok (.getfield 42, 3) := by decide +kernel
theorem dX3_kite_123 : decode cX3_kite 123 = .ok (.iconst 1, 1) := by decide +kernel
theorem dX3_kite_124 : decode cX3_kite 124 = .ok (.iadd, 1) := by decide +kernel
theorem dX3_kite_125 : decode cX3_kite 125 = .ok (.putfield 42, 3) := by decide +kernel
theorem dX3_kite_128 : decode cX3_kite 128 = .ok (.aload_n 0, 1) := by decide +kernel
theorem dX3_kite_129 : decode cX3_kite 129 = .ok (.getfield 42, 3) := by decide +kernel
theorem dX3_kite_132 : decode cX3_kite 132 = .ok (.iconst 1, 1) := by decide +kernel
theorem dX3_kite_133 : decode cX3_kite 133 = .ok (.isub, 1) := by decide +kernel
theorem dX3_kite_134 : decode cX3_kite 134 = .ok (.ireturn, 1) := by decide +kernel
set_option maxRecDepth 20000 in
theorem ggX3_patch_X3_isKite : GoodIn wsX3_patch wsX3_isKite := goodIn_r _ [7, 8, 9, 10, 6, 11, 17, 18, 19, 20, 21, 22, 23, 24, 25, 26, 27, 28, 29, 30, 31, 32] (by decide +kernel) (by decide +kernel)
set_option maxRecDepth 20000 in
theorem gX3_patch_X3_isKite : GoodIn wsX3_patch (wsV RX3 70 RX3 yX3_isKite wsX3_isKite) := goodIn_app (goodIn_of _ (by decide +kernel)) ggX3_patch_X3_isKite
set_option maxRecDepth 20000 in
theorem ggX3_patch_X3_holds : GoodIn wsX3_patch wsX3_holds := goodIn_r _ [15, 16, 17, 18, 19, 20, 21, 22, 23, 24, 25, 26, 27, 28, 29, 30, 31, 32] (by decide +kernel) (by decide +kernel)
set_option maxRecDepth 20000 in
theorem gX3_patch_X3_holds : GoodIn wsX3_patch (wsV RX3 66 RX3 yX3_holds wsX3_holds) := goodIn_app (goodIn_of _ (by decide +kernel)) ggX3_patch_X3_holds
theorem dX3_patch_0 : decode cX3_patch 0 = .ok (.aload_n 0, 1) := by decide +kernel
theorem dX3_patch_1 : decode cX3_patch 1 = .ok (.iload_n 1, 1) := by decide +kernel
theorem dX3_patch_2 : decode cX3_patch 2 = .ok (.invokevirtual 70, 3) := by decide +kernel
theorem dX3_patch_5 : decode cX3_patch 5 = .ok (.istore_n 2, 1) := by decide +kernel
theorem dX3_patch_6 : decode cX3_patch 6 = .ok (.aload_n 0, 1) := by decide +kernel
theorem dX3_patch_7 : decode cX3_patch 7 = .ok (.iload_n 2, 1) := by decide +kernel
theorem dX3_patch_8 : decode cX3_patch 8 = .ok (.ifCond .ne 7, 3) := by decide +kernel
theorem dX3_patch_11 : decode cX3_patch 11 = .ok (.iconst 1, 1) := by decide +kernel
theorem dX3_patch_12 : decode cX3_patch 12 = .ok (.goto 30, 3) := by decide +kernel
theorem dX3_patch_15 : decode cX3_patch 15 = .ok (.aload_n 0, 1) := by decide +kernel
theorem dX3_patch_16 : decode cX3_patch 16 = .ok (.getfield 19, 3) := by decide +kernel
theorem dX3_patch_19 : decode cX3_patch 19 = .ok (.iload_n 1, 1) := by decide +kernel
theorem dX3_patch_20 : decode cX3_patch 20 = .ok (.baload, 1) := by decide +kernel
theorem dX3_patch_21 : decode cX3_patch 21 = .ok (.ifCond .eq 20, 3) := by decide +kernel
theorem dX3_patch_24 : decode cX3_patch 24 = .ok (.aload_n 0, 1) := by decide +kernel
theorem dX3_patch_25 : decode cX3_patch 25 = .ok (.getfield 16, 3) := by decide +kernel
theorem dX3_patch_28 : decode cX3_patch 28 = .ok (.iload_n 1, 1) := by decide +kernel
theorem dX3_patch_29 : decode cX3_patch 29 = .ok (.iaload, 1) := by decide +kernel
theorem dX3_patch_30 : decode cX3_patch 30 = .ok (.iconst 2, 1) := by decide +kernel
theorem dX3_patch_31 : decode cX3_patch 31 = .ok (.iadd, 1) := by decide +kernel
theorem dX3_patch_32 : decode cX3_patch 32 = .ok (.bipush 40, 2) := by decide +kernel
theorem dX3_patch_34 : decode cX3_patch 34 = .ok (.if_icmp .gt 7, 3) := by decide +kernel
theorem dX3_patch_37 : decode cX3_patch 37 = .ok (.iconst 0, 1) := by decide +kernel
theorem dX3_patch_38 : decode cX3_patch 38 = .ok (.goto 4, 3) := by decide +kernel
theorem dX3_patch_41 : decode cX3_patch 41 = .ok (.iconst 2, 1) := by decide +kernel
theorem dX3_patch_42 : decode cX3_patch 42 = .ok (.invokevirtual 66, 3) := by decide +kernel
theorem dX3_patch_45 : decode cX3_patch 45 = .ok (.ifCond .ne 5, 3) := by decide +kernel
theorem dX3_patch_48 : decode cX3_patch 48 = .ok (.iconst 0, 1) := by decide +kernel
theorem dX3_patch_49 : decode cX3_patch 49 = .ok (.ireturn, 1) := by decide +kernel
theorem dX3_patch_50 : decode cX3_patch 50 = .ok (.aload_n 0, 1) := by decide +kernel
theorem dX3_patch_51 : decode cX3_patch 51 = .ok (.getfield 19, 3) := by decide +kernel
theorem dX3_patch_54 : decode cX3_patch 54 = .ok (.iload_n 1, 1) := by decide +kernel
theorem dX3_patch_55 : decode cX3_patch 55 = .ok (.iconst 0, 1) := by decide +kernel
theorem dX3_patch_56 : decode cX3_patch 56 = .ok (.bastore, 1) := by decide +kernel
theorem dX3_patch_57 : decode cX3_patch 57 = .ok (.aload_n 0, 1) := by decide +kernel
theorem dX3_patch_58 : decode cX3_patch 58 = .ok (.getfield 16, 3) := by decide +kernel
theorem dX3_patch_61 : decode cX3_patch 61 = .ok (.iload_n 1, 1) := by decide +kernel
theorem dX3_patch_62 : decode cX3_patch 62 = .ok (.dup2, 1) := by decide +kernel
theorem dX3_patch_63 : decode cX3_patch 63 = .ok (.iaload, 1) := by decide +kernel
theorem dX3_patch_64 : decode cX3_patch 64 = .ok (.iconst 2, 1) := by decide +kernel
theorem dX3_patch_65 : decode cX3_patch 65 = .ok (.iadd, 1) := by decide +kernel
theorem dX3_patch_66 : decode cX3_patch 66 = .ok (.iastore, 1) := by decide +kernel
theorem dX3_patch_67 : decode cX3_patch 67 = .ok (.aload_n 0, 1) := by decide +kernel
theorem dX3_patch_68 : decode cX3_patch 68 = .ok (.getfield 16, 3) := by decide +kernel
theorem dX3_patch_71 : decode cX3_patch 71 = .ok (.iload_n 1, 1) := by decide +kernel
theorem dX3_patch_72 : decode cX3_patch 72 = .ok (.iaload, 1) := by decide +kernel
theorem dX3_patch_73 : decode cX3_patch 73 = .ok (.ireturn, 1) := by decide +kernel
set_option maxRecDepth 20000 in
theorem ggX3_borrower_X3_isIn : GoodIn wsX3_borrower wsX3_isIn := goodIn_r _ [6] (by decide +kernel) (by decide +kernel)
set_option maxRecDepth 20000 in
theorem gX3_borrower_X3_isIn : GoodIn wsX3_borrower (va_wsS RX3 45 yX3_isIn wsX3_isIn) := goodIn_app (goodIn_of _ (by decide +kernel)) ggX3_borrower_X3_isIn
set_option maxRecDepth 20000 in
theorem ggX3_borrower_X3_holds : GoodIn wsX3_borrower wsX3_holds := goodIn_r _ [10, 11, 12, 13, 14, 15, 16, 17, 18, 19, 20, 21, 22, 23, 24, 25, 26, 27] (by decide +kernel) (by decide +kernel)
set_option maxRecDepth 20000 in
theorem gX3_borrower_X3_holds : GoodIn wsX3_borrower (wsV RX3 66 RX3 yX3_holds wsX3_holds) := goodIn_app (goodIn_of _ (by decide +kernel)) ggX3_borrower_X3_holds
theorem dX3_borrower_0 : decode cX3_borrower 0 = .ok (.aload_n 0, 1) := by decide +kernel
theorem dX3_borrower_1 : decode cX3_borrower 1 = .ok (.iload_n 1, 1) := by decide +kernel
theorem dX3_borrower_2 : decode cX3_borrower 2 = .ok (.iconst 1, 1) := by decide +kernel
theorem dX3_borrower_3 : decode cX3_borrower 3 = .ok (.iconst 3, 1) := by decide +kernel
theorem dX3_borrower_4 : decode cX3_borrower 4 = .ok (.invokestatic 45, 3) := by decide +kernel
theorem dX3_borrower_7 : decode cX3_borrower 7 = .ok (.ifCond .ne 7, 3) := by decide +kernel
theorem dX3_borrower_10 : decode cX3_borrower 10 = .ok (.iconst 1, 1) := by decide +kernel
theorem dX3_borrower_11 : decode cX3_borrower 11 = .ok (.goto 17, 3) := by decide +kernel
theorem dX3_borrower_14 : decode cX3_borrower 14 = .ok (.aload_n 0, 1) := by decide +kernel
theorem dX3_borrower_15 : decode cX3_borrower 15 = .ok (.getfield 49, 3) := by decide +kernel
theorem dX3_borrower_18 : decode cX3_borrower 18 = .ok (.bipush 8, 2) := by decide +kernel
theorem dX3_borrower_20 : decode cX3_borrower 20 = .ok (.if_icmp .ne 7, 3) := by decide +kernel
theorem dX3_borrower_23 : decode cX3_borrower 23 = .ok (.iconst 2, 1) := by decide +kernel
theorem dX3_borrower_24 : decode cX3_borrower 24 = .ok (.goto 4, 3) := by decide +kernel
theorem dX3_borrower_27 : decode cX3_borrower 27 = .ok (.iconst 0, 1) := by decide +kernel
theorem dX3_borrower_28 : decode cX3_borrower 28 = .ok (.invokevirtual 66, 3) := by decide +kernel
theorem dX3_borrower_31 : decode cX3_borrower 31 = .ok (.ifCond .ne 5, 3) := by decide +kernel
theorem dX3_borrower_34 : decode cX3_borrower 34 = .ok (.iconst 0, 1) := by decide +kernel
theorem dX3_borrower_35 : decode cX3_borrower 35 = .ok (.ireturn, 1) := by decide +kernel
theorem dX3_borrower_36 : decode cX3_borrower 36 = .ok (.aload_n 0, 1) := by decide +kernel
theorem dX3_borrower_37 : decode cX3_borrower 37 = .ok (.getfield 35, 3) := by decide +kernel
theorem dX3_borrower_40 : decode cX3_borrower 40 = .ok (.aload_n 0, 1) := by decide +kernel
theorem dX3_borrower_41 : decode cX3_borrower 41 = .ok (.getfield 49, 3) := by decide +kernel
theorem dX3_borrower_44 : decode cX3_borrower 44 = .ok (.iload_n 1, 1) := by decide +kernel
theorem dX3_borrower_45 : decode cX3_borrower 45 = .ok (.iastore, 1) := by decide +kernel
theorem dX3_borrower_46 : decode cX3_borrower 46 = .ok (.aload_n 0, 1) := by decide +kernel
theorem dX3_borrower_47 : decode cX3_borrower 47 = .ok (.dup, 1) := by decide +kernel
theorem dX3_borrower_48 : decode cX3_borrower 48 = .ok (.getfield 49, 3) := by decide +kernel
theorem dX3_borrower_51 : decode cX3_borrower 51 = .ok (.iconst 1, 1) := by decide +kernel
theorem dX3_borrower_52 : decode cX3_borrower 52 = .ok (.iadd, 1) := by decide +kernel
theorem dX3_borrower_53 : decode cX3_borrower 53 = .ok (.putfield 49, 3) := by decide +kernel
theorem dX3_borrower_56 : decode cX3_borrower 56 = .ok (.aload_n 0, 1) := by decide +kernel
theorem dX3_borrower_57 : decode cX3_borrower 57 = .ok (.getfield 49, 3) := by decide +kernel
theorem dX3_borrower_60 : decode cX3_borrower 60 = .ok (.iconst 1, 1) := by decide +kernel
theorem dX3_borrower_61 : decode cX3_borrower 61 = .ok (.isub, 1) := by decide +kernel
theorem dX3_borrower_62 : decode cX3_borrower 62 = .ok (.ireturn, 1) := by decide +kernel
theorem dX3_heldBy_0 : decode cX3_heldBy 0 = .ok (.iconst (-1), 1) := by decide +kernel
theorem dX3_heldBy_1 : decode cX3_heldBy 1 = .ok (.istore_n 2, 1) := by decide +kernel
theorem dX3_heldBy_2 : decode cX3_heldBy 2 = .ok (.iconst 0, 1) := by decide +kernel
theorem dX3_heldBy_3 : decode cX3_heldBy 3 = .ok (.istore_n 3, 1) := by decide +kernel
theorem dX3_heldBy_4 : decode cX3_heldBy 4 = .ok (.iload_n 3, 1) := by decide +kernel
theorem dX3_heldBy_5 : decode cX3_heldBy 5 = .ok (.aload_n 0, 1) := by decide +kernel
theorem dX3_heldBy_6 : decode cX3_heldBy 6 = .ok (.getfield 42, 3) := by decide +kernel
theorem dX3_heldBy_9 : decode cX3_heldBy 9 = .ok (.if_icmp .ge 25, 3) := by decide +kernel
theorem dX3_heldBy_12 : decode cX3_heldBy 12 = .ok (.aload_n 0, 1) := by decide +kernel
theorem dX3_heldBy_13 : decode cX3_heldBy 13 = .ok (.getfield 26, 3) := by decide +kernel
theorem dX3_heldBy_16 : decode cX3_heldBy 16 = .ok (.iload_n 3, 1) := by decide +kernel
theorem dX3_heldBy_17 : decode cX3_heldBy 17 = .ok (.iaload, 1) := by decide +kernel
theorem dX3_heldBy_18 : decode cX3_heldBy 18 = .ok (.iload_n 1, 1) := by decide +kernel
theorem dX3_heldBy_19 : decode cX3_heldBy 19 = .ok (.if_icmp .ne 7, 3) := by decide +kernel
theorem dX3_heldBy_22 : decode cX3_heldBy 22 = .ok (.iload_n 3, 1) := by decide +kernel
theorem dX3_heldBy_23 : decode cX3_heldBy 23 = .ok (.goto 4, 3) := by decide +kernel
theorem dX3_heldBy_26 : decode cX3_heldBy 26 = .ok (.iload_n 2, 1) := by decide +kernel
theorem dX3_heldBy_27 : decode cX3_heldBy 27 = .ok (.istore_n 2, 1) := by decide +kernel
theorem dX3_heldBy_28 : decode cX3_heldBy 28 = .ok (.iinc 3 1, 3) := by decide +kernel
theorem dX3_heldBy_31 : decode cX3_heldBy 31 = .ok (.goto (-27), 3) := by decide +kernel
theorem dX3_heldBy_34 : decode cX3_heldBy 34 = .ok (.iload_n 2, 1) := by decide +kernel
theorem dX3_heldBy_35 : decode cX3_heldBy 35 = .ok (.ireturn, 1) := by decide +kernel
set_option maxRecDepth 20000 in
theorem ggX3_lend_X3_isKite : GoodIn wsX3_lend wsX3_isKite := goodIn_r _ [10, 11, 12, 13, 9, 14, 29, 30, 31, 32, 33, 34, 35, 36, 37, 38, 39, 40, 41, 42, 43, 44] (by decide +kernel) (by decide +kernel)
set_option maxRecDepth 20000 in
theorem gX3_lend_X3_isKite : GoodIn wsX3_lend (wsV RX3 70 RX3 yX3_isKite wsX3_isKite) := goodIn_app (goodIn_of _ (by decide +kernel)) ggX3_lend_X3_isKite
set_option maxRecDepth 20000 in
theorem ggX3_lend_X3_isPerson : GoodIn wsX3_lend wsX3_isPerson := goodIn_r _ [18, 19, 12, 13, 9, 14, 29, 30, 31, 32, 33, 34, 35, 36, 37, 38, 39, 40, 41, 42, 43, 44] (by decide +kernel) (by decide +kernel)
set_option maxRecDepth 20000 in
theorem gX3_lend_X3_isPerson : GoodIn wsX3_lend (wsV RX3 73 RX3 yX3_isPerson wsX3_isPerson) := goodIn_app (goodIn_of _ (by decide +kernel)) ggX3_lend_X3_isPerson
set_option maxRecDepth 20000 in
theorem ggX3_lend_X3_heldBy : GoodIn wsX3_lend wsX3_heldBy := goodIn_r _ [23, 11, 1, 29, 30, 31, 32, 33, 34, 35, 36, 37, 38, 39, 40, 41, 42, 43, 44] (by decide +kernel) (by decide +kernel)
set_option maxRecDepth 20000 in
theorem gX3_lend_X3_heldBy : GoodIn wsX3_lend (wsV RX3 76 RX3 yX3_heldBy wsX3_heldBy) := goodIn_app (goodIn_of _ (by decide +kernel)) ggX3_lend_X3_heldBy
set_option maxRecDepth 20000 in
theorem ggX3_lend_X3_holds : GoodIn wsX3_lend wsX3_holds := goodIn_r _ [27, 28, 29, 30, 31, 32, 33, 34, 35, 36, 37, 38, 39, 40, 41, 42, 43, 44] (by decide +kernel) (by decide +kernel)
set_option maxRecDepth 20000 in
theorem gX3_lend_X3_holds : GoodIn wsX3_lend (wsV RX3 66 RX3 yX3_holds wsX3_holds) := goodIn_app (goodIn_of _ (by decide +kernel)) ggX3_lend_X3_holds
theorem dX3_lend_0 : decode cX3_lend 0 = .ok (.aload_n 0, 1) := by decide +kernel
theorem dX3_lend_1 : decode cX3_lend 1 = .ok (.iload_n 1, 1) := by decide +kernel
theorem dX3_lend_2 : decode cX3_lend 2 = .ok (.invokevirtual 70, 3) := by decide +kernel
theorem dX3_lend_5 : decode cX3_lend 5 = .ok (.ifCond .eq 15, 3) := by decide +kernel
theorem dX3_lend_8 : decode cX3_lend 8 = .ok (.aload_n 0, 1) := by decide +kernel
theorem dX3_lend_9 : decode cX3_lend 9 = .ok (.iload_n 2, 1) := by decide +kernel
theorem dX3_lend_10 : decode cX3_lend 10 = .ok (.invokevirtual 73, 3) := by decide +kernel
theorem dX3_lend_13 : decode cX3_lend 13 = .ok (.ifCond .eq 7, 3) := by decide +kernel
theorem dX3_lend_16 : decode cX3_lend 16 = .ok (.iconst 1, 1) := by decide +kernel
theorem dX3_lend_17 : decode cX3_lend 17 = .ok (.goto 4, 3) := by decide +kernel
theorem dX3_lend_20 : decode cX3_lend 20 = .ok (.iconst 0, 1) := by decide +kernel
theorem dX3_lend_21 : decode cX3_lend 21 = .ok (.istore_n 3, 1) := by decide +kernel
theorem dX3_lend_22 : decode cX3_lend 22 = .ok (.iload_n 3, 1) := by decide +kernel
theorem dX3_lend_23 : decode cX3_lend 23 = .ok (.ifCond .eq 59, 3) := by decide +kernel
theorem dX3_lend_26 : decode cX3_lend 26 = .ok (.aload_n 0, 1) := by decide +kernel
theorem dX3_lend_27 : decode cX3_lend 27 = .ok (.getfield 26, 3) := by decide +kernel
theorem dX3_lend_30 : decode cX3_lend 30 = .ok (.iload_n 1, 1) := by decide +kernel
theorem dX3_lend_31 : decode cX3_lend 31 = .ok (.iaload, 1) := by decide +kernel
theorem dX3_lend_32 : decode cX3_lend 32 = .ok (.iconst (-1), 1) := by decide +kernel
theorem dX3_lend_33 : decode cX3_lend 33 = .ok (.if_icmp .ne 49, 3) := by decide +kernel
theorem dX3_lend_36 : decode cX3_lend 36 = .ok (.aload_n 0, 1) := by decide +kernel
theorem dX3_lend_37 : decode cX3_lend 37 = .ok (.getfield 19, 3) := by decide +kernel
theorem dX3_lend_40 : decode cX3_lend 40 = .ok (.iload_n 1, 1) := by decide +kernel
theorem dX3_lend_41 : decode cX3_lend 41 = .ok (.baload, 1) := by decide +kernel
theorem dX3_lend_42 : decode cX3_lend 42 = .ok (.ifCond .ne 40, 3) := by decide +kernel
theorem dX3_lend_45 : decode cX3_lend 45 = .ok (.aload_n 0, 1) := by decide +kernel
theorem dX3_lend_46 : decode cX3_lend 46 = .ok (.getfield 23, 3) := by decide +kernel
theorem dX3_lend_49 : decode cX3_lend 49 = .ok (.iload_n 1, 1) := by decide +kernel
theorem dX3_lend_50 : decode cX3_lend 50 = .ok (.iaload, 1) := by decide +kernel
theorem dX3_lend_51 : decode cX3_lend 51 = .ok (.ifCond .ne 31, 3) := by decide +kernel
theorem dX3_lend_54 : decode cX3_lend 54 = .ok (.aload_n 0, 1) := by decide +kernel
theorem dX3_lend_55 : decode cX3_lend 55 = .ok (.iload_n 2, 1) := by decide +kernel
theorem dX3_lend_56 : decode cX3_lend 56 = .ok (.invokevirtual 76, 3) := by decide +kernel
theorem dX3_lend_59 : decode cX3_lend 59 = .ok (.iconst (-1), 1) := by decide +kernel
theorem dX3_lend_60 : decode cX3_lend 60 = .ok (.if_icmp .ne 22, 3) := by decide +kernel
theorem dX3_lend_63 : decode cX3_lend 63 = .ok (.aload_n 0, 1) := by decide +kernel
theorem dX3_lend_64 : decode cX3_lend 64 = .ok (.getfield 35, 3) := by decide +kernel
theorem dX3_lend_67 : decode cX3_lend 67 = .ok (.iload_n 2, 1) := by decide +kernel
theorem dX3_lend_68 : decode cX3_lend 68 = .ok (.iaload, 1) := by decide +kernel
theorem dX3_lend_69 : decode cX3_lend 69 = .ok (.aload_n 0, 1) := by decide +kernel
theorem dX3_lend_70 : decode cX3_lend 70 = .ok (.getfield 7, 3) := by decide +kernel
theorem dX3_lend_73 : decode cX3_lend 73 = .ok (.iload_n 1, 1) := by decide +kernel
theorem dX3_lend_74 : decode cX3_lend 74 = .ok (.iaload, 1) := by decide +kernel
theorem dX3_lend_75 : decode cX3_lend 75 = .ok (.if_icmp .le 7, 3) := by decide +kernel
theorem dX3_lend_78 : decode cX3_lend 78 = .ok (.iconst 1, 1) := by decide +kernel
theorem dX3_lend_79 : decode cX3_lend 79 = .ok (.goto 4, 3) := by decide +kernel
theorem dX3_lend_82 : decode cX3_lend 82 = .ok (.iconst 0, 1) := by decide +kernel
theorem dX3_lend_83 : decode cX3_lend 83 = .ok (.istore 4, 2) := by decide +kernel
theorem dX3_lend_85 : decode cX3_lend 85 = .ok (.aload_n 0, 1) := by decide +kernel
theorem dX3_lend_86 : decode cX3_lend 86 = .ok (.iload_n 3, 1) := by decide +kernel
theorem dX3_lend_87 : decode cX3_lend 87 = .ok (.ifCond .ne 7, 3) := by decide +kernel
theorem dX3_lend_90 : decode cX3_lend 90 = .ok (.iconst 1, 1) := by decide +kernel
theorem dX3_lend_91 : decode cX3_lend 91 = .ok (.goto 13, 3) := by decide +kernel
theorem dX3_lend_94 : decode cX3_lend 94 = .ok (.iload 4, 2) := by decide +kernel
theorem dX3_lend_96 : decode cX3_lend 96 = .ok (.ifCond .eq 7, 3) := by decide +kernel
theorem dX3_lend_99 : decode cX3_lend 99 = .ok (.iconst 0, 1) := by decide +kernel
theorem dX3_lend_100 : decode cX3_lend 100 = .ok (.goto 4, 3) := by decide +kernel
theorem dX3_lend_103 : decode cX3_lend 103 = .ok (.iconst 2, 1) := by decide +kernel
theorem dX3_lend_104 : decode cX3_lend 104 = .ok (.invokevirtual 66, 3) := by decide +kernel
theorem dX3_lend_107 : decode cX3_lend 107 = .ok (.ifCond .eq 10, 3) := by decide +kernel
theorem dX3_lend_110 : decode cX3_lend 110 = .ok (.aload_n 0, 1) := by decide +kernel
theorem dX3_lend_111 : decode cX3_lend 111 = .ok (.getfield 26, 3) := by decide +kernel
theorem dX3_lend_114 : decode cX3_lend 114 = .ok (.iload_n 1, 1) := by decide +kernel
theorem dX3_lend_115 : decode cX3_lend 115 = .ok (.iload_n 2, 1) := by decide +kernel
theorem dX3_lend_116 : decode cX3_lend 116 = .ok (.iastore, 1) := by decide +kernel
theorem dX3_lend_117 : decode cX3_lend 117 = .ok (.return_, 1) := by decide +kernel
set_option maxRecDepth 20000 in
theorem ggX3_giveBack_X3_isPerson : GoodIn wsX3_giveBack wsX3_isPerson := goodIn_r _ [7, 8, 9, 10, 6, 11, 22, 23, 24, 25, 26, 27, 28, 29, 30, 31, 32, 33, 34, 35, 36, 37] (by decide +kernel) (by decide +kernel)
set_option maxRecDepth 20000 in
theorem gX3_giveBack_X3_isPerson : GoodIn wsX3_giveBack (wsV RX3 73 RX3 yX3_isPerson wsX3_isPerson) := goodIn_app (goodIn_of _ (by decide +kernel)) ggX3_giveBack_X3_isPerson
set_option maxRecDepth 20000 in
theorem ggX3_giveBack_X3_heldBy : GoodIn wsX3_giveBack wsX3_heldBy := goodIn_r _ [15, 16, 2, 22, 23, 24, 25, 26, 27, 28, 29, 30, 31, 32, 33, 34, 35, 36, 37] (by decide +kernel) (by decide +kernel)
set_option maxRecDepth 20000 in
theorem gX3_giveBack_X3_heldBy : GoodIn wsX3_giveBack (wsV RX3 76 RX3 yX3_heldBy wsX3_heldBy) := goodIn_app (goodIn_of _ (by decide +kernel)) ggX3_giveBack_X3_heldBy
set_option maxRecDepth 20000 in
theorem ggX3_giveBack_X3_holds : GoodIn wsX3_giveBack wsX3_holds := goodIn_r _ [20, 21, 22, 23, 24, 25, 26, 27, 28, 29, 30, 31, 32, 33, 34, 35, 36, 37] (by decide +kernel) (by decide +kernel)
set_option maxRecDepth 20000 in
theorem gX3_giveBack_X3_holds : GoodIn wsX3_giveBack (wsV RX3 66 RX3 yX3_holds wsX3_holds) := goodIn_app (goodIn_of _ (by decide +kernel)) ggX3_giveBack_X3_holds
theorem dX3_giveBack_0 : decode cX3_giveBack 0 = .ok (.aload_n 0, 1) := by decide +kernel
theorem dX3_giveBack_1 : decode cX3_giveBack 1 = .ok (.iload_n 1, 1) := by decide +kernel
theorem dX3_giveBack_2 : decode cX3_giveBack 2 = .ok (.invokevirtual 73, 3) := by decide +kernel
theorem dX3_giveBack_5 : decode cX3_giveBack 5 = .ok (.istore_n 2, 1) := by decide +kernel
theorem dX3_giveBack_6 : decode cX3_giveBack 6 = .ok (.iload_n 2, 1) := by decide +kernel
theorem dX3_giveBack_7 : decode cX3_giveBack 7 = .ok (.ifCond .eq 11, 3) := by decide +kernel
theorem dX3_giveBack_10 : decode cX3_giveBack 10 = .ok (.aload_n 0, 1) := by decide +kernel
theorem dX3_giveBack_11 : decode cX3_giveBack 11 = .ok (.iload_n 1, 1) := by decide +kernel
theorem dX3_giveBack_12 : decode cX3_giveBack 12 = .ok (.invokevirtual 76, 3) := by decide +kernel
theorem dX3_giveBack_15 : decode cX3_giveBack 15 = .ok (.goto 4, 3) := by decide +kernel
theorem dX3_giveBack_18 : decode cX3_giveBack 18 = .ok (.iconst (-1), 1) := by decide +kernel
theorem dX3_giveBack_19 : decode cX3_giveBack 19 = .ok (.istore_n 3, 1) := by decide +kernel
theorem dX3_giveBack_20 : decode cX3_giveBack 20 = .ok (.aload_n 0, 1) := by decide +kernel
theorem dX3_giveBack_21 : decode cX3_giveBack 21 = .ok (.iload_n 2, 1) := by decide +kernel
theorem dX3_giveBack_22 : decode cX3_giveBack 22 = .ok (.ifCond .ne 7, 3) := by decide +kernel
theorem dX3_giveBack_25 : decode cX3_giveBack 25 = .ok (.iconst 1, 1) := by decide +kernel
theorem dX3_giveBack_26 : decode cX3_giveBack 26 = .ok (.goto 23, 3) := by decide +kernel
theorem dX3_giveBack_29 : decode cX3_giveBack 29 = .ok (.iload_n 3, 1) := by decide +kernel
theorem dX3_giveBack_30 : decode cX3_giveBack 30 = .ok (.iconst (-1), 1) := by decide +kernel
theorem dX3_giveBack_31 : decode cX3_giveBack 31 = .ok (.if_icmp .eq 13, 3) := by decide +kernel
theorem dX3_giveBack_34 : decode cX3_giveBack 34 = .ok (.aload_n 0, 1) := by decide +kernel
theorem dX3_giveBack_35 : decode cX3_giveBack 35 = .ok (.getfield 29, 3) := by decide +kernel
theorem dX3_giveBack_38 : decode cX3_giveBack 38 = .ok (.iload_n 3, 1) := by decide +kernel
theorem dX3_giveBack_39 : decode cX3_giveBack 39 = .ok (.iaload, 1) := by decide +kernel
theorem dX3_giveBack_40 : decode cX3_giveBack 40 = .ok (.iconst (-1), 1) := by decide +kernel
theorem dX3_giveBack_41 : decode cX3_giveBack 41 = .ok (.if_icmp .eq 7, 3) := by decide +kernel
theorem dX3_giveBack_44 : decode cX3_giveBack 44 = .ok (.iconst 2, 1) := by decide +kernel
theorem dX3_giveBack_45 : decode cX3_giveBack 45 = .ok (.goto 4, 3) := by decide +kernel
theorem dX3_giveBack_48 : decode cX3_giveBack 48 = .ok (.iconst 0, 1) := by decide +kernel
theorem dX3_giveBack_49 : decode cX3_giveBack 49 = .ok (.invokevirtual 66, 3) := by decide +kernel
theorem dX3_giveBack_52 : decode cX3_giveBack 52 = .ok (.ifCond .ne 5, 3) := by decide +kernel
theorem dX3_giveBack_55 : decode cX3_giveBack 55 = .ok (.iconst 0, 1) := by decide +kernel
theorem dX3_giveBack_56 : decode cX3_giveBack 56 = .ok (.ireturn, 1) := by decide +kernel
theorem dX3_giveBack_57 : decode cX3_giveBack 57 = .ok (.aload_n 0, 1) := by decide +kernel
theorem dX3_giveBack_58 : decode cX3_giveBack 58 = .ok (.getfield 26, 3) := by decide +kernel
theorem dX3_giveBack_61 : decode cX3_giveBack 61 = .ok (.iload_n 3, 1) := by decide +kernel
theorem dX3_giveBack_62 : decode cX3_giveBack 62 = .ok (.iconst (-1), 1) := by decide +kernel
theorem dX3_giveBack_63 : decode cX3_giveBack 63 = .ok (.iastore, 1) := by decide +kernel
theorem dX3_giveBack_64 : decode cX3_giveBack 64 = .ok (.iload_n 3, 1) := by decide +kernel
theorem dX3_giveBack_65 : decode cX3_giveBack 65 = .ok (.ireturn, 1) := by decide +kernel
set_option maxRecDepth 20000 in
theorem ggX3_isClear_X3_endOf : GoodIn wsX3_isClear wsX3_endOf := goodIn_r _ [7, 8, 9, 10, 11, 12, 6, 13, 14, 15, 16, 22, 23, 24, 25, 26, 27, 28, 29, 30, 31, 32, 33, 34, 35, 36, 37] (by decide +kernel) (by decide +kernel)
set_option maxRecDepth 20000 in
theorem gX3_isClear_X3_endOf : GoodIn wsX3_isClear (wsV RX3 62 RX3 yX3_endOf wsX3_endOf) := goodIn_app (goodIn_of _ (by decide +kernel)) ggX3_isClear_X3_endOf
set_option maxRecDepth 20000 in
theorem ggX3_isClear_X3_end : GoodIn wsX3_isClear wsX3_end := goodIn_r _ [20, 2, 21, 3, 4, 5, 6, 7, 8, 9, 10, 11, 12, 13, 14, 15, 16, 22, 23, 24, 25, 26, 27, 28, 29, 30, 31, 32, 33, 34, 35, 36, 37] (by decide +kernel) (by decide +kernel)
set_option maxRecDepth 20000 in
theorem gX3_isClear_X3_end : GoodIn wsX3_isClear (wsV RX3 80 RX3 yX3_end wsX3_end) := goodIn_app (goodIn_of _ (by decide +kernel)) ggX3_isClear_X3_end
theorem dX3_isClear_0 : decode cX3_isClear 0 = .ok (.aload_n 0, 1) := by decide +kernel
theorem dX3_isClear_1 : decode cX3_isClear 1 = .ok (.iload_n 1, 1) := by decide +kernel
theorem dX3_isClear_2 : decode cX3_isClear 2 = .ok (.iload_n 2, 1) := by decide +kernel
theorem dX3_isClear_3 : decode cX3_isClear 3 = .ok (.iload_n 3, 1) := by decide +kernel
theorem dX3_isClear_4 : decode cX3_isClear 4 = .ok (.invokevirtual 62, 3) := by decide +kernel
theorem dX3_isClear_7 : decode cX3_isClear 7 = .ok (.istore 4, 2) := by decide +kernel
theorem dX3_isClear_9 : decode cX3_isClear 9 = .ok (.iconst 1, 1) := by decide +kernel
theorem dX3_isClear_10 : decode cX3_isClear 10 = .ok (.istore 5, 2) := by decide +kernel
theorem dX3_isClear_12 : decode cX3_isClear 12 = .ok (.iconst 0, 1) := by decide +kernel
theorem dX3_isClear_13 : decode cX3_isClear 13 = .ok (.istore 6, 2) := by decide +kernel
theorem dX3_isClear_15 : decode cX3_isClear 15 = .ok (.iload 6, 2) := by decide +kernel
theorem dX3_isClear_17 : decode cX3_isClear 17 = .ok (.aload_n 0, 1) := by decide +kernel
theorem dX3_isClear_18 : decode cX3_isClear 18 = .ok (.getfield 42, 3) := by decide +kernel
theorem dX3_isClear_21 : decode cX3_isClear 21 = .ok (.if_icmp .ge 111, 3) := by decide +kernel
theorem dX3_isClear_24 : decode cX3_isClear 24 = .ok (.aload_n 0, 1) := by decide +kernel
theorem dX3_isClear_25 : decode cX3_isClear 25 = .ok (.getfield 29, 3) := by decide +kernel
theorem dX3_isClear_28 : decode cX3_isClear 28 = .ok (.iload 6, 2) := by decide +kernel
theorem dX3_isClear_30 : decode cX3_isClear 30 = .ok (.iaload, 1) := by decide +kernel
theorem dX3_isClear_31 : decode cX3_isClear 31 = .ok (.iconst (-1), 1) := by decide +kernel
theorem dX3_isClear_32 : decode cX3_isClear 32 = .ok (.if_icmp .eq 29, 3) := by decide +kernel
theorem dX3_isClear_35 : decode cX3_isClear 35 = .ok (.aload_n 0, 1) := by decide +kernel
theorem dX3_isClear_36 : decode cX3_isClear 36 = .ok (.getfield 29, 3) := by decide +kernel
theorem dX3_isClear_39 : decode cX3_isClear 39 = .ok (.iload 6, 2) := by decide +kernel
theorem dX3_isClear_41 : decode cX3_isClear 41 = .ok (.iaload, 1) := by decide +kernel
theorem dX3_isClear_42 : decode cX3_isClear 42 = .ok (.iload_n 2, 1) := by decide +kernel
theorem dX3_isClear_43 : decode cX3_isClear 43 = .ok (.if_icmp .ge 18, 3) := by decide +kernel
theorem dX3_isClear_46 : decode cX3_isClear 46 = .ok (.aload_n 0, 1) := by decide +kernel
theorem dX3_isClear_47 : decode cX3_isClear 47 = .ok (.iload 6, 2) := by decide +kernel
theorem dX3_isClear_49 : decode cX3_isClear 49 = .ok (.invokevirtual 80, 3) := by decide +kernel
theorem dX3_isClear_52 : decode cX3_isClear 52 = .ok (.iload 4, 2) := by decide +kernel
theorem dX3_isClear_54 : decode cX3_isClear 54 = .ok (.if_icmp .lt 7, 3) := by decide +kernel
theorem dX3_isClear_57 : decode cX3_isClear 57 = .ok (.iconst 1, 1) := by decide +kernel
theorem dX3_isClear_58 : decode cX3_isClear 58 = .ok (.goto 4, 3) := by decide +kernel
theorem dX3_isClear_61 : decode cX3_isClear 61 = .ok (.iconst 0, 1) := by decide +kernel
theorem dX3_isClear_62 : decode cX3_isClear 62 = .ok (.istore 7, 2) := by decide +kernel
theorem dX3_isClear_64 : decode cX3_isClear 64 = .ok (.aload_n 0, 1) := by decide +kernel
theorem dX3_isClear_65 : decode cX3_isClear 65 = .ok (.getfield 29, 3) := by decide +kernel
theorem dX3_isClear_68 : decode cX3_isClear 68 = .ok (.iload 6, 2) := by decide +kernel
theorem dX3_isClear_70 : decode cX3_isClear 70 = .ok (.iaload, 1) := by decide +kernel
theorem dX3_isClear_71 : decode cX3_isClear 71 = .ok (.iconst (-1), 1) := by decide +kernel
theorem dX3_isClear_72 : decode cX3_isClear 72 = .ok (.if_icmp .eq 29, 3) := by decide +kernel
theorem dX3_isClear_75 : decode cX3_isClear 75 = .ok (.aload_n 0, 1) := by decide +kernel
theorem dX3_isClear_76 : decode cX3_isClear 76 = .ok (.getfield 29, 3) := by decide +kernel
theorem dX3_isClear_79 : decode cX3_isClear 79 = .ok (.iload 6, 2) := by decide +kernel
theorem dX3_isClear_81 : decode cX3_isClear 81 = .ok (.iaload, 1) := by decide +kernel
theorem dX3_isClear_82 : decode cX3_isClear 82 = .ok (.iload_n 2, 1) := by decide +kernel
theorem dX3_isClear_83 : decode cX3_isClear 83 = .ok (.if_icmp .le 18, 3) := by decide +kernel
theorem dX3_isClear_86 : decode cX3_isClear 86 = .ok (.iload 4, 2) := by decide +kernel
theorem dX3_isClear_88 : decode cX3_isClear 88 = .ok (.aload_n 0, 1) := by decide +kernel
theorem dX3_isClear_89 : decode cX3_isClear 89 = .ok (.iload 6, 2) := by decide +kernel
theorem dX3_isClear_91 : decode cX3_isClear 91 = .ok (.invokevirtual 80, 3) := by decide +kernel
theorem dX3_isClear_94 : decode cX3_isClear 94 = .ok (.if_icmp .lt 7, 3) := by decide +kernel
theorem dX3_isClear_97 : decode cX3_isClear 97 = .ok (.iconst 1, 1) := by decide +kernel
theorem dX3_isClear_98 : decode cX3_isClear 98 = .ok (.goto 4, 3) := by decide +kernel
theorem dX3_isClear_101 : decode cX3_isClear 101 = .ok (.iconst 0, 1) := by decide +kernel
theorem dX3_isClear_102 : decode cX3_isClear 102 = .ok (.istore 8, 2) := by decide +kernel
theorem dX3_isClear_104 : decode cX3_isClear 104 = .ok (.iload 5, 2) := by decide +kernel
theorem dX3_isClear_106 : decode cX3_isClear 106 = .ok (.ifCond .eq 17, 3) := by decide +kernel
theorem dX3_isClear_109 : decode cX3_isClear 109 = .ok (.iload 7, 2) := by decide +kernel
theorem dX3_isClear_111 : decode cX3_isClear 111 = .ok (.ifCond .ne 12, 3) := by decide +kernel
theorem dX3_isClear_114 : decode cX3_isClear 114 = .ok (.iload 8, 2) := by decide +kernel
theorem dX3_isClear_116 : decode cX3_isClear 116 = .ok (.ifCond .ne 7, 3) := by decide +kernel
theorem dX3_isClear_119 : decode cX3_isClear 119 = .ok (.iconst 1, 1) := by decide +kernel
theorem dX3_isClear_120 : decode cX3_isClear 120 = .ok (.goto 4, 3) := by decide +kernel
theorem dX3_isClear_123 : decode cX3_isClear 123 = .ok (.iconst 0, 1) := by decide +kernel
theorem dX3_isClear_124 : decode cX3_isClear 124 = .ok (.istore 5, 2) := by decide +kernel
theorem dX3_isClear_126 : decode cX3_isClear 126 = .ok (.iinc 6 1, 3) := by decide +kernel
theorem dX3_isClear_129 : decode cX3_isClear 129 = .ok (.goto (-114), 3) := by decide +kernel
theorem dX3_isClear_132 : decode cX3_isClear 132 = .ok (.iload 5, 2) := by decide +kernel
theorem dX3_isClear_134 : decode cX3_isClear 134 = .ok (.ireturn, 1) := by decide +kernel
set_option maxRecDepth 20000 in
theorem ggX3_fly_X3_isKite : GoodIn wsX3_fly wsX3_isKite := goodIn_r _ [10, 11, 12, 13, 9, 14, 51, 52, 53, 54, 55, 56, 57, 58, 59, 60, 61, 62, 63, 64, 65, 66] (by decide +kernel) (by decide +kernel)
set_option maxRecDepth 20000 in
theorem gX3_fly_X3_isKite : GoodIn wsX3_fly (wsV RX3 70 RX3 yX3_isKite wsX3_isKite) := goodIn_app (goodIn_of _ (by decide +kernel)) ggX3_fly_X3_isKite
set_option maxRecDepth 20000 in
theorem ggX3_fly_X3_isLane : GoodIn wsX3_fly wsX3_isLane := goodIn_r _ [17, 12, 13, 9, 14] (by decide +kernel) (by decide +kernel)
set_option maxRecDepth 20000 in
theorem gX3_fly_X3_isLane : GoodIn wsX3_fly (va_wsS RX3 83 yX3_isLane wsX3_isLane) := goodIn_app (goodIn_of _ (by decide +kernel)) ggX3_fly_X3_isLane
set_option maxRecDepth 20000 in
theorem ggX3_fly_X3_isIn : GoodIn wsX3_fly wsX3_isIn := goodIn_r _ [14] (by decide +kernel) (by decide +kernel)
set_option maxRecDepth 20000 in
theorem gX3_fly_X3_isIn : GoodIn wsX3_fly (va_wsS RX3 45 yX3_isIn wsX3_isIn) := goodIn_app (goodIn_of _ (by decide +kernel)) ggX3_fly_X3_isIn
set_option maxRecDepth 20000 in
theorem ggX3_fly_X3_isHeld : GoodIn wsX3_fly wsX3_isHeld := goodIn_r _ [21, 22, 23, 24, 9, 25, 26, 27, 28, 12, 13, 14, 51, 52, 53, 54, 55, 56, 57, 58, 59, 60, 61, 62, 63, 64, 65, 66] (by decide +kernel) (by decide +kernel)
set_option maxRecDepth 20000 in
theorem gX3_fly_X3_isHeld : GoodIn wsX3_fly (wsV RX3 86 RX3 yX3_isHeld wsX3_isHeld) := goodIn_app (goodIn_of _ (by decide +kernel)) ggX3_fly_X3_isHeld
set_option maxRecDepth 20000 in
theorem ggX3_fly_X3_inLane : GoodIn wsX3_fly wsX3_inLane := goodIn_r _ [32, 11, 3, 51, 52, 53, 54, 55, 56, 57, 58, 59, 60, 61, 62, 63, 64, 65, 66] (by decide +kernel) (by decide +kernel)
set_option maxRecDepth 20000 in
theorem gX3_fly_X3_inLane : GoodIn wsX3_fly (wsV RX3 90 RX3 yX3_inLane wsX3_inLane) := goodIn_app (goodIn_of _ (by decide +kernel)) ggX3_fly_X3_inLane
set_option maxRecDepth 20000 in
theorem ggX3_fly_X3_isClear : GoodIn wsX3_fly wsX3_isClear := goodIn_r _ [36, 11, 3, 37, 38, 39, 9, 40, 41, 4, 22, 23, 24, 25, 26, 27, 28, 42, 43, 44, 45, 5, 51, 52, 53, 54, 55, 56, 57, 58, 59, 60, 61, 62, 63, 64, 65, 66] (by decide +kernel) (by decide +kernel)
set_option maxRecDepth 20000 in
theorem gX3_fly_X3_isClear : GoodIn wsX3_fly (wsV RX3 93 RX3 yX3_isClear wsX3_isClear) := goodIn_app (goodIn_of _ (by decide +kernel)) ggX3_fly_X3_isClear
set_option maxRecDepth 20000 in
theorem ggX3_fly_X3_holds : GoodIn wsX3_fly wsX3_holds := goodIn_r _ [49, 50, 51, 52, 53, 54, 55, 56, 57, 58, 59, 60, 61, 62, 63, 64, 65, 66] (by decide +kernel) (by decide +kernel)
set_option maxRecDepth 20000 in
theorem gX3_fly_X3_holds : GoodIn wsX3_fly (wsV RX3 66 RX3 yX3_holds wsX3_holds) := goodIn_app (goodIn_of _ (by decide +kernel)) ggX3_fly_X3_holds
set_option maxRecDepth 20000 in
theorem ggX3_fly_X3_end : GoodIn wsX3_fly wsX3_end := goodIn_r _ [45, 3, 5, 37, 38, 39, 9, 40, 41, 4, 22, 23, 24, 25, 26, 27, 28, 51, 52, 53, 54, 55, 56, 57, 58, 59, 60, 61, 62, 63, 64, 65, 66] (by decide +kernel) (by decide +kernel)
set_option maxRecDepth 20000 in
theorem gX3_fly_X3_end : GoodIn wsX3_fly (wsV RX3 80 RX3 yX3_end wsX3_end) := goodIn_app (goodIn_of _ (by decide +kernel)) ggX3_fly_X3_end
theorem dX3_fly_0 : decode cX3_fly 0 = .ok (.aload_n 0, 1) := by decide +kernel
theorem dX3_fly_1 : decode cX3_fly 1 = .ok (.iload_n 1, 1) := by decide +kernel
theorem dX3_fly_2 : decode cX3_fly 2 = .ok (.invokevirtual 70, 3) := by decide +kernel
theorem dX3_fly_5 : decode cX3_fly 5 = .ok (.ifCond .eq 14, 3) := by decide +kernel
theorem dX3_fly_8 : decode cX3_fly 8 = .ok (.iload_n 2, 1) := by decide +kernel
theorem dX3_fly_9 : decode cX3_fly 9 = .ok (.invokestatic 83, 3) := by decide +kernel
theorem dX3_fly_12 : decode cX3_fly 12 = .ok (.ifCond .eq 7, 3) := by decide +kernel
theorem dX3_fly_15 : decode cX3_fly 15 = .ok (.iconst 1, 1) := by decide +kernel
theorem dX3_fly_16 : decode cX3_fly 16 = .ok (.goto 4, 3) := by decide +kernel
theorem dX3_fly_19 : decode cX3_fly 19 = .ok (.iconst 0, 1) := by decide +kernel
theorem dX3_fly_20 : decode cX3_fly 20 = .ok (.istore 4, 2) := by decide +kernel
theorem dX3_fly_22 : decode cX3_fly 22 = .ok (.iload_n 3, 1) := by decide +kernel
theorem dX3_fly_23 : decode cX3_fly 23 = .ok (.bipush 10, 2) := by decide +kernel
theorem dX3_fly_25 : decode cX3_fly 25 = .ok (.bipush 100, 2) := by decide +kernel
theorem dX3_fly_27 : decode cX3_fly 27 = .ok (.invokestatic 45, 3) := by decide +kernel
theorem dX3_fly_30 : decode cX3_fly 30 = .ok (.istore 5, 2) := by decide +kernel
theorem dX3_fly_32 : decode cX3_fly 32 = .ok (.iload 4, 2) := by decide +kernel
theorem dX3_fly_34 : decode cX3_fly 34 = .ok (.ifCond .eq 72, 3) := by decide +kernel
theorem dX3_fly_37 : decode cX3_fly 37 = .ok (.iload 5, 2) := by decide +kernel
theorem dX3_fly_39 : decode cX3_fly 39 = .ok (.ifCond .eq 67, 3) := by decide +kernel
theorem dX3_fly_42 : decode cX3_fly 42 = .ok (.aload_n 0, 1) := by decide +kernel
theorem dX3_fly_43 : decode cX3_fly 43 = .ok (.getfield 26, 3) := by decide +kernel
theorem dX3_fly_46 : decode cX3_fly 46 = .ok (.iload_n 1, 1) := by decide +kernel
theorem dX3_fly_47 : decode cX3_fly 47 = .ok (.iaload, 1) := by decide +kernel
theorem dX3_fly_48 : decode cX3_fly 48 = .ok (.iconst (-1), 1) := by decide +kernel
theorem dX3_fly_49 : decode cX3_fly 49 = .ok (.if_icmp .eq 57, 3) := by decide +kernel
theorem dX3_fly_52 : decode cX3_fly 52 = .ok (.aload_n 0, 1) := by decide +kernel
theorem dX3_fly_53 : decode cX3_fly 53 = .ok (.getfield 19, 3) := by decide +kernel
theorem dX3_fly_56 : decode cX3_fly 56 = .ok (.iload_n 1, 1) := by decide +kernel
theorem dX3_fly_57 : decode cX3_fly 57 = .ok (.baload, 1) := by decide +kernel
theorem dX3_fly_58 : decode cX3_fly 58 = .ok (.ifCond .ne 48, 3) := by decide +kernel
theorem dX3_fly_61 : decode cX3_fly 61 = .ok (.aload_n 0, 1) := by decide +kernel
theorem dX3_fly_62 : decode cX3_fly 62 = .ok (.getfield 29, 3) := by decide +kernel
theorem dX3_fly_65 : decode cX3_fly 65 = .ok (.iload_n 1, 1) := by decide +kernel
theorem dX3_fly_66 : decode cX3_fly 66 = .ok (.iaload, 1) := by decide +kernel
theorem dX3_fly_67 : decode cX3_fly 67 = .ok (.iconst (-1), 1) := by decide +kernel
theorem dX3_fly_68 : decode cX3_fly 68 = .ok (.if_icmp .ne 38, 3) := by decide +kernel
theorem dX3_fly_71 : decode cX3_fly 71 = .ok (.aload_n 0, 1) := by decide +kernel
theorem dX3_fly_72 : decode cX3_fly 72 = .ok (.iload_n 1, 1) := by decide +kernel
theorem dX3_fly_73 : decode cX3_fly 73 = .ok (.aload_n 0, 1) := by decide +kernel
theorem dX3_fly_74 : decode cX3_fly 74 = .ok (.getfield 59, 3) := by decide +kernel
theorem dX3_fly_77 : decode cX3_fly 77 = .ok (.invokevirtual 86, 3) := by decide +kernel
theorem dX3_fly_80 : decode cX3_fly 80 = .ok (.ifCond .eq 26, 3) := by decide +kernel
theorem dX3_fly_83 : decode cX3_fly 83 = .ok (.aload_n 0, 1) := by decide +kernel
theorem dX3_fly_84 : decode cX3_fly 84 = .ok (.iload_n 2, 1) := by decide +kernel
theorem dX3_fly_85 : decode cX3_fly 85 = .ok (.invokevirtual 90, 3) := by decide +kernel
theorem dX3_fly_88 : decode cX3_fly 88 = .ok (.iconst (-1), 1) := by decide +kernel
theorem dX3_fly_89 : decode cX3_fly 89 = .ok (.if_icmp .ne 17, 3) := by decide +kernel
theorem dX3_fly_92 : decode cX3_fly 92 = .ok (.aload_n 0, 1) := by decide +kernel
theorem dX3_fly_93 : decode cX3_fly 93 = .ok (.iload_n 1, 1) := by decide +kernel
theorem dX3_fly_94 : decode cX3_fly 94 = .ok (.iload_n 2, 1) := by decide +kernel
theorem dX3_fly_95 : decode cX3_fly 95 = .ok (.iload_n 3, 1) := by decide +kernel
theorem dX3_fly_96 : decode cX3_fly 96 = .ok (.invokevirtual 93, 3) := by decide +kernel
theorem dX3_fly_99 : decode cX3_fly 99 = .ok (.ifCond .eq 7, 3) := by decide +kernel
theorem dX3_fly_102 : decode cX3_fly 102 = .ok (.iconst 1, 1) := by decide +kernel
theorem dX3_fly_103 : decode cX3_fly 103 = .ok (.goto 4, 3) := by decide +kernel
theorem dX3_fly_106 : decode cX3_fly 106 = .ok (.iconst 0, 1) := by decide +kernel
theorem dX3_fly_107 : decode cX3_fly 107 = .ok (.istore 6, 2) := by decide +kernel
theorem dX3_fly_109 : decode cX3_fly 109 = .ok (.aload_n 0, 1) := by decide +kernel
theorem dX3_fly_110 : decode cX3_fly 110 = .ok (.iload 4, 2) := by decide +kernel
theorem dX3_fly_112 : decode cX3_fly 112 = .ok (.ifCond .ne 7, 3) := by decide +kernel
theorem dX3_fly_115 : decode cX3_fly 115 = .ok (.iconst 1, 1) := by decide +kernel
theorem dX3_fly_116 : decode cX3_fly 116 = .ok (.goto 22, 3) := by decide +kernel
theorem dX3_fly_119 : decode cX3_fly 119 = .ok (.iload 5, 2) := by decide +kernel
theorem dX3_fly_121 : decode cX3_fly 121 = .ok (.ifCond .ne 7, 3) := by decide +kernel
theorem dX3_fly_124 : decode cX3_fly 124 = .ok (.iconst 2, 1) := by decide +kernel
theorem dX3_fly_125 : decode cX3_fly 125 = .ok (.goto 13, 3) := by decide +kernel
theorem dX3_fly_128 : decode cX3_fly 128 = .ok (.iload 6, 2) := by decide +kernel
theorem dX3_fly_130 : decode cX3_fly 130 = .ok (.ifCond .eq 7, 3) := by decide +kernel
theorem dX3_fly_133 : decode cX3_fly 133 = .ok (.iconst 0, 1) := by decide +kernel
theorem dX3_fly_134 : decode cX3_fly 134 = .ok (.goto 4, 3) := by decide +kernel
theorem dX3_fly_137 : decode cX3_fly 137 = .ok (.iconst 3, 1) := by decide +kernel
theorem dX3_fly_138 : decode cX3_fly 138 = .ok (.invokevirtual 66, 3) := by decide +kernel
theorem dX3_fly_141 : decode cX3_fly 141 = .ok (.ifCond .ne 5, 3) := by decide +kernel
theorem dX3_fly_144 : decode cX3_fly 144 = .ok (.iconst 0, 1) := by decide +kernel
theorem dX3_fly_145 : decode cX3_fly 145 = .ok (.ireturn, 1) := by decide +kernel
theorem dX3_fly_146 : decode cX3_fly 146 = .ok (.aload_n 0, 1) := by decide +kernel
theorem dX3_fly_147 : decode cX3_fly 147 = .ok (.getfield 29, 3) := by decide +kernel
theorem dX3_fly_150 : decode cX3_fly 150 = .ok (.iload_n 1, 1) := by decide +kernel
theorem dX3_fly_151 : decode cX3_fly 151 = .ok (.iload_n 2, 1) := by decide +kernel
theorem dX3_fly_152 : decode cX3_fly 152 = .ok (.iastore, 1) := by decide +kernel
theorem dX3_fly_153 : decode cX3_fly 153 = .ok (.aload_n 0, 1) := by decide +kernel
theorem dX3_fly_154 : decode cX3_fly 154 = .ok (.getfield 32, 3) := by decide +kernel
theorem dX3_fly_157 : decode cX3_fly 157 = .ok (.iload_n 1, 1) := by decide +kernel
theorem dX3_fly_158 : decode cX3_fly 158 = .ok (.iload_n 3, 1) := by decide +kernel
theorem dX3_fly_159 : decode cX3_fly 159 = .ok (.iastore, 1) := by decide +kernel
theorem dX3_fly_160 : decode cX3_fly 160 = .ok (.aload_n 0, 1) := by decide +kernel
theorem dX3_fly_161 : decode cX3_fly 161 = .ok (.iload_n 1, 1) := by decide +kernel
theorem dX3_fly_162 : decode cX3_fly 162 = .ok (.invokevirtual 80, 3) := by decide +kernel
theorem dX3_fly_165 : decode cX3_fly 165 = .ok (.ireturn, 1) := by decide +kernel
set_option maxRecDepth 20000 in
theorem ggX3_land_X3_isKite : GoodIn wsX3_land wsX3_isKite := goodIn_r _ [6, 7, 8, 9, 5, 10, 16, 17, 18, 19, 20, 21, 22, 23, 24, 25, 26, 27, 28, 29, 30, 31] (by decide +kernel) (by decide +kernel)
set_option maxRecDepth 20000 in
theorem gX3_land_X3_isKite : GoodIn wsX3_land (wsV RX3 70 RX3 yX3_isKite wsX3_isKite) := goodIn_app (goodIn_of _ (by decide +kernel)) ggX3_land_X3_isKite
set_option maxRecDepth 20000 in
theorem ggX3_land_X3_holds : GoodIn wsX3_land wsX3_holds := goodIn_r _ [14, 15, 16, 17, 18, 19, 20, 21, 22, 23, 24, 25, 26, 27, 28, 29, 30, 31] (by decide +kernel) (by decide +kernel)
set_option maxRecDepth 20000 in
theorem gX3_land_X3_holds : GoodIn wsX3_land (wsV RX3 66 RX3 yX3_holds wsX3_holds) := goodIn_app (goodIn_of _ (by decide +kernel)) ggX3_land_X3_holds
theorem dX3_land_0 : decode cX3_land 0 = .ok (.aload_n 0, 1) := by decide +kernel
theorem dX3_land_1 : decode cX3_land 1 = .ok (.iload_n 1, 1) := by decide +kernel
theorem dX3_land_2 : decode cX3_land 2 = .ok (.invokevirtual 70, 3) := by decide +kernel
theorem dX3_land_5 : decode cX3_land 5 = .ok (.istore_n 2, 1) := by decide +kernel
theorem dX3_land_6 : decode cX3_land 6 = .ok (.aload_n 0, 1) := by decide +kernel
theorem dX3_land_7 : decode cX3_land 7 = .ok (.iload_n 2, 1) := by decide +kernel
theorem dX3_land_8 : decode cX3_land 8 = .ok (.ifCond .ne 7, 3) := by decide +kernel
theorem dX3_land_11 : decode cX3_land 11 = .ok (.iconst 1, 1) := by decide +kernel
theorem dX3_land_12 : decode cX3_land 12 = .ok (.goto 18, 3) := by decide +kernel
theorem dX3_land_15 : decode cX3_land 15 = .ok (.aload_n 0, 1) := by decide +kernel
theorem dX3_land_16 : decode cX3_land 16 = .ok (.getfield 29, 3) := by decide +kernel
theorem dX3_land_19 : decode cX3_land 19 = .ok (.iload_n 1, 1) := by decide +kernel
theorem dX3_land_20 : decode cX3_land 20 = .ok (.iaload, 1) := by decide +kernel
theorem dX3_land_21 : decode cX3_land 21 = .ok (.iconst (-1), 1) := by decide +kernel
theorem dX3_land_22 : decode cX3_land 22 = .ok (.if_icmp .ne 7, 3) := by decide +kernel
theorem dX3_land_25 : decode cX3_land 25 = .ok (.iconst 2, 1) := by decide +kernel
theorem dX3_land_26 : decode cX3_land 26 = .ok (.goto 4, 3) := by decide +kernel
theorem dX3_land_29 : decode cX3_land 29 = .ok (.iconst 0, 1) := by decide +kernel
theorem dX3_land_30 : decode cX3_land 30 = .ok (.invokevirtual 66, 3) := by decide +kernel
theorem dX3_land_33 : decode cX3_land 33 = .ok (.ifCond .ne 5, 3) := by decide +kernel
theorem dX3_land_36 : decode cX3_land 36 = .ok (.iconst 0, 1) := by decide +kernel
theorem dX3_land_37 : decode cX3_land 37 = .ok (.ireturn, 1) := by decide +kernel
theorem dX3_land_38 : decode cX3_land 38 = .ok (.aload_n 0, 1) := by decide +kernel
theorem dX3_land_39 : decode cX3_land 39 = .ok (.getfield 29, 3) := by decide +kernel
theorem dX3_land_42 : decode cX3_land 42 = .ok (.iload_n 1, 1) := by decide +kernel
theorem dX3_land_43 : decode cX3_land 43 = .ok (.iaload, 1) := by decide +kernel
theorem dX3_land_44 : decode cX3_land 44 = .ok (.istore_n 3, 1) := by decide +kernel
theorem dX3_land_45 : decode cX3_land 45 = .ok (.aload_n 0, 1) := by decide +kernel
theorem dX3_land_46 : decode cX3_land 46 = .ok (.getfield 29, 3) := by decide +kernel
theorem dX3_land_49 : decode cX3_land 49 = .ok (.iload_n 1, 1) := by decide +kernel
theorem dX3_land_50 : decode cX3_land 50 = .ok (.iconst (-1), 1) := by decide +kernel
theorem dX3_land_51 : decode cX3_land 51 = .ok (.iastore, 1) := by decide +kernel
theorem dX3_land_52 : decode cX3_land 52 = .ok (.iload_n 3, 1) := by decide +kernel
theorem dX3_land_53 : decode cX3_land 53 = .ok (.ireturn, 1) := by decide +kernel
theorem dX3_comesDown_0 : decode cX3_comesDown 0 = .ok (.aload_n 0, 1) := by decide +kernel
theorem dX3_comesDown_1 : decode cX3_comesDown 1 = .ok (.getfield 29, 3) := by decide +kernel
theorem dX3_comesDown_4 : decode cX3_comesDown 4 = .ok (.iload_n 1, 1) := by decide +kernel
theorem dX3_comesDown_5 : decode cX3_comesDown 5 = .ok (.iconst (-1), 1) := by decide +kernel
theorem dX3_comesDown_6 : decode cX3_comesDown 6 = .ok (.iastore, 1) := by decide +kernel
theorem dX3_comesDown_7 : decode cX3_comesDown 7 = .ok (.aload_n 0, 1) := by decide +kernel
theorem dX3_comesDown_8 : decode cX3_comesDown 8 = .ok (.dup, 1) := by decide +kernel
theorem dX3_comesDown_9 : decode cX3_comesDown 9 = .ok (.getfield 96, 3) := by decide +kernel
theorem dX3_comesDown_12 : decode cX3_comesDown 12 = .ok (.iconst 1, 1) := by decide +kernel
theorem dX3_comesDown_13 : decode cX3_comesDown 13 = .ok (.iadd, 1) := by decide +kernel
theorem dX3_comesDown_14 : decode cX3_comesDown 14 = .ok (.putfield 96, 3) := by decide +kernel
theorem dX3_comesDown_17 : decode cX3_comesDown 17 = .ok (.return_, 1) := by decide +kernel
set_option maxRecDepth 20000 in
theorem ggX3_crossing_X3_inLane : GoodIn wsX3_crossing wsX3_inLane := goodIn_r _ [6, 7, 8, 26, 27, 28, 29, 30, 31, 32, 33, 34, 35, 36, 37, 38, 39, 40, 41] (by decide +kernel) (by decide +kernel)
set_option maxRecDepth 20000 in
theorem gX3_crossing_X3_inLane : GoodIn wsX3_crossing (wsV RX3 90 RX3 yX3_inLane wsX3_inLane) := goodIn_app (goodIn_of _ (by decide +kernel)) ggX3_crossing_X3_inLane
set_option maxRecDepth 20000 in
theorem ggX3_crossing_X3_end : GoodIn wsX3_crossing wsX3_end := goodIn_r _ [12, 8, 13, 14, 15, 16, 5, 17, 18, 1, 19, 20, 21, 22, 23, 24, 25, 26, 27, 28, 29, 30, 31, 32, 33, 34, 35, 36, 37, 38, 39, 40, 41] (by decide +kernel) (by decide +kernel)
set_option maxRecDepth 20000 in
theorem gX3_crossing_X3_end : GoodIn wsX3_crossing (wsV RX3 80 RX3 yX3_end wsX3_end) := goodIn_app (goodIn_of _ (by decide +kernel)) ggX3_crossing_X3_end
set_option maxRecDepth 20000 in
theorem ggX3_crossing_X3_pullIn : GoodIn wsX3_crossing wsX3_pullIn := goodIn_r _ [22, 23, 24, 25, 26, 27, 28, 29, 30, 31, 32, 33, 34, 35, 36, 37, 38, 39, 40, 41] (by decide +kernel) (by decide +kernel)
set_option maxRecDepth 20000 in
theorem gX3_crossing_X3_pullIn : GoodIn wsX3_crossing (wsV RX3 52 RX3 yX3_pullIn wsX3_pullIn) := goodIn_app (goodIn_of _ (by decide +kernel)) ggX3_crossing_X3_pullIn
theorem dX3_crossing_0 : decode cX3_crossing 0 = .ok (.iconst 0, 1) := by decide +kernel
theorem dX3_crossing_1 : decode cX3_crossing 1 = .ok (.istore_n 1, 1) := by decide +kernel
theorem dX3_crossing_2 : decode cX3_crossing 2 = .ok (.iload_n 1, 1) := by decide +kernel
theorem dX3_crossing_3 : decode cX3_crossing 3 = .ok (.bipush 10, 2) := by decide +kernel
theorem dX3_crossing_5 : decode cX3_crossing 5 = .ok (.if_icmp .ge 92, 3) := by decide +kernel
theorem dX3_crossing_8 : decode cX3_crossing 8 = .ok (.iload_n 1, 1) := by decide +kernel
theorem dX3_crossing_9 : decode cX3_crossing 9 = .ok (.iconst 1, 1) := by decide +kernel
theorem dX3_crossing_10 : decode cX3_crossing 10 = .ok (.iadd, 1) := by decide +kernel
theorem dX3_crossing_11 : decode cX3_crossing 11 = .ok (.istore_n 2, 1) := by decide +kernel
theorem dX3_crossing_12 : decode cX3_crossing 12 = .ok (.iload_n 2, 1) := by decide +kernel
theorem dX3_crossing_13 : decode cX3_crossing 13 = .ok (.bipush 10, 2) := by decide +kernel
theorem dX3_crossing_15 : decode cX3_crossing 15 = .ok (.if_icmp .ge 76, 3) := by decide +kernel
theorem dX3_crossing_18 : decode cX3_crossing 18 = .ok (.aload_n 0, 1) := by decide +kernel
theorem dX3_crossing_19 : decode cX3_crossing 19 = .ok (.iload_n 1, 1) := by decide +kernel
theorem dX3_crossing_20 : decode cX3_crossing 20 = .ok (.invokevirtual 90, 3) := by decide +kernel
theorem dX3_crossing_23 : decode cX3_crossing 23 = .ok (.istore_n 3, 1) := by decide +kernel
theorem dX3_crossing_24 : decode cX3_crossing 24 = .ok (.aload_n 0, 1) := by decide +kernel
theorem dX3_crossing_25 : decode cX3_crossing 25 = .ok (.iload_n 2, 1) := by decide +kernel
theorem dX3_crossing_26 : decode cX3_crossing 26 = .ok (.invokevirtual 90, 3) := by decide +kernel
theorem dX3_crossing_29 : decode cX3_crossing 29 = .ok (.istore 4, 2) := by decide +kernel
theorem dX3_crossing_31 : decode cX3_crossing 31 = .ok (.iload_n 3, 1) := by decide +kernel
theorem dX3_crossing_32 : decode cX3_crossing 32 = .ok (.iconst (-1), 1) := by decide +kernel
theorem dX3_crossing_33 : decode cX3_crossing 33 = .ok (.if_icmp .eq 52, 3) := by decide +kernel
theorem dX3_crossing_36 : decode cX3_crossing 36 = .ok (.iload 4, 2) := by decide +kernel
theorem dX3_crossing_38 : decode cX3_crossing 38 = .ok (.iconst (-1), 1) := by decide +kernel
theorem dX3_crossing_39 : decode cX3_crossing 39 = .ok (.if_icmp .eq 46, 3) := by decide +kernel
theorem dX3_crossing_42 : decode cX3_crossing 42 = .ok (.aload_n 0, 1) := by decide +kernel
theorem dX3_crossing_43 : decode cX3_crossing 43 = .ok (.iload_n 3, 1) := by decide +kernel
theorem dX3_crossing_44 : decode cX3_crossing 44 = .ok (.invokevirtual 80, 3) := by decide +kernel
theorem dX3_crossing_47 : decode cX3_crossing 47 = .ok (.aload_n 0, 1) := by decide +kernel
theorem dX3_crossing_48 : decode cX3_crossing 48 = .ok (.iload 4, 2) := by decide +kernel
theorem dX3_crossing_50 : decode cX3_crossing 50 = .ok (.invokevirtual 80, 3) := by decide +kernel
theorem dX3_crossing_53 : decode cX3_crossing 53 = .ok (.if_icmp .lt 32, 3) := by decide +kernel
theorem dX3_crossing_56 : decode cX3_crossing 56 = .ok (.aload_n 0, 1) := by decide +kernel
theorem dX3_crossing_57 : decode cX3_crossing 57 = .ok (.iload_n 3, 1) := by decide +kernel
theorem dX3_crossing_58 : decode cX3_crossing 58 = .ok (.aload_n 0, 1) := by decide +kernel
theorem dX3_crossing_59 : decode cX3_crossing 59 = .ok (.getfield 59, 3) := by decide +kernel
theorem dX3_crossing_62 : decode cX3_crossing 62 = .ok (.invokevirtual 52, 3) := by decide +kernel
theorem dX3_crossing_65 : decode cX3_crossing 65 = .ok (.aload_n 0, 1) := by decide +kernel
theorem dX3_crossing_66 : decode cX3_crossing 66 = .ok (.iload 4, 2) := by decide +kernel
theorem dX3_crossing_68 : decode cX3_crossing 68 = .ok (.aload_n 0, 1) := by decide +kernel
theorem dX3_crossing_69 : decode cX3_crossing 69 = .ok (.getfield 59, 3) := by decide +kernel
theorem dX3_crossing_72 : decode cX3_crossing 72 = .ok (.invokevirtual 52, 3) := by decide +kernel
theorem dX3_crossing_75 : decode cX3_crossing 75 = .ok (.if_icmp .ge 7, 3) := by decide +kernel
theorem dX3_crossing_78 : decode cX3_crossing 78 = .ok (.iload_n 3, 1) := by decide +kernel
theorem dX3_crossing_79 : decode cX3_crossing 79 = .ok (.goto 5, 3) := by decide +kernel
theorem dX3_crossing_82 : decode cX3_crossing 82 = .ok (.iload 4, 2) := by decide +kernel
theorem dX3_crossing_84 : decode cX3_crossing 84 = .ok (.ireturn, 1) := by decide +kernel
theorem dX3_crossing_85 : decode cX3_crossing 85 = .ok (.iinc 2 1, 3) := by decide +kernel
theorem dX3_crossing_88 : decode cX3_crossing 88 = .ok (.goto (-76), 3) := by decide +kernel
theorem dX3_crossing_91 : decode cX3_crossing 91 = .ok (.iinc 1 1, 3) := by decide +kernel
theorem dX3_crossing_94 : decode cX3_crossing 94 = .ok (.goto (-92), 3) := by decide +kernel
theorem dX3_crossing_97 : decode cX3_crossing 97 = .ok (.iconst (-1), 1) := by decide +kernel
theorem dX3_crossing_98 : decode cX3_crossing 98 = .ok (.ireturn, 1) := by decide +kernel
set_option maxRecDepth 20000 in
theorem ggX3_wind_X3_isIn : GoodIn wsX3_wind wsX3_isIn := goodIn_r _ [10] (by decide +kernel) (by decide +kernel)
set_option maxRecDepth 20000 in
theorem gX3_wind_X3_isIn : GoodIn wsX3_wind (va_wsS RX3 45 yX3_isIn wsX3_isIn) := goodIn_app (goodIn_of _ (by decide +kernel)) ggX3_wind_X3_isIn
set_option maxRecDepth 20000 in
theorem ggX3_wind_X3_holds : GoodIn wsX3_wind wsX3_holds := goodIn_r _ [14, 15, 48, 49, 50, 51, 52, 53, 54, 55, 56, 57, 58, 59, 60, 61, 62, 63] (by decide +kernel) (by decide +kernel)
set_option maxRecDepth 20000 in
theorem gX3_wind_X3_holds : GoodIn wsX3_wind (wsV RX3 66 RX3 yX3_holds wsX3_holds) := goodIn_app (goodIn_of _ (by decide +kernel)) ggX3_wind_X3_holds
set_option maxRecDepth 20000 in
theorem ggX3_wind_X3_isHeld : GoodIn wsX3_wind wsX3_isHeld := goodIn_r _ [19, 20, 21, 22, 9, 23, 24, 25, 26, 7, 8, 10, 48, 49, 50, 51, 52, 53, 54, 55, 56, 57, 58, 59, 60, 61, 62, 63] (by decide +kernel) (by decide +kernel)
set_option maxRecDepth 20000 in
theorem gX3_wind_X3_isHeld : GoodIn wsX3_wind (wsV RX3 86 RX3 yX3_isHeld wsX3_isHeld) := goodIn_app (goodIn_of _ (by decide +kernel)) ggX3_wind_X3_isHeld
set_option maxRecDepth 20000 in
theorem ggX3_wind_X3_pullIn : GoodIn wsX3_wind wsX3_pullIn := goodIn_r _ [23, 24, 25, 26, 48, 49, 50, 51, 52, 53, 54, 55, 56, 57, 58, 59, 60, 61, 62, 63] (by decide +kernel) (by decide +kernel)
set_option maxRecDepth 20000 in
theorem gX3_wind_X3_pullIn : GoodIn wsX3_wind (wsV RX3 52 RX3 yX3_pullIn wsX3_pullIn) := goodIn_app (goodIn_of _ (by decide +kernel)) ggX3_wind_X3_pullIn
set_option maxRecDepth 20000 in
theorem ggX3_wind_X3_comesDown : GoodIn wsX3_wind wsX3_comesDown := goodIn_r _ [30, 5, 1, 48, 49, 50, 51, 52, 53, 54, 55, 56, 57, 58, 59, 60, 61, 62, 63] (by decide +kernel) (by decide +kernel)
set_option maxRecDepth 20000 in
theorem gX3_wind_X3_comesDown : GoodIn wsX3_wind (wsV RX3 99 RX3 yX3_comesDown wsX3_comesDown) := goodIn_app (goodIn_of _ (by decide +kernel)) ggX3_wind_X3_comesDown
set_option maxRecDepth 20000 in
theorem ggX3_wind_X3_crossing : GoodIn wsX3_wind wsX3_crossing := goodIn_r _ [34, 2, 35, 36, 37, 9, 38, 4, 5, 39, 40, 41, 42, 43, 44, 45, 46, 47, 3, 20, 21, 22, 23, 24, 25, 26, 48, 49, 50, 51, 52, 53, 54, 55, 56, 57, 58, 59, 60, 61, 62, 63] (by decide +kernel) (by decide +kernel)
set_option maxRecDepth 20000 in
theorem gX3_wind_X3_crossing : GoodIn wsX3_wind (wsV RX3 103 RX3 yX3_crossing wsX3_crossing) := goodIn_app (goodIn_of _ (by decide +kernel)) ggX3_wind_X3_crossing
theorem dX3_wind_0 : decode cX3_wind 0 = .ok (.aload_n 0, 1) := by decide +kernel
theorem dX3_wind_1 : decode cX3_wind 1 = .ok (.iload_n 1, 1) := by decide +kernel
theorem dX3_wind_2 : decode cX3_wind 2 = .ok (.iconst 0, 1) := by decide +kernel
theorem dX3_wind_3 : decode cX3_wind 3 = .ok (.bipush 30, 2) := by decide +kernel
theorem dX3_wind_5 : decode cX3_wind 5 = .ok (.invokestatic 45, 3) := by decide +kernel
theorem dX3_wind_8 : decode cX3_wind 8 = .ok (.ifCond .eq 17, 3) := by decide +kernel
theorem dX3_wind_11 : decode cX3_wind 11 = .ok (.iload_n 2, 1) := by decide +kernel
theorem dX3_wind_12 : decode cX3_wind 12 = .ok (.bipush (-5), 2) := by decide +kernel
theorem dX3_wind_14 : decode cX3_wind 14 = .ok (.iconst 5, 1) := by decide +kernel
theorem dX3_wind_15 : decode cX3_wind 15 = .ok (.invokestatic 45, 3) := by decide +kernel
theorem dX3_wind_18 : decode cX3_wind 18 = .ok (.ifCond .eq 7, 3) := by decide +kernel
theorem dX3_wind_21 : decode cX3_wind 21 = .ok (.iconst 0, 1) := by decide +kernel
theorem dX3_wind_22 : decode cX3_wind 22 = .ok (.goto 4, 3) := by decide +kernel
theorem dX3_wind_25 : decode cX3_wind 25 = .ok (.iconst 1, 1) := by decide +kernel
theorem dX3_wind_26 : decode cX3_wind 26 = .ok (.invokevirtual 66, 3) := by decide +kernel
theorem dX3_wind_29 : decode cX3_wind 29 = .ok (.ifCond .ne 5, 3) := by decide +kernel
theorem dX3_wind_32 : decode cX3_wind 32 = .ok (.iconst 0, 1) := by decide +kernel
theorem dX3_wind_33 : decode cX3_wind 33 = .ok (.ireturn, 1) := by decide +kernel
theorem dX3_wind_34 : decode cX3_wind 34 = .ok (.aload_n 0, 1) := by decide +kernel
theorem dX3_wind_35 : decode cX3_wind 35 = .ok (.getfield 96, 3) := by decide +kernel
theorem dX3_wind_38 : decode cX3_wind 38 = .ok (.istore_n 3, 1) := by decide +kernel
theorem dX3_wind_39 : decode cX3_wind 39 = .ok (.aload_n 0, 1) := by decide +kernel
theorem dX3_wind_40 : decode cX3_wind 40 = .ok (.iload_n 1, 1) := by decide +kernel
theorem dX3_wind_41 : decode cX3_wind 41 = .ok (.putfield 59, 3) := by decide +kernel
theorem dX3_wind_44 : decode cX3_wind 44 = .ok (.aload_n 0, 1) := by decide +kernel
theorem dX3_wind_45 : decode cX3_wind 45 = .ok (.iload_n 2, 1) := by decide +kernel
theorem dX3_wind_46 : decode cX3_wind 46 = .ok (.putfield 56, 3) := by decide +kernel
theorem dX3_wind_49 : decode cX3_wind 49 = .ok (.iconst 0, 1) := by decide +kernel
theorem dX3_wind_50 : decode cX3_wind 50 = .ok (.istore 4, 2) := by decide +kernel
theorem dX3_wind_52 : decode cX3_wind 52 = .ok (.iload 4, 2) := by decide +kernel
theorem dX3_wind_54 : decode cX3_wind 54 = .ok (.aload_n 0, 1) := by decide +kernel
theorem dX3_wind_55 : decode cX3_wind 55 = .ok (.getfield 42, 3) := by decide +kernel
theorem dX3_wind_58 : decode cX3_wind 58 = .ok (.if_icmp .ge 67, 3) := by decide +kernel
theorem dX3_wind_61 : decode cX3_wind 61 = .ok (.aload_n 0, 1) := by decide +kernel
theorem dX3_wind_62 : decode cX3_wind 62 = .ok (.getfield 29, 3) := by decide +kernel
theorem dX3_wind_65 : decode cX3_wind 65 = .ok (.iload 4, 2) := by decide +kernel
theorem dX3_wind_67 : decode cX3_wind 67 = .ok (.iaload, 1) := by decide +kernel
theorem dX3_wind_68 : decode cX3_wind 68 = .ok (.iconst (-1), 1) := by decide +kernel
theorem dX3_wind_69 : decode cX3_wind 69 = .ok (.if_icmp .eq 50, 3) := by decide +kernel
theorem dX3_wind_72 : decode cX3_wind 72 = .ok (.aload_n 0, 1) := by decide +kernel
theorem dX3_wind_73 : decode cX3_wind 73 = .ok (.iload 4, 2) := by decide +kernel
theorem dX3_wind_75 : decode cX3_wind 75 = .ok (.aload_n 0, 1) := by decide +kernel
theorem dX3_wind_76 : decode cX3_wind 76 = .ok (.getfield 59, 3) := by decide +kernel
theorem dX3_wind_79 : decode cX3_wind 79 = .ok (.invokevirtual 86, 3) := by decide +kernel
theorem dX3_wind_82 : decode cX3_wind 82 = .ok (.ifCond .ne 37, 3) := by decide +kernel
theorem dX3_wind_85 : decode cX3_wind 85 = .ok (.aload_n 0, 1) := by decide +kernel
theorem dX3_wind_86 : decode cX3_wind 86 = .ok (.getfield 19, 3) := by decide +kernel
theorem dX3_wind_89 : decode cX3_wind 89 = .ok (.iload 4, 2) := by decide +kernel
theorem dX3_wind_91 : decode cX3_wind 91 = .ok (.aload_n 0, 1) := by decide +kernel
theorem dX3_wind_92 : decode cX3_wind 92 = .ok (.iload 4, 2) := by decide +kernel
theorem dX3_wind_94 : decode cX3_wind 94 = .ok (.aload_n 0, 1) := by decide +kernel
theorem dX3_wind_95 : decode cX3_wind 95 = .ok (.getfield 59, 3) := by decide +kernel
theorem dX3_wind_98 : decode cX3_wind 98 = .ok (.invokevirtual 52, 3) := by decide +kernel
theorem dX3_wind_101 : decode cX3_wind 101 = .ok (.sipush 6000, 3) := by decide +kernel
theorem dX3_wind_104 : decode cX3_wind 104 = .ok (.if_icmp .le 7, 3) := by decide +kernel
theorem dX3_wind_107 : decode cX3_wind 107 = .ok (.iconst 1, 1) := by decide +kernel
theorem dX3_wind_108 : decode cX3_wind 108 = .ok (.goto 4, 3) := by decide +kernel
theorem dX3_wind_111 : decode cX3_wind 111 = .ok (.iconst 0, 1) := by decide +kernel
theorem dX3_wind_112 : decode cX3_wind 112 = .ok (.bastore, 1) := by decide +kernel
theorem dX3_wind_113 : decode cX3_wind 113 = .ok (.aload_n 0, 1) := by decide +kernel
theorem dX3_wind_114 : decode cX3_wind 114 = .ok (.iload 4, 2) := by decide +kernel
theorem dX3_wind_116 : decode cX3_wind 116 = .ok (.invokevirtual 99, 3) := by decide +kernel
theorem dX3_wind_119 : decode cX3_wind 119 = .ok (.iinc 4 1, 3) := by decide +kernel
theorem dX3_wind_122 : decode cX3_wind 122 = .ok (.goto (-70), 3) := by decide +kernel
theorem dX3_wind_125 : decode cX3_wind 125 = .ok (.aload_n 0, 1) := by decide +kernel
theorem dX3_wind_126 : decode cX3_wind 126 = .ok (.invokevirtual 103, 3) := by decide +kernel
theorem dX3_wind_129 : decode cX3_wind 129 = .ok (.istore 4, 2) := by decide +kernel
theorem dX3_wind_131 : decode cX3_wind 131 = .ok (.iload 4, 2) := by decide +kernel
theorem dX3_wind_133 : decode cX3_wind 133 = .ok (.iconst (-1), 1) := by decide +kernel
theorem dX3_wind_134 : decode cX3_wind 134 = .ok (.if_icmp .eq 18, 3) := by decide +kernel
theorem dX3_wind_137 : decode cX3_wind 137 = .ok (.aload_n 0, 1) := by decide +kernel
theorem dX3_wind_138 : decode cX3_wind 138 = .ok (.iload 4, 2) := by decide +kernel
theorem dX3_wind_140 : decode cX3_wind 140 = .ok (.invokevirtual 99, 3) := by decide +kernel
theorem dX3_wind_143 : decode cX3_wind 143 = .ok (.aload_n 0, 1) := by decide +kernel
theorem dX3_wind_144 : decode cX3_wind 144 = .ok (.invokevirtual 103, 3) := by decide +kernel
theorem dX3_wind_147 : decode cX3_wind 147 = .ok (.istore 4, 2) := by decide +kernel
theorem dX3_wind_149 : decode cX3_wind 149 = .ok (.goto (-18), 3) := by decide +kernel
theorem dX3_wind_152 : decode cX3_wind 152 = .ok (.aload_n 0, 1) := by decide +kernel
theorem dX3_wind_153 : decode cX3_wind 153 = .ok (.getfield 96, 3) := by decide +kernel
theorem dX3_wind_156 : decode cX3_wind 156 = .ok (.iload_n 3, 1) := by decide +kernel
theorem dX3_wind_157 : decode cX3_wind 157 = .ok (.isub, 1) := by decide +kernel
theorem dX3_wind_158 : decode cX3_wind 158 = .ok (.ireturn, 1) := by decide +kernel
theorem dX3_rain_0 : decode cX3_rain 0 = .ok (.aload_n 0, 1) := by decide +kernel
theorem dX3_rain_1 : decode cX3_rain 1 = .ok (.iconst 0, 1) := by decide +kernel
theorem dX3_rain_2 : decode cX3_rain 2 = .ok (.putfield 38, 3) := by decide +kernel
theorem dX3_rain_5 : decode cX3_rain 5 = .ok (.aload_n 0, 1) := by decide +kernel
theorem dX3_rain_6 : decode cX3_rain 6 = .ok (.getfield 107, 3) := by decide +kernel
theorem dX3_rain_9 : decode cX3_rain 9 = .ok (.istore_n 2, 1) := by decide +kernel
theorem dX3_rain_10 : decode cX3_rain 10 = .ok (.aload_n 0, 1) := by decide +kernel
theorem dX3_rain_11 : decode cX3_rain 11 = .ok (.iload_n 1, 1) := by decide +kernel
theorem dX3_rain_12 : decode cX3_rain 12 = .ok (.putfield 107, 3) := by decide +kernel
theorem dX3_rain_15 : decode cX3_rain 15 = .ok (.iload_n 2, 1) := by decide +kernel
theorem dX3_rain_16 : decode cX3_rain 16 = .ok (.ireturn, 1) := by decide +kernel
set_option maxRecDepth 20000 in
theorem ggX3_pass_X3_isIn : GoodIn wsX3_pass wsX3_isIn := goodIn_r _ [8] (by decide +kernel) (by decide +kernel)
set_option maxRecDepth 20000 in
theorem gX3_pass_X3_isIn : GoodIn wsX3_pass (va_wsS RX3 45 yX3_isIn wsX3_isIn) := goodIn_app (goodIn_of _ (by decide +kernel)) ggX3_pass_X3_isIn
set_option maxRecDepth 20000 in
theorem ggX3_pass_X3_holds : GoodIn wsX3_pass wsX3_holds := goodIn_r _ [12, 13, 14, 15, 16, 17, 18, 19, 20, 21, 22, 23, 24, 25, 26, 27, 28, 29] (by decide +kernel) (by decide +kernel)
set_option maxRecDepth 20000 in
theorem gX3_pass_X3_holds : GoodIn wsX3_pass (wsV RX3 66 RX3 yX3_holds wsX3_holds) := goodIn_app (goodIn_of _ (by decide +kernel)) ggX3_pass_X3_holds
theorem dX3_pass_0 : decode cX3_pass 0 = .ok (.aload_n 0, 1) := by decide +kernel
theorem dX3_pass_1 : decode cX3_pass 1 = .ok (.iload_n 1, 1) := by decide +kernel
theorem dX3_pass_2 : decode cX3_pass 2 = .ok (.iconst 1, 1) := by decide +kernel
theorem dX3_pass_3 : decode cX3_pass 3 = .ok (.bipush 24, 2) := by decide +kernel
theorem dX3_pass_5 : decode cX3_pass 5 = .ok (.invokestatic 45, 3) := by decide +kernel
theorem dX3_pass_8 : decode cX3_pass 8 = .ok (.ifCond .eq 7, 3) := by decide +kernel
theorem dX3_pass_11 : decode cX3_pass 11 = .ok (.iconst 0, 1) := by decide +kernel
theorem dX3_pass_12 : decode cX3_pass 12 = .ok (.goto 4, 3) := by decide +kernel
theorem dX3_pass_15 : decode cX3_pass 15 = .ok (.iconst 1, 1) := by decide +kernel
theorem dX3_pass_16 : decode cX3_pass 16 = .ok (.invokevirtual 66, 3) := by decide +kernel
theorem dX3_pass_19 : decode cX3_pass 19 = .ok (.ifCond .ne 5, 3) := by decide +kernel
theorem dX3_pass_22 : decode cX3_pass 22 = .ok (.iconst 0, 1) := by decide +kernel
theorem dX3_pass_23 : decode cX3_pass 23 = .ok (.ireturn, 1) := by decide +kernel
theorem dX3_pass_24 : decode cX3_pass 24 = .ok (.iconst 0, 1) := by decide +kernel
theorem dX3_pass_25 : decode cX3_pass 25 = .ok (.istore_n 2, 1) := by decide +kernel
theorem dX3_pass_26 : decode cX3_pass 26 = .ok (.iconst 0, 1) := by decide +kernel
theorem dX3_pass_27 : decode cX3_pass 27 = .ok (.istore_n 3, 1) := by decide +kernel
theorem dX3_pass_28 : decode cX3_pass 28 = .ok (.iload_n 3, 1) := by decide +kernel
theorem dX3_pass_29 : decode cX3_pass 29 = .ok (.aload_n 0, 1) := by decide +kernel
theorem dX3_pass_30 : decode cX3_pass 30 = .ok (.getfield 42, 3) := by decide +kernel
theorem dX3_pass_33 : decode cX3_pass 33 = .ok (.if_icmp .ge 88, 3) := by decide +kernel
theorem dX3_pass_36 : decode cX3_pass 36 = .ok (.aload_n 0, 1) := by decide +kernel
theorem dX3_pass_37 : decode cX3_pass 37 = .ok (.getfield 107, 3) := by decide +kernel
theorem dX3_pass_40 : decode cX3_pass 40 = .ok (.ifCond .eq 17, 3) := by decide +kernel
theorem dX3_pass_43 : decode cX3_pass 43 = .ok (.aload_n 0, 1) := by decide +kernel
theorem dX3_pass_44 : decode cX3_pass 44 = .ok (.getfield 29, 3) := by decide +kernel
theorem dX3_pass_47 : decode cX3_pass 47 = .ok (.iload_n 3, 1) := by decide +kernel
theorem dX3_pass_48 : decode cX3_pass 48 = .ok (.iaload, 1) := by decide +kernel
theorem dX3_pass_49 : decode cX3_pass 49 = .ok (.iconst (-1), 1) := by decide +kernel
theorem dX3_pass_50 : decode cX3_pass 50 = .ok (.if_icmp .eq 7, 3) := by decide +kernel
theorem dX3_pass_53 : decode cX3_pass 53 = .ok (.iconst 1, 1) := by decide +kernel
theorem dX3_pass_54 : decode cX3_pass 54 = .ok (.goto 4, 3) := by decide +kernel
theorem dX3_pass_57 : decode cX3_pass 57 = .ok (.iconst 0, 1) := by decide +kernel
theorem dX3_pass_58 : decode cX3_pass 58 = .ok (.istore 4, 2) := by decide +kernel
theorem dX3_pass_60 : decode cX3_pass 60 = .ok (.aload_n 0, 1) := by decide +kernel
theorem dX3_pass_61 : decode cX3_pass 61 = .ok (.getfield 23, 3) := by decide +kernel
theorem dX3_pass_64 : decode cX3_pass 64 = .ok (.iload_n 3, 1) := by decide +kernel
theorem dX3_pass_65 : decode cX3_pass 65 = .ok (.iload 4, 2) := by decide +kernel
theorem dX3_pass_67 : decode cX3_pass 67 = .ok (.ifCond .eq 8, 3) := by decide +kernel
theorem dX3_pass_70 : decode cX3_pass 70 = .ok (.bipush 6, 2) := by decide +kernel
theorem dX3_pass_72 : decode cX3_pass 72 = .ok (.goto 25, 3) := by decide +kernel
theorem dX3_pass_75 : decode cX3_pass 75 = .ok (.aload_n 0, 1) := by decide +kernel
theorem dX3_pass_76 : decode cX3_pass 76 = .ok (.getfield 23, 3) := by decide +kernel
theorem dX3_pass_79 : decode cX3_pass 79 = .ok (.iload_n 3, 1) := by decide +kernel
theorem dX3_pass_80 : decode cX3_pass 80 = .ok (.iaload, 1) := by decide +kernel
theorem dX3_pass_81 : decode cX3_pass 81 = .ok (.iload_n 1, 1) := by decide +kernel
theorem dX3_pass_82 : decode cX3_pass 82 = .ok (.if_icmp .le 14, 3) := by decide +kernel
theorem dX3_pass_85 : decode cX3_pass 85 = .ok (.aload_n 0, 1) := by decide +kernel
theorem dX3_pass_86 : decode cX3_pass 86 = .ok (.getfield 23, 3) := by decide +kernel
theorem dX3_pass_89 : decode cX3_pass 89 = .ok (.iload_n 3, 1) := by decide +kernel
theorem dX3_pass_90 : decode cX3_pass 90 = .ok (.iaload, 1) := by decide +kernel
theorem dX3_pass_91 : decode cX3_pass 91 = .ok (.iload_n 1, 1) := by decide +kernel
theorem dX3_pass_92 : decode cX3_pass 92 = .ok (.isub, 1) := by decide +kernel
theorem dX3_pass_93 : decode cX3_pass 93 = .ok (.goto 4, 3) := by decide +kernel
theorem dX3_pass_96 : decode cX3_pass 96 = .ok (.iconst 0, 1) := by decide +kernel
theorem dX3_pass_97 : decode cX3_pass 97 = .ok (.iastore, 1) := by decide +kernel
theorem dX3_pass_98 : decode cX3_pass 98 = .ok (.iload_n 2, 1) := by decide +kernel
theorem dX3_pass_99 : decode cX3_pass 99 = .ok (.aload_n 0, 1) := by decide +kernel
theorem dX3_pass_100 : decode cX3_pass 100 = .ok (.getfield 23, 3) := by decide +kernel
theorem dX3_pass_103 : decode cX3_pass 103 = .ok (.iload_n 3, 1) := by decide +kernel
theorem dX3_pass_104 : decode cX3_pass 104 = .ok (.iaload, 1) := by decide +kernel
theorem dX3_pass_105 : decode cX3_pass 105 = .ok (.ifCond .le 7, 3) := by decide +kernel
theorem dX3_pass_108 : decode cX3_pass 108 = .ok (.iconst 1, 1) := by decide +kernel
theorem dX3_pass_109 : decode cX3_pass 109 = .ok (.goto 4, 3) := by decide +kernel
theorem dX3_pass_112 : decode cX3_pass 112 = .ok (.iconst 0, 1) := by decide +kernel
theorem dX3_pass_113 : decode cX3_pass 113 = .ok (.iadd, 1) := by decide +kernel
theorem dX3_pass_114 : decode cX3_pass 114 = .ok (.istore_n 2, 1) := by decide +kernel
theorem dX3_pass_115 : decode cX3_pass 115 = .ok (.iinc 3 1, 3) := by decide +kernel
theorem dX3_pass_118 : decode cX3_pass 118 = .ok (.goto (-90), 3) := by decide +kernel
theorem dX3_pass_121 : decode cX3_pass 121 = .ok (.iload_n 2, 1) := by decide +kernel
theorem dX3_pass_122 : decode cX3_pass 122 = .ok (.ireturn, 1) := by decide +kernel
set_option maxRecDepth 20000 in
theorem ggX3_pull_X3_isKite : GoodIn wsX3_pull wsX3_isKite := goodIn_r _ [5, 6, 7, 8, 4, 9, 22, 23, 24, 25, 26, 27, 28, 29, 30, 31, 32, 33, 34, 35, 36, 37] (by decide +kernel) (by decide +kernel)
set_option maxRecDepth 20000 in
theorem gX3_pull_X3_isKite : GoodIn wsX3_pull (wsV RX3 70 RX3 yX3_isKite wsX3_isKite) := goodIn_app (goodIn_of _ (by decide +kernel)) ggX3_pull_X3_isKite
set_option maxRecDepth 20000 in
theorem ggX3_pull_X3_isIn : GoodIn wsX3_pull wsX3_isIn := goodIn_r _ [9] (by decide +kernel) (by decide +kernel)
set_option maxRecDepth 20000 in
theorem gX3_pull_X3_isIn : GoodIn wsX3_pull (va_wsS RX3 45 yX3_isIn wsX3_isIn) := goodIn_app (goodIn_of _ (by decide +kernel)) ggX3_pull_X3_isIn
set_option maxRecDepth 20000 in
theorem ggX3_pull_X3_holds : GoodIn wsX3_pull wsX3_holds := goodIn_r _ [13, 14, 22, 23, 24, 25, 26, 27, 28, 29, 30, 31, 32, 33, 34, 35, 36, 37] (by decide +kernel) (by decide +kernel)
set_option maxRecDepth 20000 in
theorem gX3_pull_X3_holds : GoodIn wsX3_pull (wsV RX3 66 RX3 yX3_holds wsX3_holds) := goodIn_app (goodIn_of _ (by decide +kernel)) ggX3_pull_X3_holds
set_option maxRecDepth 20000 in
theorem ggX3_pull_X3_pullIn : GoodIn wsX3_pull wsX3_pullIn := goodIn_r _ [18, 19, 20, 21, 22, 23, 24, 25, 26, 27, 28, 29, 30, 31, 32, 33, 34, 35, 36, 37] (by decide +kernel) (by decide +kernel)
set_option maxRecDepth 20000 in
theorem gX3_pull_X3_pullIn : GoodIn wsX3_pull (wsV RX3 52 RX3 yX3_pullIn wsX3_pullIn) := goodIn_app (goodIn_of _ (by decide +kernel)) ggX3_pull_X3_pullIn
theorem dX3_pull_0 : decode cX3_pull 0 = .ok (.aload_n 0, 1) := by decide +kernel
theorem dX3_pull_1 : decode cX3_pull 1 = .ok (.aload_n 0, 1) := by decide +kernel
theorem dX3_pull_2 : decode cX3_pull 2 = .ok (.iload_n 1, 1) := by decide +kernel
theorem dX3_pull_3 : decode cX3_pull 3 = .ok (.invokevirtual 70, 3) := by decide +kernel
theorem dX3_pull_6 : decode cX3_pull 6 = .ok (.ifCond .ne 7, 3) := by decide +kernel
theorem dX3_pull_9 : decode cX3_pull 9 = .ok (.iconst 1, 1) := by decide +kernel
theorem dX3_pull_10 : decode cX3_pull 10 = .ok (.goto 18, 3) := by decide +kernel
theorem dX3_pull_13 : decode cX3_pull 13 = .ok (.iload_n 2, 1) := by decide +kernel
theorem dX3_pull_14 : decode cX3_pull 14 = .ok (.iconst 0, 1) := by decide +kernel
theorem dX3_pull_15 : decode cX3_pull 15 = .ok (.bipush 30, 2) := by decide +kernel
theorem dX3_pull_17 : decode cX3_pull 17 = .ok (.invokestatic 45, 3) := by decide +kernel
theorem dX3_pull_20 : decode cX3_pull 20 = .ok (.ifCond .eq 7, 3) := by decide +kernel
theorem dX3_pull_23 : decode cX3_pull 23 = .ok (.iconst 0, 1) := by decide +kernel
theorem dX3_pull_24 : decode cX3_pull 24 = .ok (.goto 4, 3) := by decide +kernel
theorem dX3_pull_27 : decode cX3_pull 27 = .ok (.iconst 2, 1) := by decide +kernel
theorem dX3_pull_28 : decode cX3_pull 28 = .ok (.invokevirtual 66, 3) := by decide +kernel
theorem dX3_pull_31 : decode cX3_pull 31 = .ok (.ifCond .ne 5, 3) := by decide +kernel
theorem dX3_pull_34 : decode cX3_pull 34 = .ok (.iconst 0, 1) := by decide +kernel
theorem dX3_pull_35 : decode cX3_pull 35 = .ok (.ireturn, 1) := by decide +kernel
theorem dX3_pull_36 : decode cX3_pull 36 = .ok (.aload_n 0, 1) := by decide +kernel
theorem dX3_pull_37 : decode cX3_pull 37 = .ok (.iload_n 1, 1) := by decide +kernel
theorem dX3_pull_38 : decode cX3_pull 38 = .ok (.iload_n 2, 1) := by decide +kernel
theorem dX3_pull_39 : decode cX3_pull 39 = .ok (.invokevirtual 52, 3) := by decide +kernel
theorem dX3_pull_42 : decode cX3_pull 42 = .ok (.ireturn, 1) := by decide +kernel
set_option maxRecDepth 20000 in
theorem ggX3_pullAnew_X3_pull : GoodIn wsX3_pullAnew wsX3_pull := goodIn_r _ [5, 6, 7, 8, 4, 9, 10, 11, 12, 13, 14, 15, 16, 17, 18, 19, 20, 21, 22, 23, 24, 25, 26, 27, 28, 29, 30, 31, 32, 33, 34, 35, 36, 37, 38, 39, 40, 41] (by decide +kernel) (by decide +kernel)
set_option maxRecDepth 20000 in
theorem gX3_pullAnew_X3_pull : GoodIn wsX3_pullAnew (wsV RX3 111 RX3 yX3_pull wsX3_pull) := goodIn_app (goodIn_of _ (by decide +kernel)) ggX3_pullAnew_X3_pull
theorem dX3_pullAnew_0 : decode cX3_pullAnew 0 = .ok (.aload_n 0, 1) := by decide +kernel
theorem dX3_pullAnew_1 : decode cX3_pullAnew 1 = .ok (.iload_n 1, 1) := by decide +kernel
theorem dX3_pullAnew_2 : decode cX3_pullAnew 2 = .ok (.iload_n 2, 1) := by decide +kernel
theorem dX3_pullAnew_3 : decode cX3_pullAnew 3 = .ok (.invokevirtual 111, 3) := by decide +kernel
theorem dX3_pullAnew_6 : decode cX3_pullAnew 6 = .ok (.ireturn, 1) := by decide +kernel
set_option maxRecDepth 20000 in
theorem ggX3_tension_X3_isKite : GoodIn wsX3_tension wsX3_isKite := goodIn_r _ [8, 9, 10, 11, 7, 12, 36, 37, 38, 39, 40, 41, 42, 43, 44, 45, 46, 47, 48, 49, 50, 51] (by decide +kernel) (by decide +kernel)
set_option maxRecDepth 20000 in
theorem gX3_tension_X3_isKite : GoodIn wsX3_tension (wsV RX3 70 RX3 yX3_isKite wsX3_isKite) := goodIn_app (goodIn_of _ (by decide +kernel)) ggX3_tension_X3_isKite
set_option maxRecDepth 20000 in
theorem ggX3_tension_X3_holds : GoodIn wsX3_tension wsX3_holds := goodIn_r _ [16, 17, 36, 37, 38, 39, 40, 41, 42, 43, 44, 45, 46, 47, 48, 49, 50, 51] (by decide +kernel) (by decide +kernel)
set_option maxRecDepth 20000 in
theorem gX3_tension_X3_holds : GoodIn wsX3_tension (wsV RX3 66 RX3 yX3_holds wsX3_holds) := goodIn_app (goodIn_of _ (by decide +kernel)) ggX3_tension_X3_holds
set_option maxRecDepth 20000 in
theorem ggX3_tension_X3_pullIn : GoodIn wsX3_tension wsX3_pullIn := goodIn_r _ [21, 3, 22, 23, 36, 37, 38, 39, 40, 41, 42, 43, 44, 45, 46, 47, 48, 49, 50, 51] (by decide +kernel) (by decide +kernel)
set_option maxRecDepth 20000 in
theorem gX3_tension_X3_pullIn : GoodIn wsX3_tension (wsV RX3 52 RX3 yX3_pullIn wsX3_pullIn) := goodIn_app (goodIn_of _ (by decide +kernel)) ggX3_tension_X3_pullIn
set_option maxRecDepth 20000 in
theorem ggX3_tension_Jxf58ca_floatToIntBits_5c35a : GoodIn wsX3_tension wsJxf58ca_floatToIntBits_5c35a := goodIn_r _ [27, 28, 29, 30, 31, 32, 33, 34, 26, 35] (by decide +kernel) (by decide +kernel)
set_option maxRecDepth 20000 in
theorem gX3_tension_Jxf58ca_floatToIntBits_5c35a : GoodIn wsX3_tension (va_wsS RX3 115 yJxf58ca_floatToIntBits_5c35a wsJxf58ca_floatToIntBits_5c35a) := goodIn_app (goodIn_of _ (by decide +kernel)) ggX3_tension_Jxf58ca_floatToIntBits_5c35a
theorem dX3_tension_0 : decode cX3_tension 0 = .ok (.aload_n 0, 1) := by decide +kernel
theorem dX3_tension_1 : decode cX3_tension 1 = .ok (.aload_n 0, 1) := by decide +kernel
theorem dX3_tension_2 : decode cX3_tension 2 = .ok (.iload_n 1, 1) := by decide +kernel
theorem dX3_tension_3 : decode cX3_tension 3 = .ok (.invokevirtual 70, 3) := by decide +kernel
theorem dX3_tension_6 : decode cX3_tension 6 = .ok (.ifCond .eq 7, 3) := by decide +kernel
theorem dX3_tension_9 : decode cX3_tension 9 = .ok (.iconst 0, 1) := by decide +kernel
theorem dX3_tension_10 : decode cX3_tension 10 = .ok (.goto 4, 3) := by decide +kernel
theorem dX3_tension_13 : decode cX3_tension 13 = .ok (.iconst 1, 1) := by decide +kernel
theorem dX3_tension_14 : decode cX3_tension 14 = .ok (.invokevirtual 66, 3) := by decide +kernel
theorem dX3_tension_17 : decode cX3_tension 17 = .ok (.ifCond .ne 5, 3) := by decide +kernel
theorem dX3_tension_20 : decode cX3_tension 20 = .ok (.iconst 0, 1) := by decide +kernel
theorem dX3_tension_21 : decode cX3_tension 21 = .ok (.ireturn, 1) := by decide +kernel
theorem dX3_tension_22 : decode cX3_tension 22 = .ok (.aload_n 0, 1) := by decide +kernel
theorem dX3_tension_23 : decode cX3_tension 23 = .ok (.iload_n 1, 1) := by decide +kernel
theorem dX3_tension_24 : decode cX3_tension 24 = .ok (.aload_n 0, 1) := by decide +kernel
theorem dX3_tension_25 : decode cX3_tension 25 = .ok (.getfield 59, 3) := by decide +kernel
theorem dX3_tension_28 : decode cX3_tension 28 = .ok (.invokevirtual 52, 3) := by decide +kernel
theorem dX3_tension_31 : decode cX3_tension 31 = .ok (.i2f, 1) := by decide +kernel
theorem dX3_tension_32 : decode cX3_tension 32 = .ok (.fstore_n 2, 1) := by decide +kernel
theorem dX3_tension_33 : decode cX3_tension 33 = .ok (.fload_n 2, 1) := by decide +kernel
theorem dX3_tension_34 : decode cX3_tension 34 = .ok (.ldc 114, 2) := by decide +kernel
theorem dX3_tension_36 : decode cX3_tension 36 = .ok (.fdiv, 1) := by decide +kernel
theorem dX3_tension_37 : decode cX3_tension 37 = .ok (.aload_n 0, 1) := by decide +kernel
theorem dX3_tension_38 : decode cX3_tension 38 = .ok (.getfield 13, 3) := by decide +kernel
theorem dX3_tension_41 : decode cX3_tension 41 = .ok (.iload_n 1, 1) := by decide +kernel
theorem dX3_tension_42 : decode cX3_tension 42 = .ok (.iaload, 1) := by decide +kernel
theorem dX3_tension_43 : decode cX3_tension 43 = .ok (.i2f, 1) := by decide +kernel
theorem dX3_tension_44 : decode cX3_tension 44 = .ok (.fdiv, 1) := by decide +kernel
theorem dX3_tension_45 : decode cX3_tension 45 = .ok (.invokestatic 115, 3) := by decide +kernel
theorem dX3_tension_48 : decode cX3_tension 48 = .ok (.ireturn, 1) := by decide +kernel
set_option maxRecDepth 20000 in
theorem ggX3_window_X3_isKite : GoodIn wsX3_window wsX3_isKite := goodIn_r _ [5, 6, 7, 8, 4, 9, 26, 27, 28, 29, 30, 31, 32, 33, 34, 35, 36, 37, 38, 39, 40, 41] (by decide +kernel) (by decide +kernel)
set_option maxRecDepth 20000 in
theorem gX3_window_X3_isKite : GoodIn wsX3_window (wsV RX3 70 RX3 yX3_isKite wsX3_isKite) := goodIn_app (goodIn_of _ (by decide +kernel)) ggX3_window_X3_isKite
set_option maxRecDepth 20000 in
theorem ggX3_window_X3_holds : GoodIn wsX3_window wsX3_holds := goodIn_r _ [13, 14, 26, 27, 28, 29, 30, 31, 32, 33, 34, 35, 36, 37, 38, 39, 40, 41] (by decide +kernel) (by decide +kernel)
set_option maxRecDepth 20000 in
theorem gX3_window_X3_holds : GoodIn wsX3_window (wsV RX3 66 RX3 yX3_holds wsX3_holds) := goodIn_app (goodIn_of _ (by decide +kernel)) ggX3_window_X3_holds
set_option maxRecDepth 20000 in
theorem ggX3_window_X3_isHeld : GoodIn wsX3_window wsX3_isHeld := goodIn_r _ [18, 19, 20, 21, 4, 22, 23, 24, 25, 7, 8, 9, 26, 27, 28, 29, 30, 31, 32, 33, 34, 35, 36, 37, 38, 39, 40, 41] (by decide +kernel) (by decide +kernel)
set_option maxRecDepth 20000 in
theorem gX3_window_X3_isHeld : GoodIn wsX3_window (wsV RX3 86 RX3 yX3_isHeld wsX3_isHeld) := goodIn_app (goodIn_of _ (by decide +kernel)) ggX3_window_X3_isHeld
theorem dX3_window_0 : decode cX3_window 0 = .ok (.aload_n 0, 1) := by decide +kernel
theorem dX3_window_1 : decode cX3_window 1 = .ok (.aload_n 0, 1) := by decide +kernel
theorem dX3_window_2 : decode cX3_window 2 = .ok (.iload_n 1, 1) := by decide +kernel
theorem dX3_window_3 : decode cX3_window 3 = .ok (.invokevirtual 70, 3) := by decide +kernel
theorem dX3_window_6 : decode cX3_window 6 = .ok (.ifCond .eq 7, 3) := by decide +kernel
theorem dX3_window_9 : decode cX3_window 9 = .ok (.iconst 0, 1) := by decide +kernel
theorem dX3_window_10 : decode cX3_window 10 = .ok (.goto 4, 3) := by decide +kernel
theorem dX3_window_13 : decode cX3_window 13 = .ok (.iconst 1, 1) := by decide +kernel
theorem dX3_window_14 : decode cX3_window 14 = .ok (.invokevirtual 66, 3) := by decide +kernel
theorem dX3_window_17 : decode cX3_window 17 = .ok (.ifCond .ne 5, 3) := by decide +kernel
theorem dX3_window_20 : decode cX3_window 20 = .ok (.iconst 0, 1) := by decide +kernel
theorem dX3_window_21 : decode cX3_window 21 = .ok (.ireturn, 1) := by decide +kernel
theorem dX3_window_22 : decode cX3_window 22 = .ok (.iconst (-1), 1) := by decide +kernel
theorem dX3_window_23 : decode cX3_window 23 = .ok (.istore_n 3, 1) := by decide +kernel
theorem dX3_window_24 : decode cX3_window 24 = .ok (.iconst 0, 1) := by decide +kernel
theorem dX3_window_25 : decode cX3_window 25 = .ok (.istore 4, 2) := by decide +kernel
theorem dX3_window_27 : decode cX3_window 27 = .ok (.iload 4, 2) := by decide +kernel
theorem dX3_window_29 : decode cX3_window 29 = .ok (.bipush 30, 2) := by decide +kernel
theorem dX3_window_31 : decode cX3_window 31 = .ok (.if_icmp .gt 35, 3) := by decide +kernel
theorem dX3_window_34 : decode cX3_window 34 = .ok (.aload_n 0, 1) := by decide +kernel
theorem dX3_window_35 : decode cX3_window 35 = .ok (.iload_n 1, 1) := by decide +kernel
theorem dX3_window_36 : decode cX3_window 36 = .ok (.iload 4, 2) := by decide +kernel
theorem dX3_window_38 : decode cX3_window 38 = .ok (.invokevirtual 86, 3) := by decide +kernel
theorem dX3_window_41 : decode cX3_window 41 = .ok (.ifCond .eq 17, 3) := by decide +kernel
theorem dX3_window_44 : decode cX3_window 44 = .ok (.iload_n 2, 1) := by decide +kernel
theorem dX3_window_45 : decode cX3_window 45 = .ok (.ifCond .ne 8, 3) := by decide +kernel
theorem dX3_window_48 : decode cX3_window 48 = .ok (.iload_n 3, 1) := by decide +kernel
theorem dX3_window_49 : decode cX3_window 49 = .ok (.iconst (-1), 1) := by decide +kernel
theorem dX3_window_50 : decode cX3_window 50 = .ok (.if_icmp .ne 8, 3) := by decide +kernel
theorem dX3_window_53 : decode cX3_window 53 = .ok (.iload 4, 2) := by decide +kernel
theorem dX3_window_55 : decode cX3_window 55 = .ok (.goto 4, 3) := by decide +kernel
theorem dX3_window_58 : decode cX3_window 58 = .ok (.iload_n 3, 1) := by decide +kernel
theorem dX3_window_59 : decode cX3_window 59 = .ok (.istore_n 3, 1) := by decide +kernel
theorem dX3_window_60 : decode cX3_window 60 = .ok (.iinc 4 1, 3) := by decide +kernel
theorem dX3_window_63 : decode cX3_window 63 = .ok (.goto (-36), 3) := by decide +kernel
theorem dX3_window_66 : decode cX3_window 66 = .ok (.iload_n 3, 1) := by decide +kernel
theorem dX3_window_67 : decode cX3_window 67 = .ok (.ireturn, 1) := by decide +kernel
set_option maxRecDepth 20000 in
theorem ggX3_about_X3_isKite : GoodIn wsX3_about wsX3_isKite := goodIn_r _ [10, 11, 12, 13, 9, 14, 37, 38, 39, 40, 41, 42, 43, 44, 45, 46, 47, 48, 49, 50, 51, 52] (by decide +kernel) (by decide +kernel)
set_option maxRecDepth 20000 in
theorem gX3_about_X3_isKite : GoodIn wsX3_about (wsV RX3 70 RX3 yX3_isKite wsX3_isKite) := goodIn_app (goodIn_of _ (by decide +kernel)) ggX3_about_X3_isKite
set_option maxRecDepth 20000 in
theorem ggX3_about_X3_isIn : GoodIn wsX3_about wsX3_isIn := goodIn_r _ [14] (by decide +kernel) (by decide +kernel)
set_option maxRecDepth 20000 in
theorem gX3_about_X3_isIn : GoodIn wsX3_about (va_wsS RX3 45 yX3_isIn wsX3_isIn) := goodIn_app (goodIn_of _ (by decide +kernel)) ggX3_about_X3_isIn
set_option maxRecDepth 20000 in
theorem ggX3_about_X3_holds : GoodIn wsX3_about wsX3_holds := goodIn_r _ [18, 19, 37, 38, 39, 40, 41, 42, 43, 44, 45, 46, 47, 48, 49, 50, 51, 52] (by decide +kernel) (by decide +kernel)
set_option maxRecDepth 20000 in
theorem gX3_about_X3_holds : GoodIn wsX3_about (wsV RX3 66 RX3 yX3_holds wsX3_holds) := goodIn_app (goodIn_of _ (by decide +kernel)) ggX3_about_X3_holds
set_option maxRecDepth 20000 in
theorem ggX3_about_X3_end : GoodIn wsX3_about wsX3_end := goodIn_r _ [23, 5, 24, 25, 26, 27, 9, 28, 29, 30, 31, 32, 33, 34, 35, 36, 1, 37, 38, 39, 40, 41, 42, 43, 44, 45, 46, 47, 48, 49, 50, 51, 52] (by decide +kernel) (by decide +kernel)
set_option maxRecDepth 20000 in
theorem gX3_about_X3_end : GoodIn wsX3_about (wsV RX3 80 RX3 yX3_end wsX3_end) := goodIn_app (goodIn_of _ (by decide +kernel)) ggX3_about_X3_end
theorem dX3_about_0 : decode cX3_about 0 = .ok (.aload_n 0, 1) := by decide +kernel
theorem dX3_about_1 : decode cX3_about 1 = .ok (.aload_n 0, 1) := by decide +kernel
theorem dX3_about_2 : decode cX3_about 2 = .ok (.iload_n 1, 1) := by decide +kernel
theorem dX3_about_3 : decode cX3_about 3 = .ok (.invokevirtual 70, 3) := by decide +kernel
theorem dX3_about_6 : decode cX3_about 6 = .ok (.ifCond .ne 7, 3) := by decide +kernel
theorem dX3_about_9 : decode cX3_about 9 = .ok (.iconst 1, 1) := by decide +kernel
theorem dX3_about_10 : decode cX3_about 10 = .ok (.goto 17, 3) := by decide +kernel
theorem dX3_about_13 : decode cX3_about 13 = .ok (.iload_n 2, 1) := by decide +kernel
theorem dX3_about_14 : decode cX3_about 14 = .ok (.iconst 0, 1) := by decide +kernel
theorem dX3_about_15 : decode cX3_about 15 = .ok (.iconst 5, 1) := by decide +kernel
theorem dX3_about_16 : decode cX3_about 16 = .ok (.invokestatic 45, 3) := by decide +kernel
theorem dX3_about_19 : decode cX3_about 19 = .ok (.ifCond .eq 7, 3) := by decide +kernel
theorem dX3_about_22 : decode cX3_about 22 = .ok (.iconst 0, 1) := by decide +kernel
theorem dX3_about_23 : decode cX3_about 23 = .ok (.goto 4, 3) := by decide +kernel
theorem dX3_about_26 : decode cX3_about 26 = .ok (.iconst 2, 1) := by decide +kernel
theorem dX3_about_27 : decode cX3_about 27 = .ok (.invokevirtual 66, 3) := by decide +kernel
theorem dX3_about_30 : decode cX3_about 30 = .ok (.ifCond .ne 5, 3) := by decide +kernel
theorem dX3_about_33 : decode cX3_about 33 = .ok (.iconst 0, 1) := by decide +kernel
theorem dX3_about_34 : decode cX3_about 34 = .ok (.ireturn, 1) := by decide +kernel
theorem dX3_about_35 : decode cX3_about 35 = .ok (.iload_n 2, 1) := by decide +kernel
theorem dX3_about_36 : decode cX3_about 36 = .ok (.iconst 3, 1) := by decide +kernel
theorem dX3_about_37 : decode cX3_about 37 = .ok (.if_icmp .ge 45, 3) := by decide +kernel
theorem dX3_about_40 : decode cX3_about 40 = .ok (.iload_n 2, 1) := by decide +kernel
theorem dX3_about_41 : decode cX3_about 41 = .ok (.ifCond .ne 12, 3) := by decide +kernel
theorem dX3_about_44 : decode cX3_about 44 = .ok (.aload_n 0, 1) := by decide +kernel
theorem dX3_about_45 : decode cX3_about 45 = .ok (.getfield 16, 3) := by decide +kernel
theorem dX3_about_48 : decode cX3_about 48 = .ok (.iload_n 1, 1) := by decide +kernel
theorem dX3_about_49 : decode cX3_about 49 = .ok (.iaload, 1) := by decide +kernel
theorem dX3_about_50 : decode cX3_about 50 = .ok (.goto 31, 3) := by decide +kernel
theorem dX3_about_53 : decode cX3_about 53 = .ok (.iload_n 2, 1) := by decide +kernel
theorem dX3_about_54 : decode cX3_about 54 = .ok (.iconst 1, 1) := by decide +kernel
theorem dX3_about_55 : decode cX3_about 55 = .ok (.if_icmp .ne 20, 3) := by decide +kernel
theorem dX3_about_58 : decode cX3_about 58 = .ok (.aload_n 0, 1) := by decide +kernel
theorem dX3_about_59 : decode cX3_about 59 = .ok (.getfield 19, 3) := by decide +kernel
theorem dX3_about_62 : decode cX3_about 62 = .ok (.iload_n 1, 1) := by decide +kernel
theorem dX3_about_63 : decode cX3_about 63 = .ok (.baload, 1) := by decide +kernel
theorem dX3_about_64 : decode cX3_about 64 = .ok (.ifCond .eq 7, 3) := by decide +kernel
theorem dX3_about_67 : decode cX3_about 67 = .ok (.iconst 1, 1) := by decide +kernel
theorem dX3_about_68 : decode cX3_about 68 = .ok (.goto 13, 3) := by decide +kernel
theorem dX3_about_71 : decode cX3_about 71 = .ok (.iconst 0, 1) := by decide +kernel
theorem dX3_about_72 : decode cX3_about 72 = .ok (.goto 9, 3) := by decide +kernel
theorem dX3_about_75 : decode cX3_about 75 = .ok (.aload_n 0, 1) := by decide +kernel
theorem dX3_about_76 : decode cX3_about 76 = .ok (.getfield 23, 3) := by decide +kernel
theorem dX3_about_79 : decode cX3_about 79 = .ok (.iload_n 1, 1) := by decide +kernel
theorem dX3_about_80 : decode cX3_about 80 = .ok (.iaload, 1) := by decide +kernel
theorem dX3_about_81 : decode cX3_about 81 = .ok (.ireturn, 1) := by decide +kernel
theorem dX3_about_82 : decode cX3_about 82 = .ok (.iload_n 2, 1) := by decide +kernel
theorem dX3_about_83 : decode cX3_about 83 = .ok (.iconst 3, 1) := by decide +kernel
theorem dX3_about_84 : decode cX3_about 84 = .ok (.if_icmp .ne 12, 3) := by decide +kernel
theorem dX3_about_87 : decode cX3_about 87 = .ok (.aload_n 0, 1) := by decide +kernel
theorem dX3_about_88 : decode cX3_about 88 = .ok (.getfield 26, 3) := by decide +kernel
theorem dX3_about_91 : decode cX3_about 91 = .ok (.iload_n 1, 1) := by decide +kernel
theorem dX3_about_92 : decode cX3_about 92 = .ok (.iaload, 1) := by decide +kernel
theorem dX3_about_93 : decode cX3_about 93 = .ok (.goto 36, 3) := by decide +kernel
theorem dX3_about_96 : decode cX3_about 96 = .ok (.iload_n 2, 1) := by decide +kernel
theorem dX3_about_97 : decode cX3_about 97 = .ok (.iconst 4, 1) := by decide +kernel
theorem dX3_about_98 : decode cX3_about 98 = .ok (.if_icmp .ne 12, 3) := by decide +kernel
theorem dX3_about_101 : decode cX3_about 101 = .ok (.aload_n 0, 1) := by decide +kernel
theorem dX3_about_102 : decode cX3_about 102 = .ok (.getfield 29, 3) := by decide +kernel
theorem dX3_about_105 : decode cX3_about 105 = .ok (.iload_n 1, 1) := by decide +kernel
theorem dX3_about_106 : decode cX3_about 106 = .ok (.iaload, 1) := by decide +kernel
theorem dX3_about_107 : decode cX3_about 107 = .ok (.goto 22, 3) := by decide +kernel
theorem dX3_about_110 : decode cX3_about 110 = .ok (.aload_n 0, 1) := by decide +kernel
theorem dX3_about_111 : decode cX3_about 111 = .ok (.getfield 29, 3) := by decide +kernel
theorem dX3_about_114 : decode cX3_about 114 = .ok (.iload_n 1, 1) := by decide +kernel
theorem dX3_about_115 : decode cX3_about 115 = .ok (.iaload, 1) := by decide +kernel
theorem dX3_about_116 : decode cX3_about 116 = .ok (.iconst (-1), 1) := by decide +kernel
theorem dX3_about_117 : decode cX3_about 117 = .ok (.if_icmp .ne 7, 3) := by decide +kernel
theorem dX3_about_120 : decode cX3_about 120 = .ok (.iconst (-1), 1) := by decide +kernel
theorem dX3_about_121 : decode cX3_about 121 = .ok (.goto 8, 3) := by decide +kernel
theorem dX3_about_124 : decode cX3_about 124 = .ok (.aload_n 0, 1) := by decide +kernel
theorem dX3_about_125 : decode cX3_about 125 = .ok (.iload_n 1, 1) := by decide +kernel
theorem dX3_about_126 : decode cX3_about 126 = .ok (.invokevirtual 80, 3) := by decide +kernel
theorem dX3_about_129 : decode cX3_about 129 = .ok (.ireturn, 1) := by decide +kernel
set_option maxRecDepth 20000 in
theorem ggX3_lane_X3_isLane : GoodIn wsX3_lane wsX3_isLane := goodIn_r _ [4, 5, 6, 3, 7] (by decide +kernel) (by decide +kernel)
set_option maxRecDepth 20000 in
theorem gX3_lane_X3_isLane : GoodIn wsX3_lane (va_wsS RX3 83 yX3_isLane wsX3_isLane) := goodIn_app (goodIn_of _ (by decide +kernel)) ggX3_lane_X3_isLane
set_option maxRecDepth 20000 in
theorem ggX3_lane_X3_holds : GoodIn wsX3_lane wsX3_holds := goodIn_r _ [11, 12, 19, 20, 21, 22, 23, 24, 25, 26, 27, 28, 29, 30, 31, 32, 33, 34] (by decide +kernel) (by decide +kernel)
set_option maxRecDepth 20000 in
theorem gX3_lane_X3_holds : GoodIn wsX3_lane (wsV RX3 66 RX3 yX3_holds wsX3_holds) := goodIn_app (goodIn_of _ (by decide +kernel)) ggX3_lane_X3_holds
set_option maxRecDepth 20000 in
theorem ggX3_lane_X3_inLane : GoodIn wsX3_lane wsX3_inLane := goodIn_r _ [16, 17, 18, 19, 20, 21, 22, 23, 24, 25, 26, 27, 28, 29, 30, 31, 32, 33, 34] (by decide +kernel) (by decide +kernel)
set_option maxRecDepth 20000 in
theorem gX3_lane_X3_inLane : GoodIn wsX3_lane (wsV RX3 90 RX3 yX3_inLane wsX3_inLane) := goodIn_app (goodIn_of _ (by decide +kernel)) ggX3_lane_X3_inLane
theorem dX3_lane_0 : decode cX3_lane 0 = .ok (.aload_n 0, 1) := by decide +kernel
theorem dX3_lane_1 : decode cX3_lane 1 = .ok (.iload_n 1, 1) := by decide +kernel
theorem dX3_lane_2 : decode cX3_lane 2 = .ok (.invokestatic 83, 3) := by decide +kernel
theorem dX3_lane_5 : decode cX3_lane 5 = .ok (.ifCond .eq 7, 3) := by decide +kernel
theorem dX3_lane_8 : decode cX3_lane 8 = .ok (.iconst 0, 1) := by decide +kernel
theorem dX3_lane_9 : decode cX3_lane 9 = .ok (.goto 4, 3) := by decide +kernel
theorem dX3_lane_12 : decode cX3_lane 12 = .ok (.iconst 1, 1) := by decide +kernel
theorem dX3_lane_13 : decode cX3_lane 13 = .ok (.invokevirtual 66, 3) := by decide +kernel
theorem dX3_lane_16 : decode cX3_lane 16 = .ok (.ifCond .eq 11, 3) := by decide +kernel
theorem dX3_lane_19 : decode cX3_lane 19 = .ok (.aload_n 0, 1) := by decide +kernel
theorem dX3_lane_20 : decode cX3_lane 20 = .ok (.iload_n 1, 1) := by decide +kernel
theorem dX3_lane_21 : decode cX3_lane 21 = .ok (.invokevirtual 90, 3) := by decide +kernel
theorem dX3_lane_24 : decode cX3_lane 24 = .ok (.goto 4, 3) := by decide +kernel
theorem dX3_lane_27 : decode cX3_lane 27 = .ok (.iconst 0, 1) := by decide +kernel
theorem dX3_lane_28 : decode cX3_lane 28 = .ok (.ireturn, 1) := by decide +kernel
theorem dX3_called_0 : decode cX3_called 0 = .ok (.aload_n 0, 1) := by decide +kernel
theorem dX3_called_1 : decode cX3_called 1 = .ok (.iconst 0, 1) := by decide +kernel
theorem dX3_called_2 : decode cX3_called 2 = .ok (.putfield 38, 3) := by decide +kernel
theorem dX3_called_5 : decode cX3_called 5 = .ok (.aload_n 0, 1) := by decide +kernel
theorem dX3_called_6 : decode cX3_called 6 = .ok (.getfield 96, 3) := by decide +kernel
theorem dX3_called_9 : decode cX3_called 9 = .ok (.ireturn, 1) := by decide +kernel
theorem dJxf58ca_isNaN_12338_0 : decode cJxf58ca_isNaN_12338 0 = .ok (.fload_n 0, 1) := by decide +kernel
theorem dJxf58ca_isNaN_12338_1 : decode cJxf58ca_isNaN_12338 1 = .ok (.fload_n 0, 1) := by decide +kernel
theorem dJxf58ca_isNaN_12338_2 : decode cJxf58ca_isNaN_12338 2 = .ok (.fcmp .l, 1) := by decide +kernel
theorem dJxf58ca_isNaN_12338_3 : decode cJxf58ca_isNaN_12338 3 = .ok (.ifCond .eq 7, 3) := by decide +kernel
theorem dJxf58ca_isNaN_12338_6 : decode cJxf58ca_isNaN_12338 6 = .ok (.iconst 1, 1) := by decide +kernel
theorem dJxf58ca_isNaN_12338_7 : decode cJxf58ca_isNaN_12338 7 = .ok (.goto 4, 3) := by decide +kernel
theorem dJxf58ca_isNaN_12338_10 : decode cJxf58ca_isNaN_12338 10 = .ok (.iconst 0, 1) := by decide +kernel
theorem dJxf58ca_isNaN_12338_11 : decode cJxf58ca_isNaN_12338 11 = .ok (.ireturn, 1) := by decide +kernel
set_option maxRecDepth 20000 in
theorem ggJxf58ca_floatToIntBits_5c35a_Jxf58ca_isNaN_12338 : GoodIn wsJxf58ca_floatToIntBits_5c35a wsJxf58ca_isNaN_12338 := goodIn_r _ [9] (by decide +kernel) (by decide +kernel)
set_option maxRecDepth 20000 in
theorem gJxf58ca_floatToIntBits_5c35a_Jxf58ca_isNaN_12338 : GoodIn wsJxf58ca_floatToIntBits_5c35a (va_wsS RJxf58ca 59 yJxf58ca_isNaN_12338 wsJxf58ca_isNaN_12338) := goodIn_app (goodIn_of _ (by decide +kernel)) ggJxf58ca_floatToIntBits_5c35a_Jxf58ca_isNaN_12338
theorem dJxf58ca_floatToIntBits_5c35a_0 : decode cJxf58ca_floatToIntBits_5c35a 0 = .ok (.fload_n 0, 1) := by decide +kernel
theorem dJxf58ca_floatToIntBits_5c35a_1 : decode cJxf58ca_floatToIntBits_5c35a 1 = .ok (.invokestatic 59, 3) := by decide +kernel
theorem dJxf58ca_floatToIntBits_5c35a_4 : decode cJxf58ca_floatToIntBits_5c35a 4 = .ok (.ifCond .ne 8, 3) := by decide +kernel
theorem dJxf58ca_floatToIntBits_5c35a_7 : decode cJxf58ca_floatToIntBits_5c35a 7 = .ok (.fload_n 0, 1) := by decide +kernel
theorem dJxf58ca_floatToIntBits_5c35a_8 : decode cJxf58ca_floatToIntBits_5c35a 8 = .ok (.invokestatic 74, 3) := by decide +kernel
theorem dJxf58ca_floatToIntBits_5c35a_11 : decode cJxf58ca_floatToIntBits_5c35a 11 = .ok (.ireturn, 1) := by decide +kernel
theorem dJxf58ca_floatToIntBits_5c35a_12 : decode cJxf58ca_floatToIntBits_5c35a 12 = .ok (.ldc 77, 2) := by decide +kernel
theorem dJxf58ca_floatToIntBits_5c35a_14 : decode cJxf58ca_floatToIntBits_5c35a 14 = .ok (.ireturn, 1) := by decide +kernel
set_option maxRecDepth 20000 in
theorem ggL_kite_X2_kite : GoodIn wsL_kite wsX2_kite := goodIn_ca (goodIn_ca (goodIn_r _ [7, 8, 9, 10, 11, 12, 13, 14, 15, 16, 17, 18, 6, 19, 20, 21, 22, 23, 24, 25, 26, 27, 28, 29, 30, 31, 32, 33, 34, 35, 36, 37, 38, 39, 40, 41, 42, 43, 44, 45, 46, 47, 48, 49] (by decide +kernel) (by decide +kernel)) (goodIn_sub (fun _ h => List.mem_cons_of_mem _ (List.mem_append_left _ (List.mem_append_right _ h))) (by decide +kernel))) (goodIn_sub (fun _ h => List.mem_cons_of_mem _ (List.mem_append_right _ h)) (by decide +kernel))
set_option maxRecDepth 20000 in
theorem gL_kite_X2_kite : GoodIn wsL_kite (wsV RL 7 RX2 yX2_kite wsX2_kite) := goodIn_app (goodIn_of _ (by decide +kernel)) ggL_kite_X2_kite

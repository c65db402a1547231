set_option maxRecDepth 20000 in
theorem ggX3_init_X1_init : GoodIn wsX3_init wsX1_init := goodIn_r _ [11, 12, 2, 3, 13, 14, 15, 16] (by decide +kernel) (by decide +kernel)
set_option maxRecDepth 20000 in
theorem gX3_init_X1_init_n11 : GoodIn wsX3_init (wsX1_init) := ggX3_init_X1_init
theorem dX3_init_0 : decode cX3_init 0 = .ok (.aload_n 0, 1) := by decide +kernel
theorem dX3_init_1 : decode cX3_init 1 = .ok (.invokespecial 3, 3) := by decide +kernel
theorem dX3_init_4 : decode cX3_init 4 = .ok (.aload_n 0, 1) := by decide +kernel
theorem dX3_init_5 : decode cX3_init 5 = .ok (.new 9, 3) := by decide +kernel
theorem dX3_init_8 : decode cX3_init 8 = .ok (.dup, 1) := by decide +kernel
theorem dX3_init_9 : decode cX3_init 9 = .ok (.invokespecial 11, 3) := by decide +kernel
theorem dX3_init_12 : decode cX3_init 12 = .ok (.putfield 12, 3) := by decide +kernel
theorem dX3_init_15 : decode cX3_init 15 = .ok (.aload_n 0, 1) := by decide +kernel
theorem dX3_init_16 : decode cX3_init 16 = .ok (.iconst (-1), 1) := by decide +kernel
theorem dX3_init_17 : decode cX3_init 17 = .ok (.putfield 18, 3) := by decide +kernel
theorem dX3_init_20 : decode cX3_init 20 = .ok (.aload_n 0, 1) := by decide +kernel
theorem dX3_init_21 : decode cX3_init 21 = .ok (.aload_n 1, 1) := by decide +kernel
theorem dX3_init_22 : decode cX3_init 22 = .ok (.putfield 22, 3) := by decide +kernel
theorem dX3_init_25 : decode cX3_init 25 = .ok (.return_, 1) := by decide +kernel
set_option maxRecDepth 20000 in
theorem ggX3_collect_X1_add : GoodIn wsX3_collect wsX1_add := goodIn_r _ [7, 8, 9, 14, 15] (by decide +kernel) (by decide +kernel)
set_option maxRecDepth 20000 in
theorem gX3_collect_X1_add : GoodIn wsX3_collect (wsV RX3 26 RX1 yX1_add wsX1_add) := goodIn_app (goodIn_of _ (by decide +kernel)) ggX3_collect_X1_add
theorem dX3_collect_0 : decode cX3_collect 0 = .ok (.aload_n 0, 1) := by decide +kernel
theorem dX3_collect_1 : decode cX3_collect 1 = .ok (.getfield 12, 3) := by decide +kernel
theorem dX3_collect_4 : decode cX3_collect 4 = .ok (.iload_n 1, 1) := by decide +kernel
theorem dX3_collect_5 : decode cX3_collect 5 = .ok (.invokevirtual 26, 3) := by decide +kernel
theorem dX3_collect_8 : decode cX3_collect 8 = .ok (.ifCond .ne 8, 3) := by decide +kernel
theorem dX3_collect_11 : decode cX3_collect 11 = .ok (.aload_n 0, 1) := by decide +kernel
theorem dX3_collect_12 : decode cX3_collect 12 = .ok (.iconst 1, 1) := by decide +kernel
theorem dX3_collect_13 : decode cX3_collect 13 = .ok (.putfield 30, 3) := by decide +kernel
theorem dX3_collect_16 : decode cX3_collect 16 = .ok (.return_, 1) := by decide +kernel
set_option maxRecDepth 20000 in
theorem ggX3_endRow_X3_isInError : GoodIn wsX3_endRow wsX3_isInError := goodIn_r _ [7, 1, 8, 2, 9, 10, 11, 12, 13, 14, 15, 16, 17, 18, 19, 20, 21, 22, 23, 24, 25, 26, 27, 28, 29, 30, 31, 32, 33, 34, 35, 36, 37, 38, 39, 40, 41, 42, 43, 44, 6, 45, 67, 68, 69, 70, 71, 72, 73, 74, 75, 76, 77, 78] (by decide +kernel) (by decide +kernel)
set_option maxRecDepth 20000 in
theorem gX3_endRow_X3_isInError : GoodIn wsX3_endRow (wsV RX3 34 RX3 yX3_isInError wsX3_isInError) := goodIn_app (goodIn_of _ (by decide +kernel)) ggX3_endRow_X3_isInError
set_option maxRecDepth 20000 in
theorem ggX3_endRow_X3_rowCounter : GoodIn wsX3_endRow wsX3_rowCounter := goodIn_r _ [45, 1, 8, 15, 16, 17, 18, 19, 20, 21, 22, 23, 24, 25, 26, 27, 28, 29, 67, 68, 69, 70, 73, 74, 75, 76, 77, 78, 71, 72] (by decide +kernel) (by decide +kernel)
set_option maxRecDepth 20000 in
theorem gX3_endRow_X3_rowCounter : GoodIn wsX3_endRow (wsV RX3 37 RX3 yX3_rowCounter wsX3_rowCounter) := goodIn_app (goodIn_of _ (by decide +kernel)) ggX3_endRow_X3_rowCounter
set_option maxRecDepth 20000 in
theorem ggX3_endRow_X3_findingOf : GoodIn wsX3_endRow wsX3_findingOf := goodIn_r _ [49, 50, 8, 51, 52, 53, 12, 54, 55, 56, 57, 58, 59, 60, 61, 6, 62, 67, 68, 69, 70, 73, 74, 75, 76, 77, 78] (by decide +kernel) (by decide +kernel)
set_option maxRecDepth 20000 in
theorem gX3_endRow_X3_findingOf : GoodIn wsX3_endRow (wsV RX3 41 RX3 yX3_findingOf wsX3_findingOf) := goodIn_app (goodIn_of _ (by decide +kernel)) ggX3_endRow_X3_findingOf
set_option maxRecDepth 20000 in
theorem ggX3_endRow_X1_clear : GoodIn wsX3_endRow wsX1_clear := goodIn_r _ [66, 29, 71, 72] (by decide +kernel) (by decide +kernel)
set_option maxRecDepth 20000 in
theorem gX3_endRow_X1_clear : GoodIn wsX3_endRow (wsV RX3 45 RX1 yX1_clear wsX1_clear) := goodIn_app (goodIn_of _ (by decide +kernel)) ggX3_endRow_X1_clear
theorem dX3_endRow_0 : decode cX3_endRow 0 = .ok (.aload_n 0, 1) := by decide +kernel
theorem dX3_endRow_1 : decode cX3_endRow 1 = .ok (.iload_n 1, 1) := by decide +kernel
theorem dX3_endRow_2 : decode cX3_endRow 2 = .ok (.invokevirtual 34, 3) := by decide +kernel
theorem dX3_endRow_5 : decode cX3_endRow 5 = .ok (.ifCond .eq 7, 3) := by decide +kernel
theorem dX3_endRow_8 : decode cX3_endRow 8 = .ok (.iconst 4, 1) := by decide +kernel
theorem dX3_endRow_9 : decode cX3_endRow 9 = .ok (.goto 11, 3) := by decide +kernel
theorem dX3_endRow_12 : decode cX3_endRow 12 = .ok (.aload_n 0, 1) := by decide +kernel
theorem dX3_endRow_13 : decode cX3_endRow 13 = .ok (.aload_n 0, 1) := by decide +kernel
theorem dX3_endRow_14 : decode cX3_endRow 14 = .ok (.invokevirtual 37, 3) := by decide +kernel
theorem dX3_endRow_17 : decode cX3_endRow 17 = .ok (.invokevirtual 41, 3) := by decide +kernel
theorem dX3_endRow_20 : decode cX3_endRow 20 = .ok (.istore_n 2, 1) := by decide +kernel
theorem dX3_endRow_21 : decode cX3_endRow 21 = .ok (.aload_n 0, 1) := by decide +kernel
theorem dX3_endRow_22 : decode cX3_endRow 22 = .ok (.getfield 12, 3) := by decide +kernel
theorem dX3_endRow_25 : decode cX3_endRow 25 = .ok (.invokevirtual 45, 3) := by decide +kernel
theorem dX3_endRow_28 : decode cX3_endRow 28 = .ok (.aload_n 0, 1) := by decide +kernel
theorem dX3_endRow_29 : decode cX3_endRow 29 = .ok (.iconst 0, 1) := by decide +kernel
theorem dX3_endRow_30 : decode cX3_endRow 30 = .ok (.putfield 30, 3) := by decide +kernel
theorem dX3_endRow_33 : decode cX3_endRow 33 = .ok (.iload_n 2, 1) := by decide +kernel
theorem dX3_endRow_34 : decode cX3_endRow 34 = .ok (.ireturn, 1) := by decide +kernel
set_option maxRecDepth 20000 in
theorem ggX3_isInError_X2_checkOctets : GoodIn wsX3_isInError wsX2_checkOctets := goodIn_r _ [8, 9, 48, 49, 50, 51, 52, 53] (by decide +kernel) (by decide +kernel)
set_option maxRecDepth 20000 in
theorem gX3_isInError_X2_checkOctets : GoodIn wsX3_isInError (wsV RX3 51 RX2 yX2_checkOctets wsX2_checkOctets) := goodIn_app (goodIn_of _ (by decide +kernel)) ggX3_isInError_X2_checkOctets
set_option maxRecDepth 20000 in
theorem ggX3_isInError_X1_numberAt : GoodIn wsX3_isInError wsX1_numberAt := goodIn_r _ [14, 15, 16, 17, 13, 18, 19, 20, 21, 22, 23, 24, 46, 47] (by decide +kernel) (by decide +kernel)
set_option maxRecDepth 20000 in
theorem gX3_isInError_X1_numberAt : GoodIn wsX3_isInError (wsV RX3 59 RX1 yX1_numberAt wsX1_numberAt) := goodIn_app (goodIn_of _ (by decide +kernel)) ggX3_isInError_X1_numberAt
set_option maxRecDepth 20000 in
theorem ggX3_isInError_X2_checkOver : GoodIn wsX3_isInError wsX2_checkOver := goodIn_r _ [28, 29, 30, 31, 32, 33, 7, 34, 9, 35, 36, 16, 17, 13, 18, 19, 20, 21, 22, 23, 24, 48, 49, 50, 51, 52, 53, 46, 47] (by decide +kernel) (by decide +kernel)
set_option maxRecDepth 20000 in
theorem gX3_isInError_X2_checkOver : GoodIn wsX3_isInError (wsV RX3 63 RX2 yX2_checkOver wsX2_checkOver) := goodIn_app (goodIn_of _ (by decide +kernel)) ggX3_isInError_X2_checkOver
set_option maxRecDepth 20000 in
theorem ggX3_isInError_X3_rowCounter : GoodIn wsX3_isInError wsX3_rowCounter := goodIn_r _ [41, 1, 2, 10, 11, 12, 13, 14, 15, 16, 17, 18, 19, 20, 21, 22, 23, 24, 42, 43, 44, 45, 48, 49, 50, 51, 52, 53, 46, 47] (by decide +kernel) (by decide +kernel)
set_option maxRecDepth 20000 in
theorem gX3_isInError_X3_rowCounter : GoodIn wsX3_isInError (wsV RX3 37 RX3 yX3_rowCounter wsX3_rowCounter) := goodIn_app (goodIn_of _ (by decide +kernel)) ggX3_isInError_X3_rowCounter
theorem dX3_isInError_0 : decode cX3_isInError 0 = .ok (.aload_n 0, 1) := by decide +kernel
theorem dX3_isInError_1 : decode cX3_isInError 1 = .ok (.getfield 12, 3) := by decide +kernel
theorem dX3_isInError_4 : decode cX3_isInError 4 = .ok (.getfield 48, 3) := by decide +kernel
theorem dX3_isInError_7 : decode cX3_isInError 7 = .ok (.aload_n 0, 1) := by decide +kernel
theorem dX3_isInError_8 : decode cX3_isInError 8 = .ok (.getfield 22, 3) := by decide +kernel
theorem dX3_isInError_11 : decode cX3_isInError 11 = .ok (.invokevirtual 51, 3) := by decide +kernel
theorem dX3_isInError_14 : decode cX3_isInError 14 = .ok (.isub, 1) := by decide +kernel
theorem dX3_isInError_15 : decode cX3_isInError 15 = .ok (.istore_n 2, 1) := by decide +kernel
theorem dX3_isInError_16 : decode cX3_isInError 16 = .ok (.aload_n 0, 1) := by decide +kernel
theorem dX3_isInError_17 : decode cX3_isInError 17 = .ok (.getfield 30, 3) := by decide +kernel
theorem dX3_isInError_20 : decode cX3_isInError 20 = .ok (.ifCond .ne 14, 3) := by decide +kernel
theorem dX3_isInError_23 : decode cX3_isInError 23 = .ok (.iload_n 2, 1) := by decide +kernel
theorem dX3_isInError_24 : decode cX3_isInError 24 = .ok (.aload_n 0, 1) := by decide +kernel
theorem dX3_isInError_25 : decode cX3_isInError 25 = .ok (.getfield 22, 3) := by decide +kernel
theorem dX3_isInError_28 : decode cX3_isInError 28 = .ok (.getfield 56, 3) := by decide +kernel
theorem dX3_isInError_31 : decode cX3_isInError 31 = .ok (.if_icmp .ge 5, 3) := by decide +kernel
theorem dX3_isInError_34 : decode cX3_isInError 34 = .ok (.iconst 1, 1) := by decide +kernel
theorem dX3_isInError_35 : decode cX3_isInError 35 = .ok (.ireturn, 1) := by decide +kernel
theorem dX3_isInError_36 : decode cX3_isInError 36 = .ok (.aload_n 0, 1) := by decide +kernel
theorem dX3_isInError_37 : decode cX3_isInError 37 = .ok (.getfield 12, 3) := by decide +kernel
theorem dX3_isInError_40 : decode cX3_isInError 40 = .ok (.iload_n 2, 1) := by decide +kernel
theorem dX3_isInError_41 : decode cX3_isInError 41 = .ok (.aload_n 0, 1) := by decide +kernel
theorem dX3_isInError_42 : decode cX3_isInError 42 = .ok (.getfield 22, 3) := by decide +kernel
theorem dX3_isInError_45 : decode cX3_isInError 45 = .ok (.invokevirtual 51, 3) := by decide +kernel
theorem dX3_isInError_48 : decode cX3_isInError 48 = .ok (.invokevirtual 59, 3) := by decide +kernel
theorem dX3_isInError_51 : decode cX3_isInError 51 = .ok (.istore_n 3, 1) := by decide +kernel
theorem dX3_isInError_52 : decode cX3_isInError 52 = .ok (.iload_n 3, 1) := by decide +kernel
theorem dX3_isInError_53 : decode cX3_isInError 53 = .ok (.aload_n 0, 1) := by decide +kernel
theorem dX3_isInError_54 : decode cX3_isInError 54 = .ok (.getfield 22, 3) := by decide +kernel
theorem dX3_isInError_57 : decode cX3_isInError 57 = .ok (.iload_n 1, 1) := by decide +kernel
theorem dX3_isInError_58 : decode cX3_isInError 58 = .ok (.aload_n 0, 1) := by decide +kernel
theorem dX3_isInError_59 : decode cX3_isInError 59 = .ok (.getfield 12, 3) := by decide +kernel
theorem dX3_isInError_62 : decode cX3_isInError 62 = .ok (.iload_n 2, 1) := by decide +kernel
theorem dX3_isInError_63 : decode cX3_isInError 63 = .ok (.invokevirtual 63, 3) := by decide +kernel
theorem dX3_isInError_66 : decode cX3_isInError 66 = .ok (.if_icmp .ne 17, 3) := by decide +kernel
theorem dX3_isInError_69 : decode cX3_isInError 69 = .ok (.aload_n 0, 1) := by decide +kernel
theorem dX3_isInError_70 : decode cX3_isInError 70 = .ok (.invokevirtual 37, 3) := by decide +kernel
theorem dX3_isInError_73 : decode cX3_isInError 73 = .ok (.aload_n 0, 1) := by decide +kernel
theorem dX3_isInError_74 : decode cX3_isInError 74 = .ok (.getfield 22, 3) := by decide +kernel
theorem dX3_isInError_77 : decode cX3_isInError 77 = .ok (.getfield 67, 3) := by decide +kernel
theorem dX3_isInError_80 : decode cX3_isInError 80 = .ok (.if_icmp .lt 7, 3) := by decide +kernel
theorem dX3_isInError_83 : decode cX3_isInError 83 = .ok (.iconst 1, 1) := by decide +kernel
theorem dX3_isInError_84 : decode cX3_isInError 84 = .ok (.goto 4, 3) := by decide +kernel
theorem dX3_isInError_87 : decode cX3_isInError 87 = .ok (.iconst 0, 1) := by decide +kernel
theorem dX3_isInError_88 : decode cX3_isInError 88 = .ok (.ireturn, 1) := by decide +kernel
set_option maxRecDepth 20000 in
theorem ggX3_rowCounter_X1_numberAt : GoodIn wsX3_rowCounter wsX1_numberAt := goodIn_r _ [7, 8, 9, 10, 6, 11, 12, 13, 14, 15, 16, 17, 28, 29] (by decide +kernel) (by decide +kernel)
set_option maxRecDepth 20000 in
theorem gX3_rowCounter_X1_numberAt : GoodIn wsX3_rowCounter (wsV RX3 59 RX1 yX1_numberAt wsX1_numberAt) := goodIn_app (goodIn_of _ (by decide +kernel)) ggX3_rowCounter_X1_numberAt
theorem dX3_rowCounter_0 : decode cX3_rowCounter 0 = .ok (.aload_n 0, 1) := by decide +kernel
theorem dX3_rowCounter_1 : decode cX3_rowCounter 1 = .ok (.getfield 12, 3) := by decide +kernel
theorem dX3_rowCounter_4 : decode cX3_rowCounter 4 = .ok (.iconst 0, 1) := by decide +kernel
theorem dX3_rowCounter_5 : decode cX3_rowCounter 5 = .ok (.aload_n 0, 1) := by decide +kernel
theorem dX3_rowCounter_6 : decode cX3_rowCounter 6 = .ok (.getfield 22, 3) := by decide +kernel
theorem dX3_rowCounter_9 : decode cX3_rowCounter 9 = .ok (.getfield 56, 3) := by decide +kernel
theorem dX3_rowCounter_12 : decode cX3_rowCounter 12 = .ok (.invokevirtual 59, 3) := by decide +kernel
theorem dX3_rowCounter_15 : decode cX3_rowCounter 15 = .ok (.ireturn, 1) := by decide +kernel
set_option maxRecDepth 20000 in
theorem ggX3_findingOf_X2_goingRound : GoodIn wsX3_findingOf wsX2_goingRound := goodIn_r _ [7, 8, 9, 10, 11, 12, 21, 22, 23, 24, 25, 26] (by decide +kernel) (by decide +kernel)
set_option maxRecDepth 20000 in
theorem gX3_findingOf_X2_goingRound : GoodIn wsX3_findingOf (wsV RX3 70 RX2 yX2_goingRound wsX2_goingRound) := goodIn_app (goodIn_of _ (by decide +kernel)) ggX3_findingOf_X2_goingRound
set_option maxRecDepth 20000 in
theorem ggX3_findingOf_X3_findingOfSteps : GoodIn wsX3_findingOf wsX3_findingOfSteps := goodIn_r _ [16] (by decide +kernel) (by decide +kernel)
set_option maxRecDepth 20000 in
theorem gX3_findingOf_X3_findingOfSteps : GoodIn wsX3_findingOf (va_wsS RX3 73 yX3_findingOfSteps wsX3_findingOfSteps) := goodIn_app (goodIn_of _ (by decide +kernel)) ggX3_findingOf_X3_findingOfSteps
theorem dX3_findingOf_0 : decode cX3_findingOf 0 = .ok (.aload_n 0, 1) := by decide +kernel
theorem dX3_findingOf_1 : decode cX3_findingOf 1 = .ok (.getfield 18, 3) := by decide +kernel
theorem dX3_findingOf_4 : decode cX3_findingOf 4 = .ok (.istore_n 2, 1) := by decide +kernel
theorem dX3_findingOf_5 : decode cX3_findingOf 5 = .ok (.aload_n 0, 1) := by decide +kernel
theorem dX3_findingOf_6 : decode cX3_findingOf 6 = .ok (.iload_n 1, 1) := by decide +kernel
theorem dX3_findingOf_7 : decode cX3_findingOf 7 = .ok (.putfield 18, 3) := by decide +kernel
theorem dX3_findingOf_10 : decode cX3_findingOf 10 = .ok (.iload_n 2, 1) := by decide +kernel
theorem dX3_findingOf_11 : decode cX3_findingOf 11 = .ok (.iconst (-1), 1) := by decide +kernel
theorem dX3_findingOf_12 : decode cX3_findingOf 12 = .ok (.if_icmp .ne 7, 3) := by decide +kernel
theorem dX3_findingOf_15 : decode cX3_findingOf 15 = .ok (.iconst 5, 1) := by decide +kernel
theorem dX3_findingOf_16 : decode cX3_findingOf 16 = .ok (.goto 16, 3) := by decide +kernel
theorem dX3_findingOf_19 : decode cX3_findingOf 19 = .ok (.aload_n 0, 1) := by decide +kernel
theorem dX3_findingOf_20 : decode cX3_findingOf 20 = .ok (.getfield 22, 3) := by decide +kernel
theorem dX3_findingOf_23 : decode cX3_findingOf 23 = .ok (.iload_n 1, 1) := by decide +kernel
theorem dX3_findingOf_24 : decode cX3_findingOf 24 = .ok (.iload_n 2, 1) := by decide +kernel
theorem dX3_findingOf_25 : decode cX3_findingOf 25 = .ok (.isub, 1) := by decide +kernel
theorem dX3_findingOf_26 : decode cX3_findingOf 26 = .ok (.invokevirtual 70, 3) := by decide +kernel
theorem dX3_findingOf_29 : decode cX3_findingOf 29 = .ok (.invokestatic 73, 3) := by decide +kernel
theorem dX3_findingOf_32 : decode cX3_findingOf 32 = .ok (.ireturn, 1) := by decide +kernel
theorem dX3_findingOfSteps_0 : decode cX3_findingOfSteps 0 = .ok (.iload_n 0, 1) := by decide +kernel
theorem dX3_findingOfSteps_1 : decode cX3_findingOfSteps 1 = .ok (.ifCond .ne 5, 3) := by decide +kernel
theorem dX3_findingOfSteps_4 : decode cX3_findingOfSteps 4 = .ok (.iconst 1, 1) := by decide +kernel
theorem dX3_findingOfSteps_5 : decode cX3_findingOfSteps 5 = .ok (.ireturn, 1) := by decide +kernel
theorem dX3_findingOfSteps_6 : decode cX3_findingOfSteps 6 = .ok (.iload_n 0, 1) := by decide +kernel
theorem dX3_findingOfSteps_7 : decode cX3_findingOfSteps 7 = .ok (.iconst 1, 1) := by decide +kernel
theorem dX3_findingOfSteps_8 : decode cX3_findingOfSteps 8 = .ok (.if_icmp .ne 5, 3) := by decide +kernel
theorem dX3_findingOfSteps_11 : decode cX3_findingOfSteps 11 = .ok (.iconst 0, 1) := by decide +kernel
theorem dX3_findingOfSteps_12 : decode cX3_findingOfSteps 12 = .ok (.ireturn, 1) := by decide +kernel
theorem dX3_findingOfSteps_13 : decode cX3_findingOfSteps 13 = .ok (.iload_n 0, 1) := by decide +kernel
theorem dX3_findingOfSteps_14 : decode cX3_findingOfSteps 14 = .ok (.iconst 3, 1) := by decide +kernel
theorem dX3_findingOfSteps_15 : decode cX3_findingOfSteps 15 = .ok (.if_icmp .gt 7, 3) := by decide +kernel
theorem dX3_findingOfSteps_18 : decode cX3_findingOfSteps 18 = .ok (.iconst 2, 1) := by decide +kernel
theorem dX3_findingOfSteps_19 : decode cX3_findingOfSteps 19 = .ok (.goto 4, 3) := by decide +kernel
theorem dX3_findingOfSteps_22 : decode cX3_findingOfSteps 22 = .ok (.iconst 3, 1) := by decide +kernel
theorem dX3_findingOfSteps_23 : decode cX3_findingOfSteps 23 = .ok (.ireturn, 1) := by decide +kernel
set_option maxRecDepth 20000 in
theorem ggX4_init_X1_init : GoodIn wsX4_init wsX1_init := goodIn_r _ [11, 12, 2, 3, 13, 14, 15, 16] (by decide +kernel) (by decide +kernel)
set_option maxRecDepth 20000 in
theorem gX4_init_X1_init_n11 : GoodIn wsX4_init (wsX1_init) := ggX4_init_X1_init
theorem dX4_init_0 : decode cX4_init 0 = .ok (.aload_n 0, 1) := by decide +kernel
theorem dX4_init_1 : decode cX4_init 1 = .ok (.invokespecial 3, 3) := by decide +kernel
theorem dX4_init_4 : decode cX4_init 4 = .ok (.aload_n 0, 1) := by decide +kernel
theorem dX4_init_5 : decode cX4_init 5 = .ok (.new 9, 3) := by decide +kernel
theorem dX4_init_8 : decode cX4_init 8 = .ok (.dup, 1) := by decide +kernel
theorem dX4_init_9 : decode cX4_init 9 = .ok (.invokespecial 11, 3) := by decide +kernel
theorem dX4_init_12 : decode cX4_init 12 = .ok (.putfield 12, 3) := by decide +kernel
theorem dX4_init_15 : decode cX4_init 15 = .ok (.aload_n 0, 1) := by decide +kernel
theorem dX4_init_16 : decode cX4_init 16 = .ok (.new 9, 3) := by decide +kernel
theorem dX4_init_19 : decode cX4_init 19 = .ok (.dup, 1) := by decide +kernel
theorem dX4_init_20 : decode cX4_init 20 = .ok (.invokespecial 11, 3) := by decide +kernel
theorem dX4_init_23 : decode cX4_init 23 = .ok (.putfield 18, 3) := by decide +kernel
theorem dX4_init_26 : decode cX4_init 26 = .ok (.aload_n 0, 1) := by decide +kernel
theorem dX4_init_27 : decode cX4_init 27 = .ok (.aload_n 1, 1) := by decide +kernel
theorem dX4_init_28 : decode cX4_init 28 = .ok (.putfield 21, 3) := by decide +kernel
theorem dX4_init_31 : decode cX4_init 31 = .ok (.return_, 1) := by decide +kernel
set_option maxRecDepth 20000 in
theorem ggX4_collect_X1_add : GoodIn wsX4_collect wsX1_add := goodIn_r _ [6, 7, 8, 16, 17] (by decide +kernel) (by decide +kernel)
set_option maxRecDepth 20000 in
theorem gX4_collect_X1_add : GoodIn wsX4_collect (wsV RX4 29 RX1 yX1_add wsX1_add) := goodIn_app (goodIn_of _ (by decide +kernel)) ggX4_collect_X1_add
theorem dX4_collect_0 : decode cX4_collect 0 = .ok (.aload_n 0, 1) := by decide +kernel
theorem dX4_collect_1 : decode cX4_collect 1 = .ok (.getfield 12, 3) := by decide +kernel
theorem dX4_collect_4 : decode cX4_collect 4 = .ok (.getfield 25, 3) := by decide +kernel
theorem dX4_collect_7 : decode cX4_collect 7 = .ok (.bipush 64, 2) := by decide +kernel
theorem dX4_collect_9 : decode cX4_collect 9 = .ok (.if_icmp .ge 12, 3) := by decide +kernel
theorem dX4_collect_12 : decode cX4_collect 12 = .ok (.aload_n 0, 1) := by decide +kernel
theorem dX4_collect_13 : decode cX4_collect 13 = .ok (.getfield 12, 3) := by decide +kernel
theorem dX4_collect_16 : decode cX4_collect 16 = .ok (.iload_n 1, 1) := by decide +kernel
theorem dX4_collect_17 : decode cX4_collect 17 = .ok (.invokevirtual 29, 3) := by decide +kernel
theorem dX4_collect_20 : decode cX4_collect 20 = .ok (.pop, 1) := by decide +kernel
theorem dX4_collect_21 : decode cX4_collect 21 = .ok (.return_, 1) := by decide +kernel
theorem dX4_plantFlip_0 : decode cX4_plantFlip 0 = .ok (.aload_n 0, 1) := by decide +kernel
theorem dX4_plantFlip_1 : decode cX4_plantFlip 1 = .ok (.iload_n 1, 1) := by decide +kernel
theorem dX4_plantFlip_2 : decode cX4_plantFlip 2 = .ok (.putfield 33, 3) := by decide +kernel
theorem dX4_plantFlip_5 : decode cX4_plantFlip 5 = .ok (.aload_n 0, 1) := by decide +kernel
theorem dX4_plantFlip_6 : decode cX4_plantFlip 6 = .ok (.iload_n 2, 1) := by decide +kernel
theorem dX4_plantFlip_7 : decode cX4_plantFlip 7 = .ok (.putfield 36, 3) := by decide +kernel
theorem dX4_plantFlip_10 : decode cX4_plantFlip 10 = .ok (.return_, 1) := by decide +kernel
theorem dX4_plantSkip_0 : decode cX4_plantSkip 0 = .ok (.aload_n 0, 1) := by decide +kernel
theorem dX4_plantSkip_1 : decode cX4_plantSkip 1 = .ok (.iload_n 1, 1) := by decide +kernel
theorem dX4_plantSkip_2 : decode cX4_plantSkip 2 = .ok (.putfield 39, 3) := by decide +kernel
theorem dX4_plantSkip_5 : decode cX4_plantSkip 5 = .ok (.return_, 1) := by decide +kernel
set_option maxRecDepth 20000 in
theorem ggX4_makeRow_X2_goingRound : GoodIn wsX4_makeRow wsX2_goingRound := goodIn_r _ [12, 13, 14, 15, 16, 17, 73, 74, 75, 76, 77, 78] (by decide +kernel) (by decide +kernel)
set_option maxRecDepth 20000 in
theorem gX4_makeRow_X2_goingRound : GoodIn wsX4_makeRow (wsV RX4 45 RX2 yX2_goingRound wsX2_goingRound) := goodIn_app (goodIn_of _ (by decide +kernel)) ggX4_makeRow_X2_goingRound
set_option maxRecDepth 20000 in
theorem ggX4_makeRow_X1_clear : GoodIn wsX4_makeRow wsX1_clear := goodIn_r _ [22, 23, 79, 80] (by decide +kernel) (by decide +kernel)
set_option maxRecDepth 20000 in
theorem gX4_makeRow_X1_clear : GoodIn wsX4_makeRow (wsV RX4 51 RX1 yX1_clear wsX1_clear) := goodIn_app (goodIn_of _ (by decide +kernel)) ggX4_makeRow_X1_clear
set_option maxRecDepth 20000 in
theorem ggX4_makeRow_X1_addNumber : GoodIn wsX4_makeRow wsX1_addNumber := goodIn_r _ [27, 28, 29, 30, 21, 31, 23, 32, 79, 80] (by decide +kernel) (by decide +kernel)
set_option maxRecDepth 20000 in
theorem gX4_makeRow_X1_addNumber : GoodIn wsX4_makeRow (wsV RX4 57 RX1 yX1_addNumber wsX1_addNumber) := goodIn_app (goodIn_of _ (by decide +kernel)) ggX4_makeRow_X1_addNumber
set_option maxRecDepth 20000 in
theorem ggX4_makeRow_X1_addAll : GoodIn wsX4_makeRow wsX1_addAll := goodIn_r _ [36, 23, 37, 38, 39, 21, 40, 32, 41, 42, 43, 44, 28, 29, 30, 31, 79, 80] (by decide +kernel) (by decide +kernel)
set_option maxRecDepth 20000 in
theorem gX4_makeRow_X1_addAll : GoodIn wsX4_makeRow (wsV RX4 61 RX1 yX1_addAll wsX1_addAll) := goodIn_app (goodIn_of _ (by decide +kernel)) ggX4_makeRow_X1_addAll
set_option maxRecDepth 20000 in
theorem ggX4_makeRow_X2_checkOver : GoodIn wsX4_makeRow wsX2_checkOver := goodIn_r _ [48, 49, 50, 51, 52, 53, 11, 54, 55, 56, 57, 38, 39, 21, 40, 32, 41, 42, 43, 44, 23, 73, 74, 75, 76, 77, 78, 79, 80] (by decide +kernel) (by decide +kernel)
set_option maxRecDepth 20000 in
theorem gX4_makeRow_X2_checkOver : GoodIn wsX4_makeRow (wsV RX4 65 RX2 yX2_checkOver wsX2_checkOver) := goodIn_app (goodIn_of _ (by decide +kernel)) ggX4_makeRow_X2_checkOver
set_option maxRecDepth 20000 in
theorem ggX4_makeRow_X2_checkOctets : GoodIn wsX4_makeRow wsX2_checkOctets := goodIn_r _ [61, 55, 73, 74, 75, 76, 77, 78] (by decide +kernel) (by decide +kernel)
set_option maxRecDepth 20000 in
theorem gX4_makeRow_X2_checkOctets : GoodIn wsX4_makeRow (wsV RX4 69 RX2 yX2_checkOctets wsX2_checkOctets) := goodIn_app (goodIn_of _ (by decide +kernel)) ggX4_makeRow_X2_checkOctets
set_option maxRecDepth 20000 in
theorem ggX4_makeRow_X1_flip : GoodIn wsX4_makeRow wsX1_flip := goodIn_r _ [65, 32, 41, 42, 43, 21, 44, 23, 79, 80] (by decide +kernel) (by decide +kernel)
set_option maxRecDepth 20000 in
theorem gX4_makeRow_X1_flip : GoodIn wsX4_makeRow (wsV RX4 73 RX1 yX1_flip wsX1_flip) := goodIn_app (goodIn_of _ (by decide +kernel)) ggX4_makeRow_X1_flip
theorem dX4_makeRow_0 : decode cX4_makeRow 0 = .ok (.aload_n 0, 1) := by decide +kernel
theorem dX4_makeRow_1 : decode cX4_makeRow 1 = .ok (.getfield 21, 3) := by decide +kernel
theorem dX4_makeRow_4 : decode cX4_makeRow 4 = .ok (.aload_n 0, 1) := by decide +kernel
theorem dX4_makeRow_5 : decode cX4_makeRow 5 = .ok (.getfield 42, 3) := by decide +kernel
theorem dX4_makeRow_8 : decode cX4_makeRow 8 = .ok (.aload_n 0, 1) := by decide +kernel
theorem dX4_makeRow_9 : decode cX4_makeRow 9 = .ok (.getfield 39, 3) := by decide +kernel
theorem dX4_makeRow_12 : decode cX4_makeRow 12 = .ok (.iadd, 1) := by decide +kernel
theorem dX4_makeRow_13 : decode cX4_makeRow 13 = .ok (.invokevirtual 45, 3) := by decide +kernel
theorem dX4_makeRow_16 : decode cX4_makeRow 16 = .ok (.istore_n 2, 1) := by decide +kernel
theorem dX4_makeRow_17 : decode cX4_makeRow 17 = .ok (.aload_n 0, 1) := by decide +kernel
theorem dX4_makeRow_18 : decode cX4_makeRow 18 = .ok (.getfield 18, 3) := by decide +kernel
theorem dX4_makeRow_21 : decode cX4_makeRow 21 = .ok (.invokevirtual 51, 3) := by decide +kernel
theorem dX4_makeRow_24 : decode cX4_makeRow 24 = .ok (.aload_n 0, 1) := by decide +kernel
theorem dX4_makeRow_25 : decode cX4_makeRow 25 = .ok (.getfield 18, 3) := by decide +kernel
theorem dX4_makeRow_28 : decode cX4_makeRow 28 = .ok (.iload_n 2, 1) := by decide +kernel
theorem dX4_makeRow_29 : decode cX4_makeRow 29 = .ok (.aload_n 0, 1) := by decide +kernel
theorem dX4_makeRow_30 : decode cX4_makeRow 30 = .ok (.getfield 21, 3) := by decide +kernel
theorem dX4_makeRow_33 : decode cX4_makeRow 33 = .ok (.getfield 54, 3) := by decide +kernel
theorem dX4_makeRow_36 : decode cX4_makeRow 36 = .ok (.invokevirtual 57, 3) := by decide +kernel
theorem dX4_makeRow_39 : decode cX4_makeRow 39 = .ok (.aload_n 0, 1) := by decide +kernel
theorem dX4_makeRow_40 : decode cX4_makeRow 40 = .ok (.getfield 18, 3) := by decide +kernel
theorem dX4_makeRow_43 : decode cX4_makeRow 43 = .ok (.aload_n 0, 1) := by decide +kernel
theorem dX4_makeRow_44 : decode cX4_makeRow 44 = .ok (.getfield 12, 3) := by decide +kernel
theorem dX4_makeRow_47 : decode cX4_makeRow 47 = .ok (.invokevirtual 61, 3) := by decide +kernel
theorem dX4_makeRow_50 : decode cX4_makeRow 50 = .ok (.aload_n 0, 1) := by decide +kernel
theorem dX4_makeRow_51 : decode cX4_makeRow 51 = .ok (.getfield 18, 3) := by decide +kernel
theorem dX4_makeRow_54 : decode cX4_makeRow 54 = .ok (.aload_n 0, 1) := by decide +kernel
theorem dX4_makeRow_55 : decode cX4_makeRow 55 = .ok (.getfield 21, 3) := by decide +kernel
theorem dX4_makeRow_58 : decode cX4_makeRow 58 = .ok (.iload_n 1, 1) := by decide +kernel
theorem dX4_makeRow_59 : decode cX4_makeRow 59 = .ok (.aload_n 0, 1) := by decide +kernel
theorem dX4_makeRow_60 : decode cX4_makeRow 60 = .ok (.getfield 18, 3) := by decide +kernel
theorem dX4_makeRow_63 : decode cX4_makeRow 63 = .ok (.aload_n 0, 1) := by decide +kernel
theorem dX4_makeRow_64 : decode cX4_makeRow 64 = .ok (.getfield 18, 3) := by decide +kernel
theorem dX4_makeRow_67 : decode cX4_makeRow 67 = .ok (.getfield 25, 3) := by decide +kernel
theorem dX4_makeRow_70 : decode cX4_makeRow 70 = .ok (.invokevirtual 65, 3) := by decide +kernel
theorem dX4_makeRow_73 : decode cX4_makeRow 73 = .ok (.aload_n 0, 1) := by decide +kernel
theorem dX4_makeRow_74 : decode cX4_makeRow 74 = .ok (.getfield 21, 3) := by decide +kernel
theorem dX4_makeRow_77 : decode cX4_makeRow 77 = .ok (.invokevirtual 69, 3) := by decide +kernel
theorem dX4_makeRow_80 : decode cX4_makeRow 80 = .ok (.invokevirtual 57, 3) := by decide +kernel
theorem dX4_makeRow_83 : decode cX4_makeRow 83 = .ok (.aload_n 0, 1) := by decide +kernel
theorem dX4_makeRow_84 : decode cX4_makeRow 84 = .ok (.getfield 18, 3) := by decide +kernel
theorem dX4_makeRow_87 : decode cX4_makeRow 87 = .ok (.aload_n 0, 1) := by decide +kernel
theorem dX4_makeRow_88 : decode cX4_makeRow 88 = .ok (.getfield 33, 3) := by decide +kernel
theorem dX4_makeRow_91 : decode cX4_makeRow 91 = .ok (.aload_n 0, 1) := by decide +kernel
theorem dX4_makeRow_92 : decode cX4_makeRow 92 = .ok (.getfield 36, 3) := by decide +kernel
theorem dX4_makeRow_95 : decode cX4_makeRow 95 = .ok (.invokevirtual 73, 3) := by decide +kernel
theorem dX4_makeRow_98 : decode cX4_makeRow 98 = .ok (.aload_n 0, 1) := by decide +kernel
theorem dX4_makeRow_99 : decode cX4_makeRow 99 = .ok (.aload_n 0, 1) := by decide +kernel
theorem dX4_makeRow_100 : decode cX4_makeRow 100 = .ok (.getfield 21, 3) := by decide +kernel
theorem dX4_makeRow_103 : decode cX4_makeRow 103 = .ok (.iload_n 2, 1) := by decide +kernel
theorem dX4_makeRow_104 : decode cX4_makeRow 104 = .ok (.iconst 1, 1) := by decide +kernel
theorem dX4_makeRow_105 : decode cX4_makeRow 105 = .ok (.iadd, 1) := by decide +kernel
theorem dX4_makeRow_106 : decode cX4_makeRow 106 = .ok (.invokevirtual 45, 3) := by decide +kernel
theorem dX4_makeRow_109 : decode cX4_makeRow 109 = .ok (.putfield 42, 3) := by decide +kernel
theorem dX4_makeRow_112 : decode cX4_makeRow 112 = .ok (.aload_n 0, 1) := by decide +kernel
theorem dX4_makeRow_113 : decode cX4_makeRow 113 = .ok (.getfield 12, 3) := by decide +kernel
theorem dX4_makeRow_116 : decode cX4_makeRow 116 = .ok (.invokevirtual 51, 3) := by decide +kernel
theorem dX4_makeRow_119 : decode cX4_makeRow 119 = .ok (.aload_n 0, 1) := by decide +kernel
theorem dX4_makeRow_120 : decode cX4_makeRow 120 = .ok (.iconst 0, 1) := by decide +kernel
theorem dX4_makeRow_121 : decode cX4_makeRow 121 = .ok (.putfield 36, 3) := by decide +kernel
theorem dX4_makeRow_124 : decode cX4_makeRow 124 = .ok (.aload_n 0, 1) := by decide +kernel
theorem dX4_makeRow_125 : decode cX4_makeRow 125 = .ok (.iconst 0, 1) := by decide +kernel
theorem dX4_makeRow_126 : decode cX4_makeRow 126 = .ok (.putfield 39, 3) := by decide +kernel
theorem dX4_makeRow_129 : decode cX4_makeRow 129 = .ok (.aload_n 0, 1) := by decide +kernel
theorem dX4_makeRow_130 : decode cX4_makeRow 130 = .ok (.getfield 18, 3) := by decide +kernel
theorem dX4_makeRow_133 : decode cX4_makeRow 133 = .ok (.getfield 25, 3) := by decide +kernel
theorem dX4_makeRow_136 : decode cX4_makeRow 136 = .ok (.ireturn, 1) := by decide +kernel
set_option maxRecDepth 20000 in
theorem ggX5_init_X2_numbered : GoodIn wsX5_init wsX2_numbered := goodIn_r _ [19, 20, 21, 18, 22, 23, 24, 25, 26, 27, 28, 2, 3, 29, 30, 31, 32, 33, 34, 85, 86, 87, 88, 89, 90] (by decide +kernel) (by decide +kernel)
set_option maxRecDepth 20000 in
theorem gX5_init_X2_numbered : GoodIn wsX5_init (va_wsS RX5 7 yX2_numbered wsX2_numbered) := goodIn_app (goodIn_of _ (by decide +kernel)) ggX5_init_X2_numbered
set_option maxRecDepth 20000 in
theorem ggX5_init_X4_init : GoodIn wsX5_init wsX4_init := goodIn_r _ [37, 38, 2, 3, 39, 40, 41, 42, 43, 44, 45, 46, 47, 48, 49, 91, 92, 64, 65, 66, 67, 68, 69, 70] (by decide +kernel) (by decide +kernel)
set_option maxRecDepth 20000 in
theorem gX5_init_X4_init : GoodIn wsX5_init (wsX4_init) := ggX5_init_X4_init
set_option maxRecDepth 20000 in
theorem ggX5_init_X3_init : GoodIn wsX5_init wsX3_init := goodIn_r _ [52, 53, 2, 3, 54, 40, 41, 55, 56, 57, 45, 46, 47, 48, 49, 91, 92, 76, 77, 78, 79] (by decide +kernel) (by decide +kernel)
set_option maxRecDepth 20000 in
theorem gX5_init_X3_init : GoodIn wsX5_init (wsX3_init) := ggX5_init_X3_init
set_option maxRecDepth 20000 in
theorem ggX5_init_X0_init : GoodIn wsX5_init wsX0_init := goodIn_r _ [59, 60, 2, 3, 61, 62, 63, 80, 81, 82, 83, 84] (by decide +kernel) (by decide +kernel)
set_option maxRecDepth 20000 in
theorem gX5_init_X0_init_n33 : GoodIn wsX5_init (wsX0_init) := ggX5_init_X0_init
theorem dX5_init_0 : decode cX5_init 0 = .ok (.aload_n 0, 1) := by decide +kernel
theorem dX5_init_1 : decode cX5_init 1 = .ok (.invokespecial 1, 3) := by decide +kernel
theorem dX5_init_4 : decode cX5_init 4 = .ok (.iload_n 1, 1) := by decide +kernel
theorem dX5_init_5 : decode cX5_init 5 = .ok (.invokestatic 7, 3) := by decide +kernel
theorem dX5_init_8 : decode cX5_init 8 = .ok (.astore_n 2, 1) := by decide +kernel
theorem dX5_init_9 : decode cX5_init 9 = .ok (.aload_n 0, 1) := by decide +kernel
theorem dX5_init_10 : decode cX5_init 10 = .ok (.new 13, 3) := by decide +kernel
theorem dX5_init_13 : decode cX5_init 13 = .ok (.dup, 1) := by decide +kernel
theorem dX5_init_14 : decode cX5_init 14 = .ok (.aload_n 2, 1) := by decide +kernel
theorem dX5_init_15 : decode cX5_init 15 = .ok (.invokespecial 15, 3) := by decide +kernel
theorem dX5_init_18 : decode cX5_init 18 = .ok (.putfield 18, 3) := by decide +kernel
theorem dX5_init_21 : decode cX5_init 21 = .ok (.aload_n 0, 1) := by decide +kernel
theorem dX5_init_22 : decode cX5_init 22 = .ok (.new 24, 3) := by decide +kernel
theorem dX5_init_25 : decode cX5_init 25 = .ok (.dup, 1) := by decide +kernel
theorem dX5_init_26 : decode cX5_init 26 = .ok (.aload_n 2, 1) := by decide +kernel
theorem dX5_init_27 : decode cX5_init 27 = .ok (.invokespecial 26, 3) := by decide +kernel
theorem dX5_init_30 : decode cX5_init 30 = .ok (.putfield 27, 3) := by decide +kernel
theorem dX5_init_33 : decode cX5_init 33 = .ok (.aload_n 0, 1) := by decide +kernel
theorem dX5_init_34 : decode cX5_init 34 = .ok (.new 31, 3) := by decide +kernel
theorem dX5_init_37 : decode cX5_init 37 = .ok (.dup, 1) := by decide +kernel
theorem dX5_init_38 : decode cX5_init 38 = .ok (.invokespecial 33, 3) := by decide +kernel
theorem dX5_init_41 : decode cX5_init 41 = .ok (.putfield 34, 3) := by decide +kernel
theorem dX5_init_44 : decode cX5_init 44 = .ok (.return_, 1) := by decide +kernel
set_option maxRecDepth 20000 in
theorem ggX5_octet_X4_collect : GoodIn wsX5_octet wsX4_collect := goodIn_r _ [6, 7, 8, 9, 10, 11, 12, 13, 14, 20, 21, 22, 23, 24, 25, 26, 27, 28] (by decide +kernel) (by decide +kernel)
set_option maxRecDepth 20000 in
theorem gX5_octet_X4_collect : GoodIn wsX5_octet (wsV RX5 38 RX4 yX4_collect wsX4_collect) := goodIn_app (goodIn_of _ (by decide +kernel)) ggX5_octet_X4_collect
theorem dX5_octet_0 : decode cX5_octet 0 = .ok (.aload_n 0, 1) := by decide +kernel
theorem dX5_octet_1 : decode cX5_octet 1 = .ok (.getfield 18, 3) := by decide +kernel
theorem dX5_octet_4 : decode cX5_octet 4 = .ok (.iload_n 1, 1) := by decide +kernel
theorem dX5_octet_5 : decode cX5_octet 5 = .ok (.invokevirtual 38, 3) := by decide +kernel
theorem dX5_octet_8 : decode cX5_octet 8 = .ok (.return_, 1) := by decide +kernel
set_option maxRecDepth 20000 in
theorem ggX5_protect_X5_isIdentity : GoodIn wsX5_protect wsX5_isIdentity := goodIn_r _ [5, 6] (by decide +kernel) (by decide +kernel)
set_option maxRecDepth 20000 in
theorem gX5_protect_X5_isIdentity : GoodIn wsX5_protect (va_wsS RX5 42 yX5_isIdentity wsX5_isIdentity) := goodIn_app (goodIn_of _ (by decide +kernel)) ggX5_protect_X5_isIdentity
set_option maxRecDepth 20000 in
theorem ggX5_protect_X4_makeRow : GoodIn wsX5_protect wsX4_makeRow := goodIn_r _ [11, 12, 13, 14, 15, 16, 17, 18, 19, 20, 21, 22, 23, 24, 25, 26, 27, 28, 29, 30, 31, 32, 33, 34, 35, 36, 37, 38, 39, 40, 41, 42, 43, 44, 45, 46, 47, 48, 49, 50, 51, 52, 53, 54, 55, 56, 57, 58, 59, 60, 61, 62, 63, 64, 65, 66, 67, 68, 69, 70, 71, 72, 73, 74, 75, 76, 82, 83, 84, 85, 86, 87, 88, 89, 90, 91, 92, 93, 94, 95, 96] (by decide +kernel) (by decide +kernel)
set_option maxRecDepth 20000 in
theorem gX5_protect_X4_makeRow : GoodIn wsX5_protect (wsV RX5 46 RX4 yX4_makeRow wsX4_makeRow) := goodIn_app (goodIn_of _ (by decide +kernel)) ggX5_protect_X4_makeRow
theorem dX5_protect_0 : decode cX5_protect 0 = .ok (.iload_n 1, 1) := by decide +kernel
theorem dX5_protect_1 : decode cX5_protect 1 = .ok (.invokestatic 42, 3) := by decide +kernel
theorem dX5_protect_4 : decode cX5_protect 4 = .ok (.ifCond .eq 14, 3) := by decide +kernel
theorem dX5_protect_7 : decode cX5_protect 7 = .ok (.aload_n 0, 1) := by decide +kernel
theorem dX5_protect_8 : decode cX5_protect 8 = .ok (.getfield 18, 3) := by decide +kernel
theorem dX5_protect_11 : decode cX5_protect 11 = .ok (.iload_n 1, 1) := by decide +kernel
theorem dX5_protect_12 : decode cX5_protect 12 = .ok (.invokevirtual 46, 3) := by decide +kernel
theorem dX5_protect_15 : decode cX5_protect 15 = .ok (.goto 5, 3) := by decide +kernel
theorem dX5_protect_18 : decode cX5_protect 18 = .ok (.bipush (-2), 2) := by decide +kernel
theorem dX5_protect_20 : decode cX5_protect 20 = .ok (.ireturn, 1) := by decide +kernel
set_option maxRecDepth 20000 in
theorem ggX5_out_X1_has : GoodIn wsX5_out wsX1_has := goodIn_r _ [9, 10, 11, 35, 36] (by decide +kernel) (by decide +kernel)
set_option maxRecDepth 20000 in
theorem gX5_out_X1_has : GoodIn wsX5_out (wsV RX5 54 RX1 yX1_has wsX1_has) := goodIn_app (goodIn_of _ (by decide +kernel)) ggX5_out_X1_has
set_option maxRecDepth 20000 in
theorem ggX5_out_X1_get : GoodIn wsX5_out wsX1_get := goodIn_r _ [15, 11, 16, 6, 7, 8, 9, 10, 35, 36] (by decide +kernel) (by decide +kernel)
set_option maxRecDepth 20000 in
theorem gX5_out_X1_get : GoodIn wsX5_out (wsV RX5 66 RX1 yX1_get wsX1_get) := goodIn_app (goodIn_of _ (by decide +kernel)) ggX5_out_X1_get
theorem dX5_out_0 : decode cX5_out 0 = .ok (.aload_n 0, 1) := by decide +kernel
theorem dX5_out_1 : decode cX5_out 1 = .ok (.getfield 18, 3) := by decide +kernel
theorem dX5_out_4 : decode cX5_out 4 = .ok (.getfield 50, 3) := by decide +kernel
theorem dX5_out_7 : decode cX5_out 7 = .ok (.iload_n 1, 1) := by decide +kernel
theorem dX5_out_8 : decode cX5_out 8 = .ok (.invokevirtual 54, 3) := by decide +kernel
theorem dX5_out_11 : decode cX5_out 11 = .ok (.ifCond .ne 13, 3) := by decide +kernel
theorem dX5_out_14 : decode cX5_out 14 = .ok (.new 59, 3) := by decide +kernel
theorem dX5_out_17 : decode cX5_out 17 = .ok (.dup, 1) := by decide +kernel
theorem dX5_out_18 : decode cX5_out 18 = .ok (.ldc 61, 2) := by decide +kernel
theorem dX5_out_20 : decode cX5_out 20 = .ok (.invokespecial 63, 3) := by decide +kernel
theorem dX5_out_23 : decode cX5_out 23 = .ok (.athrow, 1) := by decide +kernel
theorem dX5_out_24 : decode cX5_out 24 = .ok (.aload_n 0, 1) := by decide +kernel
theorem dX5_out_25 : decode cX5_out 25 = .ok (.getfield 18, 3) := by decide +kernel
theorem dX5_out_28 : decode cX5_out 28 = .ok (.getfield 50, 3) := by decide +kernel
theorem dX5_out_31 : decode cX5_out 31 = .ok (.iload_n 1, 1) := by decide +kernel
theorem dX5_out_32 : decode cX5_out 32 = .ok (.invokevirtual 66, 3) := by decide +kernel
theorem dX5_out_35 : decode cX5_out 35 = .ok (.i2b, 1) := by decide +kernel
theorem dX5_out_36 : decode cX5_out 36 = .ok (.ireturn, 1) := by decide +kernel
set_option maxRecDepth 20000 in
theorem ggX5_check_X5_isIdentity : GoodIn wsX5_check wsX5_isIdentity := goodIn_r _ [5, 6] (by decide +kernel) (by decide +kernel)
set_option maxRecDepth 20000 in
theorem gX5_check_X5_isIdentity : GoodIn wsX5_check (va_wsS RX5 42 yX5_isIdentity wsX5_isIdentity) := goodIn_app (goodIn_of _ (by decide +kernel)) ggX5_check_X5_isIdentity
set_option maxRecDepth 20000 in
theorem ggX5_check_X3_collect : GoodIn wsX5_check wsX3_collect := goodIn_r _ [11, 12, 13, 14, 15, 16, 17, 18, 19, 20, 126, 127, 128, 129, 130, 131] (by decide +kernel) (by decide +kernel)
set_option maxRecDepth 20000 in
theorem gX5_check_X3_collect : GoodIn wsX5_check (wsV RX5 69 RX3 yX3_collect wsX3_collect) := goodIn_app (goodIn_of _ (by decide +kernel)) ggX5_check_X3_collect
set_option maxRecDepth 20000 in
theorem ggX5_check_X5_endOfRow : GoodIn wsX5_check wsX5_endOfRow := goodIn_r _ [24, 1, 25, 26, 27, 28, 29, 30, 10, 31, 12, 13, 32, 33, 34, 35, 36, 37, 38, 39, 40, 41, 42, 43, 44, 45, 17, 46, 47, 48, 49, 50, 20, 51, 52, 53, 54, 19, 55, 56, 57, 58, 59, 60, 61, 62, 63, 64, 65, 66, 67, 68, 69, 70, 71, 72, 73, 74, 75, 76, 77, 78, 79, 80, 81, 82, 83, 84, 85, 86, 87, 88, 89, 90, 91, 92, 93, 94, 95, 96, 97, 98, 99, 100, 101, 102, 103, 104, 105, 106, 4, 107, 108, 109, 110, 111, 112, 113, 114, 115, 116, 117, 118, 119, 120, 121, 122, 123, 124, 125, 126, 127, 128, 129, 130, 131, 132, 133, 134, 135, 136, 137, 138, 139, 140, 141, 142] (by decide +kernel) (by decide +kernel)
set_option maxRecDepth 20000 in
theorem gX5_check_X5_endOfRow : GoodIn wsX5_check (wsV RX5 70 RX5 yX5_endOfRow wsX5_endOfRow) := goodIn_app (goodIn_of _ (by decide +kernel)) ggX5_check_X5_endOfRow
theorem dX5_check_0 : decode cX5_check 0 = .ok (.iload_n 3, 1) := by decide +kernel
theorem dX5_check_1 : decode cX5_check 1 = .ok (.ifCond .eq 13, 3) := by decide +kernel
theorem dX5_check_4 : decode cX5_check 4 = .ok (.iload_n 1, 1) := by decide +kernel
theorem dX5_check_5 : decode cX5_check 5 = .ok (.invokestatic 42, 3) := by decide +kernel
theorem dX5_check_8 : decode cX5_check 8 = .ok (.ifCond .ne 6, 3) := by decide +kernel
theorem dX5_check_11 : decode cX5_check 11 = .ok (.bipush (-2), 2) := by decide +kernel
theorem dX5_check_13 : decode cX5_check 13 = .ok (.ireturn, 1) := by decide +kernel
theorem dX5_check_14 : decode cX5_check 14 = .ok (.aload_n 0, 1) := by decide +kernel
theorem dX5_check_15 : decode cX5_check 15 = .ok (.getfield 27, 3) := by decide +kernel
theorem dX5_check_18 : decode cX5_check 18 = .ok (.iload_n 2, 1) := by decide +kernel
theorem dX5_check_19 : decode cX5_check 19 = .ok (.invokevirtual 69, 3) := by decide +kernel
theorem dX5_check_22 : decode cX5_check 22 = .ok (.iload_n 3, 1) := by decide +kernel
theorem dX5_check_23 : decode cX5_check 23 = .ok (.ifCond .eq 11, 3) := by decide +kernel
theorem dX5_check_26 : decode cX5_check 26 = .ok (.aload_n 0, 1) := by decide +kernel
theorem dX5_check_27 : decode cX5_check 27 = .ok (.iload_n 1, 1) := by decide +kernel
theorem dX5_check_28 : decode cX5_check 28 = .ok (.invokevirtual 70, 3) := by decide +kernel
theorem dX5_check_31 : decode cX5_check 31 = .ok (.goto 4, 3) := by decide +kernel
theorem dX5_check_34 : decode cX5_check 34 = .ok (.iconst 0, 1) := by decide +kernel
theorem dX5_check_35 : decode cX5_check 35 = .ok (.ireturn, 1) := by decide +kernel
theorem dX5_counter_0 : decode cX5_counter 0 = .ok (.aload_n 0, 1) := by decide +kernel
theorem dX5_counter_1 : decode cX5_counter 1 = .ok (.getfield 18, 3) := by decide +kernel
theorem dX5_counter_4 : decode cX5_counter 4 = .ok (.getfield 73, 3) := by decide +kernel
theorem dX5_counter_7 : decode cX5_counter 7 = .ok (.ireturn, 1) := by decide +kernel
theorem dX5_state_0 : decode cX5_state 0 = .ok (.aload_n 0, 1) := by decide +kernel
theorem dX5_state_1 : decode cX5_state 1 = .ok (.getfield 34, 3) := by decide +kernel
theorem dX5_state_4 : decode cX5_state 4 = .ok (.getfield 77, 3) := by decide +kernel
theorem dX5_state_7 : decode cX5_state 7 = .ok (.ireturn, 1) := by decide +kernel
set_option maxRecDepth 20000 in
theorem ggX5_span_X0_finding : GoodIn wsX5_span wsX0_finding := goodIn_r _ [6, 7, 8, 14, 15, 16, 17, 18] (by decide +kernel) (by decide +kernel)
set_option maxRecDepth 20000 in
theorem gX5_span_X0_finding : GoodIn wsX5_span (wsV RX5 80 RX0 yX0_finding wsX0_finding) := goodIn_app (goodIn_of _ (by decide +kernel)) ggX5_span_X0_finding
theorem dX5_span_0 : decode cX5_span 0 = .ok (.aload_n 0, 1) := by decide +kernel
theorem dX5_span_1 : decode cX5_span 1 = .ok (.getfield 34, 3) := by decide +kernel
theorem dX5_span_4 : decode cX5_span 4 = .ok (.iload_n 1, 1) := by decide +kernel
theorem dX5_span_5 : decode cX5_span 5 = .ok (.invokevirtual 80, 3) := by decide +kernel
theorem dX5_span_8 : decode cX5_span 8 = .ok (.ireturn, 1) := by decide +kernel
set_option maxRecDepth 20000 in
theorem ggX5_plant_X4_plantFlip : GoodIn wsX5_plant wsX4_plantFlip := goodIn_r _ [6, 7, 8, 19, 20, 21, 22, 23, 24, 25] (by decide +kernel) (by decide +kernel)
set_option maxRecDepth 20000 in
theorem gX5_plant_X4_plantFlip : GoodIn wsX5_plant (wsV RX5 83 RX4 yX4_plantFlip wsX4_plantFlip) := goodIn_app (goodIn_of _ (by decide +kernel)) ggX5_plant_X4_plantFlip
set_option maxRecDepth 20000 in
theorem ggX5_plant_X4_plantSkip : GoodIn wsX5_plant wsX4_plantSkip := goodIn_r _ [12, 13, 19, 20, 21, 22, 23, 24, 25] (by decide +kernel) (by decide +kernel)
set_option maxRecDepth 20000 in
theorem gX5_plant_X4_plantSkip : GoodIn wsX5_plant (wsV RX5 87 RX4 yX4_plantSkip wsX4_plantSkip) := goodIn_app (goodIn_of _ (by decide +kernel)) ggX5_plant_X4_plantSkip
theorem dX5_plant_0 : decode cX5_plant 0 = .ok (.iload_n 1, 1) := by decide +kernel
theorem dX5_plant_1 : decode cX5_plant 1 = .ok (.ifCond .eq 10, 3) := by decide +kernel
theorem dX5_plant_4 : decode cX5_plant 4 = .ok (.iload_n 1, 1) := by decide +kernel
theorem dX5_plant_5 : decode cX5_plant 5 = .ok (.iconst 1, 1) := by decide +kernel
theorem dX5_plant_6 : decode cX5_plant 6 = .ok (.if_icmp .eq 5, 3) := by decide +kernel
theorem dX5_plant_9 : decode cX5_plant 9 = .ok (.iconst (-1), 1) := by decide +kernel
theorem dX5_plant_10 : decode cX5_plant 10 = .ok (.ireturn, 1) := by decide +kernel
theorem dX5_plant_11 : decode cX5_plant 11 = .ok (.iload_n 2, 1) := by decide +kernel
theorem dX5_plant_12 : decode cX5_plant 12 = .ok (.ifCond .lt 9, 3) := by decide +kernel
theorem dX5_plant_15 : decode cX5_plant 15 = .ok (.iload_n 2, 1) := by decide +kernel
theorem dX5_plant_16 : decode cX5_plant 16 = .ok (.bipush 100, 2) := by decide +kernel
theorem dX5_plant_18 : decode cX5_plant 18 = .ok (.if_icmp .le 6, 3) := by decide +kernel
theorem dX5_plant_21 : decode cX5_plant 21 = .ok (.bipush (-2), 2) := by decide +kernel
theorem dX5_plant_23 : decode cX5_plant 23 = .ok (.ireturn, 1) := by decide +kernel
theorem dX5_plant_24 : decode cX5_plant 24 = .ok (.iload_n 1, 1) := by decide +kernel
theorem dX5_plant_25 : decode cX5_plant 25 = .ok (.ifCond .ne 15, 3) := by decide +kernel
theorem dX5_plant_28 : decode cX5_plant 28 = .ok (.aload_n 0, 1) := by decide +kernel
theorem dX5_plant_29 : decode cX5_plant 29 = .ok (.getfield 18, 3) := by decide +kernel
theorem dX5_plant_32 : decode cX5_plant 32 = .ok (.iload_n 2, 1) := by decide +kernel
theorem dX5_plant_33 : decode cX5_plant 33 = .ok (.iload_n 3, 1) := by decide +kernel
theorem dX5_plant_34 : decode cX5_plant 34 = .ok (.invokevirtual 83, 3) := by decide +kernel
theorem dX5_plant_37 : decode cX5_plant 37 = .ok (.goto 11, 3) := by decide +kernel
theorem dX5_plant_40 : decode cX5_plant 40 = .ok (.aload_n 0, 1) := by decide +kernel
theorem dX5_plant_41 : decode cX5_plant 41 = .ok (.getfield 18, 3) := by decide +kernel
theorem dX5_plant_44 : decode cX5_plant 44 = .ok (.iload_n 2, 1) := by decide +kernel
theorem dX5_plant_45 : decode cX5_plant 45 = .ok (.invokevirtual 87, 3) := by decide +kernel
theorem dX5_plant_48 : decode cX5_plant 48 = .ok (.iconst 1, 1) := by decide +kernel
theorem dX5_plant_49 : decode cX5_plant 49 = .ok (.ireturn, 1) := by decide +kernel
theorem dX5_valid_0 : decode cX5_valid 0 = .ok (.aload_n 0, 1) := by decide +kernel
theorem dX5_valid_1 : decode cX5_valid 1 = .ok (.getfield 34, 3) := by decide +kernel
theorem dX5_valid_4 : decode cX5_valid 4 = .ok (.getfield 91, 3) := by decide +kernel
theorem dX5_valid_7 : decode cX5_valid 7 = .ok (.ireturn, 1) := by decide +kernel
theorem dX5_react_0 : decode cX5_react 0 = .ok (.lload_n 1, 1) := by decide +kernel
theorem dX5_react_1 : decode cX5_react 1 = .ok (.aload_n 0, 1) := by decide +kernel
theorem dX5_react_2 : decode cX5_react 2 = .ok (.getfield 94, 3) := by decide +kernel
theorem dX5_react_5 : decode cX5_react 5 = .ok (.lcmp, 1) := by decide +kernel
theorem dX5_react_6 : decode cX5_react 6 = .ok (.ifCond .ge 6, 3) := by decide +kernel
theorem dX5_react_9 : decode cX5_react 9 = .ok (.bipush (-2), 2) := by decide +kernel
theorem dX5_react_11 : decode cX5_react 11 = .ok (.ireturn, 1) := by decide +kernel
theorem dX5_react_12 : decode cX5_react 12 = .ok (.aload_n 0, 1) := by decide +kernel
theorem dX5_react_13 : decode cX5_react 13 = .ok (.lload_n 1, 1) := by decide +kernel
theorem dX5_react_14 : decode cX5_react 14 = .ok (.putfield 94, 3) := by decide +kernel
theorem dX5_react_17 : decode cX5_react 17 = .ok (.lload_n 1, 1) := by decide +kernel
theorem dX5_react_18 : decode cX5_react 18 = .ok (.aload_n 0, 1) := by decide +kernel
theorem dX5_react_19 : decode cX5_react 19 = .ok (.getfield 98, 3) := by decide +kernel
theorem dX5_react_22 : decode cX5_react 22 = .ok (.lsub, 1) := by decide +kernel
theorem dX5_react_23 : decode cX5_react 23 = .ok (.ldc2_w 101, 3) := by decide +kernel
theorem dX5_react_26 : decode cX5_react 26 = .ok (.lcmp, 1) := by decide +kernel
theorem dX5_react_27 : decode cX5_react 27 = .ok (.ifCond .ge 14, 3) := by decide +kernel
theorem dX5_react_30 : decode cX5_react 30 = .ok (.aload_n 0, 1) := by decide +kernel
theorem dX5_react_31 : decode cX5_react 31 = .ok (.getfield 34, 3) := by decide +kernel
theorem dX5_react_34 : decode cX5_react 34 = .ok (.getfield 77, 3) := by decide +kernel
theorem dX5_react_37 : decode cX5_react 37 = .ok (.iconst 3, 1) := by decide +kernel
theorem dX5_react_38 : decode cX5_react 38 = .ok (.if_icmp .ne 7, 3) := by decide +kernel
theorem dX5_react_41 : decode cX5_react 41 = .ok (.iconst 1, 1) := by decide +kernel
theorem dX5_react_42 : decode cX5_react 42 = .ok (.goto 4, 3) := by decide +kernel
theorem dX5_react_45 : decode cX5_react 45 = .ok (.iconst 0, 1) := by decide +kernel
theorem dX5_react_46 : decode cX5_react 46 = .ok (.ireturn, 1) := by decide +kernel
set_option maxRecDepth 20000 in
theorem ggX5_told_X0_everFound : GoodIn wsX5_told wsX0_everFound := goodIn_r _ [6, 7, 13, 14, 15, 16, 17] (by decide +kernel) (by decide +kernel)
set_option maxRecDepth 20000 in
theorem gX5_told_X0_everFound : GoodIn wsX5_told (wsV RX5 103 RX0 yX0_everFound wsX0_everFound) := goodIn_app (goodIn_of _ (by decide +kernel)) ggX5_told_X0_everFound
theorem dX5_told_0 : decode cX5_told 0 = .ok (.aload_n 0, 1) := by decide +kernel
theorem dX5_told_1 : decode cX5_told 1 = .ok (.getfield 34, 3) := by decide +kernel
theorem dX5_told_4 : decode cX5_told 4 = .ok (.iload_n 1, 1) := by decide +kernel
theorem dX5_told_5 : decode cX5_told 5 = .ok (.invokevirtual 103, 3) := by decide +kernel
theorem dX5_told_8 : decode cX5_told 8 = .ok (.ireturn, 1) := by decide +kernel
theorem dX5_polynomial_0 : decode cX5_polynomial 0 = .ok (.iload_n 1, 1) := by decide +kernel
theorem dX5_polynomial_1 : decode cX5_polynomial 1 = .ok (.lookupswitch 45 #[(8, 35), (16, 38), (32, 42)], 35) := by decide +kernel
theorem dX5_polynomial_36 : decode cX5_polynomial 36 = .ok (.bipush 29, 2) := by decide +kernel
theorem dX5_polynomial_38 : decode cX5_polynomial 38 = .ok (.ireturn, 1) := by decide +kernel
theorem dX5_polynomial_39 : decode cX5_polynomial 39 = .ok (.sipush 4129, 3) := by decide +kernel
theorem dX5_polynomial_42 : decode cX5_polynomial 42 = .ok (.ireturn, 1) := by decide +kernel
theorem dX5_polynomial_43 : decode cX5_polynomial 43 = .ok (.ldc 106, 2) := by decide +kernel
theorem dX5_polynomial_45 : decode cX5_polynomial 45 = .ok (.ireturn, 1) := by decide +kernel
theorem dX5_polynomial_46 : decode cX5_polynomial 46 = .ok (.iconst (-1), 1) := by decide +kernel
theorem dX5_polynomial_47 : decode cX5_polynomial 47 = .ok (.ireturn, 1) := by decide +kernel
set_option maxRecDepth 20000 in
theorem ggX5_endOfRow_X3_endRow : GoodIn wsX5_endOfRow wsX3_endRow := goodIn_r _ [9, 10, 11, 12, 13, 14, 8, 15, 16, 17, 18, 19, 20, 21, 22, 23, 24, 25, 26, 27, 28, 29, 30, 31, 32, 33, 34, 35, 36, 37, 38, 39, 40, 41, 42, 43, 44, 45, 46, 47, 48, 49, 50, 51, 52, 53, 54, 55, 56, 57, 58, 59, 60, 61, 62, 63, 64, 65, 66, 67, 68, 69, 70, 71, 72, 73, 74, 110, 111, 112, 113, 114, 115, 116, 117, 118, 119, 120, 121] (by decide +kernel) (by decide +kernel)
set_option maxRecDepth 20000 in
theorem gX5_endOfRow_X3_endRow : GoodIn wsX5_endOfRow (wsV RX5 107 RX3 yX3_endRow wsX3_endRow) := goodIn_app (goodIn_of _ (by decide +kernel)) ggX5_endOfRow_X3_endRow
set_option maxRecDepth 20000 in
theorem ggX5_endOfRow_X0_add : GoodIn wsX5_endOfRow wsX0_add := goodIn_r _ [79, 80, 81, 82, 83, 84, 85, 86, 87, 88, 89, 90, 91, 92, 93, 94, 78, 95, 96, 97, 98, 99, 100, 101, 102, 103, 122, 123, 124, 125, 126] (by decide +kernel) (by decide +kernel)
set_option maxRecDepth 20000 in
theorem gX5_endOfRow_X0_add : GoodIn wsX5_endOfRow (wsV RX5 110 RX0 yX0_add wsX0_add) := goodIn_app (goodIn_of _ (by decide +kernel)) ggX5_endOfRow_X0_add
set_option maxRecDepth 20000 in
theorem ggX5_endOfRow_X5_sideOf : GoodIn wsX5_endOfRow wsX5_sideOf := goodIn_r _ [91] (by decide +kernel) (by decide +kernel)
set_option maxRecDepth 20000 in
theorem gX5_endOfRow_X5_sideOf : GoodIn wsX5_endOfRow (va_wsS RX5 113 yX5_sideOf wsX5_sideOf) := goodIn_app (goodIn_of _ (by decide +kernel)) ggX5_endOfRow_X5_sideOf
theorem dX5_endOfRow_0 : decode cX5_endOfRow 0 = .ok (.aload_n 0, 1) := by decide +kernel
theorem dX5_endOfRow_1 : decode cX5_endOfRow 1 = .ok (.getfield 27, 3) := by decide +kernel
theorem dX5_endOfRow_4 : decode cX5_endOfRow 4 = .ok (.iload_n 1, 1) := by decide +kernel
theorem dX5_endOfRow_5 : decode cX5_endOfRow 5 = .ok (.invokevirtual 107, 3) := by decide +kernel
theorem dX5_endOfRow_8 : decode cX5_endOfRow 8 = .ok (.istore_n 2, 1) := by decide +kernel
theorem dX5_endOfRow_9 : decode cX5_endOfRow 9 = .ok (.aload_n 0, 1) := by decide +kernel
theorem dX5_endOfRow_10 : decode cX5_endOfRow 10 = .ok (.getfield 34, 3) := by decide +kernel
theorem dX5_endOfRow_13 : decode cX5_endOfRow 13 = .ok (.iload_n 2, 1) := by decide +kernel
theorem dX5_endOfRow_14 : decode cX5_endOfRow 14 = .ok (.invokevirtual 110, 3) := by decide +kernel
theorem dX5_endOfRow_17 : decode cX5_endOfRow 17 = .ok (.iload_n 2, 1) := by decide +kernel
theorem dX5_endOfRow_18 : decode cX5_endOfRow 18 = .ok (.invokestatic 113, 3) := by decide +kernel
theorem dX5_endOfRow_21 : decode cX5_endOfRow 21 = .ok (.iconst 1, 1) := by decide +kernel
theorem dX5_endOfRow_22 : decode cX5_endOfRow 22 = .ok (.if_icmp .ne 11, 3) := by decide +kernel
theorem dX5_endOfRow_25 : decode cX5_endOfRow 25 = .ok (.aload_n 0, 1) := by decide +kernel
theorem dX5_endOfRow_26 : decode cX5_endOfRow 26 = .ok (.aload_n 0, 1) := by decide +kernel
theorem dX5_endOfRow_27 : decode cX5_endOfRow 27 = .ok (.getfield 94, 3) := by decide +kernel
theorem dX5_endOfRow_30 : decode cX5_endOfRow 30 = .ok (.putfield 98, 3) := by decide +kernel
theorem dX5_endOfRow_33 : decode cX5_endOfRow 33 = .ok (.iload_n 2, 1) := by decide +kernel
theorem dX5_endOfRow_34 : decode cX5_endOfRow 34 = .ok (.ireturn, 1) := by decide +kernel
theorem dX5_isIdentity_0 : decode cX5_isIdentity 0 = .ok (.iload_n 0, 1) := by decide +kernel
theorem dX5_isIdentity_1 : decode cX5_isIdentity 1 = .ok (.ifCond .lt 13, 3) := by decide +kernel
theorem dX5_isIdentity_4 : decode cX5_isIdentity 4 = .ok (.iload_n 0, 1) := by decide +kernel
theorem dX5_isIdentity_5 : decode cX5_isIdentity 5 = .ok (.ldc 116, 2) := by decide +kernel
theorem dX5_isIdentity_7 : decode cX5_isIdentity 7 = .ok (.if_icmp .gt 7, 3) := by decide +kernel
theorem dX5_isIdentity_10 : decode cX5_isIdentity 10 = .ok (.iconst 1, 1) := by decide +kernel
theorem dX5_isIdentity_11 : decode cX5_isIdentity 11 = .ok (.goto 4, 3) := by decide +kernel
theorem dX5_isIdentity_14 : decode cX5_isIdentity 14 = .ok (.iconst 0, 1) := by decide +kernel
theorem dX5_isIdentity_15 : decode cX5_isIdentity 15 = .ok (.ireturn, 1) := by decide +kernel
theorem dX5_sideOf_0 : decode cX5_sideOf 0 = .ok (.iload_n 0, 1) := by decide +kernel
theorem dX5_sideOf_1 : decode cX5_sideOf 1 = .ok (.tableswitch 43 0 5 #[39, 43, 39, 41, 41, 39], 39) := by decide +kernel
theorem dX5_sideOf_40 : decode cX5_sideOf 40 = .ok (.iconst 1, 1) := by decide +kernel
theorem dX5_sideOf_41 : decode cX5_sideOf 41 = .ok (.ireturn, 1) := by decide +kernel
theorem dX5_sideOf_42 : decode cX5_sideOf 42 = .ok (.iconst 2, 1) := by decide +kernel
theorem dX5_sideOf_43 : decode cX5_sideOf 43 = .ok (.ireturn, 1) := by decide +kernel
theorem dX5_sideOf_44 : decode cX5_sideOf 44 = .ok (.iconst 0, 1) := by decide +kernel
theorem dX5_sideOf_45 : decode cX5_sideOf 45 = .ok (.ireturn, 1) := by decide +kernel

theorem dX0_init_0 : decode cX0_init 0 = .ok (.aload_n 0, 1) := by decide +kernel
theorem dX0_init_1 : decode cX0_init 1 = .ok (.invokespecial 3, 3) := by decide +kernel
theorem dX0_init_4 : decode cX0_init 4 = .ok (.aload_n 0, 1) := by decide +kernel
theorem dX0_init_5 : decode cX0_init 5 = .ok (.bipush 10, 2) := by decide +kernel
theorem dX0_init_7 : decode cX0_init 7 = .ok (.newarray .int, 2) := by decide +kernel
theorem dX0_init_9 : decode cX0_init 9 = .ok (.putfield 9, 3) := by decide +kernel
theorem dX0_init_12 : decode cX0_init 12 = .ok (.aload_n 0, 1) := by decide +kernel
theorem dX0_init_13 : decode cX0_init 13 = .ok (.iconst 0, 1) := by decide +kernel
theorem dX0_init_14 : decode cX0_init 14 = .ok (.putfield 15, 3) := by decide +kernel
theorem dX0_init_17 : decode cX0_init 17 = .ok (.return_, 1) := by decide +kernel
set_option maxRecDepth 20000 in
theorem ggX0_add_X5_sideOf : GoodIn wsX0_add wsX5_sideOf := goodIn_r _ [12] (by decide +kernel) (by decide +kernel)
set_option maxRecDepth 20000 in
theorem gX0_add_X5_sideOf_n28 : GoodIn wsX0_add (wsX5_sideOf) := ggX0_add_X5_sideOf
set_option maxRecDepth 20000 in
theorem ggX0_add_X0_joinedAfter : GoodIn wsX0_add wsX0_joinedAfter := goodIn_r _ [17, 18, 19, 20, 16, 21, 22, 23, 24, 25, 2, 1, 10, 11, 12, 26, 27, 28, 29, 30] (by decide +kernel) (by decide +kernel)
set_option maxRecDepth 20000 in
theorem gX0_add_X0_joinedAfter : GoodIn wsX0_add (wsV RX0 38 RX0 yX0_joinedAfter wsX0_joinedAfter) := goodIn_app (goodIn_of _ (by decide +kernel)) ggX0_add_X0_joinedAfter
theorem dX0_add_0 : decode cX0_add 0 = .ok (.bipush 9, 2) := by decide +kernel
theorem dX0_add_2 : decode cX0_add 2 = .ok (.istore_n 2, 1) := by decide +kernel
theorem dX0_add_3 : decode cX0_add 3 = .ok (.iload_n 2, 1) := by decide +kernel
theorem dX0_add_4 : decode cX0_add 4 = .ok (.ifCond .le 23, 3) := by decide +kernel
theorem dX0_add_7 : decode cX0_add 7 = .ok (.aload_n 0, 1) := by decide +kernel
theorem dX0_add_8 : decode cX0_add 8 = .ok (.getfield 9, 3) := by decide +kernel
theorem dX0_add_11 : decode cX0_add 11 = .ok (.iload_n 2, 1) := by decide +kernel
theorem dX0_add_12 : decode cX0_add 12 = .ok (.aload_n 0, 1) := by decide +kernel
theorem dX0_add_13 : decode cX0_add 13 = .ok (.getfield 9, 3) := by decide +kernel
theorem dX0_add_16 : decode cX0_add 16 = .ok (.iload_n 2, 1) := by decide +kernel
theorem dX0_add_17 : decode cX0_add 17 = .ok (.iconst 1, 1) := by decide +kernel
theorem dX0_add_18 : decode cX0_add 18 = .ok (.isub, 1) := by decide +kernel
theorem dX0_add_19 : decode cX0_add 19 = .ok (.iaload, 1) := by decide +kernel
theorem dX0_add_20 : decode cX0_add 20 = .ok (.iastore, 1) := by decide +kernel
theorem dX0_add_21 : decode cX0_add 21 = .ok (.iinc 2 (-1), 3) := by decide +kernel
theorem dX0_add_24 : decode cX0_add 24 = .ok (.goto (-21), 3) := by decide +kernel
theorem dX0_add_27 : decode cX0_add 27 = .ok (.aload_n 0, 1) := by decide +kernel
theorem dX0_add_28 : decode cX0_add 28 = .ok (.getfield 9, 3) := by decide +kernel
theorem dX0_add_31 : decode cX0_add 31 = .ok (.iconst 0, 1) := by decide +kernel
theorem dX0_add_32 : decode cX0_add 32 = .ok (.iload_n 1, 1) := by decide +kernel
theorem dX0_add_33 : decode cX0_add 33 = .ok (.iastore, 1) := by decide +kernel
theorem dX0_add_34 : decode cX0_add 34 = .ok (.aload_n 0, 1) := by decide +kernel
theorem dX0_add_35 : decode cX0_add 35 = .ok (.aload_n 0, 1) := by decide +kernel
theorem dX0_add_36 : decode cX0_add 36 = .ok (.getfield 19, 3) := by decide +kernel
theorem dX0_add_39 : decode cX0_add 39 = .ok (.iconst 1, 1) := by decide +kernel
theorem dX0_add_40 : decode cX0_add 40 = .ok (.iadd, 1) := by decide +kernel
theorem dX0_add_41 : decode cX0_add 41 = .ok (.bipush 10, 2) := by decide +kernel
theorem dX0_add_43 : decode cX0_add 43 = .ok (.invokestatic 22, 3) := by decide +kernel
theorem dX0_add_46 : decode cX0_add 46 = .ok (.putfield 19, 3) := by decide +kernel
theorem dX0_add_49 : decode cX0_add 49 = .ok (.iload_n 1, 1) := by decide +kernel
theorem dX0_add_50 : decode cX0_add 50 = .ok (.invokestatic 28, 3) := by decide +kernel
theorem dX0_add_53 : decode cX0_add 53 = .ok (.iconst 1, 1) := by decide +kernel
theorem dX0_add_54 : decode cX0_add 54 = .ok (.if_icmp .ne 13, 3) := by decide +kernel
theorem dX0_add_57 : decode cX0_add 57 = .ok (.aload_n 0, 1) := by decide +kernel
theorem dX0_add_58 : decode cX0_add 58 = .ok (.dup, 1) := by decide +kernel
theorem dX0_add_59 : decode cX0_add 59 = .ok (.getfield 32, 3) := by decide +kernel
theorem dX0_add_62 : decode cX0_add 62 = .ok (.iconst 1, 1) := by decide +kernel
theorem dX0_add_63 : decode cX0_add 63 = .ok (.iadd, 1) := by decide +kernel
theorem dX0_add_64 : decode cX0_add 64 = .ok (.putfield 32, 3) := by decide +kernel
theorem dX0_add_67 : decode cX0_add 67 = .ok (.aload_n 0, 1) := by decide +kernel
theorem dX0_add_68 : decode cX0_add 68 = .ok (.dup, 1) := by decide +kernel
theorem dX0_add_69 : decode cX0_add 69 = .ok (.getfield 35, 3) := by decide +kernel
theorem dX0_add_72 : decode cX0_add 72 = .ok (.iconst 1, 1) := by decide +kernel
theorem dX0_add_73 : decode cX0_add 73 = .ok (.iload_n 1, 1) := by decide +kernel
theorem dX0_add_74 : decode cX0_add 74 = .ok (.ishl, 1) := by decide +kernel
theorem dX0_add_75 : decode cX0_add 75 = .ok (.ior, 1) := by decide +kernel
theorem dX0_add_76 : decode cX0_add 76 = .ok (.putfield 35, 3) := by decide +kernel
theorem dX0_add_79 : decode cX0_add 79 = .ok (.aload_n 0, 1) := by decide +kernel
theorem dX0_add_80 : decode cX0_add 80 = .ok (.aload_n 0, 1) := by decide +kernel
theorem dX0_add_81 : decode cX0_add 81 = .ok (.aload_n 0, 1) := by decide +kernel
theorem dX0_add_82 : decode cX0_add 82 = .ok (.getfield 15, 3) := by decide +kernel
theorem dX0_add_85 : decode cX0_add 85 = .ok (.ifCond .ne 7, 3) := by decide +kernel
theorem dX0_add_88 : decode cX0_add 88 = .ok (.iconst 1, 1) := by decide +kernel
theorem dX0_add_89 : decode cX0_add 89 = .ok (.goto 7, 3) := by decide +kernel
theorem dX0_add_92 : decode cX0_add 92 = .ok (.aload_n 0, 1) := by decide +kernel
theorem dX0_add_93 : decode cX0_add 93 = .ok (.getfield 15, 3) := by decide +kernel
theorem dX0_add_96 : decode cX0_add 96 = .ok (.invokevirtual 38, 3) := by decide +kernel
theorem dX0_add_99 : decode cX0_add 99 = .ok (.putfield 15, 3) := by decide +kernel
theorem dX0_add_102 : decode cX0_add 102 = .ok (.return_, 1) := by decide +kernel
theorem dX0_finding_0 : decode cX0_finding 0 = .ok (.iload_n 1, 1) := by decide +kernel
theorem dX0_finding_1 : decode cX0_finding 1 = .ok (.ifCond .lt 29, 3) := by decide +kernel
theorem dX0_finding_4 : decode cX0_finding 4 = .ok (.iload_n 1, 1) := by decide +kernel
theorem dX0_finding_5 : decode cX0_finding 5 = .ok (.aload_n 0, 1) := by decide +kernel
theorem dX0_finding_6 : decode cX0_finding 6 = .ok (.getfield 19, 3) := by decide +kernel
theorem dX0_finding_9 : decode cX0_finding 9 = .ok (.if_icmp .ge 21, 3) := by decide +kernel
theorem dX0_finding_12 : decode cX0_finding 12 = .ok (.iload_n 1, 1) := by decide +kernel
theorem dX0_finding_13 : decode cX0_finding 13 = .ok (.aload_n 0, 1) := by decide +kernel
theorem dX0_finding_14 : decode cX0_finding 14 = .ok (.getfield 9, 3) := by decide +kernel
theorem dX0_finding_17 : decode cX0_finding 17 = .ok (.arraylength, 1) := by decide +kernel
theorem dX0_finding_18 : decode cX0_finding 18 = .ok (.if_icmp .ge 12, 3) := by decide +kernel
theorem dX0_finding_21 : decode cX0_finding 21 = .ok (.aload_n 0, 1) := by decide +kernel
theorem dX0_finding_22 : decode cX0_finding 22 = .ok (.getfield 9, 3) := by decide +kernel
theorem dX0_finding_25 : decode cX0_finding 25 = .ok (.iload_n 1, 1) := by decide +kernel
theorem dX0_finding_26 : decode cX0_finding 26 = .ok (.iaload, 1) := by decide +kernel
theorem dX0_finding_27 : decode cX0_finding 27 = .ok (.goto 4, 3) := by decide +kernel
theorem dX0_finding_30 : decode cX0_finding 30 = .ok (.iconst (-1), 1) := by decide +kernel
theorem dX0_finding_31 : decode cX0_finding 31 = .ok (.ireturn, 1) := by decide +kernel
theorem dX0_everFound_0 : decode cX0_everFound 0 = .ok (.iload_n 1, 1) := by decide +kernel
theorem dX0_everFound_1 : decode cX0_everFound 1 = .ok (.ifCond .lt 24, 3) := by decide +kernel
theorem dX0_everFound_4 : decode cX0_everFound 4 = .ok (.iload_n 1, 1) := by decide +kernel
theorem dX0_everFound_5 : decode cX0_everFound 5 = .ok (.iconst 5, 1) := by decide +kernel
theorem dX0_everFound_6 : decode cX0_everFound 6 = .ok (.if_icmp .gt 19, 3) := by decide +kernel
theorem dX0_everFound_9 : decode cX0_everFound 9 = .ok (.aload_n 0, 1) := by decide +kernel
theorem dX0_everFound_10 : decode cX0_everFound 10 = .ok (.getfield 35, 3) := by decide +kernel
theorem dX0_everFound_13 : decode cX0_everFound 13 = .ok (.iload_n 1, 1) := by decide +kernel
theorem dX0_everFound_14 : decode cX0_everFound 14 = .ok (.ishr, 1) := by decide +kernel
theorem dX0_everFound_15 : decode cX0_everFound 15 = .ok (.iconst 1, 1) := by decide +kernel
theorem dX0_everFound_16 : decode cX0_everFound 16 = .ok (.iand, 1) := by decide +kernel
theorem dX0_everFound_17 : decode cX0_everFound 17 = .ok (.iconst 1, 1) := by decide +kernel
theorem dX0_everFound_18 : decode cX0_everFound 18 = .ok (.if_icmp .ne 7, 3) := by decide +kernel
theorem dX0_everFound_21 : decode cX0_everFound 21 = .ok (.iconst 1, 1) := by decide +kernel
theorem dX0_everFound_22 : decode cX0_everFound 22 = .ok (.goto 4, 3) := by decide +kernel
theorem dX0_everFound_25 : decode cX0_everFound 25 = .ok (.iconst 0, 1) := by decide +kernel
theorem dX0_everFound_26 : decode cX0_everFound 26 = .ok (.ireturn, 1) := by decide +kernel
set_option maxRecDepth 20000 in
theorem ggX0_joinedAfter_X0_countOfLast : GoodIn wsX0_joinedAfter wsX0_countOfLast := goodIn_r _ [5, 6, 7, 8, 4, 9, 10, 11, 12, 13, 14, 15, 16, 17, 18, 19] (by decide +kernel) (by decide +kernel)
set_option maxRecDepth 20000 in
theorem gX0_joinedAfter_X0_countOfLast : GoodIn wsX0_joinedAfter (wsV RX0 41 RX0 yX0_countOfLast wsX0_countOfLast) := goodIn_app (goodIn_of _ (by decide +kernel)) ggX0_joinedAfter_X0_countOfLast
theorem dX0_joinedAfter_0 : decode cX0_joinedAfter 0 = .ok (.aload_n 0, 1) := by decide +kernel
theorem dX0_joinedAfter_1 : decode cX0_joinedAfter 1 = .ok (.bipush 10, 2) := by decide +kernel
theorem dX0_joinedAfter_3 : decode cX0_joinedAfter 3 = .ok (.iconst 2, 1) := by decide +kernel
theorem dX0_joinedAfter_4 : decode cX0_joinedAfter 4 = .ok (.invokevirtual 41, 3) := by decide +kernel
theorem dX0_joinedAfter_7 : decode cX0_joinedAfter 7 = .ok (.iconst 3, 1) := by decide +kernel
theorem dX0_joinedAfter_8 : decode cX0_joinedAfter 8 = .ok (.if_icmp .lt 5, 3) := by decide +kernel
theorem dX0_joinedAfter_11 : decode cX0_joinedAfter 11 = .ok (.iconst 3, 1) := by decide +kernel
theorem dX0_joinedAfter_12 : decode cX0_joinedAfter 12 = .ok (.ireturn, 1) := by decide +kernel
theorem dX0_joinedAfter_13 : decode cX0_joinedAfter 13 = .ok (.aload_n 0, 1) := by decide +kernel
theorem dX0_joinedAfter_14 : decode cX0_joinedAfter 14 = .ok (.bipush 10, 2) := by decide +kernel
theorem dX0_joinedAfter_16 : decode cX0_joinedAfter 16 = .ok (.iconst 1, 1) := by decide +kernel
theorem dX0_joinedAfter_17 : decode cX0_joinedAfter 17 = .ok (.invokevirtual 41, 3) := by decide +kernel
theorem dX0_joinedAfter_20 : decode cX0_joinedAfter 20 = .ok (.iconst 3, 1) := by decide +kernel
theorem dX0_joinedAfter_21 : decode cX0_joinedAfter 21 = .ok (.if_icmp .lt 7, 3) := by decide +kernel
theorem dX0_joinedAfter_24 : decode cX0_joinedAfter 24 = .ok (.iconst 1, 1) := by decide +kernel
theorem dX0_joinedAfter_25 : decode cX0_joinedAfter 25 = .ok (.goto 4, 3) := by decide +kernel
theorem dX0_joinedAfter_28 : decode cX0_joinedAfter 28 = .ok (.iconst 0, 1) := by decide +kernel
theorem dX0_joinedAfter_29 : decode cX0_joinedAfter 29 = .ok (.istore_n 2, 1) := by decide +kernel
theorem dX0_joinedAfter_30 : decode cX0_joinedAfter 30 = .ok (.aload_n 0, 1) := by decide +kernel
theorem dX0_joinedAfter_31 : decode cX0_joinedAfter 31 = .ok (.iconst 3, 1) := by decide +kernel
theorem dX0_joinedAfter_32 : decode cX0_joinedAfter 32 = .ok (.iconst 1, 1) := by decide +kernel
theorem dX0_joinedAfter_33 : decode cX0_joinedAfter 33 = .ok (.invokevirtual 41, 3) := by decide +kernel
theorem dX0_joinedAfter_36 : decode cX0_joinedAfter 36 = .ok (.iconst 3, 1) := by decide +kernel
theorem dX0_joinedAfter_37 : decode cX0_joinedAfter 37 = .ok (.if_icmp .ne 7, 3) := by decide +kernel
theorem dX0_joinedAfter_40 : decode cX0_joinedAfter 40 = .ok (.iconst 1, 1) := by decide +kernel
theorem dX0_joinedAfter_41 : decode cX0_joinedAfter 41 = .ok (.goto 4, 3) := by decide +kernel
theorem dX0_joinedAfter_44 : decode cX0_joinedAfter 44 = .ok (.iconst 0, 1) := by decide +kernel
theorem dX0_joinedAfter_45 : decode cX0_joinedAfter 45 = .ok (.istore_n 3, 1) := by decide +kernel
theorem dX0_joinedAfter_46 : decode cX0_joinedAfter 46 = .ok (.iload_n 2, 1) := by decide +kernel
theorem dX0_joinedAfter_47 : decode cX0_joinedAfter 47 = .ok (.ifCond .eq 21, 3) := by decide +kernel
theorem dX0_joinedAfter_50 : decode cX0_joinedAfter 50 = .ok (.iload_n 1, 1) := by decide +kernel
theorem dX0_joinedAfter_51 : decode cX0_joinedAfter 51 = .ok (.iconst 1, 1) := by decide +kernel
theorem dX0_joinedAfter_52 : decode cX0_joinedAfter 52 = .ok (.if_icmp .eq 12, 3) := by decide +kernel
theorem dX0_joinedAfter_55 : decode cX0_joinedAfter 55 = .ok (.iload_n 1, 1) := by decide +kernel
theorem dX0_joinedAfter_56 : decode cX0_joinedAfter 56 = .ok (.iconst 3, 1) := by decide +kernel
theorem dX0_joinedAfter_57 : decode cX0_joinedAfter 57 = .ok (.if_icmp .ne 11, 3) := by decide +kernel
theorem dX0_joinedAfter_60 : decode cX0_joinedAfter 60 = .ok (.iload_n 3, 1) := by decide +kernel
theorem dX0_joinedAfter_61 : decode cX0_joinedAfter 61 = .ok (.ifCond .eq 7, 3) := by decide +kernel
theorem dX0_joinedAfter_64 : decode cX0_joinedAfter 64 = .ok (.iconst 2, 1) := by decide +kernel
theorem dX0_joinedAfter_65 : decode cX0_joinedAfter 65 = .ok (.goto 4, 3) := by decide +kernel
theorem dX0_joinedAfter_68 : decode cX0_joinedAfter 68 = .ok (.iload_n 1, 1) := by decide +kernel
theorem dX0_joinedAfter_69 : decode cX0_joinedAfter 69 = .ok (.ireturn, 1) := by decide +kernel
set_option maxRecDepth 20000 in
theorem ggX0_countOfLast_X0_finding : GoodIn wsX0_countOfLast wsX0_finding := goodIn_r _ [5, 6, 7, 11, 12, 13, 14, 15] (by decide +kernel) (by decide +kernel)
set_option maxRecDepth 20000 in
theorem gX0_countOfLast_X0_finding : GoodIn wsX0_countOfLast (wsV RX0 44 RX0 yX0_finding wsX0_finding) := goodIn_app (goodIn_of _ (by decide +kernel)) ggX0_countOfLast_X0_finding
set_option maxRecDepth 20000 in
theorem ggX0_countOfLast_X5_sideOf : GoodIn wsX0_countOfLast wsX5_sideOf := goodIn_r _ [10] (by decide +kernel) (by decide +kernel)
set_option maxRecDepth 20000 in
theorem gX0_countOfLast_X5_sideOf_n28 : GoodIn wsX0_countOfLast (wsX5_sideOf) := ggX0_countOfLast_X5_sideOf
theorem dX0_countOfLast_0 : decode cX0_countOfLast 0 = .ok (.iconst 0, 1) := by decide +kernel
theorem dX0_countOfLast_1 : decode cX0_countOfLast 1 = .ok (.istore_n 3, 1) := by decide +kernel
theorem dX0_countOfLast_2 : decode cX0_countOfLast 2 = .ok (.iconst 0, 1) := by decide +kernel
theorem dX0_countOfLast_3 : decode cX0_countOfLast 3 = .ok (.istore 4, 2) := by decide +kernel
theorem dX0_countOfLast_5 : decode cX0_countOfLast 5 = .ok (.iload 4, 2) := by decide +kernel
theorem dX0_countOfLast_7 : decode cX0_countOfLast 7 = .ok (.iload_n 1, 1) := by decide +kernel
theorem dX0_countOfLast_8 : decode cX0_countOfLast 8 = .ok (.if_icmp .ge 25, 3) := by decide +kernel
theorem dX0_countOfLast_11 : decode cX0_countOfLast 11 = .ok (.aload_n 0, 1) := by decide +kernel
theorem dX0_countOfLast_12 : decode cX0_countOfLast 12 = .ok (.iload 4, 2) := by decide +kernel
theorem dX0_countOfLast_14 : decode cX0_countOfLast 14 = .ok (.invokevirtual 44, 3) := by decide +kernel
theorem dX0_countOfLast_17 : decode cX0_countOfLast 17 = .ok (.invokestatic 28, 3) := by decide +kernel
theorem dX0_countOfLast_20 : decode cX0_countOfLast 20 = .ok (.iload_n 2, 1) := by decide +kernel
theorem dX0_countOfLast_21 : decode cX0_countOfLast 21 = .ok (.if_icmp .ne 6, 3) := by decide +kernel
theorem dX0_countOfLast_24 : decode cX0_countOfLast 24 = .ok (.iinc 3 1, 3) := by decide +kernel
theorem dX0_countOfLast_27 : decode cX0_countOfLast 27 = .ok (.iinc 4 1, 3) := by decide +kernel
theorem dX0_countOfLast_30 : decode cX0_countOfLast 30 = .ok (.goto (-25), 3) := by decide +kernel
theorem dX0_countOfLast_33 : decode cX0_countOfLast 33 = .ok (.iload_n 3, 1) := by decide +kernel
theorem dX0_countOfLast_34 : decode cX0_countOfLast 34 = .ok (.ireturn, 1) := by decide +kernel
theorem dX1_init_0 : decode cX1_init 0 = .ok (.aload_n 0, 1) := by decide +kernel
theorem dX1_init_1 : decode cX1_init 1 = .ok (.invokespecial 3, 3) := by decide +kernel
theorem dX1_init_4 : decode cX1_init 4 = .ok (.aload_n 0, 1) := by decide +kernel
theorem dX1_init_5 : decode cX1_init 5 = .ok (.bipush 70, 2) := by decide +kernel
theorem dX1_init_7 : decode cX1_init 7 = .ok (.newarray .byte, 2) := by decide +kernel
theorem dX1_init_9 : decode cX1_init 9 = .ok (.putfield 9, 3) := by decide +kernel
theorem dX1_init_12 : decode cX1_init 12 = .ok (.return_, 1) := by decide +kernel
theorem dX1_has_0 : decode cX1_has 0 = .ok (.iload_n 1, 1) := by decide +kernel
theorem dX1_has_1 : decode cX1_has 1 = .ok (.ifCond .lt 24, 3) := by decide +kernel
theorem dX1_has_4 : decode cX1_has 4 = .ok (.iload_n 1, 1) := by decide +kernel
theorem dX1_has_5 : decode cX1_has 5 = .ok (.aload_n 0, 1) := by decide +kernel
theorem dX1_has_6 : decode cX1_has 6 = .ok (.getfield 15, 3) := by decide +kernel
theorem dX1_has_9 : decode cX1_has 9 = .ok (.if_icmp .ge 16, 3) := by decide +kernel
theorem dX1_has_12 : decode cX1_has 12 = .ok (.iload_n 1, 1) := by decide +kernel
theorem dX1_has_13 : decode cX1_has 13 = .ok (.aload_n 0, 1) := by decide +kernel
theorem dX1_has_14 : decode cX1_has 14 = .ok (.getfield 9, 3) := by decide +kernel
theorem dX1_has_17 : decode cX1_has 17 = .ok (.arraylength, 1) := by decide +kernel
theorem dX1_has_18 : decode cX1_has 18 = .ok (.if_icmp .ge 7, 3) := by decide +kernel
theorem dX1_has_21 : decode cX1_has 21 = .ok (.iconst 1, 1) := by decide +kernel
theorem dX1_has_22 : decode cX1_has 22 = .ok (.goto 4, 3) := by decide +kernel
theorem dX1_has_25 : decode cX1_has 25 = .ok (.iconst 0, 1) := by decide +kernel
theorem dX1_has_26 : decode cX1_has 26 = .ok (.ireturn, 1) := by decide +kernel
set_option maxRecDepth 20000 in
theorem ggX1_get_X1_has : GoodIn wsX1_get wsX1_has := goodIn_r _ [6, 7, 1, 8, 9] (by decide +kernel) (by decide +kernel)
set_option maxRecDepth 20000 in
theorem gX1_get_X1_has : GoodIn wsX1_get (wsV RX1 19 RX1 yX1_has wsX1_has) := goodIn_app (goodIn_of _ (by decide +kernel)) ggX1_get_X1_has
theorem dX1_get_0 : decode cX1_get 0 = .ok (.aload_n 0, 1) := by decide +kernel
theorem dX1_get_1 : decode cX1_get 1 = .ok (.iload_n 1, 1) := by decide +kernel
theorem dX1_get_2 : decode cX1_get 2 = .ok (.invokevirtual 19, 3) := by decide +kernel
theorem dX1_get_5 : decode cX1_get 5 = .ok (.ifCond .eq 16, 3) := by decide +kernel
theorem dX1_get_8 : decode cX1_get 8 = .ok (.aload_n 0, 1) := by decide +kernel
theorem dX1_get_9 : decode cX1_get 9 = .ok (.getfield 9, 3) := by decide +kernel
theorem dX1_get_12 : decode cX1_get 12 = .ok (.iload_n 1, 1) := by decide +kernel
theorem dX1_get_13 : decode cX1_get 13 = .ok (.baload, 1) := by decide +kernel
theorem dX1_get_14 : decode cX1_get 14 = .ok (.sipush 255, 3) := by decide +kernel
theorem dX1_get_17 : decode cX1_get 17 = .ok (.iand, 1) := by decide +kernel
theorem dX1_get_18 : decode cX1_get 18 = .ok (.goto 4, 3) := by decide +kernel
theorem dX1_get_21 : decode cX1_get 21 = .ok (.iconst 0, 1) := by decide +kernel
theorem dX1_get_22 : decode cX1_get 22 = .ok (.ireturn, 1) := by decide +kernel
theorem dX1_add_0 : decode cX1_add 0 = .ok (.aload_n 0, 1) := by decide +kernel
theorem dX1_add_1 : decode cX1_add 1 = .ok (.getfield 15, 3) := by decide +kernel
theorem dX1_add_4 : decode cX1_add 4 = .ok (.ifCond .lt 15, 3) := by decide +kernel
theorem dX1_add_7 : decode cX1_add 7 = .ok (.aload_n 0, 1) := by decide +kernel
theorem dX1_add_8 : decode cX1_add 8 = .ok (.getfield 15, 3) := by decide +kernel
theorem dX1_add_11 : decode cX1_add 11 = .ok (.aload_n 0, 1) := by decide +kernel
theorem dX1_add_12 : decode cX1_add 12 = .ok (.getfield 9, 3) := by decide +kernel
theorem dX1_add_15 : decode cX1_add 15 = .ok (.arraylength, 1) := by decide +kernel
theorem dX1_add_16 : decode cX1_add 16 = .ok (.if_icmp .lt 5, 3) := by decide +kernel
theorem dX1_add_19 : decode cX1_add 19 = .ok (.iconst 0, 1) := by decide +kernel
theorem dX1_add_20 : decode cX1_add 20 = .ok (.ireturn, 1) := by decide +kernel
theorem dX1_add_21 : decode cX1_add 21 = .ok (.aload_n 0, 1) := by decide +kernel
theorem dX1_add_22 : decode cX1_add 22 = .ok (.getfield 9, 3) := by decide +kernel
theorem dX1_add_25 : decode cX1_add 25 = .ok (.aload_n 0, 1) := by decide +kernel
theorem dX1_add_26 : decode cX1_add 26 = .ok (.getfield 15, 3) := by decide +kernel
theorem dX1_add_29 : decode cX1_add 29 = .ok (.iload_n 1, 1) := by decide +kernel
theorem dX1_add_30 : decode cX1_add 30 = .ok (.i2b, 1) := by decide +kernel
theorem dX1_add_31 : decode cX1_add 31 = .ok (.bastore, 1) := by decide +kernel
theorem dX1_add_32 : decode cX1_add 32 = .ok (.aload_n 0, 1) := by decide +kernel
theorem dX1_add_33 : decode cX1_add 33 = .ok (.dup, 1) := by decide +kernel
theorem dX1_add_34 : decode cX1_add 34 = .ok (.getfield 15, 3) := by decide +kernel
theorem dX1_add_37 : decode cX1_add 37 = .ok (.iconst 1, 1) := by decide +kernel
theorem dX1_add_38 : decode cX1_add 38 = .ok (.iadd, 1) := by decide +kernel
theorem dX1_add_39 : decode cX1_add 39 = .ok (.putfield 15, 3) := by decide +kernel
theorem dX1_add_42 : decode cX1_add 42 = .ok (.iconst 1, 1) := by decide +kernel
theorem dX1_add_43 : decode cX1_add 43 = .ok (.ireturn, 1) := by decide +kernel
set_option maxRecDepth 20000 in
theorem ggX1_addAll_X1_get : GoodIn wsX1_addAll wsX1_get := goodIn_r _ [6, 7, 8, 9, 10, 5, 11, 1, 16, 17] (by decide +kernel) (by decide +kernel)
set_option maxRecDepth 20000 in
theorem gX1_addAll_X1_get : GoodIn wsX1_addAll (wsV RX1 23 RX1 yX1_get wsX1_get) := goodIn_app (goodIn_of _ (by decide +kernel)) ggX1_addAll_X1_get
set_option maxRecDepth 20000 in
theorem ggX1_addAll_X1_add : GoodIn wsX1_addAll wsX1_add := goodIn_r _ [15, 1, 7, 16, 17] (by decide +kernel) (by decide +kernel)
set_option maxRecDepth 20000 in
theorem gX1_addAll_X1_add : GoodIn wsX1_addAll (wsV RX1 27 RX1 yX1_add wsX1_add) := goodIn_app (goodIn_of _ (by decide +kernel)) ggX1_addAll_X1_add
theorem dX1_addAll_0 : decode cX1_addAll 0 = .ok (.aload_n 1, 1) := by decide +kernel
theorem dX1_addAll_1 : decode cX1_addAll 1 = .ok (.getfield 15, 3) := by decide +kernel
theorem dX1_addAll_4 : decode cX1_addAll 4 = .ok (.istore_n 2, 1) := by decide +kernel
theorem dX1_addAll_5 : decode cX1_addAll 5 = .ok (.iconst 0, 1) := by decide +kernel
theorem dX1_addAll_6 : decode cX1_addAll 6 = .ok (.istore_n 3, 1) := by decide +kernel
theorem dX1_addAll_7 : decode cX1_addAll 7 = .ok (.iload_n 3, 1) := by decide +kernel
theorem dX1_addAll_8 : decode cX1_addAll 8 = .ok (.iload_n 2, 1) := by decide +kernel
theorem dX1_addAll_9 : decode cX1_addAll 9 = .ok (.if_icmp .ge 19, 3) := by decide +kernel
theorem dX1_addAll_12 : decode cX1_addAll 12 = .ok (.aload_n 0, 1) := by decide +kernel
theorem dX1_addAll_13 : decode cX1_addAll 13 = .ok (.aload_n 1, 1) := by decide +kernel
theorem dX1_addAll_14 : decode cX1_addAll 14 = .ok (.iload_n 3, 1) := by decide +kernel
theorem dX1_addAll_15 : decode cX1_addAll 15 = .ok (.invokevirtual 23, 3) := by decide +kernel
theorem dX1_addAll_18 : decode cX1_addAll 18 = .ok (.invokevirtual 27, 3) := by decide +kernel
theorem dX1_addAll_21 : decode cX1_addAll 21 = .ok (.pop, 1) := by decide +kernel
theorem dX1_addAll_22 : decode cX1_addAll 22 = .ok (.iinc 3 1, 3) := by decide +kernel
theorem dX1_addAll_25 : decode cX1_addAll 25 = .ok (.goto (-18), 3) := by decide +kernel
theorem dX1_addAll_28 : decode cX1_addAll 28 = .ok (.return_, 1) := by decide +kernel
set_option maxRecDepth 20000 in
theorem ggX1_addNumber_X1_add : GoodIn wsX1_addNumber wsX1_add := goodIn_r _ [5, 6, 7, 8, 9] (by decide +kernel) (by decide +kernel)
set_option maxRecDepth 20000 in
theorem gX1_addNumber_X1_add : GoodIn wsX1_addNumber (wsV RX1 27 RX1 yX1_add wsX1_add) := goodIn_app (goodIn_of _ (by decide +kernel)) ggX1_addNumber_X1_add
theorem dX1_addNumber_0 : decode cX1_addNumber 0 = .ok (.iload_n 2, 1) := by decide +kernel
theorem dX1_addNumber_1 : decode cX1_addNumber 1 = .ok (.iconst 1, 1) := by decide +kernel
theorem dX1_addNumber_2 : decode cX1_addNumber 2 = .ok (.isub, 1) := by decide +kernel
theorem dX1_addNumber_3 : decode cX1_addNumber 3 = .ok (.istore_n 3, 1) := by decide +kernel
theorem dX1_addNumber_4 : decode cX1_addNumber 4 = .ok (.iload_n 3, 1) := by decide +kernel
theorem dX1_addNumber_5 : decode cX1_addNumber 5 = .ok (.ifCond .lt 20, 3) := by decide +kernel
theorem dX1_addNumber_8 : decode cX1_addNumber 8 = .ok (.aload_n 0, 1) := by decide +kernel
theorem dX1_addNumber_9 : decode cX1_addNumber 9 = .ok (.iload_n 1, 1) := by decide +kernel
theorem dX1_addNumber_10 : decode cX1_addNumber 10 = .ok (.bipush 8, 2) := by decide +kernel
theorem dX1_addNumber_12 : decode cX1_addNumber 12 = .ok (.iload_n 3, 1) := by decide +kernel
theorem dX1_addNumber_13 : decode cX1_addNumber 13 = .ok (.imul, 1) := by decide +kernel
theorem dX1_addNumber_14 : decode cX1_addNumber 14 = .ok (.iushr, 1) := by decide +kernel
theorem dX1_addNumber_15 : decode cX1_addNumber 15 = .ok (.invokevirtual 27, 3) := by decide +kernel
theorem dX1_addNumber_18 : decode cX1_addNumber 18 = .ok (.pop, 1) := by decide +kernel
theorem dX1_addNumber_19 : decode cX1_addNumber 19 = .ok (.iinc 3 (-1), 3) := by decide +kernel
theorem dX1_addNumber_22 : decode cX1_addNumber 22 = .ok (.goto (-18), 3) := by decide +kernel
theorem dX1_addNumber_25 : decode cX1_addNumber 25 = .ok (.return_, 1) := by decide +kernel
set_option maxRecDepth 20000 in
theorem ggX1_numberAt_X1_get : GoodIn wsX1_numberAt wsX1_get := goodIn_r _ [5, 6, 7, 8, 9, 4, 10, 11, 12, 13] (by decide +kernel) (by decide +kernel)
set_option maxRecDepth 20000 in
theorem gX1_numberAt_X1_get : GoodIn wsX1_numberAt (wsV RX1 23 RX1 yX1_get wsX1_get) := goodIn_app (goodIn_of _ (by decide +kernel)) ggX1_numberAt_X1_get
theorem dX1_numberAt_0 : decode cX1_numberAt 0 = .ok (.iconst 0, 1) := by decide +kernel
theorem dX1_numberAt_1 : decode cX1_numberAt 1 = .ok (.istore_n 3, 1) := by decide +kernel
theorem dX1_numberAt_2 : decode cX1_numberAt 2 = .ok (.iconst 0, 1) := by decide +kernel
theorem dX1_numberAt_3 : decode cX1_numberAt 3 = .ok (.istore 4, 2) := by decide +kernel
theorem dX1_numberAt_5 : decode cX1_numberAt 5 = .ok (.iload 4, 2) := by decide +kernel
theorem dX1_numberAt_7 : decode cX1_numberAt 7 = .ok (.iload_n 2, 1) := by decide +kernel
theorem dX1_numberAt_8 : decode cX1_numberAt 8 = .ok (.if_icmp .ge 23, 3) := by decide +kernel
theorem dX1_numberAt_11 : decode cX1_numberAt 11 = .ok (.iload_n 3, 1) := by decide +kernel
theorem dX1_numberAt_12 : decode cX1_numberAt 12 = .ok (.bipush 8, 2) := by decide +kernel
theorem dX1_numberAt_14 : decode cX1_numberAt 14 = .ok (.ishl, 1) := by decide +kernel
theorem dX1_numberAt_15 : decode cX1_numberAt 15 = .ok (.aload_n 0, 1) := by decide +kernel
theorem dX1_numberAt_16 : decode cX1_numberAt 16 = .ok (.iload_n 1, 1) := by decide +kernel
theorem dX1_numberAt_17 : decode cX1_numberAt 17 = .ok (.iload 4, 2) := by decide +kernel
theorem dX1_numberAt_19 : decode cX1_numberAt 19 = .ok (.iadd, 1) := by decide +kernel
theorem dX1_numberAt_20 : decode cX1_numberAt 20 = .ok (.invokevirtual 23, 3) := by decide +kernel
theorem dX1_numberAt_23 : decode cX1_numberAt 23 = .ok (.ior, 1) := by decide +kernel
theorem dX1_numberAt_24 : decode cX1_numberAt 24 = .ok (.istore_n 3, 1) := by decide +kernel
theorem dX1_numberAt_25 : decode cX1_numberAt 25 = .ok (.iinc 4 1, 3) := by decide +kernel
theorem dX1_numberAt_28 : decode cX1_numberAt 28 = .ok (.goto (-23), 3) := by decide +kernel
theorem dX1_numberAt_31 : decode cX1_numberAt 31 = .ok (.iload_n 3, 1) := by decide +kernel
theorem dX1_numberAt_32 : decode cX1_numberAt 32 = .ok (.ireturn, 1) := by decide +kernel
set_option maxRecDepth 20000 in
theorem ggX1_flip_X1_has : GoodIn wsX1_flip wsX1_has := goodIn_r _ [6, 7, 1, 8, 9] (by decide +kernel) (by decide +kernel)
set_option maxRecDepth 20000 in
theorem gX1_flip_X1_has : GoodIn wsX1_flip (wsV RX1 19 RX1 yX1_has wsX1_has) := goodIn_app (goodIn_of _ (by decide +kernel)) ggX1_flip_X1_has
theorem dX1_flip_0 : decode cX1_flip 0 = .ok (.aload_n 0, 1) := by decide +kernel
theorem dX1_flip_1 : decode cX1_flip 1 = .ok (.iload_n 1, 1) := by decide +kernel
theorem dX1_flip_2 : decode cX1_flip 2 = .ok (.invokevirtual 19, 3) := by decide +kernel
theorem dX1_flip_5 : decode cX1_flip 5 = .ok (.ifCond .eq 18, 3) := by decide +kernel
theorem dX1_flip_8 : decode cX1_flip 8 = .ok (.aload_n 0, 1) := by decide +kernel
theorem dX1_flip_9 : decode cX1_flip 9 = .ok (.getfield 9, 3) := by decide +kernel
theorem dX1_flip_12 : decode cX1_flip 12 = .ok (.iload_n 1, 1) := by decide +kernel
theorem dX1_flip_13 : decode cX1_flip 13 = .ok (.aload_n 0, 1) := by decide +kernel
theorem dX1_flip_14 : decode cX1_flip 14 = .ok (.getfield 9, 3) := by decide +kernel
theorem dX1_flip_17 : decode cX1_flip 17 = .ok (.iload_n 1, 1) := by decide +kernel
theorem dX1_flip_18 : decode cX1_flip 18 = .ok (.baload, 1) := by decide +kernel
theorem dX1_flip_19 : decode cX1_flip 19 = .ok (.iload_n 2, 1) := by decide +kernel
theorem dX1_flip_20 : decode cX1_flip 20 = .ok (.ixor, 1) := by decide +kernel
theorem dX1_flip_21 : decode cX1_flip 21 = .ok (.i2b, 1) := by decide +kernel
theorem dX1_flip_22 : decode cX1_flip 22 = .ok (.bastore, 1) := by decide +kernel
theorem dX1_flip_23 : decode cX1_flip 23 = .ok (.return_, 1) := by decide +kernel
theorem dX1_clear_0 : decode cX1_clear 0 = .ok (.aload_n 0, 1) := by decide +kernel
theorem dX1_clear_1 : decode cX1_clear 1 = .ok (.iconst 0, 1) := by decide +kernel
theorem dX1_clear_2 : decode cX1_clear 2 = .ok (.putfield 15, 3) := by decide +kernel
theorem dX1_clear_5 : decode cX1_clear 5 = .ok (.return_, 1) := by decide +kernel
theorem dX2_init_0 : decode cX2_init 0 = .ok (.aload_n 0, 1) := by decide +kernel
theorem dX2_init_1 : decode cX2_init 1 = .ok (.invokespecial 3, 3) := by decide +kernel
theorem dX2_init_4 : decode cX2_init 4 = .ok (.aload_n 0, 1) := by decide +kernel
theorem dX2_init_5 : decode cX2_init 5 = .ok (.iload_n 1, 1) := by decide +kernel
theorem dX2_init_6 : decode cX2_init 6 = .ok (.putfield 9, 3) := by decide +kernel
theorem dX2_init_9 : decode cX2_init 9 = .ok (.aload_n 0, 1) := by decide +kernel
theorem dX2_init_10 : decode cX2_init 10 = .ok (.iload_n 2, 1) := by decide +kernel
theorem dX2_init_11 : decode cX2_init 11 = .ok (.putfield 15, 3) := by decide +kernel
theorem dX2_init_14 : decode cX2_init 14 = .ok (.aload_n 0, 1) := by decide +kernel
theorem dX2_init_15 : decode cX2_init 15 = .ok (.iload_n 3, 1) := by decide +kernel
theorem dX2_init_16 : decode cX2_init 16 = .ok (.putfield 18, 3) := by decide +kernel
theorem dX2_init_19 : decode cX2_init 19 = .ok (.aload_n 0, 1) := by decide +kernel
theorem dX2_init_20 : decode cX2_init 20 = .ok (.iload 4, 2) := by decide +kernel
theorem dX2_init_22 : decode cX2_init 22 = .ok (.putfield 21, 3) := by decide +kernel
theorem dX2_init_25 : decode cX2_init 25 = .ok (.aload_n 0, 1) := by decide +kernel
theorem dX2_init_26 : decode cX2_init 26 = .ok (.iload 5, 2) := by decide +kernel
theorem dX2_init_28 : decode cX2_init 28 = .ok (.putfield 24, 3) := by decide +kernel
theorem dX2_init_31 : decode cX2_init 31 = .ok (.aload_n 0, 1) := by decide +kernel
theorem dX2_init_32 : decode cX2_init 32 = .ok (.iload 6, 2) := by decide +kernel
theorem dX2_init_34 : decode cX2_init 34 = .ok (.putfield 27, 3) := by decide +kernel
theorem dX2_init_37 : decode cX2_init 37 = .ok (.return_, 1) := by decide +kernel
set_option maxRecDepth 20000 in
theorem ggX2_numbered_X2_init : GoodIn wsX2_numbered wsX2_init := goodIn_r _ [9, 10, 11, 12, 13, 14, 15, 16, 17, 18, 19, 20, 21, 22, 23, 24] (by decide +kernel) (by decide +kernel)
set_option maxRecDepth 20000 in
theorem gX2_numbered_X2_init : GoodIn wsX2_numbered (wsX2_init) := ggX2_numbered_X2_init
theorem dX2_numbered_0 : decode cX2_numbered 0 = .ok (.iload_n 0, 1) := by decide +kernel
theorem dX2_numbered_1 : decode cX2_numbered 1 = .ok (.lookupswitch 64 #[(2, 27), (3, 47)], 27) := by decide +kernel
theorem dX2_numbered_28 : decode cX2_numbered 28 = .ok (.new 10, 3) := by decide +kernel
theorem dX2_numbered_31 : decode cX2_numbered 31 = .ok (.dup, 1) := by decide +kernel
theorem dX2_numbered_32 : decode cX2_numbered 32 = .ok (.bipush 16, 2) := by decide +kernel
theorem dX2_numbered_34 : decode cX2_numbered 34 = .ok (.sipush 4129, 3) := by decide +kernel
theorem dX2_numbered_37 : decode cX2_numbered 37 = .ok (.ldc 30, 2) := by decide +kernel
theorem dX2_numbered_39 : decode cX2_numbered 39 = .ok (.iconst 0, 1) := by decide +kernel
theorem dX2_numbered_40 : decode cX2_numbered 40 = .ok (.sipush 256, 3) := by decide +kernel
theorem dX2_numbered_43 : decode cX2_numbered 43 = .ok (.iconst 1, 1) := by decide +kernel
theorem dX2_numbered_44 : decode cX2_numbered 44 = .ok (.invokespecial 31, 3) := by decide +kernel
theorem dX2_numbered_47 : decode cX2_numbered 47 = .ok (.areturn, 1) := by decide +kernel
theorem dX2_numbered_48 : decode cX2_numbered 48 = .ok (.new 10, 3) := by decide +kernel
theorem dX2_numbered_51 : decode cX2_numbered 51 = .ok (.dup, 1) := by decide +kernel
theorem dX2_numbered_52 : decode cX2_numbered 52 = .ok (.bipush 32, 2) := by decide +kernel
theorem dX2_numbered_54 : decode cX2_numbered 54 = .ok (.ldc 34, 2) := by decide +kernel
theorem dX2_numbered_56 : decode cX2_numbered 56 = .ok (.iconst (-1), 1) := by decide +kernel
theorem dX2_numbered_57 : decode cX2_numbered 57 = .ok (.iconst (-1), 1) := by decide +kernel
theorem dX2_numbered_58 : decode cX2_numbered 58 = .ok (.ldc 35, 2) := by decide +kernel
theorem dX2_numbered_60 : decode cX2_numbered 60 = .ok (.iconst 2, 1) := by decide +kernel
theorem dX2_numbered_61 : decode cX2_numbered 61 = .ok (.invokespecial 31, 3) := by decide +kernel
theorem dX2_numbered_64 : decode cX2_numbered 64 = .ok (.areturn, 1) := by decide +kernel
theorem dX2_numbered_65 : decode cX2_numbered 65 = .ok (.new 10, 3) := by decide +kernel
theorem dX2_numbered_68 : decode cX2_numbered 68 = .ok (.dup, 1) := by decide +kernel
theorem dX2_numbered_69 : decode cX2_numbered 69 = .ok (.bipush 8, 2) := by decide +kernel
theorem dX2_numbered_71 : decode cX2_numbered 71 = .ok (.bipush 29, 2) := by decide +kernel
theorem dX2_numbered_73 : decode cX2_numbered 73 = .ok (.sipush 255, 3) := by decide +kernel
theorem dX2_numbered_76 : decode cX2_numbered 76 = .ok (.sipush 255, 3) := by decide +kernel
theorem dX2_numbered_79 : decode cX2_numbered 79 = .ok (.bipush 15, 2) := by decide +kernel
theorem dX2_numbered_81 : decode cX2_numbered 81 = .ok (.iconst 1, 1) := by decide +kernel
theorem dX2_numbered_82 : decode cX2_numbered 82 = .ok (.invokespecial 31, 3) := by decide +kernel
theorem dX2_numbered_85 : decode cX2_numbered 85 = .ok (.areturn, 1) := by decide +kernel
theorem dX2_checkOctets_0 : decode cX2_checkOctets 0 = .ok (.aload_n 0, 1) := by decide +kernel
theorem dX2_checkOctets_1 : decode cX2_checkOctets 1 = .ok (.getfield 9, 3) := by decide +kernel
theorem dX2_checkOctets_4 : decode cX2_checkOctets 4 = .ok (.iconst 3, 1) := by decide +kernel
theorem dX2_checkOctets_5 : decode cX2_checkOctets 5 = .ok (.ishr, 1) := by decide +kernel
theorem dX2_checkOctets_6 : decode cX2_checkOctets 6 = .ok (.ireturn, 1) := by decide +kernel
set_option maxRecDepth 20000 in
theorem ggX2_goingRound_J9_floorMod_7cf53 : GoodIn wsX2_goingRound wsJ9_floorMod_7cf53 := goodIn_r _ [5] (by decide +kernel) (by decide +kernel)
set_option maxRecDepth 20000 in
theorem gX2_goingRound_J9_floorMod_7cf53 : GoodIn wsX2_goingRound (va_wsS RX2 36 yJ9_floorMod_7cf53 wsJ9_floorMod_7cf53) := goodIn_app (goodIn_of _ (by decide +kernel)) ggX2_goingRound_J9_floorMod_7cf53
theorem dX2_goingRound_0 : decode cX2_goingRound 0 = .ok (.aload_n 0, 1) := by decide +kernel
theorem dX2_goingRound_1 : decode cX2_goingRound 1 = .ok (.getfield 24, 3) := by decide +kernel
theorem dX2_goingRound_4 : decode cX2_goingRound 4 = .ok (.ifCond .le 14, 3) := by decide +kernel
theorem dX2_goingRound_7 : decode cX2_goingRound 7 = .ok (.iload_n 1, 1) := by decide +kernel
theorem dX2_goingRound_8 : decode cX2_goingRound 8 = .ok (.aload_n 0, 1) := by decide +kernel
theorem dX2_goingRound_9 : decode cX2_goingRound 9 = .ok (.getfield 24, 3) := by decide +kernel
theorem dX2_goingRound_12 : decode cX2_goingRound 12 = .ok (.invokestatic 36, 3) := by decide +kernel
theorem dX2_goingRound_15 : decode cX2_goingRound 15 = .ok (.goto 4, 3) := by decide +kernel
theorem dX2_goingRound_18 : decode cX2_goingRound 18 = .ok (.iconst 0, 1) := by decide +kernel
theorem dX2_goingRound_19 : decode cX2_goingRound 19 = .ok (.ireturn, 1) := by decide +kernel
set_option maxRecDepth 20000 in
theorem ggX2_checkOver_X2_shifted : GoodIn wsX2_checkOver wsX2_shifted := goodIn_r _ [7, 8, 9, 21, 22, 23, 24, 25, 26] (by decide +kernel) (by decide +kernel)
set_option maxRecDepth 20000 in
theorem gX2_checkOver_X2_shifted : GoodIn wsX2_checkOver (wsV RX2 42 RX2 yX2_shifted wsX2_shifted) := goodIn_app (goodIn_of _ (by decide +kernel)) ggX2_checkOver_X2_shifted
set_option maxRecDepth 20000 in
theorem ggX2_checkOver_X1_get : GoodIn wsX2_checkOver wsX1_get := goodIn_r _ [14, 15, 16, 17, 18, 13, 19, 20, 27, 28] (by decide +kernel) (by decide +kernel)
set_option maxRecDepth 20000 in
theorem gX2_checkOver_X1_get : GoodIn wsX2_checkOver (wsV RX2 45 RX1 yX1_get wsX1_get) := goodIn_app (goodIn_of _ (by decide +kernel)) ggX2_checkOver_X1_get
theorem dX2_checkOver_0 : decode cX2_checkOver 0 = .ok (.aload_n 0, 1) := by decide +kernel
theorem dX2_checkOver_1 : decode cX2_checkOver 1 = .ok (.aload_n 0, 1) := by decide +kernel
theorem dX2_checkOver_2 : decode cX2_checkOver 2 = .ok (.getfield 18, 3) := by decide +kernel
theorem dX2_checkOver_5 : decode cX2_checkOver 5 = .ok (.iload_n 1, 1) := by decide +kernel
theorem dX2_checkOver_6 : decode cX2_checkOver 6 = .ok (.bipush 8, 2) := by decide +kernel
theorem dX2_checkOver_8 : decode cX2_checkOver 8 = .ok (.ishr, 1) := by decide +kernel
theorem dX2_checkOver_9 : decode cX2_checkOver 9 = .ok (.invokevirtual 42, 3) := by decide +kernel
theorem dX2_checkOver_12 : decode cX2_checkOver 12 = .ok (.istore 4, 2) := by decide +kernel
theorem dX2_checkOver_14 : decode cX2_checkOver 14 = .ok (.aload_n 0, 1) := by decide +kernel
theorem dX2_checkOver_15 : decode cX2_checkOver 15 = .ok (.iload 4, 2) := by decide +kernel
theorem dX2_checkOver_17 : decode cX2_checkOver 17 = .ok (.iload_n 1, 1) := by decide +kernel
theorem dX2_checkOver_18 : decode cX2_checkOver 18 = .ok (.invokevirtual 42, 3) := by decide +kernel
theorem dX2_checkOver_21 : decode cX2_checkOver 21 = .ok (.istore 4, 2) := by decide +kernel
theorem dX2_checkOver_23 : decode cX2_checkOver 23 = .ok (.iconst 0, 1) := by decide +kernel
theorem dX2_checkOver_24 : decode cX2_checkOver 24 = .ok (.istore 5, 2) := by decide +kernel
theorem dX2_checkOver_26 : decode cX2_checkOver 26 = .ok (.iload 5, 2) := by decide +kernel
theorem dX2_checkOver_28 : decode cX2_checkOver 28 = .ok (.iload_n 3, 1) := by decide +kernel
theorem dX2_checkOver_29 : decode cX2_checkOver 29 = .ok (.if_icmp .ge 23, 3) := by decide +kernel
theorem dX2_checkOver_32 : decode cX2_checkOver 32 = .ok (.aload_n 0, 1) := by decide +kernel
theorem dX2_checkOver_33 : decode cX2_checkOver 33 = .ok (.iload 4, 2) := by decide +kernel
theorem dX2_checkOver_35 : decode cX2_checkOver 35 = .ok (.aload_n 2, 1) := by decide +kernel
theorem dX2_checkOver_36 : decode cX2_checkOver 36 = .ok (.iload 5, 2) := by decide +kernel
theorem dX2_checkOver_38 : decode cX2_checkOver 38 = .ok (.invokevirtual 45, 3) := by decide +kernel
theorem dX2_checkOver_41 : decode cX2_checkOver 41 = .ok (.invokevirtual 42, 3) := by decide +kernel
theorem dX2_checkOver_44 : decode cX2_checkOver 44 = .ok (.istore 4, 2) := by decide +kernel
theorem dX2_checkOver_46 : decode cX2_checkOver 46 = .ok (.iinc 5 1, 3) := by decide +kernel
theorem dX2_checkOver_49 : decode cX2_checkOver 49 = .ok (.goto (-23), 3) := by decide +kernel
theorem dX2_checkOver_52 : decode cX2_checkOver 52 = .ok (.iload 4, 2) := by decide +kernel
theorem dX2_checkOver_54 : decode cX2_checkOver 54 = .ok (.aload_n 0, 1) := by decide +kernel
theorem dX2_checkOver_55 : decode cX2_checkOver 55 = .ok (.getfield 21, 3) := by decide +kernel
theorem dX2_checkOver_58 : decode cX2_checkOver 58 = .ok (.ixor, 1) := by decide +kernel
theorem dX2_checkOver_59 : decode cX2_checkOver 59 = .ok (.ireturn, 1) := by decide +kernel
theorem dX2_shifted_0 : decode cX2_shifted 0 = .ok (.iconst (-1), 1) := by decide +kernel
theorem dX2_shifted_1 : decode cX2_shifted 1 = .ok (.bipush 32, 2) := by decide +kernel
theorem dX2_shifted_3 : decode cX2_shifted 3 = .ok (.aload_n 0, 1) := by decide +kernel
theorem dX2_shifted_4 : decode cX2_shifted 4 = .ok (.getfield 9, 3) := by decide +kernel
theorem dX2_shifted_7 : decode cX2_shifted 7 = .ok (.isub, 1) := by decide +kernel
theorem dX2_shifted_8 : decode cX2_shifted 8 = .ok (.iushr, 1) := by decide +kernel
theorem dX2_shifted_9 : decode cX2_shifted 9 = .ok (.istore_n 3, 1) := by decide +kernel
theorem dX2_shifted_10 : decode cX2_shifted 10 = .ok (.iload_n 1, 1) := by decide +kernel
theorem dX2_shifted_11 : decode cX2_shifted 11 = .ok (.istore 4, 2) := by decide +kernel
theorem dX2_shifted_13 : decode cX2_shifted 13 = .ok (.bipush 7, 2) := by decide +kernel
theorem dX2_shifted_15 : decode cX2_shifted 15 = .ok (.istore 5, 2) := by decide +kernel
theorem dX2_shifted_17 : decode cX2_shifted 17 = .ok (.iload 5, 2) := by decide +kernel
theorem dX2_shifted_19 : decode cX2_shifted 19 = .ok (.ifCond .lt 52, 3) := by decide +kernel
theorem dX2_shifted_22 : decode cX2_shifted 22 = .ok (.iload 4, 2) := by decide +kernel
theorem dX2_shifted_24 : decode cX2_shifted 24 = .ok (.aload_n 0, 1) := by decide +kernel
theorem dX2_shifted_25 : decode cX2_shifted 25 = .ok (.getfield 9, 3) := by decide +kernel
theorem dX2_shifted_28 : decode cX2_shifted 28 = .ok (.iconst 1, 1) := by decide +kernel
theorem dX2_shifted_29 : decode cX2_shifted 29 = .ok (.isub, 1) := by decide +kernel
theorem dX2_shifted_30 : decode cX2_shifted 30 = .ok (.iushr, 1) := by decide +kernel
theorem dX2_shifted_31 : decode cX2_shifted 31 = .ok (.istore 6, 2) := by decide +kernel
theorem dX2_shifted_33 : decode cX2_shifted 33 = .ok (.iload_n 2, 1) := by decide +kernel
theorem dX2_shifted_34 : decode cX2_shifted 34 = .ok (.iload 5, 2) := by decide +kernel
theorem dX2_shifted_36 : decode cX2_shifted 36 = .ok (.ishr, 1) := by decide +kernel
theorem dX2_shifted_37 : decode cX2_shifted 37 = .ok (.iconst 1, 1) := by decide +kernel
theorem dX2_shifted_38 : decode cX2_shifted 38 = .ok (.iand, 1) := by decide +kernel
theorem dX2_shifted_39 : decode cX2_shifted 39 = .ok (.istore 7, 2) := by decide +kernel
theorem dX2_shifted_41 : decode cX2_shifted 41 = .ok (.iload 4, 2) := by decide +kernel
theorem dX2_shifted_43 : decode cX2_shifted 43 = .ok (.iconst 1, 1) := by decide +kernel
theorem dX2_shifted_44 : decode cX2_shifted 44 = .ok (.ishl, 1) := by decide +kernel
theorem dX2_shifted_45 : decode cX2_shifted 45 = .ok (.iload_n 3, 1) := by decide +kernel
theorem dX2_shifted_46 : decode cX2_shifted 46 = .ok (.iand, 1) := by decide +kernel
theorem dX2_shifted_47 : decode cX2_shifted 47 = .ok (.istore 4, 2) := by decide +kernel
theorem dX2_shifted_49 : decode cX2_shifted 49 = .ok (.iload 6, 2) := by decide +kernel
theorem dX2_shifted_51 : decode cX2_shifted 51 = .ok (.iload 7, 2) := by decide +kernel
theorem dX2_shifted_53 : decode cX2_shifted 53 = .ok (.if_icmp .eq 12, 3) := by decide +kernel
theorem dX2_shifted_56 : decode cX2_shifted 56 = .ok (.iload 4, 2) := by decide +kernel
theorem dX2_shifted_58 : decode cX2_shifted 58 = .ok (.aload_n 0, 1) := by decide +kernel
theorem dX2_shifted_59 : decode cX2_shifted 59 = .ok (.getfield 15, 3) := by decide +kernel
theorem dX2_shifted_62 : decode cX2_shifted 62 = .ok (.ixor, 1) := by decide +kernel
theorem dX2_shifted_63 : decode cX2_shifted 63 = .ok (.istore 4, 2) := by decide +kernel
theorem dX2_shifted_65 : decode cX2_shifted 65 = .ok (.iinc 5 (-1), 3) := by decide +kernel
theorem dX2_shifted_68 : decode cX2_shifted 68 = .ok (.goto (-51), 3) := by decide +kernel
theorem dX2_shifted_71 : decode cX2_shifted 71 = .ok (.iload 4, 2) := by decide +kernel
theorem dX2_shifted_73 : decode cX2_shifted 73 = .ok (.ireturn, 1) := by decide +kernel

theorem dX6_init_0 : decode cX6_init 0 = .ok (.aload_n 0, 1) := by decide +kernel
theorem dX6_init_1 : decode cX6_init 1 = .ok (.invokespecial 1, 3) := by decide +kernel
theorem dX6_init_4 : decode cX6_init 4 = .ok (.aload_n 0, 1) := by decide +kernel
theorem dX6_init_5 : decode cX6_init 5 = .ok (.bipush 64, 2) := by decide +kernel
theorem dX6_init_7 : decode cX6_init 7 = .ok (.newarray .int, 2) := by decide +kernel
theorem dX6_init_9 : decode cX6_init 9 = .ok (.putfield 7, 3) := by decide +kernel
theorem dX6_init_12 : decode cX6_init 12 = .ok (.aload_n 0, 1) := by decide +kernel
theorem dX6_init_13 : decode cX6_init 13 = .ok (.bipush 80, 2) := by decide +kernel
theorem dX6_init_15 : decode cX6_init 15 = .ok (.newarray .int, 2) := by decide +kernel
theorem dX6_init_17 : decode cX6_init 17 = .ok (.putfield 13, 3) := by decide +kernel
theorem dX6_init_20 : decode cX6_init 20 = .ok (.aload_n 0, 1) := by decide +kernel
theorem dX6_init_21 : decode cX6_init 21 = .ok (.iconst (-1), 1) := by decide +kernel
theorem dX6_init_22 : decode cX6_init 22 = .ok (.putfield 16, 3) := by decide +kernel
theorem dX6_init_25 : decode cX6_init 25 = .ok (.aload_n 0, 1) := by decide +kernel
theorem dX6_init_26 : decode cX6_init 26 = .ok (.bipush 70, 2) := by decide +kernel
theorem dX6_init_28 : decode cX6_init 28 = .ok (.newarray .int, 2) := by decide +kernel
theorem dX6_init_30 : decode cX6_init 30 = .ok (.putfield 20, 3) := by decide +kernel
theorem dX6_init_33 : decode cX6_init 33 = .ok (.aload_n 0, 1) := by decide +kernel
theorem dX6_init_34 : decode cX6_init 34 = .ok (.iconst (-1), 1) := by decide +kernel
theorem dX6_init_35 : decode cX6_init 35 = .ok (.putfield 23, 3) := by decide +kernel
theorem dX6_init_38 : decode cX6_init 38 = .ok (.aload_n 0, 1) := by decide +kernel
theorem dX6_init_39 : decode cX6_init 39 = .ok (.bipush 10, 2) := by decide +kernel
theorem dX6_init_41 : decode cX6_init 41 = .ok (.newarray .int, 2) := by decide +kernel
theorem dX6_init_43 : decode cX6_init 43 = .ok (.putfield 26, 3) := by decide +kernel
theorem dX6_init_46 : decode cX6_init 46 = .ok (.aload_n 0, 1) := by decide +kernel
theorem dX6_init_47 : decode cX6_init 47 = .ok (.bipush 6, 2) := by decide +kernel
theorem dX6_init_49 : decode cX6_init 49 = .ok (.newarray .boolean, 2) := by decide +kernel
theorem dX6_init_51 : decode cX6_init 51 = .ok (.putfield 29, 3) := by decide +kernel
theorem dX6_init_54 : decode cX6_init 54 = .ok (.aload_n 0, 1) := by decide +kernel
theorem dX6_init_55 : decode cX6_init 55 = .ok (.iload_n 1, 1) := by decide +kernel
theorem dX6_init_56 : decode cX6_init 56 = .ok (.iconst 2, 1) := by decide +kernel
theorem dX6_init_57 : decode cX6_init 57 = .ok (.if_icmp .eq 8, 3) := by decide +kernel
theorem dX6_init_60 : decode cX6_init 60 = .ok (.iload_n 1, 1) := by decide +kernel
theorem dX6_init_61 : decode cX6_init 61 = .ok (.iconst 3, 1) := by decide +kernel
theorem dX6_init_62 : decode cX6_init 62 = .ok (.if_icmp .ne 7, 3) := by decide +kernel
theorem dX6_init_65 : decode cX6_init 65 = .ok (.iload_n 1, 1) := by decide +kernel
theorem dX6_init_66 : decode cX6_init 66 = .ok (.goto 4, 3) := by decide +kernel
theorem dX6_init_69 : decode cX6_init 69 = .ok (.iconst 1, 1) := by decide +kernel
theorem dX6_init_70 : decode cX6_init 70 = .ok (.putfield 33, 3) := by decide +kernel
theorem dX6_init_73 : decode cX6_init 73 = .ok (.aload_n 0, 1) := by decide +kernel
theorem dX6_init_74 : decode cX6_init 74 = .ok (.aload_n 0, 1) := by decide +kernel
theorem dX6_init_75 : decode cX6_init 75 = .ok (.getfield 33, 3) := by decide +kernel
theorem dX6_init_78 : decode cX6_init 78 = .ok (.iconst 3, 1) := by decide +kernel
theorem dX6_init_79 : decode cX6_init 79 = .ok (.if_icmp .ne 8, 3) := by decide +kernel
theorem dX6_init_82 : decode cX6_init 82 = .ok (.bipush 32, 2) := by decide +kernel
theorem dX6_init_84 : decode cX6_init 84 = .ok (.goto 10, 3) := by decide +kernel
theorem dX6_init_87 : decode cX6_init 87 = .ok (.bipush 8, 2) := by decide +kernel
theorem dX6_init_89 : decode cX6_init 89 = .ok (.aload_n 0, 1) := by decide +kernel
theorem dX6_init_90 : decode cX6_init 90 = .ok (.getfield 33, 3) := by decide +kernel
theorem dX6_init_93 : decode cX6_init 93 = .ok (.imul, 1) := by decide +kernel
theorem dX6_init_94 : decode cX6_init 94 = .ok (.putfield 36, 3) := by decide +kernel
theorem dX6_init_97 : decode cX6_init 97 = .ok (.aload_n 0, 1) := by decide +kernel
theorem dX6_init_98 : decode cX6_init 98 = .ok (.aload_n 0, 1) := by decide +kernel
theorem dX6_init_99 : decode cX6_init 99 = .ok (.getfield 33, 3) := by decide +kernel
theorem dX6_init_102 : decode cX6_init 102 = .ok (.iconst 1, 1) := by decide +kernel
theorem dX6_init_103 : decode cX6_init 103 = .ok (.if_icmp .ne 8, 3) := by decide +kernel
theorem dX6_init_106 : decode cX6_init 106 = .ok (.bipush 15, 2) := by decide +kernel
theorem dX6_init_108 : decode cX6_init 108 = .ok (.goto 19, 3) := by decide +kernel
theorem dX6_init_111 : decode cX6_init 111 = .ok (.aload_n 0, 1) := by decide +kernel
theorem dX6_init_112 : decode cX6_init 112 = .ok (.getfield 33, 3) := by decide +kernel
theorem dX6_init_115 : decode cX6_init 115 = .ok (.iconst 2, 1) := by decide +kernel
theorem dX6_init_116 : decode cX6_init 116 = .ok (.if_icmp .ne 9, 3) := by decide +kernel
theorem dX6_init_119 : decode cX6_init 119 = .ok (.sipush 256, 3) := by decide +kernel
theorem dX6_init_122 : decode cX6_init 122 = .ok (.goto 5, 3) := by decide +kernel
theorem dX6_init_125 : decode cX6_init 125 = .ok (.ldc 39, 2) := by decide +kernel
theorem dX6_init_127 : decode cX6_init 127 = .ok (.putfield 40, 3) := by decide +kernel
theorem dX6_init_130 : decode cX6_init 130 = .ok (.aload_n 0, 1) := by decide +kernel
theorem dX6_init_131 : decode cX6_init 131 = .ok (.aload_n 0, 1) := by decide +kernel
theorem dX6_init_132 : decode cX6_init 132 = .ok (.getfield 33, 3) := by decide +kernel
theorem dX6_init_135 : decode cX6_init 135 = .ok (.iconst 3, 1) := by decide +kernel
theorem dX6_init_136 : decode cX6_init 136 = .ok (.if_icmp .ne 7, 3) := by decide +kernel
theorem dX6_init_139 : decode cX6_init 139 = .ok (.iconst 2, 1) := by decide +kernel
theorem dX6_init_140 : decode cX6_init 140 = .ok (.goto 4, 3) := by decide +kernel
theorem dX6_init_143 : decode cX6_init 143 = .ok (.iconst 1, 1) := by decide +kernel
theorem dX6_init_144 : decode cX6_init 144 = .ok (.putfield 43, 3) := by decide +kernel
theorem dX6_init_147 : decode cX6_init 147 = .ok (.return_, 1) := by decide +kernel
theorem dX6_thrown_0 : decode cX6_thrown 0 = .ok (.aload_n 0, 1) := by decide +kernel
theorem dX6_thrown_1 : decode cX6_thrown 1 = .ok (.getfield 46, 3) := by decide +kernel
theorem dX6_thrown_4 : decode cX6_thrown 4 = .ok (.ireturn, 1) := by decide +kernel
theorem dX6_add_0 : decode cX6_add 0 = .ok (.lconst 1, 1) := by decide +kernel
theorem dX6_add_1 : decode cX6_add 1 = .ok (.aload_n 0, 1) := by decide +kernel
theorem dX6_add_2 : decode cX6_add 2 = .ok (.getfield 36, 3) := by decide +kernel
theorem dX6_add_5 : decode cX6_add 5 = .ok (.iconst 1, 1) := by decide +kernel
theorem dX6_add_6 : decode cX6_add 6 = .ok (.isub, 1) := by decide +kernel
theorem dX6_add_7 : decode cX6_add 7 = .ok (.lshl, 1) := by decide +kernel
theorem dX6_add_8 : decode cX6_add 8 = .ok (.lstore 4, 2) := by decide +kernel
theorem dX6_add_10 : decode cX6_add 10 = .ok (.aload_n 0, 1) := by decide +kernel
theorem dX6_add_11 : decode cX6_add 11 = .ok (.getfield 33, 3) := by decide +kernel
theorem dX6_add_14 : decode cX6_add 14 = .ok (.iconst 1, 1) := by decide +kernel
theorem dX6_add_15 : decode cX6_add 15 = .ok (.if_icmp .ne 9, 3) := by decide +kernel
theorem dX6_add_18 : decode cX6_add 18 = .ok (.ldc2_w 49, 3) := by decide +kernel
theorem dX6_add_21 : decode cX6_add 21 = .ok (.goto 20, 3) := by decide +kernel
theorem dX6_add_24 : decode cX6_add 24 = .ok (.aload_n 0, 1) := by decide +kernel
theorem dX6_add_25 : decode cX6_add 25 = .ok (.getfield 33, 3) := by decide +kernel
theorem dX6_add_28 : decode cX6_add 28 = .ok (.iconst 2, 1) := by decide +kernel
theorem dX6_add_29 : decode cX6_add 29 = .ok (.if_icmp .ne 9, 3) := by decide +kernel
theorem dX6_add_32 : decode cX6_add 32 = .ok (.ldc2_w 51, 3) := by decide +kernel
theorem dX6_add_35 : decode cX6_add 35 = .ok (.goto 6, 3) := by decide +kernel
theorem dX6_add_38 : decode cX6_add 38 = .ok (.ldc2_w 53, 3) := by decide +kernel
theorem dX6_add_41 : decode cX6_add 41 = .ok (.lstore 6, 2) := by decide +kernel
theorem dX6_add_43 : decode cX6_add 43 = .ok (.lload_n 1, 1) := by decide +kernel
theorem dX6_add_44 : decode cX6_add 44 = .ok (.lstore 8, 2) := by decide +kernel
theorem dX6_add_46 : decode cX6_add 46 = .ok (.bipush 7, 2) := by decide +kernel
theorem dX6_add_48 : decode cX6_add 48 = .ok (.istore 10, 2) := by decide +kernel
theorem dX6_add_50 : decode cX6_add 50 = .ok (.iload 10, 2) := by decide +kernel
theorem dX6_add_52 : decode cX6_add 52 = .ok (.ifCond .lt 71, 3) := by decide +kernel
theorem dX6_add_55 : decode cX6_add 55 = .ok (.iload_n 3, 1) := by decide +kernel
theorem dX6_add_56 : decode cX6_add 56 = .ok (.iload 10, 2) := by decide +kernel
theorem dX6_add_58 : decode cX6_add 58 = .ok (.ishr, 1) := by decide +kernel
theorem dX6_add_59 : decode cX6_add 59 = .ok (.iconst 1, 1) := by decide +kernel
theorem dX6_add_60 : decode cX6_add 60 = .ok (.iand, 1) := by decide +kernel
theorem dX6_add_61 : decode cX6_add 61 = .ok (.iconst 1, 1) := by decide +kernel
theorem dX6_add_62 : decode cX6_add 62 = .ok (.if_icmp .ne 7, 3) := by decide +kernel
theorem dX6_add_65 : decode cX6_add 65 = .ok (.iconst 1, 1) := by decide +kernel
theorem dX6_add_66 : decode cX6_add 66 = .ok (.goto 4, 3) := by decide +kernel
theorem dX6_add_69 : decode cX6_add 69 = .ok (.iconst 0, 1) := by decide +kernel
theorem dX6_add_70 : decode cX6_add 70 = .ok (.istore 11, 2) := by decide +kernel
theorem dX6_add_72 : decode cX6_add 72 = .ok (.lload 8, 2) := by decide +kernel
theorem dX6_add_74 : decode cX6_add 74 = .ok (.lload 4, 2) := by decide +kernel
theorem dX6_add_76 : decode cX6_add 76 = .ok (.lcmp, 1) := by decide +kernel
theorem dX6_add_77 : decode cX6_add 77 = .ok (.ifCond .lt 7, 3) := by decide +kernel
theorem dX6_add_80 : decode cX6_add 80 = .ok (.iconst 1, 1) := by decide +kernel
theorem dX6_add_81 : decode cX6_add 81 = .ok (.goto 4, 3) := by decide +kernel
theorem dX6_add_84 : decode cX6_add 84 = .ok (.iconst 0, 1) := by decide +kernel
theorem dX6_add_85 : decode cX6_add 85 = .ok (.istore 12, 2) := by decide +kernel
theorem dX6_add_87 : decode cX6_add 87 = .ok (.lload 8, 2) := by decide +kernel
theorem dX6_add_89 : decode cX6_add 89 = .ok (.lload 4, 2) := by decide +kernel
theorem dX6_add_91 : decode cX6_add 91 = .ok (.lrem, 1) := by decide +kernel
theorem dX6_add_92 : decode cX6_add 92 = .ok (.ldc2_w 55, 3) := by decide +kernel
theorem dX6_add_95 : decode cX6_add 95 = .ok (.lmul, 1) := by decide +kernel
theorem dX6_add_96 : decode cX6_add 96 = .ok (.lstore 8, 2) := by decide +kernel
theorem dX6_add_98 : decode cX6_add 98 = .ok (.iload 11, 2) := by decide +kernel
theorem dX6_add_100 : decode cX6_add 100 = .ok (.iload 12, 2) := by decide +kernel
theorem dX6_add_102 : decode cX6_add 102 = .ok (.if_icmp .eq 11, 3) := by decide +kernel
theorem dX6_add_105 : decode cX6_add 105 = .ok (.lload 8, 2) := by decide +kernel
theorem dX6_add_107 : decode cX6_add 107 = .ok (.lload 6, 2) := by decide +kernel
theorem dX6_add_109 : decode cX6_add 109 = .ok (.lxor, 1) := by decide +kernel
theorem dX6_add_110 : decode cX6_add 110 = .ok (.goto 5, 3) := by decide +kernel
theorem dX6_add_113 : decode cX6_add 113 = .ok (.lload 8, 2) := by decide +kernel
theorem dX6_add_115 : decode cX6_add 115 = .ok (.lstore 8, 2) := by decide +kernel
theorem dX6_add_117 : decode cX6_add 117 = .ok (.iinc 10 (-1), 3) := by decide +kernel
theorem dX6_add_120 : decode cX6_add 120 = .ok (.goto (-70), 3) := by decide +kernel
theorem dX6_add_123 : decode cX6_add 123 = .ok (.lload 8, 2) := by decide +kernel
theorem dX6_add_125 : decode cX6_add 125 = .ok (.lreturn, 1) := by decide +kernel
set_option maxRecDepth 20000 in
theorem ggX6_begin_X6_add : GoodIn wsX6_begin wsX6_add := goodIn_r _ [6, 1, 7, 8, 9, 10, 11, 12, 13, 14, 15, 16, 17, 18, 19, 20, 21, 22, 23, 24, 25, 26, 27, 28, 29, 30, 31, 32, 33, 34] (by decide +kernel) (by decide +kernel)
set_option maxRecDepth 20000 in
theorem gX6_begin_X6_add : GoodIn wsX6_begin (wsV RX6 57 RX6 yX6_add wsX6_add) := goodIn_app (goodIn_of _ (by decide +kernel)) ggX6_begin_X6_add
theorem dX6_begin_0 : decode cX6_begin 0 = .ok (.lconst 1, 1) := by decide +kernel
theorem dX6_begin_1 : decode cX6_begin 1 = .ok (.aload_n 0, 1) := by decide +kernel
theorem dX6_begin_2 : decode cX6_begin 2 = .ok (.getfield 36, 3) := by decide +kernel
theorem dX6_begin_5 : decode cX6_begin 5 = .ok (.lshl, 1) := by decide +kernel
theorem dX6_begin_6 : decode cX6_begin 6 = .ok (.lconst 1, 1) := by decide +kernel
theorem dX6_begin_7 : decode cX6_begin 7 = .ok (.lsub, 1) := by decide +kernel
theorem dX6_begin_8 : decode cX6_begin 8 = .ok (.lstore_n 2, 1) := by decide +kernel
theorem dX6_begin_9 : decode cX6_begin 9 = .ok (.aload_n 0, 1) := by decide +kernel
theorem dX6_begin_10 : decode cX6_begin 10 = .ok (.aload_n 0, 1) := by decide +kernel
theorem dX6_begin_11 : decode cX6_begin 11 = .ok (.lload_n 2, 1) := by decide +kernel
theorem dX6_begin_12 : decode cX6_begin 12 = .ok (.iload_n 1, 1) := by decide +kernel
theorem dX6_begin_13 : decode cX6_begin 13 = .ok (.sipush 256, 3) := by decide +kernel
theorem dX6_begin_16 : decode cX6_begin 16 = .ok (.idiv, 1) := by decide +kernel
theorem dX6_begin_17 : decode cX6_begin 17 = .ok (.invokevirtual 57, 3) := by decide +kernel
theorem dX6_begin_20 : decode cX6_begin 20 = .ok (.iload_n 1, 1) := by decide +kernel
theorem dX6_begin_21 : decode cX6_begin 21 = .ok (.sipush 256, 3) := by decide +kernel
theorem dX6_begin_24 : decode cX6_begin 24 = .ok (.irem, 1) := by decide +kernel
theorem dX6_begin_25 : decode cX6_begin 25 = .ok (.invokevirtual 57, 3) := by decide +kernel
theorem dX6_begin_28 : decode cX6_begin 28 = .ok (.lreturn, 1) := by decide +kernel
theorem dX6_end_0 : decode cX6_end 0 = .ok (.aload_n 0, 1) := by decide +kernel
theorem dX6_end_1 : decode cX6_end 1 = .ok (.getfield 33, 3) := by decide +kernel
theorem dX6_end_4 : decode cX6_end 4 = .ok (.iconst 2, 1) := by decide +kernel
theorem dX6_end_5 : decode cX6_end 5 = .ok (.if_icmp .ne 7, 3) := by decide +kernel
theorem dX6_end_8 : decode cX6_end 8 = .ok (.lload_n 1, 1) := by decide +kernel
theorem dX6_end_9 : decode cX6_end 9 = .ok (.goto 13, 3) := by decide +kernel
theorem dX6_end_12 : decode cX6_end 12 = .ok (.lconst 1, 1) := by decide +kernel
theorem dX6_end_13 : decode cX6_end 13 = .ok (.aload_n 0, 1) := by decide +kernel
theorem dX6_end_14 : decode cX6_end 14 = .ok (.getfield 36, 3) := by decide +kernel
theorem dX6_end_17 : decode cX6_end 17 = .ok (.lshl, 1) := by decide +kernel
theorem dX6_end_18 : decode cX6_end 18 = .ok (.lconst 1, 1) := by decide +kernel
theorem dX6_end_19 : decode cX6_end 19 = .ok (.lsub, 1) := by decide +kernel
theorem dX6_end_20 : decode cX6_end 20 = .ok (.lload_n 1, 1) := by decide +kernel
theorem dX6_end_21 : decode cX6_end 21 = .ok (.lsub, 1) := by decide +kernel
theorem dX6_end_22 : decode cX6_end 22 = .ok (.lreturn, 1) := by decide +kernel
theorem dX6_octet_0 : decode cX6_octet 0 = .ok (.aload_n 0, 1) := by decide +kernel
theorem dX6_octet_1 : decode cX6_octet 1 = .ok (.iconst 0, 1) := by decide +kernel
theorem dX6_octet_2 : decode cX6_octet 2 = .ok (.putfield 46, 3) := by decide +kernel
theorem dX6_octet_5 : decode cX6_octet 5 = .ok (.aload_n 0, 1) := by decide +kernel
theorem dX6_octet_6 : decode cX6_octet 6 = .ok (.getfield 61, 3) := by decide +kernel
theorem dX6_octet_9 : decode cX6_octet 9 = .ok (.bipush 64, 2) := by decide +kernel
theorem dX6_octet_11 : decode cX6_octet 11 = .ok (.if_icmp .ne 4, 3) := by decide +kernel
theorem dX6_octet_14 : decode cX6_octet 14 = .ok (.return_, 1) := by decide +kernel
theorem dX6_octet_15 : decode cX6_octet 15 = .ok (.aload_n 0, 1) := by decide +kernel
theorem dX6_octet_16 : decode cX6_octet 16 = .ok (.getfield 7, 3) := by decide +kernel
theorem dX6_octet_19 : decode cX6_octet 19 = .ok (.aload_n 0, 1) := by decide +kernel
theorem dX6_octet_20 : decode cX6_octet 20 = .ok (.getfield 61, 3) := by decide +kernel
theorem dX6_octet_23 : decode cX6_octet 23 = .ok (.iload_n 1, 1) := by decide +kernel
theorem dX6_octet_24 : decode cX6_octet 24 = .ok (.sipush 255, 3) := by decide +kernel
theorem dX6_octet_27 : decode cX6_octet 27 = .ok (.iand, 1) := by decide +kernel
theorem dX6_octet_28 : decode cX6_octet 28 = .ok (.iastore, 1) := by decide +kernel
theorem dX6_octet_29 : decode cX6_octet 29 = .ok (.aload_n 0, 1) := by decide +kernel
theorem dX6_octet_30 : decode cX6_octet 30 = .ok (.dup, 1) := by decide +kernel
theorem dX6_octet_31 : decode cX6_octet 31 = .ok (.getfield 61, 3) := by decide +kernel
theorem dX6_octet_34 : decode cX6_octet 34 = .ok (.iconst 1, 1) := by decide +kernel
theorem dX6_octet_35 : decode cX6_octet 35 = .ok (.iadd, 1) := by decide +kernel
theorem dX6_octet_36 : decode cX6_octet 36 = .ok (.putfield 61, 3) := by decide +kernel
theorem dX6_octet_39 : decode cX6_octet 39 = .ok (.return_, 1) := by decide +kernel
set_option maxRecDepth 20000 in
theorem ggX6_protect_X6_begin : GoodIn wsX6_protect wsX6_begin := goodIn_r _ [19, 11, 20, 21, 22, 18, 23, 24, 25, 26, 27, 28, 33, 34, 35, 36, 37, 38, 39, 40, 41, 42, 43, 44, 45, 46, 47, 48, 49, 50, 51, 52, 53, 54, 55] (by decide +kernel) (by decide +kernel)
set_option maxRecDepth 20000 in
theorem gX6_protect_X6_begin : GoodIn wsX6_protect (wsV RX6 71 RX6 yX6_begin wsX6_begin) := goodIn_app (goodIn_of _ (by decide +kernel)) ggX6_protect_X6_begin
set_option maxRecDepth 20000 in
theorem ggX6_protect_X6_add : GoodIn wsX6_protect wsX6_add := goodIn_r _ [23, 11, 24, 25, 26, 27, 28, 33, 34, 35, 36, 37, 38, 39, 40, 41, 42, 43, 44, 45, 46, 47, 48, 49, 50, 51, 52, 53, 54, 55] (by decide +kernel) (by decide +kernel)
set_option maxRecDepth 20000 in
theorem gX6_protect_X6_add : GoodIn wsX6_protect (wsV RX6 57 RX6 yX6_add wsX6_add) := goodIn_app (goodIn_of _ (by decide +kernel)) ggX6_protect_X6_add
set_option maxRecDepth 20000 in
theorem ggX6_protect_X6_end : GoodIn wsX6_protect wsX6_end := goodIn_r _ [32, 24, 11, 33, 34, 35, 36, 37, 38, 39, 40, 41, 42, 43, 44, 45, 46, 47, 48, 49, 50, 51, 52, 53, 54, 55] (by decide +kernel) (by decide +kernel)
set_option maxRecDepth 20000 in
theorem gX6_protect_X6_end : GoodIn wsX6_protect (wsV RX6 78 RX6 yX6_end wsX6_end) := goodIn_app (goodIn_of _ (by decide +kernel)) ggX6_protect_X6_end
theorem dX6_protect_0 : decode cX6_protect 0 = .ok (.aload_n 0, 1) := by decide +kernel
theorem dX6_protect_1 : decode cX6_protect 1 = .ok (.iconst 0, 1) := by decide +kernel
theorem dX6_protect_2 : decode cX6_protect 2 = .ok (.putfield 46, 3) := by decide +kernel
theorem dX6_protect_5 : decode cX6_protect 5 = .ok (.iload_n 1, 1) := by decide +kernel
theorem dX6_protect_6 : decode cX6_protect 6 = .ok (.ifCond .lt 9, 3) := by decide +kernel
theorem dX6_protect_9 : decode cX6_protect 9 = .ok (.iload_n 1, 1) := by decide +kernel
theorem dX6_protect_10 : decode cX6_protect 10 = .ok (.ldc 64, 2) := by decide +kernel
theorem dX6_protect_12 : decode cX6_protect 12 = .ok (.if_icmp .le 6, 3) := by decide +kernel
theorem dX6_protect_15 : decode cX6_protect 15 = .ok (.bipush (-2), 2) := by decide +kernel
theorem dX6_protect_17 : decode cX6_protect 17 = .ok (.ireturn, 1) := by decide +kernel
theorem dX6_protect_18 : decode cX6_protect 18 = .ok (.aload_n 0, 1) := by decide +kernel
theorem dX6_protect_19 : decode cX6_protect 19 = .ok (.aload_n 0, 1) := by decide +kernel
theorem dX6_protect_20 : decode cX6_protect 20 = .ok (.getfield 65, 3) := by decide +kernel
theorem dX6_protect_23 : decode cX6_protect 23 = .ok (.aload_n 0, 1) := by decide +kernel
theorem dX6_protect_24 : decode cX6_protect 24 = .ok (.getfield 68, 3) := by decide +kernel
theorem dX6_protect_27 : decode cX6_protect 27 = .ok (.iadd, 1) := by decide +kernel
theorem dX6_protect_28 : decode cX6_protect 28 = .ok (.aload_n 0, 1) := by decide +kernel
theorem dX6_protect_29 : decode cX6_protect 29 = .ok (.getfield 40, 3) := by decide +kernel
theorem dX6_protect_32 : decode cX6_protect 32 = .ok (.irem, 1) := by decide +kernel
theorem dX6_protect_33 : decode cX6_protect 33 = .ok (.putfield 65, 3) := by decide +kernel
theorem dX6_protect_36 : decode cX6_protect 36 = .ok (.aload_n 0, 1) := by decide +kernel
theorem dX6_protect_37 : decode cX6_protect 37 = .ok (.iload_n 1, 1) := by decide +kernel
theorem dX6_protect_38 : decode cX6_protect 38 = .ok (.invokevirtual 71, 3) := by decide +kernel
theorem dX6_protect_41 : decode cX6_protect 41 = .ok (.lstore_n 2, 1) := by decide +kernel
theorem dX6_protect_42 : decode cX6_protect 42 = .ok (.aload_n 0, 1) := by decide +kernel
theorem dX6_protect_43 : decode cX6_protect 43 = .ok (.iconst 0, 1) := by decide +kernel
theorem dX6_protect_44 : decode cX6_protect 44 = .ok (.putfield 75, 3) := by decide +kernel
theorem dX6_protect_47 : decode cX6_protect 47 = .ok (.iconst 0, 1) := by decide +kernel
theorem dX6_protect_48 : decode cX6_protect 48 = .ok (.istore 4, 2) := by decide +kernel
theorem dX6_protect_50 : decode cX6_protect 50 = .ok (.iload 4, 2) := by decide +kernel
theorem dX6_protect_52 : decode cX6_protect 52 = .ok (.aload_n 0, 1) := by decide +kernel
theorem dX6_protect_53 : decode cX6_protect 53 = .ok (.getfield 43, 3) := by decide +kernel
theorem dX6_protect_56 : decode cX6_protect 56 = .ok (.aload_n 0, 1) := by decide +kernel
theorem dX6_protect_57 : decode cX6_protect 57 = .ok (.getfield 61, 3) := by decide +kernel
theorem dX6_protect_60 : decode cX6_protect 60 = .ok (.iadd, 1) := by decide +kernel
theorem dX6_protect_61 : decode cX6_protect 61 = .ok (.if_icmp .ge 106, 3) := by decide +kernel
theorem dX6_protect_64 : decode cX6_protect 64 = .ok (.aload_n 0, 1) := by decide +kernel
theorem dX6_protect_65 : decode cX6_protect 65 = .ok (.getfield 13, 3) := by decide +kernel
theorem dX6_protect_68 : decode cX6_protect 68 = .ok (.aload_n 0, 1) := by decide +kernel
theorem dX6_protect_69 : decode cX6_protect 69 = .ok (.getfield 75, 3) := by decide +kernel
theorem dX6_protect_72 : decode cX6_protect 72 = .ok (.iload 4, 2) := by decide +kernel
theorem dX6_protect_74 : decode cX6_protect 74 = .ok (.aload_n 0, 1) := by decide +kernel
theorem dX6_protect_75 : decode cX6_protect 75 = .ok (.getfield 43, 3) := by decide +kernel
theorem dX6_protect_78 : decode cX6_protect 78 = .ok (.if_icmp .lt 18, 3) := by decide +kernel
theorem dX6_protect_81 : decode cX6_protect 81 = .ok (.aload_n 0, 1) := by decide +kernel
theorem dX6_protect_82 : decode cX6_protect 82 = .ok (.getfield 7, 3) := by decide +kernel
theorem dX6_protect_85 : decode cX6_protect 85 = .ok (.iload 4, 2) := by decide +kernel
theorem dX6_protect_87 : decode cX6_protect 87 = .ok (.aload_n 0, 1) := by decide +kernel
theorem dX6_protect_88 : decode cX6_protect 88 = .ok (.getfield 43, 3) := by decide +kernel
theorem dX6_protect_91 : decode cX6_protect 91 = .ok (.isub, 1) := by decide +kernel
theorem dX6_protect_92 : decode cX6_protect 92 = .ok (.iaload, 1) := by decide +kernel
theorem dX6_protect_93 : decode cX6_protect 93 = .ok (.goto 42, 3) := by decide +kernel
theorem dX6_protect_96 : decode cX6_protect 96 = .ok (.aload_n 0, 1) := by decide +kernel
theorem dX6_protect_97 : decode cX6_protect 97 = .ok (.getfield 43, 3) := by decide +kernel
theorem dX6_protect_100 : decode cX6_protect 100 = .ok (.iconst 1, 1) := by decide +kernel
theorem dX6_protect_101 : decode cX6_protect 101 = .ok (.if_icmp .ne 10, 3) := by decide +kernel
theorem dX6_protect_104 : decode cX6_protect 104 = .ok (.aload_n 0, 1) := by decide +kernel
theorem dX6_protect_105 : decode cX6_protect 105 = .ok (.getfield 65, 3) := by decide +kernel
theorem dX6_protect_108 : decode cX6_protect 108 = .ok (.goto 27, 3) := by decide +kernel
theorem dX6_protect_111 : decode cX6_protect 111 = .ok (.iload 4, 2) := by decide +kernel
theorem dX6_protect_113 : decode cX6_protect 113 = .ok (.ifCond .ne 14, 3) := by decide +kernel
theorem dX6_protect_116 : decode cX6_protect 116 = .ok (.aload_n 0, 1) := by decide +kernel
theorem dX6_protect_117 : decode cX6_protect 117 = .ok (.getfield 65, 3) := by decide +kernel
theorem dX6_protect_120 : decode cX6_protect 120 = .ok (.sipush 256, 3) := by decide +kernel
theorem dX6_protect_123 : decode cX6_protect 123 = .ok (.idiv, 1) := by decide +kernel
theorem dX6_protect_124 : decode cX6_protect 124 = .ok (.goto 11, 3) := by decide +kernel
theorem dX6_protect_127 : decode cX6_protect 127 = .ok (.aload_n 0, 1) := by decide +kernel
theorem dX6_protect_128 : decode cX6_protect 128 = .ok (.getfield 65, 3) := by decide +kernel
theorem dX6_protect_131 : decode cX6_protect 131 = .ok (.sipush 256, 3) := by decide +kernel
theorem dX6_protect_134 : decode cX6_protect 134 = .ok (.irem, 1) := by decide +kernel
theorem dX6_protect_135 : decode cX6_protect 135 = .ok (.iastore, 1) := by decide +kernel
theorem dX6_protect_136 : decode cX6_protect 136 = .ok (.aload_n 0, 1) := by decide +kernel
theorem dX6_protect_137 : decode cX6_protect 137 = .ok (.lload_n 2, 1) := by decide +kernel
theorem dX6_protect_138 : decode cX6_protect 138 = .ok (.aload_n 0, 1) := by decide +kernel
theorem dX6_protect_139 : decode cX6_protect 139 = .ok (.getfield 13, 3) := by decide +kernel
theorem dX6_protect_142 : decode cX6_protect 142 = .ok (.aload_n 0, 1) := by decide +kernel
theorem dX6_protect_143 : decode cX6_protect 143 = .ok (.getfield 75, 3) := by decide +kernel
theorem dX6_protect_146 : decode cX6_protect 146 = .ok (.iaload, 1) := by decide +kernel
theorem dX6_protect_147 : decode cX6_protect 147 = .ok (.invokevirtual 57, 3) := by decide +kernel
theorem dX6_protect_150 : decode cX6_protect 150 = .ok (.lstore_n 2, 1) := by decide +kernel
theorem dX6_protect_151 : decode cX6_protect 151 = .ok (.aload_n 0, 1) := by decide +kernel
theorem dX6_protect_152 : decode cX6_protect 152 = .ok (.dup, 1) := by decide +kernel
theorem dX6_protect_153 : decode cX6_protect 153 = .ok (.getfield 75, 3) := by decide +kernel
theorem dX6_protect_156 : decode cX6_protect 156 = .ok (.iconst 1, 1) := by decide +kernel
theorem dX6_protect_157 : decode cX6_protect 157 = .ok (.iadd, 1) := by decide +kernel
theorem dX6_protect_158 : decode cX6_protect 158 = .ok (.putfield 75, 3) := by decide +kernel
theorem dX6_protect_161 : decode cX6_protect 161 = .ok (.iinc 4 1, 3) := by decide +kernel
theorem dX6_protect_164 : decode cX6_protect 164 = .ok (.goto (-114), 3) := by decide +kernel
theorem dX6_protect_167 : decode cX6_protect 167 = .ok (.aload_n 0, 1) := by decide +kernel
theorem dX6_protect_168 : decode cX6_protect 168 = .ok (.lload_n 2, 1) := by decide +kernel
theorem dX6_protect_169 : decode cX6_protect 169 = .ok (.invokevirtual 78, 3) := by decide +kernel
theorem dX6_protect_172 : decode cX6_protect 172 = .ok (.lstore 4, 2) := by decide +kernel
theorem dX6_protect_174 : decode cX6_protect 174 = .ok (.aload_n 0, 1) := by decide +kernel
theorem dX6_protect_175 : decode cX6_protect 175 = .ok (.getfield 36, 3) := by decide +kernel
theorem dX6_protect_178 : decode cX6_protect 178 = .ok (.bipush 8, 2) := by decide +kernel
theorem dX6_protect_180 : decode cX6_protect 180 = .ok (.isub, 1) := by decide +kernel
theorem dX6_protect_181 : decode cX6_protect 181 = .ok (.istore 6, 2) := by decide +kernel
theorem dX6_protect_183 : decode cX6_protect 183 = .ok (.iload 6, 2) := by decide +kernel
theorem dX6_protect_185 : decode cX6_protect 185 = .ok (.ifCond .lt 38, 3) := by decide +kernel
theorem dX6_protect_188 : decode cX6_protect 188 = .ok (.aload_n 0, 1) := by decide +kernel
theorem dX6_protect_189 : decode cX6_protect 189 = .ok (.getfield 13, 3) := by decide +kernel
theorem dX6_protect_192 : decode cX6_protect 192 = .ok (.aload_n 0, 1) := by decide +kernel
theorem dX6_protect_193 : decode cX6_protect 193 = .ok (.getfield 75, 3) := by decide +kernel
theorem dX6_protect_196 : decode cX6_protect 196 = .ok (.lload 4, 2) := by decide +kernel
theorem dX6_protect_198 : decode cX6_protect 198 = .ok (.iload 6, 2) := by decide +kernel
theorem dX6_protect_200 : decode cX6_protect 200 = .ok (.lshr, 1) := by decide +kernel
theorem dX6_protect_201 : decode cX6_protect 201 = .ok (.ldc2_w 82, 3) := by decide +kernel
theorem dX6_protect_204 : decode cX6_protect 204 = .ok (.land, 1) := by decide +kernel
theorem dX6_protect_205 : decode cX6_protect 205 = .ok (.l2i, 1) := by decide +kernel
theorem dX6_protect_206 : decode cX6_protect 206 = .ok (.iastore, 1) := by decide +kernel
theorem dX6_protect_207 : decode cX6_protect 207 = .ok (.aload_n 0, 1) := by decide +kernel
theorem dX6_protect_208 : decode cX6_protect 208 = .ok (.dup, 1) := by decide +kernel
theorem dX6_protect_209 : decode cX6_protect 209 = .ok (.getfield 75, 3) := by decide +kernel
theorem dX6_protect_212 : decode cX6_protect 212 = .ok (.iconst 1, 1) := by decide +kernel
theorem dX6_protect_213 : decode cX6_protect 213 = .ok (.iadd, 1) := by decide +kernel
theorem dX6_protect_214 : decode cX6_protect 214 = .ok (.putfield 75, 3) := by decide +kernel
theorem dX6_protect_217 : decode cX6_protect 217 = .ok (.iinc 6 (-8), 3) := by decide +kernel
theorem dX6_protect_220 : decode cX6_protect 220 = .ok (.goto (-37), 3) := by decide +kernel
theorem dX6_protect_223 : decode cX6_protect 223 = .ok (.aload_n 0, 1) := by decide +kernel
theorem dX6_protect_224 : decode cX6_protect 224 = .ok (.getfield 16, 3) := by decide +kernel
theorem dX6_protect_227 : decode cX6_protect 227 = .ok (.ifCond .lt 37, 3) := by decide +kernel
theorem dX6_protect_230 : decode cX6_protect 230 = .ok (.aload_n 0, 1) := by decide +kernel
theorem dX6_protect_231 : decode cX6_protect 231 = .ok (.getfield 16, 3) := by decide +kernel
theorem dX6_protect_234 : decode cX6_protect 234 = .ok (.aload_n 0, 1) := by decide +kernel
theorem dX6_protect_235 : decode cX6_protect 235 = .ok (.getfield 75, 3) := by decide +kernel
theorem dX6_protect_238 : decode cX6_protect 238 = .ok (.if_icmp .ge 26, 3) := by decide +kernel
theorem dX6_protect_241 : decode cX6_protect 241 = .ok (.aload_n 0, 1) := by decide +kernel
theorem dX6_protect_242 : decode cX6_protect 242 = .ok (.getfield 13, 3) := by decide +kernel
theorem dX6_protect_245 : decode cX6_protect 245 = .ok (.aload_n 0, 1) := by decide +kernel
theorem dX6_protect_246 : decode cX6_protect 246 = .ok (.getfield 16, 3) := by decide +kernel
theorem dX6_protect_249 : decode cX6_protect 249 = .ok (.aload_n 0, 1) := by decide +kernel
theorem dX6_protect_250 : decode cX6_protect 250 = .ok (.getfield 13, 3) := by decide +kernel
theorem dX6_protect_253 : decode cX6_protect 253 = .ok (.aload_n 0, 1) := by decide +kernel
theorem dX6_protect_254 : decode cX6_protect 254 = .ok (.getfield 16, 3) := by decide +kernel
theorem dX6_protect_257 : decode cX6_protect 257 = .ok (.iaload, 1) := by decide +kernel
theorem dX6_protect_258 : decode cX6_protect 258 = .ok (.aload_n 0, 1) := by decide +kernel
theorem dX6_protect_259 : decode cX6_protect 259 = .ok (.getfield 84, 3) := by decide +kernel
theorem dX6_protect_262 : decode cX6_protect 262 = .ok (.ixor, 1) := by decide +kernel
theorem dX6_protect_263 : decode cX6_protect 263 = .ok (.iastore, 1) := by decide +kernel
theorem dX6_protect_264 : decode cX6_protect 264 = .ok (.aload_n 0, 1) := by decide +kernel
theorem dX6_protect_265 : decode cX6_protect 265 = .ok (.iconst (-1), 1) := by decide +kernel
theorem dX6_protect_266 : decode cX6_protect 266 = .ok (.putfield 16, 3) := by decide +kernel
theorem dX6_protect_269 : decode cX6_protect 269 = .ok (.aload_n 0, 1) := by decide +kernel
theorem dX6_protect_270 : decode cX6_protect 270 = .ok (.iconst 0, 1) := by decide +kernel
theorem dX6_protect_271 : decode cX6_protect 271 = .ok (.putfield 68, 3) := by decide +kernel
theorem dX6_protect_274 : decode cX6_protect 274 = .ok (.aload_n 0, 1) := by decide +kernel
theorem dX6_protect_275 : decode cX6_protect 275 = .ok (.iconst 0, 1) := by decide +kernel
theorem dX6_protect_276 : decode cX6_protect 276 = .ok (.putfield 61, 3) := by decide +kernel
theorem dX6_protect_279 : decode cX6_protect 279 = .ok (.aload_n 0, 1) := by decide +kernel
theorem dX6_protect_280 : decode cX6_protect 280 = .ok (.aload_n 0, 1) := by decide +kernel
theorem dX6_protect_281 : decode cX6_protect 281 = .ok (.getfield 65, 3) := by decide +kernel
theorem dX6_protect_284 : decode cX6_protect 284 = .ok (.iconst 1, 1) := by decide +kernel
theorem dX6_protect_285 : decode cX6_protect 285 = .ok (.iadd, 1) := by decide +kernel
theorem dX6_protect_286 : decode cX6_protect 286 = .ok (.aload_n 0, 1) := by decide +kernel
theorem dX6_protect_287 : decode cX6_protect 287 = .ok (.getfield 40, 3) := by decide +kernel
theorem dX6_protect_290 : decode cX6_protect 290 = .ok (.irem, 1) := by decide +kernel
theorem dX6_protect_291 : decode cX6_protect 291 = .ok (.putfield 65, 3) := by decide +kernel
theorem dX6_protect_294 : decode cX6_protect 294 = .ok (.aload_n 0, 1) := by decide +kernel
theorem dX6_protect_295 : decode cX6_protect 295 = .ok (.getfield 75, 3) := by decide +kernel
theorem dX6_protect_298 : decode cX6_protect 298 = .ok (.ireturn, 1) := by decide +kernel
theorem dX6_out_0 : decode cX6_out 0 = .ok (.aload_n 0, 1) := by decide +kernel
theorem dX6_out_1 : decode cX6_out 1 = .ok (.iload_n 1, 1) := by decide +kernel
theorem dX6_out_2 : decode cX6_out 2 = .ok (.ifCond .lt 11, 3) := by decide +kernel
theorem dX6_out_5 : decode cX6_out 5 = .ok (.iload_n 1, 1) := by decide +kernel
theorem dX6_out_6 : decode cX6_out 6 = .ok (.aload_n 0, 1) := by decide +kernel
theorem dX6_out_7 : decode cX6_out 7 = .ok (.getfield 75, 3) := by decide +kernel
theorem dX6_out_10 : decode cX6_out 10 = .ok (.if_icmp .lt 7, 3) := by decide +kernel
theorem dX6_out_13 : decode cX6_out 13 = .ok (.iconst 1, 1) := by decide +kernel
theorem dX6_out_14 : decode cX6_out 14 = .ok (.goto 4, 3) := by decide +kernel
theorem dX6_out_17 : decode cX6_out 17 = .ok (.iconst 0, 1) := by decide +kernel
theorem dX6_out_18 : decode cX6_out 18 = .ok (.putfield 46, 3) := by decide +kernel
theorem dX6_out_21 : decode cX6_out 21 = .ok (.aload_n 0, 1) := by decide +kernel
theorem dX6_out_22 : decode cX6_out 22 = .ok (.getfield 46, 3) := by decide +kernel
theorem dX6_out_25 : decode cX6_out 25 = .ok (.ifCond .le 7, 3) := by decide +kernel
theorem dX6_out_28 : decode cX6_out 28 = .ok (.iconst 0, 1) := by decide +kernel
theorem dX6_out_29 : decode cX6_out 29 = .ok (.goto 10, 3) := by decide +kernel
theorem dX6_out_32 : decode cX6_out 32 = .ok (.aload_n 0, 1) := by decide +kernel
theorem dX6_out_33 : decode cX6_out 33 = .ok (.getfield 13, 3) := by decide +kernel
theorem dX6_out_36 : decode cX6_out 36 = .ok (.iload_n 1, 1) := by decide +kernel
theorem dX6_out_37 : decode cX6_out 37 = .ok (.iaload, 1) := by decide +kernel
theorem dX6_out_38 : decode cX6_out 38 = .ok (.i2b, 1) := by decide +kernel
theorem dX6_out_39 : decode cX6_out 39 = .ok (.ireturn, 1) := by decide +kernel
theorem dX6_counter_0 : decode cX6_counter 0 = .ok (.aload_n 0, 1) := by decide +kernel
theorem dX6_counter_1 : decode cX6_counter 1 = .ok (.iconst 0, 1) := by decide +kernel
theorem dX6_counter_2 : decode cX6_counter 2 = .ok (.putfield 46, 3) := by decide +kernel
theorem dX6_counter_5 : decode cX6_counter 5 = .ok (.aload_n 0, 1) := by decide +kernel
theorem dX6_counter_6 : decode cX6_counter 6 = .ok (.getfield 65, 3) := by decide +kernel
theorem dX6_counter_9 : decode cX6_counter 9 = .ok (.ireturn, 1) := by decide +kernel
theorem dX6_plant_0 : decode cX6_plant 0 = .ok (.aload_n 0, 1) := by decide +kernel
theorem dX6_plant_1 : decode cX6_plant 1 = .ok (.iconst 0, 1) := by decide +kernel
theorem dX6_plant_2 : decode cX6_plant 2 = .ok (.putfield 46, 3) := by decide +kernel
theorem dX6_plant_5 : decode cX6_plant 5 = .ok (.iload_n 1, 1) := by decide +kernel
theorem dX6_plant_6 : decode cX6_plant 6 = .ok (.ifCond .lt 8, 3) := by decide +kernel
theorem dX6_plant_9 : decode cX6_plant 9 = .ok (.iload_n 1, 1) := by decide +kernel
theorem dX6_plant_10 : decode cX6_plant 10 = .ok (.iconst 1, 1) := by decide +kernel
theorem dX6_plant_11 : decode cX6_plant 11 = .ok (.if_icmp .le 5, 3) := by decide +kernel
theorem dX6_plant_14 : decode cX6_plant 14 = .ok (.iconst (-1), 1) := by decide +kernel
theorem dX6_plant_15 : decode cX6_plant 15 = .ok (.ireturn, 1) := by decide +kernel
theorem dX6_plant_16 : decode cX6_plant 16 = .ok (.iload_n 2, 1) := by decide +kernel
theorem dX6_plant_17 : decode cX6_plant 17 = .ok (.ifCond .lt 9, 3) := by decide +kernel
theorem dX6_plant_20 : decode cX6_plant 20 = .ok (.iload_n 2, 1) := by decide +kernel
theorem dX6_plant_21 : decode cX6_plant 21 = .ok (.bipush 100, 2) := by decide +kernel
theorem dX6_plant_23 : decode cX6_plant 23 = .ok (.if_icmp .le 6, 3) := by decide +kernel
theorem dX6_plant_26 : decode cX6_plant 26 = .ok (.bipush (-2), 2) := by decide +kernel
theorem dX6_plant_28 : decode cX6_plant 28 = .ok (.ireturn, 1) := by decide +kernel
theorem dX6_plant_29 : decode cX6_plant 29 = .ok (.iload_n 1, 1) := by decide +kernel
theorem dX6_plant_30 : decode cX6_plant 30 = .ok (.ifCond .ne 20, 3) := by decide +kernel
theorem dX6_plant_33 : decode cX6_plant 33 = .ok (.aload_n 0, 1) := by decide +kernel
theorem dX6_plant_34 : decode cX6_plant 34 = .ok (.iload_n 2, 1) := by decide +kernel
theorem dX6_plant_35 : decode cX6_plant 35 = .ok (.putfield 16, 3) := by decide +kernel
theorem dX6_plant_38 : decode cX6_plant 38 = .ok (.aload_n 0, 1) := by decide +kernel
theorem dX6_plant_39 : decode cX6_plant 39 = .ok (.iload_n 3, 1) := by decide +kernel
theorem dX6_plant_40 : decode cX6_plant 40 = .ok (.sipush 255, 3) := by decide +kernel
theorem dX6_plant_43 : decode cX6_plant 43 = .ok (.iand, 1) := by decide +kernel
theorem dX6_plant_44 : decode cX6_plant 44 = .ok (.putfield 84, 3) := by decide +kernel
theorem dX6_plant_47 : decode cX6_plant 47 = .ok (.goto 8, 3) := by decide +kernel
theorem dX6_plant_50 : decode cX6_plant 50 = .ok (.aload_n 0, 1) := by decide +kernel
theorem dX6_plant_51 : decode cX6_plant 51 = .ok (.iload_n 2, 1) := by decide +kernel
theorem dX6_plant_52 : decode cX6_plant 52 = .ok (.putfield 68, 3) := by decide +kernel
theorem dX6_plant_55 : decode cX6_plant 55 = .ok (.iconst 1, 1) := by decide +kernel
theorem dX6_plant_56 : decode cX6_plant 56 = .ok (.ireturn, 1) := by decide +kernel
set_option maxRecDepth 20000 in
theorem ggX6_find_X6_begin : GoodIn wsX6_find wsX6_begin := goodIn_r _ [12, 1, 13, 14, 15, 11, 16, 17, 18, 19, 20, 21, 26, 27, 28, 29, 30, 31, 32, 33, 34, 35, 36, 37, 38, 39, 40, 41, 42, 43, 44, 45, 46, 47, 48] (by decide +kernel) (by decide +kernel)
set_option maxRecDepth 20000 in
theorem gX6_find_X6_begin : GoodIn wsX6_find (wsV RX6 71 RX6 yX6_begin wsX6_begin) := goodIn_app (goodIn_of _ (by decide +kernel)) ggX6_find_X6_begin
set_option maxRecDepth 20000 in
theorem ggX6_find_X6_add : GoodIn wsX6_find wsX6_add := goodIn_r _ [16, 1, 17, 18, 19, 20, 21, 26, 27, 28, 29, 30, 31, 32, 33, 34, 35, 36, 37, 38, 39, 40, 41, 42, 43, 44, 45, 46, 47, 48] (by decide +kernel) (by decide +kernel)
set_option maxRecDepth 20000 in
theorem gX6_find_X6_add : GoodIn wsX6_find (wsV RX6 57 RX6 yX6_add wsX6_add) := goodIn_app (goodIn_of _ (by decide +kernel)) ggX6_find_X6_add
set_option maxRecDepth 20000 in
theorem ggX6_find_X6_end : GoodIn wsX6_find wsX6_end := goodIn_r _ [25, 17, 1, 26, 27, 28, 29, 30, 31, 32, 33, 34, 35, 36, 37, 38, 39, 40, 41, 42, 43, 44, 45, 46, 47, 48] (by decide +kernel) (by decide +kernel)
set_option maxRecDepth 20000 in
theorem gX6_find_X6_end : GoodIn wsX6_find (wsV RX6 78 RX6 yX6_end wsX6_end) := goodIn_app (goodIn_of _ (by decide +kernel)) ggX6_find_X6_end
theorem dX6_find_0 : decode cX6_find 0 = .ok (.aload_n 0, 1) := by decide +kernel
theorem dX6_find_1 : decode cX6_find 1 = .ok (.getfield 36, 3) := by decide +kernel
theorem dX6_find_4 : decode cX6_find 4 = .ok (.bipush 8, 2) := by decide +kernel
theorem dX6_find_6 : decode cX6_find 6 = .ok (.idiv, 1) := by decide +kernel
theorem dX6_find_7 : decode cX6_find 7 = .ok (.istore_n 2, 1) := by decide +kernel
theorem dX6_find_8 : decode cX6_find 8 = .ok (.aload_n 0, 1) := by decide +kernel
theorem dX6_find_9 : decode cX6_find 9 = .ok (.getfield 87, 3) := by decide +kernel
theorem dX6_find_12 : decode cX6_find 12 = .ok (.iload_n 2, 1) := by decide +kernel
theorem dX6_find_13 : decode cX6_find 13 = .ok (.isub, 1) := by decide +kernel
theorem dX6_find_14 : decode cX6_find 14 = .ok (.istore_n 3, 1) := by decide +kernel
theorem dX6_find_15 : decode cX6_find 15 = .ok (.aload_n 0, 1) := by decide +kernel
theorem dX6_find_16 : decode cX6_find 16 = .ok (.getfield 87, 3) := by decide +kernel
theorem dX6_find_19 : decode cX6_find 19 = .ok (.bipush 70, 2) := by decide +kernel
theorem dX6_find_21 : decode cX6_find 21 = .ok (.if_icmp .gt 11, 3) := by decide +kernel
theorem dX6_find_24 : decode cX6_find 24 = .ok (.iload_n 3, 1) := by decide +kernel
theorem dX6_find_25 : decode cX6_find 25 = .ok (.aload_n 0, 1) := by decide +kernel
theorem dX6_find_26 : decode cX6_find 26 = .ok (.getfield 43, 3) := by decide +kernel
theorem dX6_find_29 : decode cX6_find 29 = .ok (.if_icmp .ge 5, 3) := by decide +kernel
theorem dX6_find_32 : decode cX6_find 32 = .ok (.iconst 4, 1) := by decide +kernel
theorem dX6_find_33 : decode cX6_find 33 = .ok (.ireturn, 1) := by decide +kernel
theorem dX6_find_34 : decode cX6_find 34 = .ok (.aload_n 0, 1) := by decide +kernel
theorem dX6_find_35 : decode cX6_find 35 = .ok (.iload_n 1, 1) := by decide +kernel
theorem dX6_find_36 : decode cX6_find 36 = .ok (.invokevirtual 71, 3) := by decide +kernel
theorem dX6_find_39 : decode cX6_find 39 = .ok (.lstore 4, 2) := by decide +kernel
theorem dX6_find_41 : decode cX6_find 41 = .ok (.iconst 0, 1) := by decide +kernel
theorem dX6_find_42 : decode cX6_find 42 = .ok (.istore 6, 2) := by decide +kernel
theorem dX6_find_44 : decode cX6_find 44 = .ok (.iload 6, 2) := by decide +kernel
theorem dX6_find_46 : decode cX6_find 46 = .ok (.iload_n 3, 1) := by decide +kernel
theorem dX6_find_47 : decode cX6_find 47 = .ok (.if_icmp .ge 24, 3) := by decide +kernel
theorem dX6_find_50 : decode cX6_find 50 = .ok (.aload_n 0, 1) := by decide +kernel
theorem dX6_find_51 : decode cX6_find 51 = .ok (.lload 4, 2) := by decide +kernel
theorem dX6_find_53 : decode cX6_find 53 = .ok (.aload_n 0, 1) := by decide +kernel
theorem dX6_find_54 : decode cX6_find 54 = .ok (.getfield 20, 3) := by decide +kernel
theorem dX6_find_57 : decode cX6_find 57 = .ok (.iload 6, 2) := by decide +kernel
theorem dX6_find_59 : decode cX6_find 59 = .ok (.iaload, 1) := by decide +kernel
theorem dX6_find_60 : decode cX6_find 60 = .ok (.invokevirtual 57, 3) := by decide +kernel
theorem dX6_find_63 : decode cX6_find 63 = .ok (.lstore 4, 2) := by decide +kernel
theorem dX6_find_65 : decode cX6_find 65 = .ok (.iinc 6 1, 3) := by decide +kernel
theorem dX6_find_68 : decode cX6_find 68 = .ok (.goto (-24), 3) := by decide +kernel
theorem dX6_find_71 : decode cX6_find 71 = .ok (.lconst 0, 1) := by decide +kernel
theorem dX6_find_72 : decode cX6_find 72 = .ok (.lstore 6, 2) := by decide +kernel
theorem dX6_find_74 : decode cX6_find 74 = .ok (.iload_n 3, 1) := by decide +kernel
theorem dX6_find_75 : decode cX6_find 75 = .ok (.istore 8, 2) := by decide +kernel
theorem dX6_find_77 : decode cX6_find 77 = .ok (.iload 8, 2) := by decide +kernel
theorem dX6_find_79 : decode cX6_find 79 = .ok (.aload_n 0, 1) := by decide +kernel
theorem dX6_find_80 : decode cX6_find 80 = .ok (.getfield 87, 3) := by decide +kernel
theorem dX6_find_83 : decode cX6_find 83 = .ok (.if_icmp .ge 26, 3) := by decide +kernel
theorem dX6_find_86 : decode cX6_find 86 = .ok (.lload 6, 2) := by decide +kernel
theorem dX6_find_88 : decode cX6_find 88 = .ok (.ldc2_w 90, 3) := by decide +kernel
theorem dX6_find_91 : decode cX6_find 91 = .ok (.lmul, 1) := by decide +kernel
theorem dX6_find_92 : decode cX6_find 92 = .ok (.aload_n 0, 1) := by decide +kernel
theorem dX6_find_93 : decode cX6_find 93 = .ok (.getfield 20, 3) := by decide +kernel
theorem dX6_find_96 : decode cX6_find 96 = .ok (.iload 8, 2) := by decide +kernel
theorem dX6_find_98 : decode cX6_find 98 = .ok (.iaload, 1) := by decide +kernel
theorem dX6_find_99 : decode cX6_find 99 = .ok (.i2l, 1) := by decide +kernel
theorem dX6_find_100 : decode cX6_find 100 = .ok (.ladd, 1) := by decide +kernel
theorem dX6_find_101 : decode cX6_find 101 = .ok (.lstore 6, 2) := by decide +kernel
theorem dX6_find_103 : decode cX6_find 103 = .ok (.iinc 8 1, 3) := by decide +kernel
theorem dX6_find_106 : decode cX6_find 106 = .ok (.goto (-29), 3) := by decide +kernel
theorem dX6_find_109 : decode cX6_find 109 = .ok (.aload_n 0, 1) := by decide +kernel
theorem dX6_find_110 : decode cX6_find 110 = .ok (.getfield 43, 3) := by decide +kernel
theorem dX6_find_113 : decode cX6_find 113 = .ok (.iconst 1, 1) := by decide +kernel
theorem dX6_find_114 : decode cX6_find 114 = .ok (.if_icmp .ne 12, 3) := by decide +kernel
theorem dX6_find_117 : decode cX6_find 117 = .ok (.aload_n 0, 1) := by decide +kernel
theorem dX6_find_118 : decode cX6_find 118 = .ok (.getfield 20, 3) := by decide +kernel
theorem dX6_find_121 : decode cX6_find 121 = .ok (.iconst 0, 1) := by decide +kernel
theorem dX6_find_122 : decode cX6_find 122 = .ok (.iaload, 1) := by decide +kernel
theorem dX6_find_123 : decode cX6_find 123 = .ok (.goto 20, 3) := by decide +kernel
theorem dX6_find_126 : decode cX6_find 126 = .ok (.sipush 256, 3) := by decide +kernel
theorem dX6_find_129 : decode cX6_find 129 = .ok (.aload_n 0, 1) := by decide +kernel
theorem dX6_find_130 : decode cX6_find 130 = .ok (.getfield 20, 3) := by decide +kernel
theorem dX6_find_133 : decode cX6_find 133 = .ok (.iconst 0, 1) := by decide +kernel
theorem dX6_find_134 : decode cX6_find 134 = .ok (.iaload, 1) := by decide +kernel
theorem dX6_find_135 : decode cX6_find 135 = .ok (.imul, 1) := by decide +kernel
theorem dX6_find_136 : decode cX6_find 136 = .ok (.aload_n 0, 1) := by decide +kernel
theorem dX6_find_137 : decode cX6_find 137 = .ok (.getfield 20, 3) := by decide +kernel
theorem dX6_find_140 : decode cX6_find 140 = .ok (.iconst 1, 1) := by decide +kernel
theorem dX6_find_141 : decode cX6_find 141 = .ok (.iaload, 1) := by decide +kernel
theorem dX6_find_142 : decode cX6_find 142 = .ok (.iadd, 1) := by decide +kernel
theorem dX6_find_143 : decode cX6_find 143 = .ok (.istore 8, 2) := by decide +kernel
theorem dX6_find_145 : decode cX6_find 145 = .ok (.lload 6, 2) := by decide +kernel
theorem dX6_find_147 : decode cX6_find 147 = .ok (.aload_n 0, 1) := by decide +kernel
theorem dX6_find_148 : decode cX6_find 148 = .ok (.lload 4, 2) := by decide +kernel
theorem dX6_find_150 : decode cX6_find 150 = .ok (.invokevirtual 78, 3) := by decide +kernel
theorem dX6_find_153 : decode cX6_find 153 = .ok (.lcmp, 1) := by decide +kernel
theorem dX6_find_154 : decode cX6_find 154 = .ok (.ifCond .ne 12, 3) := by decide +kernel
theorem dX6_find_157 : decode cX6_find 157 = .ok (.iload 8, 2) := by decide +kernel
theorem dX6_find_159 : decode cX6_find 159 = .ok (.aload_n 0, 1) := by decide +kernel
theorem dX6_find_160 : decode cX6_find 160 = .ok (.getfield 40, 3) := by decide +kernel
theorem dX6_find_163 : decode cX6_find 163 = .ok (.if_icmp .lt 5, 3) := by decide +kernel
theorem dX6_find_166 : decode cX6_find 166 = .ok (.iconst 4, 1) := by decide +kernel
theorem dX6_find_167 : decode cX6_find 167 = .ok (.ireturn, 1) := by decide +kernel
theorem dX6_find_168 : decode cX6_find 168 = .ok (.iload 8, 2) := by decide +kernel
theorem dX6_find_170 : decode cX6_find 170 = .ok (.aload_n 0, 1) := by decide +kernel
theorem dX6_find_171 : decode cX6_find 171 = .ok (.getfield 23, 3) := by decide +kernel
theorem dX6_find_174 : decode cX6_find 174 = .ok (.isub, 1) := by decide +kernel
theorem dX6_find_175 : decode cX6_find 175 = .ok (.aload_n 0, 1) := by decide +kernel
theorem dX6_find_176 : decode cX6_find 176 = .ok (.getfield 40, 3) := by decide +kernel
theorem dX6_find_179 : decode cX6_find 179 = .ok (.iadd, 1) := by decide +kernel
theorem dX6_find_180 : decode cX6_find 180 = .ok (.aload_n 0, 1) := by decide +kernel
theorem dX6_find_181 : decode cX6_find 181 = .ok (.getfield 40, 3) := by decide +kernel
theorem dX6_find_184 : decode cX6_find 184 = .ok (.irem, 1) := by decide +kernel
theorem dX6_find_185 : decode cX6_find 185 = .ok (.istore 9, 2) := by decide +kernel
theorem dX6_find_187 : decode cX6_find 187 = .ok (.aload_n 0, 1) := by decide +kernel
theorem dX6_find_188 : decode cX6_find 188 = .ok (.getfield 23, 3) := by decide +kernel
theorem dX6_find_191 : decode cX6_find 191 = .ok (.ifCond .ge 7, 3) := by decide +kernel
theorem dX6_find_194 : decode cX6_find 194 = .ok (.iconst 1, 1) := by decide +kernel
theorem dX6_find_195 : decode cX6_find 195 = .ok (.goto 4, 3) := by decide +kernel
theorem dX6_find_198 : decode cX6_find 198 = .ok (.iconst 0, 1) := by decide +kernel
theorem dX6_find_199 : decode cX6_find 199 = .ok (.istore 10, 2) := by decide +kernel
theorem dX6_find_201 : decode cX6_find 201 = .ok (.aload_n 0, 1) := by decide +kernel
theorem dX6_find_202 : decode cX6_find 202 = .ok (.iload 8, 2) := by decide +kernel
theorem dX6_find_204 : decode cX6_find 204 = .ok (.putfield 23, 3) := by decide +kernel
theorem dX6_find_207 : decode cX6_find 207 = .ok (.iload 10, 2) := by decide +kernel
theorem dX6_find_209 : decode cX6_find 209 = .ok (.ifCond .eq 5, 3) := by decide +kernel
theorem dX6_find_212 : decode cX6_find 212 = .ok (.iconst 5, 1) := by decide +kernel
theorem dX6_find_213 : decode cX6_find 213 = .ok (.ireturn, 1) := by decide +kernel
theorem dX6_find_214 : decode cX6_find 214 = .ok (.iload 9, 2) := by decide +kernel
theorem dX6_find_216 : decode cX6_find 216 = .ok (.iconst 2, 1) := by decide +kernel
theorem dX6_find_217 : decode cX6_find 217 = .ok (.if_icmp .ge 8, 3) := by decide +kernel
theorem dX6_find_220 : decode cX6_find 220 = .ok (.iconst 1, 1) := by decide +kernel
theorem dX6_find_221 : decode cX6_find 221 = .ok (.iload 9, 2) := by decide +kernel
theorem dX6_find_223 : decode cX6_find 223 = .ok (.isub, 1) := by decide +kernel
theorem dX6_find_224 : decode cX6_find 224 = .ok (.ireturn, 1) := by decide +kernel
theorem dX6_find_225 : decode cX6_find 225 = .ok (.iload 9, 2) := by decide +kernel
theorem dX6_find_227 : decode cX6_find 227 = .ok (.iconst 4, 1) := by decide +kernel
theorem dX6_find_228 : decode cX6_find 228 = .ok (.if_icmp .ge 7, 3) := by decide +kernel
theorem dX6_find_231 : decode cX6_find 231 = .ok (.iconst 2, 1) := by decide +kernel
theorem dX6_find_232 : decode cX6_find 232 = .ok (.goto 4, 3) := by decide +kernel
theorem dX6_find_235 : decode cX6_find 235 = .ok (.iconst 3, 1) := by decide +kernel
theorem dX6_find_236 : decode cX6_find 236 = .ok (.ireturn, 1) := by decide +kernel
theorem dX6_good_0 : decode cX6_good 0 = .ok (.iload_n 0, 1) := by decide +kernel
theorem dX6_good_1 : decode cX6_good 1 = .ok (.ifCond .eq 13, 3) := by decide +kernel
theorem dX6_good_4 : decode cX6_good 4 = .ok (.iload_n 0, 1) := by decide +kernel
theorem dX6_good_5 : decode cX6_good 5 = .ok (.iconst 2, 1) := by decide +kernel
theorem dX6_good_6 : decode cX6_good 6 = .ok (.if_icmp .eq 8, 3) := by decide +kernel
theorem dX6_good_9 : decode cX6_good 9 = .ok (.iload_n 0, 1) := by decide +kernel
theorem dX6_good_10 : decode cX6_good 10 = .ok (.iconst 5, 1) := by decide +kernel
theorem dX6_good_11 : decode cX6_good 11 = .ok (.if_icmp .ne 7, 3) := by decide +kernel
theorem dX6_good_14 : decode cX6_good 14 = .ok (.iconst 1, 1) := by decide +kernel
theorem dX6_good_15 : decode cX6_good 15 = .ok (.goto 4, 3) := by decide +kernel
theorem dX6_good_18 : decode cX6_good 18 = .ok (.iconst 0, 1) := by decide +kernel
theorem dX6_good_19 : decode cX6_good 19 = .ok (.ireturn, 1) := by decide +kernel
set_option maxRecDepth 20000 in
theorem ggX6_check_X6_find : GoodIn wsX6_check wsX6_find := goodIn_r _ [16, 17, 3, 18, 4, 19, 20, 21, 22, 23, 24, 15, 25, 26, 27, 28, 29, 30, 31, 32, 33, 34, 35, 36, 37, 38, 42, 43, 44, 45, 46, 47, 48, 49, 50, 51, 52, 53, 54, 55, 56, 57, 58, 59, 60, 61, 62, 63, 64] (by decide +kernel) (by decide +kernel)
set_option maxRecDepth 20000 in
theorem gX6_check_X6_find : GoodIn wsX6_check (wsV RX6 92 RX6 yX6_find wsX6_find) := goodIn_app (goodIn_of _ (by decide +kernel)) ggX6_check_X6_find
set_option maxRecDepth 20000 in
theorem ggX6_check_X6_good : GoodIn wsX6_check wsX6_good := goodIn_r _ [41] (by decide +kernel) (by decide +kernel)
set_option maxRecDepth 20000 in
theorem gX6_check_X6_good : GoodIn wsX6_check (va_wsS RX6 96 yX6_good wsX6_good) := goodIn_app (goodIn_of _ (by decide +kernel)) ggX6_check_X6_good
theorem dX6_check_0 : decode cX6_check 0 = .ok (.aload_n 0, 1) := by decide +kernel
theorem dX6_check_1 : decode cX6_check 1 = .ok (.iconst 0, 1) := by decide +kernel
theorem dX6_check_2 : decode cX6_check 2 = .ok (.putfield 46, 3) := by decide +kernel
theorem dX6_check_5 : decode cX6_check 5 = .ok (.iload_n 3, 1) := by decide +kernel
theorem dX6_check_6 : decode cX6_check 6 = .ok (.ifCond .eq 16, 3) := by decide +kernel
theorem dX6_check_9 : decode cX6_check 9 = .ok (.iload_n 1, 1) := by decide +kernel
theorem dX6_check_10 : decode cX6_check 10 = .ok (.ifCond .lt 9, 3) := by decide +kernel
theorem dX6_check_13 : decode cX6_check 13 = .ok (.iload_n 1, 1) := by decide +kernel
theorem dX6_check_14 : decode cX6_check 14 = .ok (.ldc 64, 2) := by decide +kernel
theorem dX6_check_16 : decode cX6_check 16 = .ok (.if_icmp .le 6, 3) := by decide +kernel
theorem dX6_check_19 : decode cX6_check 19 = .ok (.bipush (-2), 2) := by decide +kernel
theorem dX6_check_21 : decode cX6_check 21 = .ok (.ireturn, 1) := by decide +kernel
theorem dX6_check_22 : decode cX6_check 22 = .ok (.aload_n 0, 1) := by decide +kernel
theorem dX6_check_23 : decode cX6_check 23 = .ok (.getfield 87, 3) := by decide +kernel
theorem dX6_check_26 : decode cX6_check 26 = .ok (.bipush 70, 2) := by decide +kernel
theorem dX6_check_28 : decode cX6_check 28 = .ok (.if_icmp .ge 17, 3) := by decide +kernel
theorem dX6_check_31 : decode cX6_check 31 = .ok (.aload_n 0, 1) := by decide +kernel
theorem dX6_check_32 : decode cX6_check 32 = .ok (.getfield 20, 3) := by decide +kernel
theorem dX6_check_35 : decode cX6_check 35 = .ok (.aload_n 0, 1) := by decide +kernel
theorem dX6_check_36 : decode cX6_check 36 = .ok (.getfield 87, 3) := by decide +kernel
theorem dX6_check_39 : decode cX6_check 39 = .ok (.iload_n 2, 1) := by decide +kernel
theorem dX6_check_40 : decode cX6_check 40 = .ok (.sipush 255, 3) := by decide +kernel
theorem dX6_check_43 : decode cX6_check 43 = .ok (.iand, 1) := by decide +kernel
theorem dX6_check_44 : decode cX6_check 44 = .ok (.iastore, 1) := by decide +kernel
theorem dX6_check_45 : decode cX6_check 45 = .ok (.aload_n 0, 1) := by decide +kernel
theorem dX6_check_46 : decode cX6_check 46 = .ok (.aload_n 0, 1) := by decide +kernel
theorem dX6_check_47 : decode cX6_check 47 = .ok (.getfield 87, 3) := by decide +kernel
theorem dX6_check_50 : decode cX6_check 50 = .ok (.bipush 71, 2) := by decide +kernel
theorem dX6_check_52 : decode cX6_check 52 = .ok (.if_icmp .ge 12, 3) := by decide +kernel
theorem dX6_check_55 : decode cX6_check 55 = .ok (.aload_n 0, 1) := by decide +kernel
theorem dX6_check_56 : decode cX6_check 56 = .ok (.getfield 87, 3) := by decide +kernel
theorem dX6_check_59 : decode cX6_check 59 = .ok (.iconst 1, 1) := by decide +kernel
theorem dX6_check_60 : decode cX6_check 60 = .ok (.iadd, 1) := by decide +kernel
theorem dX6_check_61 : decode cX6_check 61 = .ok (.goto 7, 3) := by decide +kernel
theorem dX6_check_64 : decode cX6_check 64 = .ok (.aload_n 0, 1) := by decide +kernel
theorem dX6_check_65 : decode cX6_check 65 = .ok (.getfield 87, 3) := by decide +kernel
theorem dX6_check_68 : decode cX6_check 68 = .ok (.putfield 87, 3) := by decide +kernel
theorem dX6_check_71 : decode cX6_check 71 = .ok (.iload_n 3, 1) := by decide +kernel
theorem dX6_check_72 : decode cX6_check 72 = .ok (.ifCond .ne 5, 3) := by decide +kernel
theorem dX6_check_75 : decode cX6_check 75 = .ok (.iconst 0, 1) := by decide +kernel
theorem dX6_check_76 : decode cX6_check 76 = .ok (.ireturn, 1) := by decide +kernel
theorem dX6_check_77 : decode cX6_check 77 = .ok (.aload_n 0, 1) := by decide +kernel
theorem dX6_check_78 : decode cX6_check 78 = .ok (.iload_n 1, 1) := by decide +kernel
theorem dX6_check_79 : decode cX6_check 79 = .ok (.invokevirtual 92, 3) := by decide +kernel
theorem dX6_check_82 : decode cX6_check 82 = .ok (.istore 4, 2) := by decide +kernel
theorem dX6_check_84 : decode cX6_check 84 = .ok (.aload_n 0, 1) := by decide +kernel
theorem dX6_check_85 : decode cX6_check 85 = .ok (.iconst 0, 1) := by decide +kernel
theorem dX6_check_86 : decode cX6_check 86 = .ok (.putfield 87, 3) := by decide +kernel
theorem dX6_check_89 : decode cX6_check 89 = .ok (.aload_n 0, 1) := by decide +kernel
theorem dX6_check_90 : decode cX6_check 90 = .ok (.getfield 29, 3) := by decide +kernel
theorem dX6_check_93 : decode cX6_check 93 = .ok (.iload 4, 2) := by decide +kernel
theorem dX6_check_95 : decode cX6_check 95 = .ok (.iconst 1, 1) := by decide +kernel
theorem dX6_check_96 : decode cX6_check 96 = .ok (.bastore, 1) := by decide +kernel
theorem dX6_check_97 : decode cX6_check 97 = .ok (.aload_n 0, 1) := by decide +kernel
theorem dX6_check_98 : decode cX6_check 98 = .ok (.iload 4, 2) := by decide +kernel
theorem dX6_check_100 : decode cX6_check 100 = .ok (.invokestatic 96, 3) := by decide +kernel
theorem dX6_check_103 : decode cX6_check 103 = .ok (.ifCond .eq 12, 3) := by decide +kernel
theorem dX6_check_106 : decode cX6_check 106 = .ok (.aload_n 0, 1) := by decide +kernel
theorem dX6_check_107 : decode cX6_check 107 = .ok (.getfield 100, 3) := by decide +kernel
theorem dX6_check_110 : decode cX6_check 110 = .ok (.iconst 1, 1) := by decide +kernel
theorem dX6_check_111 : decode cX6_check 111 = .ok (.iadd, 1) := by decide +kernel
theorem dX6_check_112 : decode cX6_check 112 = .ok (.goto 7, 3) := by decide +kernel
theorem dX6_check_115 : decode cX6_check 115 = .ok (.aload_n 0, 1) := by decide +kernel
theorem dX6_check_116 : decode cX6_check 116 = .ok (.getfield 100, 3) := by decide +kernel
theorem dX6_check_119 : decode cX6_check 119 = .ok (.putfield 100, 3) := by decide +kernel
theorem dX6_check_122 : decode cX6_check 122 = .ok (.aload_n 0, 1) := by decide +kernel
theorem dX6_check_123 : decode cX6_check 123 = .ok (.iload 4, 2) := by decide +kernel
theorem dX6_check_125 : decode cX6_check 125 = .ok (.invokestatic 96, 3) := by decide +kernel
theorem dX6_check_128 : decode cX6_check 128 = .ok (.ifCond .eq 10, 3) := by decide +kernel
theorem dX6_check_131 : decode cX6_check 131 = .ok (.aload_n 0, 1) := by decide +kernel
theorem dX6_check_132 : decode cX6_check 132 = .ok (.getfield 103, 3) := by decide +kernel
theorem dX6_check_135 : decode cX6_check 135 = .ok (.goto 7, 3) := by decide +kernel
theorem dX6_check_138 : decode cX6_check 138 = .ok (.aload_n 0, 1) := by decide +kernel
theorem dX6_check_139 : decode cX6_check 139 = .ok (.getfield 107, 3) := by decide +kernel
theorem dX6_check_142 : decode cX6_check 142 = .ok (.putfield 107, 3) := by decide +kernel
theorem dX6_check_145 : decode cX6_check 145 = .ok (.aload_n 0, 1) := by decide +kernel
theorem dX6_check_146 : decode cX6_check 146 = .ok (.aload_n 0, 1) := by decide +kernel
theorem dX6_check_147 : decode cX6_check 147 = .ok (.getfield 110, 3) := by decide +kernel
theorem dX6_check_150 : decode cX6_check 150 = .ok (.bipush 10, 2) := by decide +kernel
theorem dX6_check_152 : decode cX6_check 152 = .ok (.if_icmp .ge 12, 3) := by decide +kernel
theorem dX6_check_155 : decode cX6_check 155 = .ok (.aload_n 0, 1) := by decide +kernel
theorem dX6_check_156 : decode cX6_check 156 = .ok (.getfield 110, 3) := by decide +kernel
theorem dX6_check_159 : decode cX6_check 159 = .ok (.iconst 1, 1) := by decide +kernel
theorem dX6_check_160 : decode cX6_check 160 = .ok (.iadd, 1) := by decide +kernel
theorem dX6_check_161 : decode cX6_check 161 = .ok (.goto 7, 3) := by decide +kernel
theorem dX6_check_164 : decode cX6_check 164 = .ok (.aload_n 0, 1) := by decide +kernel
theorem dX6_check_165 : decode cX6_check 165 = .ok (.getfield 110, 3) := by decide +kernel
theorem dX6_check_168 : decode cX6_check 168 = .ok (.putfield 110, 3) := by decide +kernel
theorem dX6_check_171 : decode cX6_check 171 = .ok (.aload_n 0, 1) := by decide +kernel
theorem dX6_check_172 : decode cX6_check 172 = .ok (.getfield 110, 3) := by decide +kernel
theorem dX6_check_175 : decode cX6_check 175 = .ok (.iconst 1, 1) := by decide +kernel
theorem dX6_check_176 : decode cX6_check 176 = .ok (.isub, 1) := by decide +kernel
theorem dX6_check_177 : decode cX6_check 177 = .ok (.istore 5, 2) := by decide +kernel
theorem dX6_check_179 : decode cX6_check 179 = .ok (.iload 5, 2) := by decide +kernel
theorem dX6_check_181 : decode cX6_check 181 = .ok (.ifCond .le 25, 3) := by decide +kernel
theorem dX6_check_184 : decode cX6_check 184 = .ok (.aload_n 0, 1) := by decide +kernel
theorem dX6_check_185 : decode cX6_check 185 = .ok (.getfield 26, 3) := by decide +kernel
theorem dX6_check_188 : decode cX6_check 188 = .ok (.iload 5, 2) := by decide +kernel
theorem dX6_check_190 : decode cX6_check 190 = .ok (.aload_n 0, 1) := by decide +kernel
theorem dX6_check_191 : decode cX6_check 191 = .ok (.getfield 26, 3) := by decide +kernel
theorem dX6_check_194 : decode cX6_check 194 = .ok (.iload 5, 2) := by decide +kernel
theorem dX6_check_196 : decode cX6_check 196 = .ok (.iconst 1, 1) := by decide +kernel
theorem dX6_check_197 : decode cX6_check 197 = .ok (.isub, 1) := by decide +kernel
theorem dX6_check_198 : decode cX6_check 198 = .ok (.iaload, 1) := by decide +kernel
theorem dX6_check_199 : decode cX6_check 199 = .ok (.iastore, 1) := by decide +kernel
theorem dX6_check_200 : decode cX6_check 200 = .ok (.iinc 5 (-1), 3) := by decide +kernel
theorem dX6_check_203 : decode cX6_check 203 = .ok (.goto (-24), 3) := by decide +kernel
theorem dX6_check_206 : decode cX6_check 206 = .ok (.aload_n 0, 1) := by decide +kernel
theorem dX6_check_207 : decode cX6_check 207 = .ok (.getfield 26, 3) := by decide +kernel
theorem dX6_check_210 : decode cX6_check 210 = .ok (.iconst 0, 1) := by decide +kernel
theorem dX6_check_211 : decode cX6_check 211 = .ok (.iload 4, 2) := by decide +kernel
theorem dX6_check_213 : decode cX6_check 213 = .ok (.iastore, 1) := by decide +kernel
theorem dX6_check_214 : decode cX6_check 214 = .ok (.iconst 0, 1) := by decide +kernel
theorem dX6_check_215 : decode cX6_check 215 = .ok (.istore 5, 2) := by decide +kernel
theorem dX6_check_217 : decode cX6_check 217 = .ok (.iconst 0, 1) := by decide +kernel
theorem dX6_check_218 : decode cX6_check 218 = .ok (.istore 6, 2) := by decide +kernel
theorem dX6_check_220 : decode cX6_check 220 = .ok (.iconst 0, 1) := by decide +kernel
theorem dX6_check_221 : decode cX6_check 221 = .ok (.istore 7, 2) := by decide +kernel
theorem dX6_check_223 : decode cX6_check 223 = .ok (.iload 7, 2) := by decide +kernel
theorem dX6_check_225 : decode cX6_check 225 = .ok (.aload_n 0, 1) := by decide +kernel
theorem dX6_check_226 : decode cX6_check 226 = .ok (.getfield 110, 3) := by decide +kernel
theorem dX6_check_229 : decode cX6_check 229 = .ok (.if_icmp .ge 66, 3) := by decide +kernel
theorem dX6_check_232 : decode cX6_check 232 = .ok (.aload_n 0, 1) := by decide +kernel
theorem dX6_check_233 : decode cX6_check 233 = .ok (.getfield 26, 3) := by decide +kernel
theorem dX6_check_236 : decode cX6_check 236 = .ok (.iload 7, 2) := by decide +kernel
theorem dX6_check_238 : decode cX6_check 238 = .ok (.iaload, 1) := by decide +kernel
theorem dX6_check_239 : decode cX6_check 239 = .ok (.invokestatic 96, 3) := by decide +kernel
theorem dX6_check_242 : decode cX6_check 242 = .ok (.ifCond .eq 10, 3) := by decide +kernel
theorem dX6_check_245 : decode cX6_check 245 = .ok (.iload 5, 2) := by decide +kernel
theorem dX6_check_247 : decode cX6_check 247 = .ok (.iconst 1, 1) := by decide +kernel
theorem dX6_check_248 : decode cX6_check 248 = .ok (.iadd, 1) := by decide +kernel
theorem dX6_check_249 : decode cX6_check 249 = .ok (.goto 5, 3) := by decide +kernel
theorem dX6_check_252 : decode cX6_check 252 = .ok (.iload 5, 2) := by decide +kernel
theorem dX6_check_254 : decode cX6_check 254 = .ok (.istore 5, 2) := by decide +kernel
theorem dX6_check_256 : decode cX6_check 256 = .ok (.aload_n 0, 1) := by decide +kernel
theorem dX6_check_257 : decode cX6_check 257 = .ok (.getfield 26, 3) := by decide +kernel
theorem dX6_check_260 : decode cX6_check 260 = .ok (.iload 7, 2) := by decide +kernel
theorem dX6_check_262 : decode cX6_check 262 = .ok (.iaload, 1) := by decide +kernel
theorem dX6_check_263 : decode cX6_check 263 = .ok (.iconst 3, 1) := by decide +kernel
theorem dX6_check_264 : decode cX6_check 264 = .ok (.if_icmp .eq 14, 3) := by decide +kernel
theorem dX6_check_267 : decode cX6_check 267 = .ok (.aload_n 0, 1) := by decide +kernel
theorem dX6_check_268 : decode cX6_check 268 = .ok (.getfield 26, 3) := by decide +kernel
theorem dX6_check_271 : decode cX6_check 271 = .ok (.iload 7, 2) := by decide +kernel
theorem dX6_check_273 : decode cX6_check 273 = .ok (.iaload, 1) := by decide +kernel
theorem dX6_check_274 : decode cX6_check 274 = .ok (.iconst 4, 1) := by decide +kernel
theorem dX6_check_275 : decode cX6_check 275 = .ok (.if_icmp .ne 10, 3) := by decide +kernel
theorem dX6_check_278 : decode cX6_check 278 = .ok (.iload 6, 2) := by decide +kernel
theorem dX6_check_280 : decode cX6_check 280 = .ok (.iconst 1, 1) := by decide +kernel
theorem dX6_check_281 : decode cX6_check 281 = .ok (.iadd, 1) := by decide +kernel
theorem dX6_check_282 : decode cX6_check 282 = .ok (.goto 5, 3) := by decide +kernel
theorem dX6_check_285 : decode cX6_check 285 = .ok (.iload 6, 2) := by decide +kernel
theorem dX6_check_287 : decode cX6_check 287 = .ok (.istore 6, 2) := by decide +kernel
theorem dX6_check_289 : decode cX6_check 289 = .ok (.iinc 7 1, 3) := by decide +kernel
theorem dX6_check_292 : decode cX6_check 292 = .ok (.goto (-69), 3) := by decide +kernel
theorem dX6_check_295 : decode cX6_check 295 = .ok (.aload_n 0, 1) := by decide +kernel
theorem dX6_check_296 : decode cX6_check 296 = .ok (.getfield 110, 3) := by decide +kernel
theorem dX6_check_299 : decode cX6_check 299 = .ok (.iconst 2, 1) := by decide +kernel
theorem dX6_check_300 : decode cX6_check 300 = .ok (.if_icmp .le 43, 3) := by decide +kernel
theorem dX6_check_303 : decode cX6_check 303 = .ok (.aload_n 0, 1) := by decide +kernel
theorem dX6_check_304 : decode cX6_check 304 = .ok (.getfield 26, 3) := by decide +kernel
theorem dX6_check_307 : decode cX6_check 307 = .ok (.iconst 0, 1) := by decide +kernel
theorem dX6_check_308 : decode cX6_check 308 = .ok (.iaload, 1) := by decide +kernel
theorem dX6_check_309 : decode cX6_check 309 = .ok (.invokestatic 96, 3) := by decide +kernel
theorem dX6_check_312 : decode cX6_check 312 = .ok (.ifCond .eq 31, 3) := by decide +kernel
theorem dX6_check_315 : decode cX6_check 315 = .ok (.aload_n 0, 1) := by decide +kernel
theorem dX6_check_316 : decode cX6_check 316 = .ok (.getfield 26, 3) := by decide +kernel
theorem dX6_check_319 : decode cX6_check 319 = .ok (.iconst 1, 1) := by decide +kernel
theorem dX6_check_320 : decode cX6_check 320 = .ok (.iaload, 1) := by decide +kernel
theorem dX6_check_321 : decode cX6_check 321 = .ok (.invokestatic 96, 3) := by decide +kernel
theorem dX6_check_324 : decode cX6_check 324 = .ok (.ifCond .eq 19, 3) := by decide +kernel
theorem dX6_check_327 : decode cX6_check 327 = .ok (.aload_n 0, 1) := by decide +kernel
theorem dX6_check_328 : decode cX6_check 328 = .ok (.getfield 26, 3) := by decide +kernel
theorem dX6_check_331 : decode cX6_check 331 = .ok (.iconst 2, 1) := by decide +kernel
theorem dX6_check_332 : decode cX6_check 332 = .ok (.iaload, 1) := by decide +kernel
theorem dX6_check_333 : decode cX6_check 333 = .ok (.invokestatic 96, 3) := by decide +kernel
theorem dX6_check_336 : decode cX6_check 336 = .ok (.ifCond .eq 7, 3) := by decide +kernel
theorem dX6_check_339 : decode cX6_check 339 = .ok (.iconst 1, 1) := by decide +kernel
theorem dX6_check_340 : decode cX6_check 340 = .ok (.goto 4, 3) := by decide +kernel
theorem dX6_check_343 : decode cX6_check 343 = .ok (.iconst 0, 1) := by decide +kernel
theorem dX6_check_344 : decode cX6_check 344 = .ok (.istore 7, 2) := by decide +kernel
theorem dX6_check_346 : decode cX6_check 346 = .ok (.aload_n 0, 1) := by decide +kernel
theorem dX6_check_347 : decode cX6_check 347 = .ok (.aload_n 0, 1) := by decide +kernel
theorem dX6_check_348 : decode cX6_check 348 = .ok (.getfield 113, 3) := by decide +kernel
theorem dX6_check_351 : decode cX6_check 351 = .ok (.ifCond .ne 7, 3) := by decide +kernel
theorem dX6_check_354 : decode cX6_check 354 = .ok (.iconst 1, 1) := by decide +kernel
theorem dX6_check_355 : decode cX6_check 355 = .ok (.goto 7, 3) := by decide +kernel
theorem dX6_check_358 : decode cX6_check 358 = .ok (.aload_n 0, 1) := by decide +kernel
theorem dX6_check_359 : decode cX6_check 359 = .ok (.getfield 113, 3) := by decide +kernel
theorem dX6_check_362 : decode cX6_check 362 = .ok (.putfield 113, 3) := by decide +kernel
theorem dX6_check_365 : decode cX6_check 365 = .ok (.iload 6, 2) := by decide +kernel
theorem dX6_check_367 : decode cX6_check 367 = .ok (.iconst 2, 1) := by decide +kernel
theorem dX6_check_368 : decode cX6_check 368 = .ok (.if_icmp .le 11, 3) := by decide +kernel
theorem dX6_check_371 : decode cX6_check 371 = .ok (.aload_n 0, 1) := by decide +kernel
theorem dX6_check_372 : decode cX6_check 372 = .ok (.iconst 3, 1) := by decide +kernel
theorem dX6_check_373 : decode cX6_check 373 = .ok (.putfield 113, 3) := by decide +kernel
theorem dX6_check_376 : decode cX6_check 376 = .ok (.goto 35, 3) := by decide +kernel
theorem dX6_check_379 : decode cX6_check 379 = .ok (.iload 5, 2) := by decide +kernel
theorem dX6_check_381 : decode cX6_check 381 = .ok (.iconst 2, 1) := by decide +kernel
theorem dX6_check_382 : decode cX6_check 382 = .ok (.if_icmp .le 29, 3) := by decide +kernel
theorem dX6_check_385 : decode cX6_check 385 = .ok (.aload_n 0, 1) := by decide +kernel
theorem dX6_check_386 : decode cX6_check 386 = .ok (.getfield 113, 3) := by decide +kernel
theorem dX6_check_389 : decode cX6_check 389 = .ok (.iconst 1, 1) := by decide +kernel
theorem dX6_check_390 : decode cX6_check 390 = .ok (.if_icmp .eq 16, 3) := by decide +kernel
theorem dX6_check_393 : decode cX6_check 393 = .ok (.aload_n 0, 1) := by decide +kernel
theorem dX6_check_394 : decode cX6_check 394 = .ok (.getfield 113, 3) := by decide +kernel
theorem dX6_check_397 : decode cX6_check 397 = .ok (.iconst 3, 1) := by decide +kernel
theorem dX6_check_398 : decode cX6_check 398 = .ok (.if_icmp .ne 13, 3) := by decide +kernel
theorem dX6_check_401 : decode cX6_check 401 = .ok (.iload 7, 2) := by decide +kernel
theorem dX6_check_403 : decode cX6_check 403 = .ok (.ifCond .eq 8, 3) := by decide +kernel
theorem dX6_check_406 : decode cX6_check 406 = .ok (.aload_n 0, 1) := by decide +kernel
theorem dX6_check_407 : decode cX6_check 407 = .ok (.iconst 2, 1) := by decide +kernel
theorem dX6_check_408 : decode cX6_check 408 = .ok (.putfield 113, 3) := by decide +kernel
theorem dX6_check_411 : decode cX6_check 411 = .ok (.iload 4, 2) := by decide +kernel
theorem dX6_check_413 : decode cX6_check 413 = .ok (.ireturn, 1) := by decide +kernel
theorem dX6_state_0 : decode cX6_state 0 = .ok (.aload_n 0, 1) := by decide +kernel
theorem dX6_state_1 : decode cX6_state 1 = .ok (.iconst 0, 1) := by decide +kernel
theorem dX6_state_2 : decode cX6_state 2 = .ok (.putfield 46, 3) := by decide +kernel
theorem dX6_state_5 : decode cX6_state 5 = .ok (.aload_n 0, 1) := by decide +kernel
theorem dX6_state_6 : decode cX6_state 6 = .ok (.getfield 113, 3) := by decide +kernel
theorem dX6_state_9 : decode cX6_state 9 = .ok (.ireturn, 1) := by decide +kernel
theorem dX6_span_0 : decode cX6_span 0 = .ok (.aload_n 0, 1) := by decide +kernel
theorem dX6_span_1 : decode cX6_span 1 = .ok (.iconst 0, 1) := by decide +kernel
theorem dX6_span_2 : decode cX6_span 2 = .ok (.putfield 46, 3) := by decide +kernel
theorem dX6_span_5 : decode cX6_span 5 = .ok (.iload_n 1, 1) := by decide +kernel
theorem dX6_span_6 : decode cX6_span 6 = .ok (.ifCond .lt 11, 3) := by decide +kernel
theorem dX6_span_9 : decode cX6_span 9 = .ok (.iload_n 1, 1) := by decide +kernel
theorem dX6_span_10 : decode cX6_span 10 = .ok (.aload_n 0, 1) := by decide +kernel
theorem dX6_span_11 : decode cX6_span 11 = .ok (.getfield 110, 3) := by decide +kernel
theorem dX6_span_14 : decode cX6_span 14 = .ok (.if_icmp .lt 7, 3) := by decide +kernel
theorem dX6_span_17 : decode cX6_span 17 = .ok (.iconst (-1), 1) := by decide +kernel
theorem dX6_span_18 : decode cX6_span 18 = .ok (.goto 9, 3) := by decide +kernel
theorem dX6_span_21 : decode cX6_span 21 = .ok (.aload_n 0, 1) := by decide +kernel
theorem dX6_span_22 : decode cX6_span 22 = .ok (.getfield 26, 3) := by decide +kernel
theorem dX6_span_25 : decode cX6_span 25 = .ok (.iload_n 1, 1) := by decide +kernel
theorem dX6_span_26 : decode cX6_span 26 = .ok (.iaload, 1) := by decide +kernel
theorem dX6_span_27 : decode cX6_span 27 = .ok (.ireturn, 1) := by decide +kernel
theorem dX6_valid_0 : decode cX6_valid 0 = .ok (.aload_n 0, 1) := by decide +kernel
theorem dX6_valid_1 : decode cX6_valid 1 = .ok (.iconst 0, 1) := by decide +kernel
theorem dX6_valid_2 : decode cX6_valid 2 = .ok (.putfield 46, 3) := by decide +kernel
theorem dX6_valid_5 : decode cX6_valid 5 = .ok (.aload_n 0, 1) := by decide +kernel
theorem dX6_valid_6 : decode cX6_valid 6 = .ok (.getfield 100, 3) := by decide +kernel
theorem dX6_valid_9 : decode cX6_valid 9 = .ok (.ireturn, 1) := by decide +kernel
theorem dX6_react_0 : decode cX6_react 0 = .ok (.aload_n 0, 1) := by decide +kernel
theorem dX6_react_1 : decode cX6_react 1 = .ok (.iconst 0, 1) := by decide +kernel
theorem dX6_react_2 : decode cX6_react 2 = .ok (.putfield 46, 3) := by decide +kernel
theorem dX6_react_5 : decode cX6_react 5 = .ok (.lload_n 1, 1) := by decide +kernel
theorem dX6_react_6 : decode cX6_react 6 = .ok (.aload_n 0, 1) := by decide +kernel
theorem dX6_react_7 : decode cX6_react 7 = .ok (.getfield 103, 3) := by decide +kernel
theorem dX6_react_10 : decode cX6_react 10 = .ok (.lcmp, 1) := by decide +kernel
theorem dX6_react_11 : decode cX6_react 11 = .ok (.ifCond .ge 6, 3) := by decide +kernel
theorem dX6_react_14 : decode cX6_react 14 = .ok (.bipush (-2), 2) := by decide +kernel
theorem dX6_react_16 : decode cX6_react 16 = .ok (.ireturn, 1) := by decide +kernel
theorem dX6_react_17 : decode cX6_react 17 = .ok (.aload_n 0, 1) := by decide +kernel
theorem dX6_react_18 : decode cX6_react 18 = .ok (.lload_n 1, 1) := by decide +kernel
theorem dX6_react_19 : decode cX6_react 19 = .ok (.putfield 103, 3) := by decide +kernel
theorem dX6_react_22 : decode cX6_react 22 = .ok (.aload_n 0, 1) := by decide +kernel
theorem dX6_react_23 : decode cX6_react 23 = .ok (.getfield 113, 3) := by decide +kernel
theorem dX6_react_26 : decode cX6_react 26 = .ok (.iconst 3, 1) := by decide +kernel
theorem dX6_react_27 : decode cX6_react 27 = .ok (.if_icmp .eq 16, 3) := by decide +kernel
theorem dX6_react_30 : decode cX6_react 30 = .ok (.lload_n 1, 1) := by decide +kernel
theorem dX6_react_31 : decode cX6_react 31 = .ok (.aload_n 0, 1) := by decide +kernel
theorem dX6_react_32 : decode cX6_react 32 = .ok (.getfield 107, 3) := by decide +kernel
theorem dX6_react_35 : decode cX6_react 35 = .ok (.lsub, 1) := by decide +kernel
theorem dX6_react_36 : decode cX6_react 36 = .ok (.ldc2_w 116, 3) := by decide +kernel
theorem dX6_react_39 : decode cX6_react 39 = .ok (.lcmp, 1) := by decide +kernel
theorem dX6_react_40 : decode cX6_react 40 = .ok (.ifCond .lt 7, 3) := by decide +kernel
theorem dX6_react_43 : decode cX6_react 43 = .ok (.iconst 1, 1) := by decide +kernel
theorem dX6_react_44 : decode cX6_react 44 = .ok (.goto 4, 3) := by decide +kernel
theorem dX6_react_47 : decode cX6_react 47 = .ok (.iconst 0, 1) := by decide +kernel
theorem dX6_react_48 : decode cX6_react 48 = .ok (.ireturn, 1) := by decide +kernel
theorem dX6_told_0 : decode cX6_told 0 = .ok (.aload_n 0, 1) := by decide +kernel
theorem dX6_told_1 : decode cX6_told 1 = .ok (.iconst 0, 1) := by decide +kernel
theorem dX6_told_2 : decode cX6_told 2 = .ok (.putfield 46, 3) := by decide +kernel
theorem dX6_told_5 : decode cX6_told 5 = .ok (.iload_n 1, 1) := by decide +kernel
theorem dX6_told_6 : decode cX6_told 6 = .ok (.ifCond .lt 22, 3) := by decide +kernel
theorem dX6_told_9 : decode cX6_told 9 = .ok (.iload_n 1, 1) := by decide +kernel
theorem dX6_told_10 : decode cX6_told 10 = .ok (.bipush 6, 2) := by decide +kernel
theorem dX6_told_12 : decode cX6_told 12 = .ok (.if_icmp .ge 16, 3) := by decide +kernel
theorem dX6_told_15 : decode cX6_told 15 = .ok (.aload_n 0, 1) := by decide +kernel
theorem dX6_told_16 : decode cX6_told 16 = .ok (.getfield 29, 3) := by decide +kernel
theorem dX6_told_19 : decode cX6_told 19 = .ok (.iload_n 1, 1) := by decide +kernel
theorem dX6_told_20 : decode cX6_told 20 = .ok (.baload, 1) := by decide +kernel
theorem dX6_told_21 : decode cX6_told 21 = .ok (.ifCond .eq 7, 3) := by decide +kernel
theorem dX6_told_24 : decode cX6_told 24 = .ok (.iconst 1, 1) := by decide +kernel
theorem dX6_told_25 : decode cX6_told 25 = .ok (.goto 4, 3) := by decide +kernel
theorem dX6_told_28 : decode cX6_told 28 = .ok (.iconst 0, 1) := by decide +kernel
theorem dX6_told_29 : decode cX6_told 29 = .ok (.ireturn, 1) := by decide +kernel
theorem dX6_polynomial_0 : decode cX6_polynomial 0 = .ok (.aload_n 0, 1) := by decide +kernel
theorem dX6_polynomial_1 : decode cX6_polynomial 1 = .ok (.iconst 0, 1) := by decide +kernel
theorem dX6_polynomial_2 : decode cX6_polynomial 2 = .ok (.putfield 46, 3) := by decide +kernel
theorem dX6_polynomial_5 : decode cX6_polynomial 5 = .ok (.iload_n 1, 1) := by decide +kernel
theorem dX6_polynomial_6 : decode cX6_polynomial 6 = .ok (.bipush 8, 2) := by decide +kernel
theorem dX6_polynomial_8 : decode cX6_polynomial 8 = .ok (.if_icmp .ne 8, 3) := by decide +kernel
theorem dX6_polynomial_11 : decode cX6_polynomial 11 = .ok (.bipush 29, 2) := by decide +kernel
theorem dX6_polynomial_13 : decode cX6_polynomial 13 = .ok (.goto 27, 3) := by decide +kernel
theorem dX6_polynomial_16 : decode cX6_polynomial 16 = .ok (.iload_n 1, 1) := by decide +kernel
theorem dX6_polynomial_17 : decode cX6_polynomial 17 = .ok (.bipush 16, 2) := by decide +kernel
theorem dX6_polynomial_19 : decode cX6_polynomial 19 = .ok (.if_icmp .ne 9, 3) := by decide +kernel
theorem dX6_polynomial_22 : decode cX6_polynomial 22 = .ok (.sipush 4129, 3) := by decide +kernel
theorem dX6_polynomial_25 : decode cX6_polynomial 25 = .ok (.goto 15, 3) := by decide +kernel
theorem dX6_polynomial_28 : decode cX6_polynomial 28 = .ok (.iload_n 1, 1) := by decide +kernel
theorem dX6_polynomial_29 : decode cX6_polynomial 29 = .ok (.bipush 32, 2) := by decide +kernel
theorem dX6_polynomial_31 : decode cX6_polynomial 31 = .ok (.if_icmp .ne 8, 3) := by decide +kernel
theorem dX6_polynomial_34 : decode cX6_polynomial 34 = .ok (.ldc 118, 2) := by decide +kernel
theorem dX6_polynomial_36 : decode cX6_polynomial 36 = .ok (.goto 4, 3) := by decide +kernel
theorem dX6_polynomial_39 : decode cX6_polynomial 39 = .ok (.iconst (-1), 1) := by decide +kernel
theorem dX6_polynomial_40 : decode cX6_polynomial 40 = .ok (.ireturn, 1) := by decide +kernel

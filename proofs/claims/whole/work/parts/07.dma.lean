theorem dX4_init_0 : decode cX4_init 0 = .ok (.aload_n 0, 1) := by decide +kernel
theorem dX4_init_1 : decode cX4_init 1 = .ok (.invokespecial 1, 3) := by decide +kernel
theorem dX4_init_4 : decode cX4_init 4 = .ok (.aload_n 0, 1) := by decide +kernel
theorem dX4_init_5 : decode cX4_init 5 = .ok (.bipush 30, 2) := by decide +kernel
theorem dX4_init_7 : decode cX4_init 7 = .ok (.newarray .int, 2) := by decide +kernel
theorem dX4_init_9 : decode cX4_init 9 = .ok (.putfield 7, 3) := by decide +kernel
theorem dX4_init_12 : decode cX4_init 12 = .ok (.aload_n 0, 1) := by decide +kernel
theorem dX4_init_13 : decode cX4_init 13 = .ok (.bipush 30, 2) := by decide +kernel
theorem dX4_init_15 : decode cX4_init 15 = .ok (.newarray .int, 2) := by decide +kernel
theorem dX4_init_17 : decode cX4_init 17 = .ok (.putfield 13, 3) := by decide +kernel
theorem dX4_init_20 : decode cX4_init 20 = .ok (.aload_n 0, 1) := by decide +kernel
theorem dX4_init_21 : decode cX4_init 21 = .ok (.bipush 30, 2) := by decide +kernel
theorem dX4_init_23 : decode cX4_init 23 = .ok (.newarray .boolean, 2) := by decide +kernel
theorem dX4_init_25 : decode cX4_init 25 = .ok (.putfield 16, 3) := by decide +kernel
theorem dX4_init_28 : decode cX4_init 28 = .ok (.aload_n 0, 1) := by decide +kernel
theorem dX4_init_29 : decode cX4_init 29 = .ok (.bipush 30, 2) := by decide +kernel
theorem dX4_init_31 : decode cX4_init 31 = .ok (.newarray .boolean, 2) := by decide +kernel
theorem dX4_init_33 : decode cX4_init 33 = .ok (.putfield 20, 3) := by decide +kernel
theorem dX4_init_36 : decode cX4_init 36 = .ok (.aload_n 0, 1) := by decide +kernel
theorem dX4_init_37 : decode cX4_init 37 = .ok (.sipush 720, 3) := by decide +kernel
theorem dX4_init_40 : decode cX4_init 40 = .ok (.newarray .int, 2) := by decide +kernel
theorem dX4_init_42 : decode cX4_init 42 = .ok (.putfield 23, 3) := by decide +kernel
theorem dX4_init_45 : decode cX4_init 45 = .ok (.aload_n 0, 1) := by decide +kernel
theorem dX4_init_46 : decode cX4_init 46 = .ok (.bipush 6, 2) := by decide +kernel
theorem dX4_init_48 : decode cX4_init 48 = .ok (.newarray .int, 2) := by decide +kernel
theorem dX4_init_50 : decode cX4_init 50 = .ok (.putfield 26, 3) := by decide +kernel
theorem dX4_init_53 : decode cX4_init 53 = .ok (.aload_n 0, 1) := by decide +kernel
theorem dX4_init_54 : decode cX4_init 54 = .ok (.bipush 60, 2) := by decide +kernel
theorem dX4_init_56 : decode cX4_init 56 = .ok (.putfield 29, 3) := by decide +kernel
theorem dX4_init_59 : decode cX4_init 59 = .ok (.aload_n 0, 1) := by decide +kernel
theorem dX4_init_60 : decode cX4_init 60 = .ok (.bipush 20, 2) := by decide +kernel
theorem dX4_init_62 : decode cX4_init 62 = .ok (.newarray .int, 2) := by decide +kernel
theorem dX4_init_64 : decode cX4_init 64 = .ok (.putfield 33, 3) := by decide +kernel
theorem dX4_init_67 : decode cX4_init 67 = .ok (.aload_n 0, 1) := by decide +kernel
theorem dX4_init_68 : decode cX4_init 68 = .ok (.bipush 20, 2) := by decide +kernel
theorem dX4_init_70 : decode cX4_init 70 = .ok (.newarray .int, 2) := by decide +kernel
theorem dX4_init_72 : decode cX4_init 72 = .ok (.putfield 36, 3) := by decide +kernel
theorem dX4_init_75 : decode cX4_init 75 = .ok (.aload_n 0, 1) := by decide +kernel
theorem dX4_init_76 : decode cX4_init 76 = .ok (.sipush 240, 3) := by decide +kernel
theorem dX4_init_79 : decode cX4_init 79 = .ok (.newarray .int, 2) := by decide +kernel
theorem dX4_init_81 : decode cX4_init 81 = .ok (.putfield 39, 3) := by decide +kernel
theorem dX4_init_84 : decode cX4_init 84 = .ok (.aload_n 0, 1) := by decide +kernel
theorem dX4_init_85 : decode cX4_init 85 = .ok (.bipush 20, 2) := by decide +kernel
theorem dX4_init_87 : decode cX4_init 87 = .ok (.newarray .int, 2) := by decide +kernel
theorem dX4_init_89 : decode cX4_init 89 = .ok (.putfield 42, 3) := by decide +kernel
theorem dX4_init_92 : decode cX4_init 92 = .ok (.iconst 0, 1) := by decide +kernel
theorem dX4_init_93 : decode cX4_init 93 = .ok (.istore_n 1, 1) := by decide +kernel
theorem dX4_init_94 : decode cX4_init 94 = .ok (.iload_n 1, 1) := by decide +kernel
theorem dX4_init_95 : decode cX4_init 95 = .ok (.bipush 6, 2) := by decide +kernel
theorem dX4_init_97 : decode cX4_init 97 = .ok (.if_icmp .ge 16, 3) := by decide +kernel
theorem dX4_init_100 : decode cX4_init 100 = .ok (.aload_n 0, 1) := by decide +kernel
theorem dX4_init_101 : decode cX4_init 101 = .ok (.getfield 26, 3) := by decide +kernel
theorem dX4_init_104 : decode cX4_init 104 = .ok (.iload_n 1, 1) := by decide +kernel
theorem dX4_init_105 : decode cX4_init 105 = .ok (.iconst 5, 1) := by decide +kernel
theorem dX4_init_106 : decode cX4_init 106 = .ok (.iastore, 1) := by decide +kernel
theorem dX4_init_107 : decode cX4_init 107 = .ok (.iinc 1 1, 3) := by decide +kernel
theorem dX4_init_110 : decode cX4_init 110 = .ok (.goto (-16), 3) := by decide +kernel
theorem dX4_init_113 : decode cX4_init 113 = .ok (.return_, 1) := by decide +kernel
theorem dX4_thrown_0 : decode cX4_thrown 0 = .ok (.aload_n 0, 1) := by decide +kernel
theorem dX4_thrown_1 : decode cX4_thrown 1 = .ok (.getfield 45, 3) := by decide +kernel
theorem dX4_thrown_4 : decode cX4_thrown 4 = .ok (.ireturn, 1) := by decide +kernel
theorem dX4_fails_0 : decode cX4_fails 0 = .ok (.aload_n 0, 1) := by decide +kernel
theorem dX4_fails_1 : decode cX4_fails 1 = .ok (.iload_n 1, 1) := by decide +kernel
theorem dX4_fails_2 : decode cX4_fails 2 = .ok (.putfield 45, 3) := by decide +kernel
theorem dX4_fails_5 : decode cX4_fails 5 = .ok (.iload_n 1, 1) := by decide +kernel
theorem dX4_fails_6 : decode cX4_fails 6 = .ok (.ifCond .le 7, 3) := by decide +kernel
theorem dX4_fails_9 : decode cX4_fails 9 = .ok (.iconst 1, 1) := by decide +kernel
theorem dX4_fails_10 : decode cX4_fails 10 = .ok (.goto 4, 3) := by decide +kernel
theorem dX4_fails_13 : decode cX4_fails 13 = .ok (.iconst 0, 1) := by decide +kernel
theorem dX4_fails_14 : decode cX4_fails 14 = .ok (.ireturn, 1) := by decide +kernel
theorem dX4_isIn_0 : decode cX4_isIn 0 = .ok (.iload_n 0, 1) := by decide +kernel
theorem dX4_isIn_1 : decode cX4_isIn 1 = .ok (.iload_n 1, 1) := by decide +kernel
theorem dX4_isIn_2 : decode cX4_isIn 2 = .ok (.if_icmp .lt 12, 3) := by decide +kernel
theorem dX4_isIn_5 : decode cX4_isIn 5 = .ok (.iload_n 0, 1) := by decide +kernel
theorem dX4_isIn_6 : decode cX4_isIn 6 = .ok (.iload_n 2, 1) := by decide +kernel
theorem dX4_isIn_7 : decode cX4_isIn 7 = .ok (.if_icmp .gt 7, 3) := by decide +kernel
theorem dX4_isIn_10 : decode cX4_isIn 10 = .ok (.iconst 1, 1) := by decide +kernel
theorem dX4_isIn_11 : decode cX4_isIn 11 = .ok (.goto 4, 3) := by decide +kernel
theorem dX4_isIn_14 : decode cX4_isIn 14 = .ok (.iconst 0, 1) := by decide +kernel
theorem dX4_isIn_15 : decode cX4_isIn 15 = .ok (.ireturn, 1) := by decide +kernel
set_option maxRecDepth 20000 in
theorem ggX4_isVersion_X4_isIn : GoodIn wsX4_isVersion wsX4_isIn := goodIn_r _ [5] (by decide +kernel) (by decide +kernel)
set_option maxRecDepth 20000 in
theorem gX4_isVersion_X4_isIn : GoodIn wsX4_isVersion (va_wsS RX4 51 yX4_isIn wsX4_isIn) := goodIn_app (goodIn_of _ (by decide +kernel)) ggX4_isVersion_X4_isIn
theorem dX4_isVersion_0 : decode cX4_isVersion 0 = .ok (.iload_n 1, 1) := by decide +kernel
theorem dX4_isVersion_1 : decode cX4_isVersion 1 = .ok (.iconst 0, 1) := by decide +kernel
theorem dX4_isVersion_2 : decode cX4_isVersion 2 = .ok (.aload_n 0, 1) := by decide +kernel
theorem dX4_isVersion_3 : decode cX4_isVersion 3 = .ok (.getfield 48, 3) := by decide +kernel
theorem dX4_isVersion_6 : decode cX4_isVersion 6 = .ok (.iconst 1, 1) := by decide +kernel
theorem dX4_isVersion_7 : decode cX4_isVersion 7 = .ok (.isub, 1) := by decide +kernel
theorem dX4_isVersion_8 : decode cX4_isVersion 8 = .ok (.invokestatic 51, 3) := by decide +kernel
theorem dX4_isVersion_11 : decode cX4_isVersion 11 = .ok (.ireturn, 1) := by decide +kernel
set_option maxRecDepth 20000 in
theorem ggX4_isNote_X4_isVersion : GoodIn wsX4_isNote wsX4_isVersion := goodIn_r _ [6, 7, 8, 9, 5, 10, 11, 12, 13, 14, 15, 16, 17, 18, 19, 20, 21, 22, 23, 24] (by decide +kernel) (by decide +kernel)
set_option maxRecDepth 20000 in
theorem gX4_isNote_X4_isVersion : GoodIn wsX4_isNote (wsV RX4 55 RX4 yX4_isVersion wsX4_isVersion) := goodIn_app (goodIn_of _ (by decide +kernel)) ggX4_isNote_X4_isVersion
set_option maxRecDepth 20000 in
theorem ggX4_isNote_X4_isIn : GoodIn wsX4_isNote wsX4_isIn := goodIn_r _ [10] (by decide +kernel) (by decide +kernel)
set_option maxRecDepth 20000 in
theorem gX4_isNote_X4_isIn : GoodIn wsX4_isNote (va_wsS RX4 51 yX4_isIn wsX4_isIn) := goodIn_app (goodIn_of _ (by decide +kernel)) ggX4_isNote_X4_isIn
theorem dX4_isNote_0 : decode cX4_isNote 0 = .ok (.aload_n 0, 1) := by decide +kernel
theorem dX4_isNote_1 : decode cX4_isNote 1 = .ok (.iload_n 1, 1) := by decide +kernel
theorem dX4_isNote_2 : decode cX4_isNote 2 = .ok (.invokevirtual 55, 3) := by decide +kernel
theorem dX4_isNote_5 : decode cX4_isNote 5 = .ok (.ifCond .eq 32, 3) := by decide +kernel
theorem dX4_isNote_8 : decode cX4_isNote 8 = .ok (.iload_n 2, 1) := by decide +kernel
theorem dX4_isNote_9 : decode cX4_isNote 9 = .ok (.iconst 0, 1) := by decide +kernel
theorem dX4_isNote_10 : decode cX4_isNote 10 = .ok (.iconst 1, 1) := by decide +kernel
theorem dX4_isNote_11 : decode cX4_isNote 11 = .ok (.invokestatic 51, 3) := by decide +kernel
theorem dX4_isNote_14 : decode cX4_isNote 14 = .ok (.ifCond .eq 23, 3) := by decide +kernel
theorem dX4_isNote_17 : decode cX4_isNote 17 = .ok (.iload_n 3, 1) := by decide +kernel
theorem dX4_isNote_18 : decode cX4_isNote 18 = .ok (.iconst 0, 1) := by decide +kernel
theorem dX4_isNote_19 : decode cX4_isNote 19 = .ok (.aload_n 0, 1) := by decide +kernel
theorem dX4_isNote_20 : decode cX4_isNote 20 = .ok (.getfield 7, 3) := by decide +kernel
theorem dX4_isNote_23 : decode cX4_isNote 23 = .ok (.iload_n 1, 1) := by decide +kernel
theorem dX4_isNote_24 : decode cX4_isNote 24 = .ok (.iaload, 1) := by decide +kernel
theorem dX4_isNote_25 : decode cX4_isNote 25 = .ok (.iconst 1, 1) := by decide +kernel
theorem dX4_isNote_26 : decode cX4_isNote 26 = .ok (.isub, 1) := by decide +kernel
theorem dX4_isNote_27 : decode cX4_isNote 27 = .ok (.invokestatic 51, 3) := by decide +kernel
theorem dX4_isNote_30 : decode cX4_isNote 30 = .ok (.ifCond .eq 7, 3) := by decide +kernel
theorem dX4_isNote_33 : decode cX4_isNote 33 = .ok (.iconst 1, 1) := by decide +kernel
theorem dX4_isNote_34 : decode cX4_isNote 34 = .ok (.goto 4, 3) := by decide +kernel
theorem dX4_isNote_37 : decode cX4_isNote 37 = .ok (.iconst 0, 1) := by decide +kernel
theorem dX4_isNote_38 : decode cX4_isNote 38 = .ok (.ireturn, 1) := by decide +kernel
theorem dX4_at_0 : decode cX4_at 0 = .ok (.bipush 12, 2) := by decide +kernel
theorem dX4_at_2 : decode cX4_at 2 = .ok (.iconst 2, 1) := by decide +kernel
theorem dX4_at_3 : decode cX4_at 3 = .ok (.iload_n 0, 1) := by decide +kernel
theorem dX4_at_4 : decode cX4_at 4 = .ok (.imul, 1) := by decide +kernel
theorem dX4_at_5 : decode cX4_at 5 = .ok (.iload_n 1, 1) := by decide +kernel
theorem dX4_at_6 : decode cX4_at 6 = .ok (.iadd, 1) := by decide +kernel
theorem dX4_at_7 : decode cX4_at 7 = .ok (.imul, 1) := by decide +kernel
theorem dX4_at_8 : decode cX4_at 8 = .ok (.iload_n 2, 1) := by decide +kernel
theorem dX4_at_9 : decode cX4_at 9 = .ok (.iadd, 1) := by decide +kernel
theorem dX4_at_10 : decode cX4_at 10 = .ok (.ireturn, 1) := by decide +kernel
set_option maxRecDepth 20000 in
theorem ggX4_begin_X4_isIn : GoodIn wsX4_begin wsX4_isIn := goodIn_r _ [8] (by decide +kernel) (by decide +kernel)
set_option maxRecDepth 20000 in
theorem gX4_begin_X4_isIn : GoodIn wsX4_begin (va_wsS RX4 51 yX4_isIn wsX4_isIn) := goodIn_app (goodIn_of _ (by decide +kernel)) ggX4_begin_X4_isIn
set_option maxRecDepth 20000 in
theorem ggX4_begin_X4_fails : GoodIn wsX4_begin wsX4_fails := goodIn_r _ [12, 13, 17, 18, 19, 20, 21, 22, 23, 24, 25, 26, 27, 28, 29, 30] (by decide +kernel) (by decide +kernel)
set_option maxRecDepth 20000 in
theorem gX4_begin_X4_fails : GoodIn wsX4_begin (wsV RX4 59 RX4 yX4_fails wsX4_fails) := goodIn_app (goodIn_of _ (by decide +kernel)) ggX4_begin_X4_fails
set_option maxRecDepth 20000 in
theorem ggX4_begin_X4_at : GoodIn wsX4_begin wsX4_at := goodIn_r _ [16] (by decide +kernel) (by decide +kernel)
set_option maxRecDepth 20000 in
theorem gX4_begin_X4_at : GoodIn wsX4_begin (va_wsS RX4 62 yX4_at wsX4_at) := goodIn_app (goodIn_of _ (by decide +kernel)) ggX4_begin_X4_at
theorem dX4_begin_0 : decode cX4_begin 0 = .ok (.aload_n 0, 1) := by decide +kernel
theorem dX4_begin_1 : decode cX4_begin 1 = .ok (.iload_n 1, 1) := by decide +kernel
theorem dX4_begin_2 : decode cX4_begin 2 = .ok (.iconst 1, 1) := by decide +kernel
theorem dX4_begin_3 : decode cX4_begin 3 = .ok (.bipush 12, 2) := by decide +kernel
theorem dX4_begin_5 : decode cX4_begin 5 = .ok (.invokestatic 51, 3) := by decide +kernel
theorem dX4_begin_8 : decode cX4_begin 8 = .ok (.ifCond .ne 7, 3) := by decide +kernel
theorem dX4_begin_11 : decode cX4_begin 11 = .ok (.iconst 1, 1) := by decide +kernel
theorem dX4_begin_12 : decode cX4_begin 12 = .ok (.goto 17, 3) := by decide +kernel
theorem dX4_begin_15 : decode cX4_begin 15 = .ok (.aload_n 0, 1) := by decide +kernel
theorem dX4_begin_16 : decode cX4_begin 16 = .ok (.getfield 48, 3) := by decide +kernel
theorem dX4_begin_19 : decode cX4_begin 19 = .ok (.bipush 30, 2) := by decide +kernel
theorem dX4_begin_21 : decode cX4_begin 21 = .ok (.if_icmp .ne 7, 3) := by decide +kernel
theorem dX4_begin_24 : decode cX4_begin 24 = .ok (.iconst 2, 1) := by decide +kernel
theorem dX4_begin_25 : decode cX4_begin 25 = .ok (.goto 4, 3) := by decide +kernel
theorem dX4_begin_28 : decode cX4_begin 28 = .ok (.iconst 0, 1) := by decide +kernel
theorem dX4_begin_29 : decode cX4_begin 29 = .ok (.invokevirtual 59, 3) := by decide +kernel
theorem dX4_begin_32 : decode cX4_begin 32 = .ok (.ifCond .eq 5, 3) := by decide +kernel
theorem dX4_begin_35 : decode cX4_begin 35 = .ok (.iconst 0, 1) := by decide +kernel
theorem dX4_begin_36 : decode cX4_begin 36 = .ok (.ireturn, 1) := by decide +kernel
theorem dX4_begin_37 : decode cX4_begin 37 = .ok (.aload_n 0, 1) := by decide +kernel
theorem dX4_begin_38 : decode cX4_begin 38 = .ok (.getfield 7, 3) := by decide +kernel
theorem dX4_begin_41 : decode cX4_begin 41 = .ok (.aload_n 0, 1) := by decide +kernel
theorem dX4_begin_42 : decode cX4_begin 42 = .ok (.getfield 48, 3) := by decide +kernel
theorem dX4_begin_45 : decode cX4_begin 45 = .ok (.iload_n 1, 1) := by decide +kernel
theorem dX4_begin_46 : decode cX4_begin 46 = .ok (.iastore, 1) := by decide +kernel
theorem dX4_begin_47 : decode cX4_begin 47 = .ok (.aload_n 0, 1) := by decide +kernel
theorem dX4_begin_48 : decode cX4_begin 48 = .ok (.getfield 13, 3) := by decide +kernel
theorem dX4_begin_51 : decode cX4_begin 51 = .ok (.aload_n 0, 1) := by decide +kernel
theorem dX4_begin_52 : decode cX4_begin 52 = .ok (.getfield 48, 3) := by decide +kernel
theorem dX4_begin_55 : decode cX4_begin 55 = .ok (.iconst (-1), 1) := by decide +kernel
theorem dX4_begin_56 : decode cX4_begin 56 = .ok (.iastore, 1) := by decide +kernel
theorem dX4_begin_57 : decode cX4_begin 57 = .ok (.iconst 0, 1) := by decide +kernel
theorem dX4_begin_58 : decode cX4_begin 58 = .ok (.istore_n 2, 1) := by decide +kernel
theorem dX4_begin_59 : decode cX4_begin 59 = .ok (.iload_n 2, 1) := by decide +kernel
theorem dX4_begin_60 : decode cX4_begin 60 = .ok (.bipush 24, 2) := by decide +kernel
theorem dX4_begin_62 : decode cX4_begin 62 = .ok (.if_icmp .ge 25, 3) := by decide +kernel
theorem dX4_begin_65 : decode cX4_begin 65 = .ok (.aload_n 0, 1) := by decide +kernel
theorem dX4_begin_66 : decode cX4_begin 66 = .ok (.getfield 23, 3) := by decide +kernel
theorem dX4_begin_69 : decode cX4_begin 69 = .ok (.aload_n 0, 1) := by decide +kernel
theorem dX4_begin_70 : decode cX4_begin 70 = .ok (.getfield 48, 3) := by decide +kernel
theorem dX4_begin_73 : decode cX4_begin 73 = .ok (.iconst 0, 1) := by decide +kernel
theorem dX4_begin_74 : decode cX4_begin 74 = .ok (.iload_n 2, 1) := by decide +kernel
theorem dX4_begin_75 : decode cX4_begin 75 = .ok (.invokestatic 62, 3) := by decide +kernel
theorem dX4_begin_78 : decode cX4_begin 78 = .ok (.bipush 20, 2) := by decide +kernel
theorem dX4_begin_80 : decode cX4_begin 80 = .ok (.iastore, 1) := by decide +kernel
theorem dX4_begin_81 : decode cX4_begin 81 = .ok (.iinc 2 1, 3) := by decide +kernel
theorem dX4_begin_84 : decode cX4_begin 84 = .ok (.goto (-25), 3) := by decide +kernel
theorem dX4_begin_87 : decode cX4_begin 87 = .ok (.aload_n 0, 1) := by decide +kernel
theorem dX4_begin_88 : decode cX4_begin 88 = .ok (.dup, 1) := by decide +kernel
theorem dX4_begin_89 : decode cX4_begin 89 = .ok (.getfield 48, 3) := by decide +kernel
theorem dX4_begin_92 : decode cX4_begin 92 = .ok (.iconst 1, 1) := by decide +kernel
theorem dX4_begin_93 : decode cX4_begin 93 = .ok (.iadd, 1) := by decide +kernel
theorem dX4_begin_94 : decode cX4_begin 94 = .ok (.putfield 48, 3) := by decide +kernel
theorem dX4_begin_97 : decode cX4_begin 97 = .ok (.aload_n 0, 1) := by decide +kernel
theorem dX4_begin_98 : decode cX4_begin 98 = .ok (.getfield 48, 3) := by decide +kernel
theorem dX4_begin_101 : decode cX4_begin 101 = .ok (.iconst 1, 1) := by decide +kernel
theorem dX4_begin_102 : decode cX4_begin 102 = .ok (.isub, 1) := by decide +kernel
theorem dX4_begin_103 : decode cX4_begin 103 = .ok (.ireturn, 1) := by decide +kernel
set_option maxRecDepth 20000 in
theorem ggX4_makes_X4_at : GoodIn wsX4_makes wsX4_at := goodIn_r _ [9] (by decide +kernel) (by decide +kernel)
set_option maxRecDepth 20000 in
theorem gX4_makes_X4_at : GoodIn wsX4_makes (va_wsS RX4 62 yX4_at wsX4_at) := goodIn_app (goodIn_of _ (by decide +kernel)) ggX4_makes_X4_at
theorem dX4_makes_0 : decode cX4_makes 0 = .ok (.aload_n 0, 1) := by decide +kernel
theorem dX4_makes_1 : decode cX4_makes 1 = .ok (.getfield 7, 3) := by decide +kernel
theorem dX4_makes_4 : decode cX4_makes 4 = .ok (.aload_n 0, 1) := by decide +kernel
theorem dX4_makes_5 : decode cX4_makes 5 = .ok (.getfield 48, 3) := by decide +kernel
theorem dX4_makes_8 : decode cX4_makes 8 = .ok (.aload_n 0, 1) := by decide +kernel
theorem dX4_makes_9 : decode cX4_makes 9 = .ok (.getfield 7, 3) := by decide +kernel
theorem dX4_makes_12 : decode cX4_makes 12 = .ok (.iload_n 1, 1) := by decide +kernel
theorem dX4_makes_13 : decode cX4_makes 13 = .ok (.iaload, 1) := by decide +kernel
theorem dX4_makes_14 : decode cX4_makes 14 = .ok (.iastore, 1) := by decide +kernel
theorem dX4_makes_15 : decode cX4_makes 15 = .ok (.aload_n 0, 1) := by decide +kernel
theorem dX4_makes_16 : decode cX4_makes 16 = .ok (.getfield 13, 3) := by decide +kernel
theorem dX4_makes_19 : decode cX4_makes 19 = .ok (.aload_n 0, 1) := by decide +kernel
theorem dX4_makes_20 : decode cX4_makes 20 = .ok (.getfield 48, 3) := by decide +kernel
theorem dX4_makes_23 : decode cX4_makes 23 = .ok (.iload_n 1, 1) := by decide +kernel
theorem dX4_makes_24 : decode cX4_makes 24 = .ok (.iastore, 1) := by decide +kernel
theorem dX4_makes_25 : decode cX4_makes 25 = .ok (.iconst 0, 1) := by decide +kernel
theorem dX4_makes_26 : decode cX4_makes 26 = .ok (.istore_n 2, 1) := by decide +kernel
theorem dX4_makes_27 : decode cX4_makes 27 = .ok (.iload_n 2, 1) := by decide +kernel
theorem dX4_makes_28 : decode cX4_makes 28 = .ok (.bipush 24, 2) := by decide +kernel
theorem dX4_makes_30 : decode cX4_makes 30 = .ok (.if_icmp .ge 34, 3) := by decide +kernel
theorem dX4_makes_33 : decode cX4_makes 33 = .ok (.aload_n 0, 1) := by decide +kernel
theorem dX4_makes_34 : decode cX4_makes 34 = .ok (.getfield 23, 3) := by decide +kernel
theorem dX4_makes_37 : decode cX4_makes 37 = .ok (.aload_n 0, 1) := by decide +kernel
theorem dX4_makes_38 : decode cX4_makes 38 = .ok (.getfield 48, 3) := by decide +kernel
theorem dX4_makes_41 : decode cX4_makes 41 = .ok (.iconst 0, 1) := by decide +kernel
theorem dX4_makes_42 : decode cX4_makes 42 = .ok (.iload_n 2, 1) := by decide +kernel
theorem dX4_makes_43 : decode cX4_makes 43 = .ok (.invokestatic 62, 3) := by decide +kernel
theorem dX4_makes_46 : decode cX4_makes 46 = .ok (.aload_n 0, 1) := by decide +kernel
theorem dX4_makes_47 : decode cX4_makes 47 = .ok (.getfield 23, 3) := by decide +kernel
theorem dX4_makes_50 : decode cX4_makes 50 = .ok (.iload_n 1, 1) := by decide +kernel
theorem dX4_makes_51 : decode cX4_makes 51 = .ok (.iconst 0, 1) := by decide +kernel
theorem dX4_makes_52 : decode cX4_makes 52 = .ok (.iload_n 2, 1) := by decide +kernel
theorem dX4_makes_53 : decode cX4_makes 53 = .ok (.invokestatic 62, 3) := by decide +kernel
theorem dX4_makes_56 : decode cX4_makes 56 = .ok (.iaload, 1) := by decide +kernel
theorem dX4_makes_57 : decode cX4_makes 57 = .ok (.iastore, 1) := by decide +kernel
theorem dX4_makes_58 : decode cX4_makes 58 = .ok (.iinc 2 1, 3) := by decide +kernel
theorem dX4_makes_61 : decode cX4_makes 61 = .ok (.goto (-34), 3) := by decide +kernel
theorem dX4_makes_64 : decode cX4_makes 64 = .ok (.aload_n 0, 1) := by decide +kernel
theorem dX4_makes_65 : decode cX4_makes 65 = .ok (.getfield 16, 3) := by decide +kernel
theorem dX4_makes_68 : decode cX4_makes 68 = .ok (.iload_n 1, 1) := by decide +kernel
theorem dX4_makes_69 : decode cX4_makes 69 = .ok (.iconst 1, 1) := by decide +kernel
theorem dX4_makes_70 : decode cX4_makes 70 = .ok (.bastore, 1) := by decide +kernel
theorem dX4_makes_71 : decode cX4_makes 71 = .ok (.aload_n 0, 1) := by decide +kernel
theorem dX4_makes_72 : decode cX4_makes 72 = .ok (.dup, 1) := by decide +kernel
theorem dX4_makes_73 : decode cX4_makes 73 = .ok (.getfield 48, 3) := by decide +kernel
theorem dX4_makes_76 : decode cX4_makes 76 = .ok (.iconst 1, 1) := by decide +kernel
theorem dX4_makes_77 : decode cX4_makes 77 = .ok (.iadd, 1) := by decide +kernel
theorem dX4_makes_78 : decode cX4_makes 78 = .ok (.putfield 48, 3) := by decide +kernel
theorem dX4_makes_81 : decode cX4_makes 81 = .ok (.aload_n 0, 1) := by decide +kernel
theorem dX4_makes_82 : decode cX4_makes 82 = .ok (.getfield 48, 3) := by decide +kernel
theorem dX4_makes_85 : decode cX4_makes 85 = .ok (.iconst 1, 1) := by decide +kernel
theorem dX4_makes_86 : decode cX4_makes 86 = .ok (.isub, 1) := by decide +kernel
theorem dX4_makes_87 : decode cX4_makes 87 = .ok (.ireturn, 1) := by decide +kernel
set_option maxRecDepth 20000 in
theorem ggX4_branch_X4_isVersion : GoodIn wsX4_branch wsX4_isVersion := goodIn_r _ [6, 1, 7, 8, 5, 9, 26, 27, 28, 29, 30, 31, 32, 33, 34, 35, 36, 37, 38, 39] (by decide +kernel) (by decide +kernel)
set_option maxRecDepth 20000 in
theorem gX4_branch_X4_isVersion : GoodIn wsX4_branch (wsV RX4 55 RX4 yX4_isVersion wsX4_isVersion) := goodIn_app (goodIn_of _ (by decide +kernel)) ggX4_branch_X4_isVersion
set_option maxRecDepth 20000 in
theorem ggX4_branch_X4_fails : GoodIn wsX4_branch wsX4_fails := goodIn_r _ [13, 14, 26, 27, 28, 29, 30, 31, 32, 33, 34, 35, 36, 37, 38, 39] (by decide +kernel) (by decide +kernel)
set_option maxRecDepth 20000 in
theorem gX4_branch_X4_fails : GoodIn wsX4_branch (wsV RX4 59 RX4 yX4_fails wsX4_fails) := goodIn_app (goodIn_of _ (by decide +kernel)) ggX4_branch_X4_fails
set_option maxRecDepth 20000 in
theorem ggX4_branch_X4_makes : GoodIn wsX4_branch wsX4_makes := goodIn_r _ [18, 19, 1, 20, 21, 22, 23, 24, 5, 25, 26, 27, 28, 29, 30, 31, 32, 33, 34, 35, 36, 37, 38, 39] (by decide +kernel) (by decide +kernel)
set_option maxRecDepth 20000 in
theorem gX4_branch_X4_makes : GoodIn wsX4_branch (wsV RX4 66 RX4 yX4_makes wsX4_makes) := goodIn_app (goodIn_of _ (by decide +kernel)) ggX4_branch_X4_makes
theorem dX4_branch_0 : decode cX4_branch 0 = .ok (.aload_n 0, 1) := by decide +kernel
theorem dX4_branch_1 : decode cX4_branch 1 = .ok (.aload_n 0, 1) := by decide +kernel
theorem dX4_branch_2 : decode cX4_branch 2 = .ok (.iload_n 1, 1) := by decide +kernel
theorem dX4_branch_3 : decode cX4_branch 3 = .ok (.invokevirtual 55, 3) := by decide +kernel
theorem dX4_branch_6 : decode cX4_branch 6 = .ok (.ifCond .ne 7, 3) := by decide +kernel
theorem dX4_branch_9 : decode cX4_branch 9 = .ok (.iconst 1, 1) := by decide +kernel
theorem dX4_branch_10 : decode cX4_branch 10 = .ok (.goto 17, 3) := by decide +kernel
theorem dX4_branch_13 : decode cX4_branch 13 = .ok (.aload_n 0, 1) := by decide +kernel
theorem dX4_branch_14 : decode cX4_branch 14 = .ok (.getfield 48, 3) := by decide +kernel
theorem dX4_branch_17 : decode cX4_branch 17 = .ok (.bipush 30, 2) := by decide +kernel
theorem dX4_branch_19 : decode cX4_branch 19 = .ok (.if_icmp .ne 7, 3) := by decide +kernel
theorem dX4_branch_22 : decode cX4_branch 22 = .ok (.iconst 2, 1) := by decide +kernel
theorem dX4_branch_23 : decode cX4_branch 23 = .ok (.goto 4, 3) := by decide +kernel
theorem dX4_branch_26 : decode cX4_branch 26 = .ok (.iconst 0, 1) := by decide +kernel
theorem dX4_branch_27 : decode cX4_branch 27 = .ok (.invokevirtual 59, 3) := by decide +kernel
theorem dX4_branch_30 : decode cX4_branch 30 = .ok (.ifCond .eq 5, 3) := by decide +kernel
theorem dX4_branch_33 : decode cX4_branch 33 = .ok (.iconst 0, 1) := by decide +kernel
theorem dX4_branch_34 : decode cX4_branch 34 = .ok (.ireturn, 1) := by decide +kernel
theorem dX4_branch_35 : decode cX4_branch 35 = .ok (.aload_n 0, 1) := by decide +kernel
theorem dX4_branch_36 : decode cX4_branch 36 = .ok (.iload_n 1, 1) := by decide +kernel
theorem dX4_branch_37 : decode cX4_branch 37 = .ok (.invokevirtual 66, 3) := by decide +kernel
theorem dX4_branch_40 : decode cX4_branch 40 = .ok (.ireturn, 1) := by decide +kernel
set_option maxRecDepth 20000 in
theorem ggX4_setNote_X4_isNote : GoodIn wsX4_setNote wsX4_isNote := goodIn_r _ [7, 8, 9, 10, 11, 6, 12, 13, 14, 15, 16, 25, 26, 27, 28, 29, 30, 31, 32, 33, 34, 35, 36, 37, 38] (by decide +kernel) (by decide +kernel)
set_option maxRecDepth 20000 in
theorem gX4_setNote_X4_isNote : GoodIn wsX4_setNote (wsV RX4 70 RX4 yX4_isNote wsX4_isNote) := goodIn_app (goodIn_of _ (by decide +kernel)) ggX4_setNote_X4_isNote
set_option maxRecDepth 20000 in
theorem ggX4_setNote_X4_isIn : GoodIn wsX4_setNote wsX4_isIn := goodIn_r _ [16] (by decide +kernel) (by decide +kernel)
set_option maxRecDepth 20000 in
theorem gX4_setNote_X4_isIn : GoodIn wsX4_setNote (va_wsS RX4 51 yX4_isIn wsX4_isIn) := goodIn_app (goodIn_of _ (by decide +kernel)) ggX4_setNote_X4_isIn
set_option maxRecDepth 20000 in
theorem ggX4_setNote_X4_fails : GoodIn wsX4_setNote wsX4_fails := goodIn_r _ [20, 21, 25, 26, 27, 28, 29, 30, 31, 32, 33, 34, 35, 36, 37, 38] (by decide +kernel) (by decide +kernel)
set_option maxRecDepth 20000 in
theorem gX4_setNote_X4_fails : GoodIn wsX4_setNote (wsV RX4 59 RX4 yX4_fails wsX4_fails) := goodIn_app (goodIn_of _ (by decide +kernel)) ggX4_setNote_X4_fails
set_option maxRecDepth 20000 in
theorem ggX4_setNote_X4_at : GoodIn wsX4_setNote wsX4_at := goodIn_r _ [24] (by decide +kernel) (by decide +kernel)
set_option maxRecDepth 20000 in
theorem gX4_setNote_X4_at : GoodIn wsX4_setNote (va_wsS RX4 62 yX4_at wsX4_at) := goodIn_app (goodIn_of _ (by decide +kernel)) ggX4_setNote_X4_at
theorem dX4_setNote_0 : decode cX4_setNote 0 = .ok (.aload_n 0, 1) := by decide +kernel
theorem dX4_setNote_1 : decode cX4_setNote 1 = .ok (.iload_n 1, 1) := by decide +kernel
theorem dX4_setNote_2 : decode cX4_setNote 2 = .ok (.iload_n 2, 1) := by decide +kernel
theorem dX4_setNote_3 : decode cX4_setNote 3 = .ok (.iload_n 3, 1) := by decide +kernel
theorem dX4_setNote_4 : decode cX4_setNote 4 = .ok (.invokevirtual 70, 3) := by decide +kernel
theorem dX4_setNote_7 : decode cX4_setNote 7 = .ok (.istore 5, 2) := by decide +kernel
theorem dX4_setNote_9 : decode cX4_setNote 9 = .ok (.aload_n 0, 1) := by decide +kernel
theorem dX4_setNote_10 : decode cX4_setNote 10 = .ok (.iload 5, 2) := by decide +kernel
theorem dX4_setNote_12 : decode cX4_setNote 12 = .ok (.ifCond .ne 7, 3) := by decide +kernel
theorem dX4_setNote_15 : decode cX4_setNote 15 = .ok (.iconst 1, 1) := by decide +kernel
theorem dX4_setNote_16 : decode cX4_setNote 16 = .ok (.goto 32, 3) := by decide +kernel
theorem dX4_setNote_19 : decode cX4_setNote 19 = .ok (.iload 4, 2) := by decide +kernel
theorem dX4_setNote_21 : decode cX4_setNote 21 = .ok (.iconst 0, 1) := by decide +kernel
theorem dX4_setNote_22 : decode cX4_setNote 22 = .ok (.bipush 40, 2) := by decide +kernel
theorem dX4_setNote_24 : decode cX4_setNote 24 = .ok (.invokestatic 51, 3) := by decide +kernel
theorem dX4_setNote_27 : decode cX4_setNote 27 = .ok (.ifCond .ne 7, 3) := by decide +kernel
theorem dX4_setNote_30 : decode cX4_setNote 30 = .ok (.iconst 2, 1) := by decide +kernel
theorem dX4_setNote_31 : decode cX4_setNote 31 = .ok (.goto 17, 3) := by decide +kernel
theorem dX4_setNote_34 : decode cX4_setNote 34 = .ok (.aload_n 0, 1) := by decide +kernel
theorem dX4_setNote_35 : decode cX4_setNote 35 = .ok (.getfield 16, 3) := by decide +kernel
theorem dX4_setNote_38 : decode cX4_setNote 38 = .ok (.iload_n 1, 1) := by decide +kernel
theorem dX4_setNote_39 : decode cX4_setNote 39 = .ok (.baload, 1) := by decide +kernel
theorem dX4_setNote_40 : decode cX4_setNote 40 = .ok (.ifCond .eq 7, 3) := by decide +kernel
theorem dX4_setNote_43 : decode cX4_setNote 43 = .ok (.iconst 3, 1) := by decide +kernel
theorem dX4_setNote_44 : decode cX4_setNote 44 = .ok (.goto 4, 3) := by decide +kernel
theorem dX4_setNote_47 : decode cX4_setNote 47 = .ok (.iconst 0, 1) := by decide +kernel
theorem dX4_setNote_48 : decode cX4_setNote 48 = .ok (.invokevirtual 59, 3) := by decide +kernel
theorem dX4_setNote_51 : decode cX4_setNote 51 = .ok (.ifCond .eq 5, 3) := by decide +kernel
theorem dX4_setNote_54 : decode cX4_setNote 54 = .ok (.iconst 0, 1) := by decide +kernel
theorem dX4_setNote_55 : decode cX4_setNote 55 = .ok (.ireturn, 1) := by decide +kernel
theorem dX4_setNote_56 : decode cX4_setNote 56 = .ok (.aload_n 0, 1) := by decide +kernel
theorem dX4_setNote_57 : decode cX4_setNote 57 = .ok (.getfield 23, 3) := by decide +kernel
theorem dX4_setNote_60 : decode cX4_setNote 60 = .ok (.iload_n 1, 1) := by decide +kernel
theorem dX4_setNote_61 : decode cX4_setNote 61 = .ok (.iload_n 2, 1) := by decide +kernel
theorem dX4_setNote_62 : decode cX4_setNote 62 = .ok (.iload_n 3, 1) := by decide +kernel
theorem dX4_setNote_63 : decode cX4_setNote 63 = .ok (.invokestatic 62, 3) := by decide +kernel
theorem dX4_setNote_66 : decode cX4_setNote 66 = .ok (.iaload, 1) := by decide +kernel
theorem dX4_setNote_67 : decode cX4_setNote 67 = .ok (.istore 6, 2) := by decide +kernel
theorem dX4_setNote_69 : decode cX4_setNote 69 = .ok (.aload_n 0, 1) := by decide +kernel
theorem dX4_setNote_70 : decode cX4_setNote 70 = .ok (.getfield 23, 3) := by decide +kernel
theorem dX4_setNote_73 : decode cX4_setNote 73 = .ok (.iload_n 1, 1) := by decide +kernel
theorem dX4_setNote_74 : decode cX4_setNote 74 = .ok (.iload_n 2, 1) := by decide +kernel
theorem dX4_setNote_75 : decode cX4_setNote 75 = .ok (.iload_n 3, 1) := by decide +kernel
theorem dX4_setNote_76 : decode cX4_setNote 76 = .ok (.invokestatic 62, 3) := by decide +kernel
theorem dX4_setNote_79 : decode cX4_setNote 79 = .ok (.iload 4, 2) := by decide +kernel
theorem dX4_setNote_81 : decode cX4_setNote 81 = .ok (.iastore, 1) := by decide +kernel
theorem dX4_setNote_82 : decode cX4_setNote 82 = .ok (.iload 6, 2) := by decide +kernel
theorem dX4_setNote_84 : decode cX4_setNote 84 = .ok (.ireturn, 1) := by decide +kernel
set_option maxRecDepth 20000 in
theorem ggX4_note_X4_isNote : GoodIn wsX4_note wsX4_isNote := goodIn_r _ [6, 7, 8, 9, 10, 5, 11, 12, 13, 14, 15, 24, 25, 26, 27, 28, 29, 30, 31, 32, 33, 34, 35, 36, 37] (by decide +kernel) (by decide +kernel)
set_option maxRecDepth 20000 in
theorem gX4_note_X4_isNote : GoodIn wsX4_note (wsV RX4 70 RX4 yX4_isNote wsX4_isNote) := goodIn_app (goodIn_of _ (by decide +kernel)) ggX4_note_X4_isNote
set_option maxRecDepth 20000 in
theorem ggX4_note_X4_fails : GoodIn wsX4_note wsX4_fails := goodIn_r _ [19, 20, 24, 25, 26, 27, 28, 29, 30, 31, 32, 33, 34, 35, 36, 37] (by decide +kernel) (by decide +kernel)
set_option maxRecDepth 20000 in
theorem gX4_note_X4_fails : GoodIn wsX4_note (wsV RX4 59 RX4 yX4_fails wsX4_fails) := goodIn_app (goodIn_of _ (by decide +kernel)) ggX4_note_X4_fails
set_option maxRecDepth 20000 in
theorem ggX4_note_X4_at : GoodIn wsX4_note wsX4_at := goodIn_r _ [23] (by decide +kernel) (by decide +kernel)
set_option maxRecDepth 20000 in
theorem gX4_note_X4_at : GoodIn wsX4_note (va_wsS RX4 62 yX4_at wsX4_at) := goodIn_app (goodIn_of _ (by decide +kernel)) ggX4_note_X4_at
theorem dX4_note_0 : decode cX4_note 0 = .ok (.aload_n 0, 1) := by decide +kernel
theorem dX4_note_1 : decode cX4_note 1 = .ok (.aload_n 0, 1) := by decide +kernel
theorem dX4_note_2 : decode cX4_note 2 = .ok (.iload_n 1, 1) := by decide +kernel
theorem dX4_note_3 : decode cX4_note 3 = .ok (.iload_n 2, 1) := by decide +kernel
theorem dX4_note_4 : decode cX4_note 4 = .ok (.iload_n 3, 1) := by decide +kernel
theorem dX4_note_5 : decode cX4_note 5 = .ok (.invokevirtual 70, 3) := by decide +kernel
theorem dX4_note_8 : decode cX4_note 8 = .ok (.ifCond .eq 7, 3) := by decide +kernel
theorem dX4_note_11 : decode cX4_note 11 = .ok (.iconst 0, 1) := by decide +kernel
theorem dX4_note_12 : decode cX4_note 12 = .ok (.goto 4, 3) := by decide +kernel
theorem dX4_note_15 : decode cX4_note 15 = .ok (.iconst 1, 1) := by decide +kernel
theorem dX4_note_16 : decode cX4_note 16 = .ok (.invokevirtual 59, 3) := by decide +kernel
theorem dX4_note_19 : decode cX4_note 19 = .ok (.ifCond .eq 7, 3) := by decide +kernel
theorem dX4_note_22 : decode cX4_note 22 = .ok (.iconst 0, 1) := by decide +kernel
theorem dX4_note_23 : decode cX4_note 23 = .ok (.goto 14, 3) := by decide +kernel
theorem dX4_note_26 : decode cX4_note 26 = .ok (.aload_n 0, 1) := by decide +kernel
theorem dX4_note_27 : decode cX4_note 27 = .ok (.getfield 23, 3) := by decide +kernel
theorem dX4_note_30 : decode cX4_note 30 = .ok (.iload_n 1, 1) := by decide +kernel
theorem dX4_note_31 : decode cX4_note 31 = .ok (.iload_n 2, 1) := by decide +kernel
theorem dX4_note_32 : decode cX4_note 32 = .ok (.iload_n 3, 1) := by decide +kernel
theorem dX4_note_33 : decode cX4_note 33 = .ok (.invokestatic 62, 3) := by decide +kernel
theorem dX4_note_36 : decode cX4_note 36 = .ok (.iaload, 1) := by decide +kernel
theorem dX4_note_37 : decode cX4_note 37 = .ok (.ireturn, 1) := by decide +kernel
theorem dX4_isAncestor_0 : decode cX4_isAncestor 0 = .ok (.iconst 0, 1) := by decide +kernel
theorem dX4_isAncestor_1 : decode cX4_isAncestor 1 = .ok (.istore_n 3, 1) := by decide +kernel
theorem dX4_isAncestor_2 : decode cX4_isAncestor 2 = .ok (.iload_n 2, 1) := by decide +kernel
theorem dX4_isAncestor_3 : decode cX4_isAncestor 3 = .ok (.istore 4, 2) := by decide +kernel
theorem dX4_isAncestor_5 : decode cX4_isAncestor 5 = .ok (.iload 4, 2) := by decide +kernel
theorem dX4_isAncestor_7 : decode cX4_isAncestor 7 = .ok (.iconst (-1), 1) := by decide +kernel
theorem dX4_isAncestor_8 : decode cX4_isAncestor 8 = .ok (.if_icmp .eq 31, 3) := by decide +kernel
theorem dX4_isAncestor_11 : decode cX4_isAncestor 11 = .ok (.iload_n 3, 1) := by decide +kernel
theorem dX4_isAncestor_12 : decode cX4_isAncestor 12 = .ok (.ifCond .ne 9, 3) := by decide +kernel
theorem dX4_isAncestor_15 : decode cX4_isAncestor 15 = .ok (.iload 4, 2) := by decide +kernel
theorem dX4_isAncestor_17 : decode cX4_isAncestor 17 = .ok (.iload_n 1, 1) := by decide +kernel
theorem dX4_isAncestor_18 : decode cX4_isAncestor 18 = .ok (.if_icmp .ne 7, 3) := by decide +kernel
theorem dX4_isAncestor_21 : decode cX4_isAncestor 21 = .ok (.iconst 1, 1) := by decide +kernel
theorem dX4_isAncestor_22 : decode cX4_isAncestor 22 = .ok (.goto 4, 3) := by decide +kernel
theorem dX4_isAncestor_25 : decode cX4_isAncestor 25 = .ok (.iconst 0, 1) := by decide +kernel
theorem dX4_isAncestor_26 : decode cX4_isAncestor 26 = .ok (.istore_n 3, 1) := by decide +kernel
theorem dX4_isAncestor_27 : decode cX4_isAncestor 27 = .ok (.aload_n 0, 1) := by decide +kernel
theorem dX4_isAncestor_28 : decode cX4_isAncestor 28 = .ok (.getfield 13, 3) := by decide +kernel
theorem dX4_isAncestor_31 : decode cX4_isAncestor 31 = .ok (.iload 4, 2) := by decide +kernel
theorem dX4_isAncestor_33 : decode cX4_isAncestor 33 = .ok (.iaload, 1) := by decide +kernel
theorem dX4_isAncestor_34 : decode cX4_isAncestor 34 = .ok (.istore 4, 2) := by decide +kernel
theorem dX4_isAncestor_36 : decode cX4_isAncestor 36 = .ok (.goto (-31), 3) := by decide +kernel
theorem dX4_isAncestor_39 : decode cX4_isAncestor 39 = .ok (.iload_n 3, 1) := by decide +kernel
theorem dX4_isAncestor_40 : decode cX4_isAncestor 40 = .ok (.ireturn, 1) := by decide +kernel
set_option maxRecDepth 20000 in
theorem ggX4_baseOf_X4_isAncestor : GoodIn wsX4_baseOf wsX4_isAncestor := goodIn_r _ [6, 7, 8, 9, 10, 11, 12, 13, 14, 15, 16, 17, 18, 19, 20, 21] (by decide +kernel) (by decide +kernel)
set_option maxRecDepth 20000 in
theorem gX4_baseOf_X4_isAncestor : GoodIn wsX4_baseOf (wsV RX4 73 RX4 yX4_isAncestor wsX4_isAncestor) := goodIn_app (goodIn_of _ (by decide +kernel)) ggX4_baseOf_X4_isAncestor
theorem dX4_baseOf_0 : decode cX4_baseOf 0 = .ok (.iconst (-1), 1) := by decide +kernel
theorem dX4_baseOf_1 : decode cX4_baseOf 1 = .ok (.istore_n 3, 1) := by decide +kernel
theorem dX4_baseOf_2 : decode cX4_baseOf 2 = .ok (.iconst 0, 1) := by decide +kernel
theorem dX4_baseOf_3 : decode cX4_baseOf 3 = .ok (.istore 4, 2) := by decide +kernel
theorem dX4_baseOf_5 : decode cX4_baseOf 5 = .ok (.iload 4, 2) := by decide +kernel
theorem dX4_baseOf_7 : decode cX4_baseOf 7 = .ok (.aload_n 0, 1) := by decide +kernel
theorem dX4_baseOf_8 : decode cX4_baseOf 8 = .ok (.getfield 48, 3) := by decide +kernel
theorem dX4_baseOf_11 : decode cX4_baseOf 11 = .ok (.if_icmp .ge 36, 3) := by decide +kernel
theorem dX4_baseOf_14 : decode cX4_baseOf 14 = .ok (.aload_n 0, 1) := by decide +kernel
theorem dX4_baseOf_15 : decode cX4_baseOf 15 = .ok (.iload 4, 2) := by decide +kernel
theorem dX4_baseOf_17 : decode cX4_baseOf 17 = .ok (.iload_n 1, 1) := by decide +kernel
theorem dX4_baseOf_18 : decode cX4_baseOf 18 = .ok (.invokevirtual 73, 3) := by decide +kernel
theorem dX4_baseOf_21 : decode cX4_baseOf 21 = .ok (.ifCond .eq 18, 3) := by decide +kernel
theorem dX4_baseOf_24 : decode cX4_baseOf 24 = .ok (.aload_n 0, 1) := by decide +kernel
theorem dX4_baseOf_25 : decode cX4_baseOf 25 = .ok (.iload 4, 2) := by decide +kernel
theorem dX4_baseOf_27 : decode cX4_baseOf 27 = .ok (.iload_n 2, 1) := by decide +kernel
theorem dX4_baseOf_28 : decode cX4_baseOf 28 = .ok (.invokevirtual 73, 3) := by decide +kernel
theorem dX4_baseOf_31 : decode cX4_baseOf 31 = .ok (.ifCond .eq 8, 3) := by decide +kernel
theorem dX4_baseOf_34 : decode cX4_baseOf 34 = .ok (.iload 4, 2) := by decide +kernel
theorem dX4_baseOf_36 : decode cX4_baseOf 36 = .ok (.goto 4, 3) := by decide +kernel
theorem dX4_baseOf_39 : decode cX4_baseOf 39 = .ok (.iload_n 3, 1) := by decide +kernel
theorem dX4_baseOf_40 : decode cX4_baseOf 40 = .ok (.istore_n 3, 1) := by decide +kernel
theorem dX4_baseOf_41 : decode cX4_baseOf 41 = .ok (.iinc 4 1, 3) := by decide +kernel
theorem dX4_baseOf_44 : decode cX4_baseOf 44 = .ok (.goto (-39), 3) := by decide +kernel
theorem dX4_baseOf_47 : decode cX4_baseOf 47 = .ok (.iload_n 3, 1) := by decide +kernel
theorem dX4_baseOf_48 : decode cX4_baseOf 48 = .ok (.ireturn, 1) := by decide +kernel
set_option maxRecDepth 20000 in
theorem ggX4_base_X4_isVersion : GoodIn wsX4_base wsX4_isVersion := goodIn_r _ [5, 6, 7, 8, 4, 9, 24, 25, 26, 27, 28, 29, 30, 31, 32, 33, 34, 35, 36, 37] (by decide +kernel) (by decide +kernel)
set_option maxRecDepth 20000 in
theorem gX4_base_X4_isVersion : GoodIn wsX4_base (wsV RX4 55 RX4 yX4_isVersion wsX4_isVersion) := goodIn_app (goodIn_of _ (by decide +kernel)) ggX4_base_X4_isVersion
set_option maxRecDepth 20000 in
theorem ggX4_base_X4_fails : GoodIn wsX4_base wsX4_fails := goodIn_r _ [13, 14, 24, 25, 26, 27, 28, 29, 30, 31, 32, 33, 34, 35, 36, 37] (by decide +kernel) (by decide +kernel)
set_option maxRecDepth 20000 in
theorem gX4_base_X4_fails : GoodIn wsX4_base (wsV RX4 59 RX4 yX4_fails wsX4_fails) := goodIn_app (goodIn_of _ (by decide +kernel)) ggX4_base_X4_fails
set_option maxRecDepth 20000 in
theorem ggX4_base_X4_baseOf : GoodIn wsX4_base wsX4_baseOf := goodIn_r _ [18, 6, 19, 20, 21, 4, 22, 23, 24, 25, 26, 27, 28, 29, 30, 31, 32, 33, 34, 35, 36, 37] (by decide +kernel) (by decide +kernel)
set_option maxRecDepth 20000 in
theorem gX4_base_X4_baseOf : GoodIn wsX4_base (wsV RX4 77 RX4 yX4_baseOf wsX4_baseOf) := goodIn_app (goodIn_of _ (by decide +kernel)) ggX4_base_X4_baseOf
theorem dX4_base_0 : decode cX4_base 0 = .ok (.aload_n 0, 1) := by decide +kernel
theorem dX4_base_1 : decode cX4_base 1 = .ok (.aload_n 0, 1) := by decide +kernel
theorem dX4_base_2 : decode cX4_base 2 = .ok (.iload_n 1, 1) := by decide +kernel
theorem dX4_base_3 : decode cX4_base 3 = .ok (.invokevirtual 55, 3) := by decide +kernel
theorem dX4_base_6 : decode cX4_base 6 = .ok (.ifCond .eq 15, 3) := by decide +kernel
theorem dX4_base_9 : decode cX4_base 9 = .ok (.aload_n 0, 1) := by decide +kernel
theorem dX4_base_10 : decode cX4_base 10 = .ok (.iload_n 2, 1) := by decide +kernel
theorem dX4_base_11 : decode cX4_base 11 = .ok (.invokevirtual 55, 3) := by decide +kernel
theorem dX4_base_14 : decode cX4_base 14 = .ok (.ifCond .eq 7, 3) := by decide +kernel
theorem dX4_base_17 : decode cX4_base 17 = .ok (.iconst 0, 1) := by decide +kernel
theorem dX4_base_18 : decode cX4_base 18 = .ok (.goto 4, 3) := by decide +kernel
theorem dX4_base_21 : decode cX4_base 21 = .ok (.iconst 1, 1) := by decide +kernel
theorem dX4_base_22 : decode cX4_base 22 = .ok (.invokevirtual 59, 3) := by decide +kernel
theorem dX4_base_25 : decode cX4_base 25 = .ok (.ifCond .eq 7, 3) := by decide +kernel
theorem dX4_base_28 : decode cX4_base 28 = .ok (.iconst 0, 1) := by decide +kernel
theorem dX4_base_29 : decode cX4_base 29 = .ok (.goto 9, 3) := by decide +kernel
theorem dX4_base_32 : decode cX4_base 32 = .ok (.aload_n 0, 1) := by decide +kernel
theorem dX4_base_33 : decode cX4_base 33 = .ok (.iload_n 1, 1) := by decide +kernel
theorem dX4_base_34 : decode cX4_base 34 = .ok (.iload_n 2, 1) := by decide +kernel
theorem dX4_base_35 : decode cX4_base 35 = .ok (.invokevirtual 77, 3) := by decide +kernel
theorem dX4_base_38 : decode cX4_base 38 = .ok (.ireturn, 1) := by decide +kernel
set_option maxRecDepth 20000 in
theorem ggX4_areAlike_X4_at : GoodIn wsX4_areAlike wsX4_at := goodIn_r _ [5] (by decide +kernel) (by decide +kernel)
set_option maxRecDepth 20000 in
theorem gX4_areAlike_X4_at : GoodIn wsX4_areAlike (va_wsS RX4 62 yX4_at wsX4_at) := goodIn_app (goodIn_of _ (by decide +kernel)) ggX4_areAlike_X4_at
theorem dX4_areAlike_0 : decode cX4_areAlike 0 = .ok (.aload_n 0, 1) := by decide +kernel
theorem dX4_areAlike_1 : decode cX4_areAlike 1 = .ok (.getfield 23, 3) := by decide +kernel
theorem dX4_areAlike_4 : decode cX4_areAlike 4 = .ok (.iload_n 1, 1) := by decide +kernel
theorem dX4_areAlike_5 : decode cX4_areAlike 5 = .ok (.iconst 0, 1) := by decide +kernel
theorem dX4_areAlike_6 : decode cX4_areAlike 6 = .ok (.iload_n 3, 1) := by decide +kernel
theorem dX4_areAlike_7 : decode cX4_areAlike 7 = .ok (.invokestatic 62, 3) := by decide +kernel
theorem dX4_areAlike_10 : decode cX4_areAlike 10 = .ok (.iaload, 1) := by decide +kernel
theorem dX4_areAlike_11 : decode cX4_areAlike 11 = .ok (.aload_n 0, 1) := by decide +kernel
theorem dX4_areAlike_12 : decode cX4_areAlike 12 = .ok (.getfield 23, 3) := by decide +kernel
theorem dX4_areAlike_15 : decode cX4_areAlike 15 = .ok (.iload_n 2, 1) := by decide +kernel
theorem dX4_areAlike_16 : decode cX4_areAlike 16 = .ok (.iconst 0, 1) := by decide +kernel
theorem dX4_areAlike_17 : decode cX4_areAlike 17 = .ok (.iload_n 3, 1) := by decide +kernel
theorem dX4_areAlike_18 : decode cX4_areAlike 18 = .ok (.invokestatic 62, 3) := by decide +kernel
theorem dX4_areAlike_21 : decode cX4_areAlike 21 = .ok (.iaload, 1) := by decide +kernel
theorem dX4_areAlike_22 : decode cX4_areAlike 22 = .ok (.if_icmp .ne 32, 3) := by decide +kernel
theorem dX4_areAlike_25 : decode cX4_areAlike 25 = .ok (.aload_n 0, 1) := by decide +kernel
theorem dX4_areAlike_26 : decode cX4_areAlike 26 = .ok (.getfield 23, 3) := by decide +kernel
theorem dX4_areAlike_29 : decode cX4_areAlike 29 = .ok (.iload_n 1, 1) := by decide +kernel
theorem dX4_areAlike_30 : decode cX4_areAlike 30 = .ok (.iconst 1, 1) := by decide +kernel
theorem dX4_areAlike_31 : decode cX4_areAlike 31 = .ok (.iload_n 3, 1) := by decide +kernel
theorem dX4_areAlike_32 : decode cX4_areAlike 32 = .ok (.invokestatic 62, 3) := by decide +kernel
theorem dX4_areAlike_35 : decode cX4_areAlike 35 = .ok (.iaload, 1) := by decide +kernel
theorem dX4_areAlike_36 : decode cX4_areAlike 36 = .ok (.aload_n 0, 1) := by decide +kernel
theorem dX4_areAlike_37 : decode cX4_areAlike 37 = .ok (.getfield 23, 3) := by decide +kernel
theorem dX4_areAlike_40 : decode cX4_areAlike 40 = .ok (.iload_n 2, 1) := by decide +kernel
theorem dX4_areAlike_41 : decode cX4_areAlike 41 = .ok (.iconst 1, 1) := by decide +kernel
theorem dX4_areAlike_42 : decode cX4_areAlike 42 = .ok (.iload_n 3, 1) := by decide +kernel
theorem dX4_areAlike_43 : decode cX4_areAlike 43 = .ok (.invokestatic 62, 3) := by decide +kernel
theorem dX4_areAlike_46 : decode cX4_areAlike 46 = .ok (.iaload, 1) := by decide +kernel
theorem dX4_areAlike_47 : decode cX4_areAlike 47 = .ok (.if_icmp .ne 7, 3) := by decide +kernel
theorem dX4_areAlike_50 : decode cX4_areAlike 50 = .ok (.iconst 1, 1) := by decide +kernel
theorem dX4_areAlike_51 : decode cX4_areAlike 51 = .ok (.goto 4, 3) := by decide +kernel
theorem dX4_areAlike_54 : decode cX4_areAlike 54 = .ok (.iconst 0, 1) := by decide +kernel
theorem dX4_areAlike_55 : decode cX4_areAlike 55 = .ok (.ireturn, 1) := by decide +kernel
set_option maxRecDepth 20000 in
theorem ggX4_conflicts_X4_isVersion : GoodIn wsX4_conflicts wsX4_isVersion := goodIn_r _ [6, 7, 8, 9, 5, 10, 33, 34, 35, 36, 37, 38, 39, 40, 41, 42, 43, 44, 45, 46] (by decide +kernel) (by decide +kernel)
set_option maxRecDepth 20000 in
theorem gX4_conflicts_X4_isVersion : GoodIn wsX4_conflicts (wsV RX4 55 RX4 yX4_isVersion wsX4_isVersion) := goodIn_app (goodIn_of _ (by decide +kernel)) ggX4_conflicts_X4_isVersion
set_option maxRecDepth 20000 in
theorem ggX4_conflicts_X4_baseOf : GoodIn wsX4_conflicts wsX4_baseOf := goodIn_r _ [14, 7, 15, 16, 17, 5, 18, 19, 33, 34, 35, 36, 37, 38, 39, 40, 41, 42, 43, 44, 45, 46] (by decide +kernel) (by decide +kernel)
set_option maxRecDepth 20000 in
theorem gX4_conflicts_X4_baseOf : GoodIn wsX4_conflicts (wsV RX4 77 RX4 yX4_baseOf wsX4_baseOf) := goodIn_app (goodIn_of _ (by decide +kernel)) ggX4_conflicts_X4_baseOf
set_option maxRecDepth 20000 in
theorem ggX4_conflicts_X4_fails : GoodIn wsX4_conflicts wsX4_fails := goodIn_r _ [23, 24, 33, 34, 35, 36, 37, 38, 39, 40, 41, 42, 43, 44, 45, 46] (by decide +kernel) (by decide +kernel)
set_option maxRecDepth 20000 in
theorem gX4_conflicts_X4_fails : GoodIn wsX4_conflicts (wsV RX4 59 RX4 yX4_fails wsX4_fails) := goodIn_app (goodIn_of _ (by decide +kernel)) ggX4_conflicts_X4_fails
set_option maxRecDepth 20000 in
theorem ggX4_conflicts_X4_areAlike : GoodIn wsX4_conflicts wsX4_areAlike := goodIn_r _ [28, 29, 30, 31, 5, 32, 33, 34, 35, 36, 37, 38, 39, 40, 41, 42, 43, 44, 45, 46] (by decide +kernel) (by decide +kernel)
set_option maxRecDepth 20000 in
theorem gX4_conflicts_X4_areAlike : GoodIn wsX4_conflicts (wsV RX4 81 RX4 yX4_areAlike wsX4_areAlike) := goodIn_app (goodIn_of _ (by decide +kernel)) ggX4_conflicts_X4_areAlike
theorem dX4_conflicts_0 : decode cX4_conflicts 0 = .ok (.aload_n 0, 1) := by decide +kernel
theorem dX4_conflicts_1 : decode cX4_conflicts 1 = .ok (.iload_n 1, 1) := by decide +kernel
theorem dX4_conflicts_2 : decode cX4_conflicts 2 = .ok (.invokevirtual 55, 3) := by decide +kernel
theorem dX4_conflicts_5 : decode cX4_conflicts 5 = .ok (.ifCond .eq 15, 3) := by decide +kernel
theorem dX4_conflicts_8 : decode cX4_conflicts 8 = .ok (.aload_n 0, 1) := by decide +kernel
theorem dX4_conflicts_9 : decode cX4_conflicts 9 = .ok (.iload_n 2, 1) := by decide +kernel
theorem dX4_conflicts_10 : decode cX4_conflicts 10 = .ok (.invokevirtual 55, 3) := by decide +kernel
theorem dX4_conflicts_13 : decode cX4_conflicts 13 = .ok (.ifCond .eq 7, 3) := by decide +kernel
theorem dX4_conflicts_16 : decode cX4_conflicts 16 = .ok (.iconst 1, 1) := by decide +kernel
theorem dX4_conflicts_17 : decode cX4_conflicts 17 = .ok (.goto 4, 3) := by decide +kernel
theorem dX4_conflicts_20 : decode cX4_conflicts 20 = .ok (.iconst 0, 1) := by decide +kernel
theorem dX4_conflicts_21 : decode cX4_conflicts 21 = .ok (.istore_n 3, 1) := by decide +kernel
theorem dX4_conflicts_22 : decode cX4_conflicts 22 = .ok (.aload_n 0, 1) := by decide +kernel
theorem dX4_conflicts_23 : decode cX4_conflicts 23 = .ok (.iload_n 3, 1) := by decide +kernel
theorem dX4_conflicts_24 : decode cX4_conflicts 24 = .ok (.ifCond .ne 7, 3) := by decide +kernel
theorem dX4_conflicts_27 : decode cX4_conflicts 27 = .ok (.iconst 1, 1) := by decide +kernel
theorem dX4_conflicts_28 : decode cX4_conflicts 28 = .ok (.goto 18, 3) := by decide +kernel
theorem dX4_conflicts_31 : decode cX4_conflicts 31 = .ok (.aload_n 0, 1) := by decide +kernel
theorem dX4_conflicts_32 : decode cX4_conflicts 32 = .ok (.iload_n 1, 1) := by decide +kernel
theorem dX4_conflicts_33 : decode cX4_conflicts 33 = .ok (.iload_n 2, 1) := by decide +kernel
theorem dX4_conflicts_34 : decode cX4_conflicts 34 = .ok (.invokevirtual 77, 3) := by decide +kernel
theorem dX4_conflicts_37 : decode cX4_conflicts 37 = .ok (.iconst (-1), 1) := by decide +kernel
theorem dX4_conflicts_38 : decode cX4_conflicts 38 = .ok (.if_icmp .ne 7, 3) := by decide +kernel
theorem dX4_conflicts_41 : decode cX4_conflicts 41 = .ok (.iconst 2, 1) := by decide +kernel
theorem dX4_conflicts_42 : decode cX4_conflicts 42 = .ok (.goto 4, 3) := by decide +kernel
theorem dX4_conflicts_45 : decode cX4_conflicts 45 = .ok (.iconst 0, 1) := by decide +kernel
theorem dX4_conflicts_46 : decode cX4_conflicts 46 = .ok (.invokevirtual 59, 3) := by decide +kernel
theorem dX4_conflicts_49 : decode cX4_conflicts 49 = .ok (.ifCond .eq 5, 3) := by decide +kernel
theorem dX4_conflicts_52 : decode cX4_conflicts 52 = .ok (.iconst 0, 1) := by decide +kernel
theorem dX4_conflicts_53 : decode cX4_conflicts 53 = .ok (.ireturn, 1) := by decide +kernel
theorem dX4_conflicts_54 : decode cX4_conflicts 54 = .ok (.aload_n 0, 1) := by decide +kernel
theorem dX4_conflicts_55 : decode cX4_conflicts 55 = .ok (.iload_n 1, 1) := by decide +kernel
theorem dX4_conflicts_56 : decode cX4_conflicts 56 = .ok (.iload_n 2, 1) := by decide +kernel
theorem dX4_conflicts_57 : decode cX4_conflicts 57 = .ok (.invokevirtual 77, 3) := by decide +kernel
theorem dX4_conflicts_60 : decode cX4_conflicts 60 = .ok (.istore 4, 2) := by decide +kernel
theorem dX4_conflicts_62 : decode cX4_conflicts 62 = .ok (.iconst 0, 1) := by decide +kernel
theorem dX4_conflicts_63 : decode cX4_conflicts 63 = .ok (.istore 5, 2) := by decide +kernel
theorem dX4_conflicts_65 : decode cX4_conflicts 65 = .ok (.iconst 0, 1) := by decide +kernel
theorem dX4_conflicts_66 : decode cX4_conflicts 66 = .ok (.istore 6, 2) := by decide +kernel
theorem dX4_conflicts_68 : decode cX4_conflicts 68 = .ok (.iload 6, 2) := by decide +kernel
theorem dX4_conflicts_70 : decode cX4_conflicts 70 = .ok (.aload_n 0, 1) := by decide +kernel
theorem dX4_conflicts_71 : decode cX4_conflicts 71 = .ok (.getfield 7, 3) := by decide +kernel
theorem dX4_conflicts_74 : decode cX4_conflicts 74 = .ok (.iload_n 1, 1) := by decide +kernel
theorem dX4_conflicts_75 : decode cX4_conflicts 75 = .ok (.iaload, 1) := by decide +kernel
theorem dX4_conflicts_76 : decode cX4_conflicts 76 = .ok (.if_icmp .ge 57, 3) := by decide +kernel
theorem dX4_conflicts_79 : decode cX4_conflicts 79 = .ok (.iload 5, 2) := by decide +kernel
theorem dX4_conflicts_81 : decode cX4_conflicts 81 = .ok (.aload_n 0, 1) := by decide +kernel
theorem dX4_conflicts_82 : decode cX4_conflicts 82 = .ok (.iload_n 1, 1) := by decide +kernel
theorem dX4_conflicts_83 : decode cX4_conflicts 83 = .ok (.iload_n 2, 1) := by decide +kernel
theorem dX4_conflicts_84 : decode cX4_conflicts 84 = .ok (.iload 6, 2) := by decide +kernel
theorem dX4_conflicts_86 : decode cX4_conflicts 86 = .ok (.invokevirtual 81, 3) := by decide +kernel
theorem dX4_conflicts_89 : decode cX4_conflicts 89 = .ok (.ifCond .ne 34, 3) := by decide +kernel
theorem dX4_conflicts_92 : decode cX4_conflicts 92 = .ok (.aload_n 0, 1) := by decide +kernel
theorem dX4_conflicts_93 : decode cX4_conflicts 93 = .ok (.iload_n 1, 1) := by decide +kernel
theorem dX4_conflicts_94 : decode cX4_conflicts 94 = .ok (.iload 4, 2) := by decide +kernel
theorem dX4_conflicts_96 : decode cX4_conflicts 96 = .ok (.iload 6, 2) := by decide +kernel
theorem dX4_conflicts_98 : decode cX4_conflicts 98 = .ok (.invokevirtual 81, 3) := by decide +kernel
theorem dX4_conflicts_101 : decode cX4_conflicts 101 = .ok (.ifCond .ne 22, 3) := by decide +kernel
theorem dX4_conflicts_104 : decode cX4_conflicts 104 = .ok (.aload_n 0, 1) := by decide +kernel
theorem dX4_conflicts_105 : decode cX4_conflicts 105 = .ok (.iload_n 2, 1) := by decide +kernel
theorem dX4_conflicts_106 : decode cX4_conflicts 106 = .ok (.iload 4, 2) := by decide +kernel
theorem dX4_conflicts_108 : decode cX4_conflicts 108 = .ok (.iload 6, 2) := by decide +kernel
theorem dX4_conflicts_110 : decode cX4_conflicts 110 = .ok (.invokevirtual 81, 3) := by decide +kernel
theorem dX4_conflicts_113 : decode cX4_conflicts 113 = .ok (.ifCond .ne 10, 3) := by decide +kernel
theorem dX4_conflicts_116 : decode cX4_conflicts 116 = .ok (.iconst 1, 1) := by decide +kernel
theorem dX4_conflicts_117 : decode cX4_conflicts 117 = .ok (.iload 6, 2) := by decide +kernel
theorem dX4_conflicts_119 : decode cX4_conflicts 119 = .ok (.ishl, 1) := by decide +kernel
theorem dX4_conflicts_120 : decode cX4_conflicts 120 = .ok (.goto 4, 3) := by decide +kernel
theorem dX4_conflicts_123 : decode cX4_conflicts 123 = .ok (.iconst 0, 1) := by decide +kernel
theorem dX4_conflicts_124 : decode cX4_conflicts 124 = .ok (.ior, 1) := by decide +kernel
theorem dX4_conflicts_125 : decode cX4_conflicts 125 = .ok (.istore 5, 2) := by decide +kernel
theorem dX4_conflicts_127 : decode cX4_conflicts 127 = .ok (.iinc 6 1, 3) := by decide +kernel
theorem dX4_conflicts_130 : decode cX4_conflicts 130 = .ok (.goto (-62), 3) := by decide +kernel
theorem dX4_conflicts_133 : decode cX4_conflicts 133 = .ok (.iload 5, 2) := by decide +kernel
theorem dX4_conflicts_135 : decode cX4_conflicts 135 = .ok (.ireturn, 1) := by decide +kernel
set_option maxRecDepth 20000 in
theorem ggX4_merge_X4_isVersion : GoodIn wsX4_merge wsX4_isVersion := goodIn_r _ [9, 1, 10, 11, 8, 12, 38, 39, 40, 41, 42, 43, 44, 45, 46, 47, 48, 49, 50, 51] (by decide +kernel) (by decide +kernel)
set_option maxRecDepth 20000 in
theorem gX4_merge_X4_isVersion : GoodIn wsX4_merge (wsV RX4 55 RX4 yX4_isVersion wsX4_isVersion) := goodIn_app (goodIn_of _ (by decide +kernel)) ggX4_merge_X4_isVersion
set_option maxRecDepth 20000 in
theorem ggX4_merge_X4_baseOf : GoodIn wsX4_merge wsX4_baseOf := goodIn_r _ [16, 1, 17, 18, 19, 8, 20, 21, 38, 39, 40, 41, 42, 43, 44, 45, 46, 47, 48, 49, 50, 51] (by decide +kernel) (by decide +kernel)
set_option maxRecDepth 20000 in
theorem gX4_merge_X4_baseOf : GoodIn wsX4_merge (wsV RX4 77 RX4 yX4_baseOf wsX4_baseOf) := goodIn_app (goodIn_of _ (by decide +kernel)) ggX4_merge_X4_baseOf
set_option maxRecDepth 20000 in
theorem ggX4_merge_X4_fails : GoodIn wsX4_merge wsX4_fails := goodIn_r _ [25, 26, 38, 39, 40, 41, 42, 43, 44, 45, 46, 47, 48, 49, 50, 51] (by decide +kernel) (by decide +kernel)
set_option maxRecDepth 20000 in
theorem gX4_merge_X4_fails : GoodIn wsX4_merge (wsV RX4 59 RX4 yX4_fails wsX4_fails) := goodIn_app (goodIn_of _ (by decide +kernel)) ggX4_merge_X4_fails
set_option maxRecDepth 20000 in
theorem ggX4_merge_X4_makes : GoodIn wsX4_merge wsX4_makes := goodIn_r _ [30, 3, 1, 21, 4, 2, 31, 32, 8, 33, 38, 39, 40, 41, 42, 43, 44, 45, 46, 47, 48, 49, 50, 51] (by decide +kernel) (by decide +kernel)
set_option maxRecDepth 20000 in
theorem gX4_merge_X4_makes : GoodIn wsX4_merge (wsV RX4 66 RX4 yX4_makes wsX4_makes) := goodIn_app (goodIn_of _ (by decide +kernel)) ggX4_merge_X4_makes
set_option maxRecDepth 20000 in
theorem ggX4_merge_X4_areAlike : GoodIn wsX4_merge wsX4_areAlike := goodIn_r _ [37, 4, 31, 32, 8, 33, 38, 39, 40, 41, 42, 43, 44, 45, 46, 47, 48, 49, 50, 51] (by decide +kernel) (by decide +kernel)
set_option maxRecDepth 20000 in
theorem gX4_merge_X4_areAlike : GoodIn wsX4_merge (wsV RX4 81 RX4 yX4_areAlike wsX4_areAlike) := goodIn_app (goodIn_of _ (by decide +kernel)) ggX4_merge_X4_areAlike
set_option maxRecDepth 20000 in
theorem ggX4_merge_X4_at : GoodIn wsX4_merge wsX4_at := goodIn_r _ [33] (by decide +kernel) (by decide +kernel)
set_option maxRecDepth 20000 in
theorem gX4_merge_X4_at : GoodIn wsX4_merge (va_wsS RX4 62 yX4_at wsX4_at) := goodIn_app (goodIn_of _ (by decide +kernel)) ggX4_merge_X4_at
theorem dX4_merge_0 : decode cX4_merge 0 = .ok (.aload_n 0, 1) := by decide +kernel
theorem dX4_merge_1 : decode cX4_merge 1 = .ok (.iload_n 1, 1) := by decide +kernel
theorem dX4_merge_2 : decode cX4_merge 2 = .ok (.invokevirtual 55, 3) := by decide +kernel
theorem dX4_merge_5 : decode cX4_merge 5 = .ok (.ifCond .eq 15, 3) := by decide +kernel
theorem dX4_merge_8 : decode cX4_merge 8 = .ok (.aload_n 0, 1) := by decide +kernel
theorem dX4_merge_9 : decode cX4_merge 9 = .ok (.iload_n 2, 1) := by decide +kernel
theorem dX4_merge_10 : decode cX4_merge 10 = .ok (.invokevirtual 55, 3) := by decide +kernel
theorem dX4_merge_13 : decode cX4_merge 13 = .ok (.ifCond .eq 7, 3) := by decide +kernel
theorem dX4_merge_16 : decode cX4_merge 16 = .ok (.iconst 1, 1) := by decide +kernel
theorem dX4_merge_17 : decode cX4_merge 17 = .ok (.goto 4, 3) := by decide +kernel
theorem dX4_merge_20 : decode cX4_merge 20 = .ok (.iconst 0, 1) := by decide +kernel
theorem dX4_merge_21 : decode cX4_merge 21 = .ok (.istore_n 3, 1) := by decide +kernel
theorem dX4_merge_22 : decode cX4_merge 22 = .ok (.aload_n 0, 1) := by decide +kernel
theorem dX4_merge_23 : decode cX4_merge 23 = .ok (.iload_n 3, 1) := by decide +kernel
theorem dX4_merge_24 : decode cX4_merge 24 = .ok (.ifCond .ne 7, 3) := by decide +kernel
theorem dX4_merge_27 : decode cX4_merge 27 = .ok (.iconst 1, 1) := by decide +kernel
theorem dX4_merge_28 : decode cX4_merge 28 = .ok (.goto 36, 3) := by decide +kernel
theorem dX4_merge_31 : decode cX4_merge 31 = .ok (.iload_n 1, 1) := by decide +kernel
theorem dX4_merge_32 : decode cX4_merge 32 = .ok (.iload_n 2, 1) := by decide +kernel
theorem dX4_merge_33 : decode cX4_merge 33 = .ok (.if_icmp .ne 7, 3) := by decide +kernel
theorem dX4_merge_36 : decode cX4_merge 36 = .ok (.iconst 2, 1) := by decide +kernel
theorem dX4_merge_37 : decode cX4_merge 37 = .ok (.goto 27, 3) := by decide +kernel
theorem dX4_merge_40 : decode cX4_merge 40 = .ok (.aload_n 0, 1) := by decide +kernel
theorem dX4_merge_41 : decode cX4_merge 41 = .ok (.iload_n 1, 1) := by decide +kernel
theorem dX4_merge_42 : decode cX4_merge 42 = .ok (.iload_n 2, 1) := by decide +kernel
theorem dX4_merge_43 : decode cX4_merge 43 = .ok (.invokevirtual 77, 3) := by decide +kernel
theorem dX4_merge_46 : decode cX4_merge 46 = .ok (.iconst (-1), 1) := by decide +kernel
theorem dX4_merge_47 : decode cX4_merge 47 = .ok (.if_icmp .eq 12, 3) := by decide +kernel
theorem dX4_merge_50 : decode cX4_merge 50 = .ok (.aload_n 0, 1) := by decide +kernel
theorem dX4_merge_51 : decode cX4_merge 51 = .ok (.getfield 48, 3) := by decide +kernel
theorem dX4_merge_54 : decode cX4_merge 54 = .ok (.bipush 30, 2) := by decide +kernel
theorem dX4_merge_56 : decode cX4_merge 56 = .ok (.if_icmp .ne 7, 3) := by decide +kernel
theorem dX4_merge_59 : decode cX4_merge 59 = .ok (.iconst 3, 1) := by decide +kernel
theorem dX4_merge_60 : decode cX4_merge 60 = .ok (.goto 4, 3) := by decide +kernel
theorem dX4_merge_63 : decode cX4_merge 63 = .ok (.iconst 0, 1) := by decide +kernel
theorem dX4_merge_64 : decode cX4_merge 64 = .ok (.invokevirtual 59, 3) := by decide +kernel
theorem dX4_merge_67 : decode cX4_merge 67 = .ok (.ifCond .eq 5, 3) := by decide +kernel
theorem dX4_merge_70 : decode cX4_merge 70 = .ok (.iconst 0, 1) := by decide +kernel
theorem dX4_merge_71 : decode cX4_merge 71 = .ok (.ireturn, 1) := by decide +kernel
theorem dX4_merge_72 : decode cX4_merge 72 = .ok (.aload_n 0, 1) := by decide +kernel
theorem dX4_merge_73 : decode cX4_merge 73 = .ok (.iload_n 1, 1) := by decide +kernel
theorem dX4_merge_74 : decode cX4_merge 74 = .ok (.iload_n 2, 1) := by decide +kernel
theorem dX4_merge_75 : decode cX4_merge 75 = .ok (.invokevirtual 77, 3) := by decide +kernel
theorem dX4_merge_78 : decode cX4_merge 78 = .ok (.istore 4, 2) := by decide +kernel
theorem dX4_merge_80 : decode cX4_merge 80 = .ok (.aload_n 0, 1) := by decide +kernel
theorem dX4_merge_81 : decode cX4_merge 81 = .ok (.iload_n 1, 1) := by decide +kernel
theorem dX4_merge_82 : decode cX4_merge 82 = .ok (.invokevirtual 66, 3) := by decide +kernel
theorem dX4_merge_85 : decode cX4_merge 85 = .ok (.istore 5, 2) := by decide +kernel
theorem dX4_merge_87 : decode cX4_merge 87 = .ok (.aload_n 0, 1) := by decide +kernel
theorem dX4_merge_88 : decode cX4_merge 88 = .ok (.getfield 16, 3) := by decide +kernel
theorem dX4_merge_91 : decode cX4_merge 91 = .ok (.iload_n 2, 1) := by decide +kernel
theorem dX4_merge_92 : decode cX4_merge 92 = .ok (.iconst 1, 1) := by decide +kernel
theorem dX4_merge_93 : decode cX4_merge 93 = .ok (.bastore, 1) := by decide +kernel
theorem dX4_merge_94 : decode cX4_merge 94 = .ok (.iconst 0, 1) := by decide +kernel
theorem dX4_merge_95 : decode cX4_merge 95 = .ok (.istore 6, 2) := by decide +kernel
theorem dX4_merge_97 : decode cX4_merge 97 = .ok (.iload 6, 2) := by decide +kernel
theorem dX4_merge_99 : decode cX4_merge 99 = .ok (.aload_n 0, 1) := by decide +kernel
theorem dX4_merge_100 : decode cX4_merge 100 = .ok (.getfield 7, 3) := by decide +kernel
theorem dX4_merge_103 : decode cX4_merge 103 = .ok (.iload_n 1, 1) := by decide +kernel
theorem dX4_merge_104 : decode cX4_merge 104 = .ok (.iaload, 1) := by decide +kernel
theorem dX4_merge_105 : decode cX4_merge 105 = .ok (.if_icmp .ge 71, 3) := by decide +kernel
theorem dX4_merge_108 : decode cX4_merge 108 = .ok (.aload_n 0, 1) := by decide +kernel
theorem dX4_merge_109 : decode cX4_merge 109 = .ok (.iload_n 1, 1) := by decide +kernel
theorem dX4_merge_110 : decode cX4_merge 110 = .ok (.iload 4, 2) := by decide +kernel
theorem dX4_merge_112 : decode cX4_merge 112 = .ok (.iload 6, 2) := by decide +kernel
theorem dX4_merge_114 : decode cX4_merge 114 = .ok (.invokevirtual 81, 3) := by decide +kernel
theorem dX4_merge_117 : decode cX4_merge 117 = .ok (.ifCond .eq 53, 3) := by decide +kernel
theorem dX4_merge_120 : decode cX4_merge 120 = .ok (.aload_n 0, 1) := by decide +kernel
theorem dX4_merge_121 : decode cX4_merge 121 = .ok (.getfield 23, 3) := by decide +kernel
theorem dX4_merge_124 : decode cX4_merge 124 = .ok (.iload 5, 2) := by decide +kernel
theorem dX4_merge_126 : decode cX4_merge 126 = .ok (.iconst 0, 1) := by decide +kernel
theorem dX4_merge_127 : decode cX4_merge 127 = .ok (.iload 6, 2) := by decide +kernel
theorem dX4_merge_129 : decode cX4_merge 129 = .ok (.invokestatic 62, 3) := by decide +kernel
theorem dX4_merge_132 : decode cX4_merge 132 = .ok (.aload_n 0, 1) := by decide +kernel
theorem dX4_merge_133 : decode cX4_merge 133 = .ok (.getfield 23, 3) := by decide +kernel
theorem dX4_merge_136 : decode cX4_merge 136 = .ok (.iload_n 2, 1) := by decide +kernel
theorem dX4_merge_137 : decode cX4_merge 137 = .ok (.iconst 0, 1) := by decide +kernel
theorem dX4_merge_138 : decode cX4_merge 138 = .ok (.iload 6, 2) := by decide +kernel
theorem dX4_merge_140 : decode cX4_merge 140 = .ok (.invokestatic 62, 3) := by decide +kernel
theorem dX4_merge_143 : decode cX4_merge 143 = .ok (.iaload, 1) := by decide +kernel
theorem dX4_merge_144 : decode cX4_merge 144 = .ok (.iastore, 1) := by decide +kernel
theorem dX4_merge_145 : decode cX4_merge 145 = .ok (.aload_n 0, 1) := by decide +kernel
theorem dX4_merge_146 : decode cX4_merge 146 = .ok (.getfield 23, 3) := by decide +kernel
theorem dX4_merge_149 : decode cX4_merge 149 = .ok (.iload 5, 2) := by decide +kernel
theorem dX4_merge_151 : decode cX4_merge 151 = .ok (.iconst 1, 1) := by decide +kernel
theorem dX4_merge_152 : decode cX4_merge 152 = .ok (.iload 6, 2) := by decide +kernel
theorem dX4_merge_154 : decode cX4_merge 154 = .ok (.invokestatic 62, 3) := by decide +kernel
theorem dX4_merge_157 : decode cX4_merge 157 = .ok (.aload_n 0, 1) := by decide +kernel
theorem dX4_merge_158 : decode cX4_merge 158 = .ok (.getfield 23, 3) := by decide +kernel
theorem dX4_merge_161 : decode cX4_merge 161 = .ok (.iload_n 2, 1) := by decide +kernel
theorem dX4_merge_162 : decode cX4_merge 162 = .ok (.iconst 1, 1) := by decide +kernel
theorem dX4_merge_163 : decode cX4_merge 163 = .ok (.iload 6, 2) := by decide +kernel
theorem dX4_merge_165 : decode cX4_merge 165 = .ok (.invokestatic 62, 3) := by decide +kernel
theorem dX4_merge_168 : decode cX4_merge 168 = .ok (.iaload, 1) := by decide +kernel
theorem dX4_merge_169 : decode cX4_merge 169 = .ok (.iastore, 1) := by decide +kernel
theorem dX4_merge_170 : decode cX4_merge 170 = .ok (.iinc 6 1, 3) := by decide +kernel
theorem dX4_merge_173 : decode cX4_merge 173 = .ok (.goto (-76), 3) := by decide +kernel
theorem dX4_merge_176 : decode cX4_merge 176 = .ok (.iload 5, 2) := by decide +kernel
theorem dX4_merge_178 : decode cX4_merge 178 = .ok (.ireturn, 1) := by decide +kernel
set_option maxRecDepth 20000 in
theorem ggX4_setWeight_X4_isIn : GoodIn wsX4_setWeight wsX4_isIn := goodIn_r _ [5] (by decide +kernel) (by decide +kernel)
set_option maxRecDepth 20000 in
theorem gX4_setWeight_X4_isIn : GoodIn wsX4_setWeight (va_wsS RX4 51 yX4_isIn wsX4_isIn) := goodIn_app (goodIn_of _ (by decide +kernel)) ggX4_setWeight_X4_isIn
set_option maxRecDepth 20000 in
theorem ggX4_setWeight_X4_fails : GoodIn wsX4_setWeight wsX4_fails := goodIn_r _ [9, 10, 11, 12, 13, 14, 15, 16, 17, 18, 19, 20, 21, 22, 23, 24] (by decide +kernel) (by decide +kernel)
set_option maxRecDepth 20000 in
theorem gX4_setWeight_X4_fails : GoodIn wsX4_setWeight (wsV RX4 59 RX4 yX4_fails wsX4_fails) := goodIn_app (goodIn_of _ (by decide +kernel)) ggX4_setWeight_X4_fails
theorem dX4_setWeight_0 : decode cX4_setWeight 0 = .ok (.iload_n 1, 1) := by decide +kernel
theorem dX4_setWeight_1 : decode cX4_setWeight 1 = .ok (.iconst 0, 1) := by decide +kernel
theorem dX4_setWeight_2 : decode cX4_setWeight 2 = .ok (.iconst 5, 1) := by decide +kernel
theorem dX4_setWeight_3 : decode cX4_setWeight 3 = .ok (.invokestatic 51, 3) := by decide +kernel
theorem dX4_setWeight_6 : decode cX4_setWeight 6 = .ok (.istore_n 3, 1) := by decide +kernel
theorem dX4_setWeight_7 : decode cX4_setWeight 7 = .ok (.aload_n 0, 1) := by decide +kernel
theorem dX4_setWeight_8 : decode cX4_setWeight 8 = .ok (.iload_n 3, 1) := by decide +kernel
theorem dX4_setWeight_9 : decode cX4_setWeight 9 = .ok (.ifCond .ne 7, 3) := by decide +kernel
theorem dX4_setWeight_12 : decode cX4_setWeight 12 = .ok (.iconst 1, 1) := by decide +kernel
theorem dX4_setWeight_13 : decode cX4_setWeight 13 = .ok (.goto 18, 3) := by decide +kernel
theorem dX4_setWeight_16 : decode cX4_setWeight 16 = .ok (.iload_n 2, 1) := by decide +kernel
theorem dX4_setWeight_17 : decode cX4_setWeight 17 = .ok (.iconst 0, 1) := by decide +kernel
theorem dX4_setWeight_18 : decode cX4_setWeight 18 = .ok (.bipush 50, 2) := by decide +kernel
theorem dX4_setWeight_20 : decode cX4_setWeight 20 = .ok (.invokestatic 51, 3) := by decide +kernel
theorem dX4_setWeight_23 : decode cX4_setWeight 23 = .ok (.ifCond .eq 7, 3) := by decide +kernel
theorem dX4_setWeight_26 : decode cX4_setWeight 26 = .ok (.iconst 0, 1) := by decide +kernel
theorem dX4_setWeight_27 : decode cX4_setWeight 27 = .ok (.goto 4, 3) := by decide +kernel
theorem dX4_setWeight_30 : decode cX4_setWeight 30 = .ok (.iconst 2, 1) := by decide +kernel
theorem dX4_setWeight_31 : decode cX4_setWeight 31 = .ok (.invokevirtual 59, 3) := by decide +kernel
theorem dX4_setWeight_34 : decode cX4_setWeight 34 = .ok (.ifCond .eq 5, 3) := by decide +kernel
theorem dX4_setWeight_37 : decode cX4_setWeight 37 = .ok (.iconst 0, 1) := by decide +kernel
theorem dX4_setWeight_38 : decode cX4_setWeight 38 = .ok (.ireturn, 1) := by decide +kernel
theorem dX4_setWeight_39 : decode cX4_setWeight 39 = .ok (.aload_n 0, 1) := by decide +kernel
theorem dX4_setWeight_40 : decode cX4_setWeight 40 = .ok (.getfield 26, 3) := by decide +kernel
theorem dX4_setWeight_43 : decode cX4_setWeight 43 = .ok (.iload_n 1, 1) := by decide +kernel
theorem dX4_setWeight_44 : decode cX4_setWeight 44 = .ok (.iaload, 1) := by decide +kernel
theorem dX4_setWeight_45 : decode cX4_setWeight 45 = .ok (.istore 4, 2) := by decide +kernel
theorem dX4_setWeight_47 : decode cX4_setWeight 47 = .ok (.aload_n 0, 1) := by decide +kernel
theorem dX4_setWeight_48 : decode cX4_setWeight 48 = .ok (.getfield 26, 3) := by decide +kernel
theorem dX4_setWeight_51 : decode cX4_setWeight 51 = .ok (.iload_n 1, 1) := by decide +kernel
theorem dX4_setWeight_52 : decode cX4_setWeight 52 = .ok (.iload_n 2, 1) := by decide +kernel
theorem dX4_setWeight_53 : decode cX4_setWeight 53 = .ok (.iastore, 1) := by decide +kernel
theorem dX4_setWeight_54 : decode cX4_setWeight 54 = .ok (.iload 4, 2) := by decide +kernel
theorem dX4_setWeight_56 : decode cX4_setWeight 56 = .ok (.ireturn, 1) := by decide +kernel
set_option maxRecDepth 20000 in
theorem ggX4_setPass_X4_isIn : GoodIn wsX4_setPass wsX4_isIn := goodIn_r _ [5] (by decide +kernel) (by decide +kernel)
set_option maxRecDepth 20000 in
theorem gX4_setPass_X4_isIn : GoodIn wsX4_setPass (va_wsS RX4 51 yX4_isIn wsX4_isIn) := goodIn_app (goodIn_of _ (by decide +kernel)) ggX4_setPass_X4_isIn
set_option maxRecDepth 20000 in
theorem ggX4_setPass_X4_fails : GoodIn wsX4_setPass wsX4_fails := goodIn_r _ [9, 10, 11, 12, 13, 14, 15, 16, 17, 18, 19, 20, 21, 22, 23, 24] (by decide +kernel) (by decide +kernel)
set_option maxRecDepth 20000 in
theorem gX4_setPass_X4_fails : GoodIn wsX4_setPass (wsV RX4 59 RX4 yX4_fails wsX4_fails) := goodIn_app (goodIn_of _ (by decide +kernel)) ggX4_setPass_X4_fails
theorem dX4_setPass_0 : decode cX4_setPass 0 = .ok (.aload_n 0, 1) := by decide +kernel
theorem dX4_setPass_1 : decode cX4_setPass 1 = .ok (.iload_n 1, 1) := by decide +kernel
theorem dX4_setPass_2 : decode cX4_setPass 2 = .ok (.iconst 0, 1) := by decide +kernel
theorem dX4_setPass_3 : decode cX4_setPass 3 = .ok (.bipush 100, 2) := by decide +kernel
theorem dX4_setPass_5 : decode cX4_setPass 5 = .ok (.invokestatic 51, 3) := by decide +kernel
theorem dX4_setPass_8 : decode cX4_setPass 8 = .ok (.ifCond .eq 7, 3) := by decide +kernel
theorem dX4_setPass_11 : decode cX4_setPass 11 = .ok (.iconst 0, 1) := by decide +kernel
theorem dX4_setPass_12 : decode cX4_setPass 12 = .ok (.goto 4, 3) := by decide +kernel
theorem dX4_setPass_15 : decode cX4_setPass 15 = .ok (.iconst 1, 1) := by decide +kernel
theorem dX4_setPass_16 : decode cX4_setPass 16 = .ok (.invokevirtual 59, 3) := by decide +kernel
theorem dX4_setPass_19 : decode cX4_setPass 19 = .ok (.ifCond .eq 5, 3) := by decide +kernel
theorem dX4_setPass_22 : decode cX4_setPass 22 = .ok (.iconst 0, 1) := by decide +kernel
theorem dX4_setPass_23 : decode cX4_setPass 23 = .ok (.ireturn, 1) := by decide +kernel
theorem dX4_setPass_24 : decode cX4_setPass 24 = .ok (.aload_n 0, 1) := by decide +kernel
theorem dX4_setPass_25 : decode cX4_setPass 25 = .ok (.getfield 29, 3) := by decide +kernel
theorem dX4_setPass_28 : decode cX4_setPass 28 = .ok (.istore_n 2, 1) := by decide +kernel
theorem dX4_setPass_29 : decode cX4_setPass 29 = .ok (.aload_n 0, 1) := by decide +kernel
theorem dX4_setPass_30 : decode cX4_setPass 30 = .ok (.iload_n 1, 1) := by decide +kernel
theorem dX4_setPass_31 : decode cX4_setPass 31 = .ok (.putfield 29, 3) := by decide +kernel
theorem dX4_setPass_34 : decode cX4_setPass 34 = .ok (.iload_n 2, 1) := by decide +kernel
theorem dX4_setPass_35 : decode cX4_setPass 35 = .ok (.ireturn, 1) := by decide +kernel
theorem dX4_away_0 : decode cX4_away 0 = .ok (.iload_n 0, 1) := by decide +kernel
theorem dX4_away_1 : decode cX4_away 1 = .ok (.iload_n 1, 1) := by decide +kernel
theorem dX4_away_2 : decode cX4_away 2 = .ok (.if_icmp .le 9, 3) := by decide +kernel
theorem dX4_away_5 : decode cX4_away 5 = .ok (.iload_n 0, 1) := by decide +kernel
theorem dX4_away_6 : decode cX4_away 6 = .ok (.iload_n 1, 1) := by decide +kernel
theorem dX4_away_7 : decode cX4_away 7 = .ok (.isub, 1) := by decide +kernel
theorem dX4_away_8 : decode cX4_away 8 = .ok (.goto 6, 3) := by decide +kernel
theorem dX4_away_11 : decode cX4_away 11 = .ok (.iload_n 1, 1) := by decide +kernel
theorem dX4_away_12 : decode cX4_away 12 = .ok (.iload_n 0, 1) := by decide +kernel
theorem dX4_away_13 : decode cX4_away 13 = .ok (.isub, 1) := by decide +kernel
theorem dX4_away_14 : decode cX4_away 14 = .ok (.ireturn, 1) := by decide +kernel
set_option maxRecDepth 20000 in
theorem ggX4_interval_X4_at : GoodIn wsX4_interval wsX4_at := goodIn_r _ [5] (by decide +kernel) (by decide +kernel)
set_option maxRecDepth 20000 in
theorem gX4_interval_X4_at : GoodIn wsX4_interval (va_wsS RX4 62 yX4_at wsX4_at) := goodIn_app (goodIn_of _ (by decide +kernel)) ggX4_interval_X4_at
set_option maxRecDepth 20000 in
theorem ggX4_interval_X4_away : GoodIn wsX4_interval wsX4_away := goodIn_r _ [8] (by decide +kernel) (by decide +kernel)
set_option maxRecDepth 20000 in
theorem gX4_interval_X4_away : GoodIn wsX4_interval (va_wsS RX4 84 yX4_away wsX4_away) := goodIn_app (goodIn_of _ (by decide +kernel)) ggX4_interval_X4_away
theorem dX4_interval_0 : decode cX4_interval 0 = .ok (.aload_n 0, 1) := by decide +kernel
theorem dX4_interval_1 : decode cX4_interval 1 = .ok (.getfield 23, 3) := by decide +kernel
theorem dX4_interval_4 : decode cX4_interval 4 = .ok (.iload_n 1, 1) := by decide +kernel
theorem dX4_interval_5 : decode cX4_interval 5 = .ok (.iconst 0, 1) := by decide +kernel
theorem dX4_interval_6 : decode cX4_interval 6 = .ok (.iload_n 2, 1) := by decide +kernel
theorem dX4_interval_7 : decode cX4_interval 7 = .ok (.invokestatic 62, 3) := by decide +kernel
theorem dX4_interval_10 : decode cX4_interval 10 = .ok (.iaload, 1) := by decide +kernel
theorem dX4_interval_11 : decode cX4_interval 11 = .ok (.aload_n 0, 1) := by decide +kernel
theorem dX4_interval_12 : decode cX4_interval 12 = .ok (.getfield 23, 3) := by decide +kernel
theorem dX4_interval_15 : decode cX4_interval 15 = .ok (.iload_n 1, 1) := by decide +kernel
theorem dX4_interval_16 : decode cX4_interval 16 = .ok (.iconst 1, 1) := by decide +kernel
theorem dX4_interval_17 : decode cX4_interval 17 = .ok (.iload_n 2, 1) := by decide +kernel
theorem dX4_interval_18 : decode cX4_interval 18 = .ok (.invokestatic 62, 3) := by decide +kernel
theorem dX4_interval_21 : decode cX4_interval 21 = .ok (.iaload, 1) := by decide +kernel
theorem dX4_interval_22 : decode cX4_interval 22 = .ok (.invokestatic 84, 3) := by decide +kernel
theorem dX4_interval_25 : decode cX4_interval 25 = .ok (.bipush 12, 2) := by decide +kernel
theorem dX4_interval_27 : decode cX4_interval 27 = .ok (.irem, 1) := by decide +kernel
theorem dX4_interval_28 : decode cX4_interval 28 = .ok (.ireturn, 1) := by decide +kernel
set_option maxRecDepth 20000 in
theorem ggX4_stays_X4_at : GoodIn wsX4_stays wsX4_at := goodIn_r _ [5] (by decide +kernel) (by decide +kernel)
set_option maxRecDepth 20000 in
theorem gX4_stays_X4_at : GoodIn wsX4_stays (va_wsS RX4 62 yX4_at wsX4_at) := goodIn_app (goodIn_of _ (by decide +kernel)) ggX4_stays_X4_at
theorem dX4_stays_0 : decode cX4_stays 0 = .ok (.aload_n 0, 1) := by decide +kernel
theorem dX4_stays_1 : decode cX4_stays 1 = .ok (.getfield 23, 3) := by decide +kernel
theorem dX4_stays_4 : decode cX4_stays 4 = .ok (.iload_n 1, 1) := by decide +kernel
theorem dX4_stays_5 : decode cX4_stays 5 = .ok (.iload_n 2, 1) := by decide +kernel
theorem dX4_stays_6 : decode cX4_stays 6 = .ok (.iload_n 3, 1) := by decide +kernel
theorem dX4_stays_7 : decode cX4_stays 7 = .ok (.invokestatic 62, 3) := by decide +kernel

set_option maxRecDepth 20000 in
theorem ggX0_init_X0_takeVoice : GoodIn wsX0_init wsX0_takeVoice := goodIn_r _ [13, 8, 5, 7, 14, 15, 16, 17, 18, 19, 20, 21, 22, 23, 24, 25, 26, 27] (by decide +kernel) (by decide +kernel)
set_option maxRecDepth 20000 in
theorem gX0_init_X0_takeVoice : GoodIn wsX0_init (wsV RX0 28 RX0 yX0_takeVoice wsX0_takeVoice) := goodIn_app (goodIn_of _ (by decide +kernel)) ggX0_init_X0_takeVoice
theorem dX0_init_0 : decode cX0_init 0 = .ok (.aload_n 0, 1) := by decide +kernel
theorem dX0_init_1 : decode cX0_init 1 = .ok (.invokespecial 3, 3) := by decide +kernel
theorem dX0_init_4 : decode cX0_init 4 = .ok (.aload_n 0, 1) := by decide +kernel
theorem dX0_init_5 : decode cX0_init 5 = .ok (.bipush 12, 2) := by decide +kernel
theorem dX0_init_7 : decode cX0_init 7 = .ok (.newarray .int, 2) := by decide +kernel
theorem dX0_init_9 : decode cX0_init 9 = .ok (.putfield 9, 3) := by decide +kernel
theorem dX0_init_12 : decode cX0_init 12 = .ok (.aload_n 0, 1) := by decide +kernel
theorem dX0_init_13 : decode cX0_init 13 = .ok (.iconst 0, 1) := by decide +kernel
theorem dX0_init_14 : decode cX0_init 14 = .ok (.putfield 15, 3) := by decide +kernel
theorem dX0_init_17 : decode cX0_init 17 = .ok (.aload_n 0, 1) := by decide +kernel
theorem dX0_init_18 : decode cX0_init 18 = .ok (.iload_n 1, 1) := by decide +kernel
theorem dX0_init_19 : decode cX0_init 19 = .ok (.putfield 19, 3) := by decide +kernel
theorem dX0_init_22 : decode cX0_init 22 = .ok (.aload_n 0, 1) := by decide +kernel
theorem dX0_init_23 : decode cX0_init 23 = .ok (.aload_n 2, 1) := by decide +kernel
theorem dX0_init_24 : decode cX0_init 24 = .ok (.getfield 22, 3) := by decide +kernel
theorem dX0_init_27 : decode cX0_init 27 = .ok (.putfield 27, 3) := by decide +kernel
theorem dX0_init_30 : decode cX0_init 30 = .ok (.aload_n 0, 1) := by decide +kernel
theorem dX0_init_31 : decode cX0_init 31 = .ok (.aload_n 2, 1) := by decide +kernel
theorem dX0_init_32 : decode cX0_init 32 = .ok (.invokevirtual 28, 3) := by decide +kernel
theorem dX0_init_35 : decode cX0_init 35 = .ok (.return_, 1) := by decide +kernel
set_option maxRecDepth 20000 in
theorem ggX0_takeVoice_X1_tone : GoodIn wsX0_takeVoice wsX1_tone := goodIn_r _ [8, 9, 10, 15, 16, 17] (by decide +kernel) (by decide +kernel)
set_option maxRecDepth 20000 in
theorem gX0_takeVoice_X1_tone : GoodIn wsX0_takeVoice (wsV RX0 32 RX1 yX1_tone wsX1_tone) := goodIn_app (goodIn_of _ (by decide +kernel)) ggX0_takeVoice_X1_tone
theorem dX0_takeVoice_0 : decode cX0_takeVoice 0 = .ok (.iconst 0, 1) := by decide +kernel
theorem dX0_takeVoice_1 : decode cX0_takeVoice 1 = .ok (.istore_n 2, 1) := by decide +kernel
theorem dX0_takeVoice_2 : decode cX0_takeVoice 2 = .ok (.iload_n 2, 1) := by decide +kernel
theorem dX0_takeVoice_3 : decode cX0_takeVoice 3 = .ok (.aload_n 0, 1) := by decide +kernel
theorem dX0_takeVoice_4 : decode cX0_takeVoice 4 = .ok (.getfield 27, 3) := by decide +kernel
theorem dX0_takeVoice_7 : decode cX0_takeVoice 7 = .ok (.if_icmp .ge 33, 3) := by decide +kernel
theorem dX0_takeVoice_10 : decode cX0_takeVoice 10 = .ok (.iload_n 2, 1) := by decide +kernel
theorem dX0_takeVoice_11 : decode cX0_takeVoice 11 = .ok (.aload_n 0, 1) := by decide +kernel
theorem dX0_takeVoice_12 : decode cX0_takeVoice 12 = .ok (.getfield 9, 3) := by decide +kernel
theorem dX0_takeVoice_15 : decode cX0_takeVoice 15 = .ok (.arraylength, 1) := by decide +kernel
theorem dX0_takeVoice_16 : decode cX0_takeVoice 16 = .ok (.if_icmp .ge 24, 3) := by decide +kernel
theorem dX0_takeVoice_19 : decode cX0_takeVoice 19 = .ok (.aload_n 0, 1) := by decide +kernel
theorem dX0_takeVoice_20 : decode cX0_takeVoice 20 = .ok (.getfield 9, 3) := by decide +kernel
theorem dX0_takeVoice_23 : decode cX0_takeVoice 23 = .ok (.iload_n 2, 1) := by decide +kernel
theorem dX0_takeVoice_24 : decode cX0_takeVoice 24 = .ok (.aload_n 1, 1) := by decide +kernel
theorem dX0_takeVoice_25 : decode cX0_takeVoice 25 = .ok (.aload_n 0, 1) := by decide +kernel
theorem dX0_takeVoice_26 : decode cX0_takeVoice 26 = .ok (.getfield 19, 3) := by decide +kernel
theorem dX0_takeVoice_29 : decode cX0_takeVoice 29 = .ok (.iload_n 2, 1) := by decide +kernel
theorem dX0_takeVoice_30 : decode cX0_takeVoice 30 = .ok (.invokevirtual 32, 3) := by decide +kernel
theorem dX0_takeVoice_33 : decode cX0_takeVoice 33 = .ok (.iastore, 1) := by decide +kernel
theorem dX0_takeVoice_34 : decode cX0_takeVoice 34 = .ok (.iinc 2 1, 3) := by decide +kernel
theorem dX0_takeVoice_37 : decode cX0_takeVoice 37 = .ok (.goto (-35), 3) := by decide +kernel
theorem dX0_takeVoice_40 : decode cX0_takeVoice 40 = .ok (.return_, 1) := by decide +kernel
set_option maxRecDepth 20000 in
theorem ggX0_differingBars_X1_tone : GoodIn wsX0_differingBars wsX1_tone := goodIn_r _ [8, 9, 10, 15, 16, 17] (by decide +kernel) (by decide +kernel)
set_option maxRecDepth 20000 in
theorem gX0_differingBars_X1_tone : GoodIn wsX0_differingBars (wsV RX0 32 RX1 yX1_tone wsX1_tone) := goodIn_app (goodIn_of _ (by decide +kernel)) ggX0_differingBars_X1_tone
theorem dX0_differingBars_0 : decode cX0_differingBars 0 = .ok (.iconst 0, 1) := by decide +kernel
theorem dX0_differingBars_1 : decode cX0_differingBars 1 = .ok (.istore_n 2, 1) := by decide +kernel
theorem dX0_differingBars_2 : decode cX0_differingBars 2 = .ok (.iconst 0, 1) := by decide +kernel
theorem dX0_differingBars_3 : decode cX0_differingBars 3 = .ok (.istore_n 3, 1) := by decide +kernel
theorem dX0_differingBars_4 : decode cX0_differingBars 4 = .ok (.iload_n 3, 1) := by decide +kernel
theorem dX0_differingBars_5 : decode cX0_differingBars 5 = .ok (.aload_n 0, 1) := by decide +kernel
theorem dX0_differingBars_6 : decode cX0_differingBars 6 = .ok (.getfield 27, 3) := by decide +kernel
theorem dX0_differingBars_9 : decode cX0_differingBars 9 = .ok (.if_icmp .ge 42, 3) := by decide +kernel
theorem dX0_differingBars_12 : decode cX0_differingBars 12 = .ok (.iload_n 3, 1) := by decide +kernel
theorem dX0_differingBars_13 : decode cX0_differingBars 13 = .ok (.aload_n 0, 1) := by decide +kernel
theorem dX0_differingBars_14 : decode cX0_differingBars 14 = .ok (.getfield 9, 3) := by decide +kernel
theorem dX0_differingBars_17 : decode cX0_differingBars 17 = .ok (.arraylength, 1) := by decide +kernel
theorem dX0_differingBars_18 : decode cX0_differingBars 18 = .ok (.if_icmp .ge 33, 3) := by decide +kernel
theorem dX0_differingBars_21 : decode cX0_differingBars 21 = .ok (.aload_n 0, 1) := by decide +kernel
theorem dX0_differingBars_22 : decode cX0_differingBars 22 = .ok (.getfield 9, 3) := by decide +kernel
theorem dX0_differingBars_25 : decode cX0_differingBars 25 = .ok (.iload_n 3, 1) := by decide +kernel
theorem dX0_differingBars_26 : decode cX0_differingBars 26 = .ok (.iaload, 1) := by decide +kernel
theorem dX0_differingBars_27 : decode cX0_differingBars 27 = .ok (.aload_n 1, 1) := by decide +kernel
theorem dX0_differingBars_28 : decode cX0_differingBars 28 = .ok (.aload_n 0, 1) := by decide +kernel
theorem dX0_differingBars_29 : decode cX0_differingBars 29 = .ok (.getfield 19, 3) := by decide +kernel
theorem dX0_differingBars_32 : decode cX0_differingBars 32 = .ok (.iload_n 3, 1) := by decide +kernel
theorem dX0_differingBars_33 : decode cX0_differingBars 33 = .ok (.invokevirtual 32, 3) := by decide +kernel
theorem dX0_differingBars_36 : decode cX0_differingBars 36 = .ok (.if_icmp .eq 9, 3) := by decide +kernel
theorem dX0_differingBars_39 : decode cX0_differingBars 39 = .ok (.iload_n 2, 1) := by decide +kernel
theorem dX0_differingBars_40 : decode cX0_differingBars 40 = .ok (.iconst 1, 1) := by decide +kernel
theorem dX0_differingBars_41 : decode cX0_differingBars 41 = .ok (.iload_n 3, 1) := by decide +kernel
theorem dX0_differingBars_42 : decode cX0_differingBars 42 = .ok (.ishl, 1) := by decide +kernel
theorem dX0_differingBars_43 : decode cX0_differingBars 43 = .ok (.ior, 1) := by decide +kernel
theorem dX0_differingBars_44 : decode cX0_differingBars 44 = .ok (.istore_n 2, 1) := by decide +kernel
theorem dX0_differingBars_45 : decode cX0_differingBars 45 = .ok (.iinc 3 1, 3) := by decide +kernel
theorem dX0_differingBars_48 : decode cX0_differingBars 48 = .ok (.goto (-44), 3) := by decide +kernel
theorem dX0_differingBars_51 : decode cX0_differingBars 51 = .ok (.iload_n 2, 1) := by decide +kernel
theorem dX0_differingBars_52 : decode cX0_differingBars 52 = .ok (.ireturn, 1) := by decide +kernel
theorem dX1_init_0 : decode cX1_init 0 = .ok (.aload_n 0, 1) := by decide +kernel
theorem dX1_init_1 : decode cX1_init 1 = .ok (.invokespecial 3, 3) := by decide +kernel
theorem dX1_init_4 : decode cX1_init 4 = .ok (.aload_n 0, 1) := by decide +kernel
theorem dX1_init_5 : decode cX1_init 5 = .ok (.iconst 0, 1) := by decide +kernel
theorem dX1_init_6 : decode cX1_init 6 = .ok (.putfield 9, 3) := by decide +kernel
theorem dX1_init_9 : decode cX1_init 9 = .ok (.aload_n 0, 1) := by decide +kernel
theorem dX1_init_10 : decode cX1_init 10 = .ok (.bipush 12, 2) := by decide +kernel
theorem dX1_init_12 : decode cX1_init 12 = .ok (.newarray .int, 2) := by decide +kernel
theorem dX1_init_14 : decode cX1_init 14 = .ok (.putfield 15, 3) := by decide +kernel
theorem dX1_init_17 : decode cX1_init 17 = .ok (.aload_n 0, 1) := by decide +kernel
theorem dX1_init_18 : decode cX1_init 18 = .ok (.bipush 12, 2) := by decide +kernel
theorem dX1_init_20 : decode cX1_init 20 = .ok (.newarray .int, 2) := by decide +kernel
theorem dX1_init_22 : decode cX1_init 22 = .ok (.putfield 19, 3) := by decide +kernel
theorem dX1_init_25 : decode cX1_init 25 = .ok (.return_, 1) := by decide +kernel
theorem dX1_tone_0 : decode cX1_tone 0 = .ok (.iload_n 1, 1) := by decide +kernel
theorem dX1_tone_1 : decode cX1_tone 1 = .ok (.ifCond .ne 10, 3) := by decide +kernel
theorem dX1_tone_4 : decode cX1_tone 4 = .ok (.aload_n 0, 1) := by decide +kernel
theorem dX1_tone_5 : decode cX1_tone 5 = .ok (.getfield 15, 3) := by decide +kernel
theorem dX1_tone_8 : decode cX1_tone 8 = .ok (.goto 7, 3) := by decide +kernel
theorem dX1_tone_11 : decode cX1_tone 11 = .ok (.aload_n 0, 1) := by decide +kernel
theorem dX1_tone_12 : decode cX1_tone 12 = .ok (.getfield 19, 3) := by decide +kernel
theorem dX1_tone_15 : decode cX1_tone 15 = .ok (.astore_n 3, 1) := by decide +kernel
theorem dX1_tone_16 : decode cX1_tone 16 = .ok (.iload_n 2, 1) := by decide +kernel
theorem dX1_tone_17 : decode cX1_tone 17 = .ok (.ifCond .lt 15, 3) := by decide +kernel
theorem dX1_tone_20 : decode cX1_tone 20 = .ok (.iload_n 2, 1) := by decide +kernel
theorem dX1_tone_21 : decode cX1_tone 21 = .ok (.aload_n 3, 1) := by decide +kernel
theorem dX1_tone_22 : decode cX1_tone 22 = .ok (.arraylength, 1) := by decide +kernel
theorem dX1_tone_23 : decode cX1_tone 23 = .ok (.if_icmp .ge 9, 3) := by decide +kernel
theorem dX1_tone_26 : decode cX1_tone 26 = .ok (.aload_n 3, 1) := by decide +kernel
theorem dX1_tone_27 : decode cX1_tone 27 = .ok (.iload_n 2, 1) := by decide +kernel
theorem dX1_tone_28 : decode cX1_tone 28 = .ok (.iaload, 1) := by decide +kernel
theorem dX1_tone_29 : decode cX1_tone 29 = .ok (.goto 4, 3) := by decide +kernel
theorem dX1_tone_32 : decode cX1_tone 32 = .ok (.iconst 0, 1) := by decide +kernel
theorem dX1_tone_33 : decode cX1_tone 33 = .ok (.ireturn, 1) := by decide +kernel
theorem dX1_setTone_0 : decode cX1_setTone 0 = .ok (.iload_n 1, 1) := by decide +kernel
theorem dX1_setTone_1 : decode cX1_setTone 1 = .ok (.ifCond .ne 10, 3) := by decide +kernel
theorem dX1_setTone_4 : decode cX1_setTone 4 = .ok (.aload_n 0, 1) := by decide +kernel
theorem dX1_setTone_5 : decode cX1_setTone 5 = .ok (.getfield 15, 3) := by decide +kernel
theorem dX1_setTone_8 : decode cX1_setTone 8 = .ok (.goto 7, 3) := by decide +kernel
theorem dX1_setTone_11 : decode cX1_setTone 11 = .ok (.aload_n 0, 1) := by decide +kernel
theorem dX1_setTone_12 : decode cX1_setTone 12 = .ok (.getfield 19, 3) := by decide +kernel
theorem dX1_setTone_15 : decode cX1_setTone 15 = .ok (.astore 4, 2) := by decide +kernel
theorem dX1_setTone_17 : decode cX1_setTone 17 = .ok (.iload_n 2, 1) := by decide +kernel
theorem dX1_setTone_18 : decode cX1_setTone 18 = .ok (.ifCond .lt 15, 3) := by decide +kernel
theorem dX1_setTone_21 : decode cX1_setTone 21 = .ok (.iload_n 2, 1) := by decide +kernel
theorem dX1_setTone_22 : decode cX1_setTone 22 = .ok (.aload 4, 2) := by decide +kernel
theorem dX1_setTone_24 : decode cX1_setTone 24 = .ok (.arraylength, 1) := by decide +kernel
theorem dX1_setTone_25 : decode cX1_setTone 25 = .ok (.if_icmp .ge 8, 3) := by decide +kernel
theorem dX1_setTone_28 : decode cX1_setTone 28 = .ok (.aload 4, 2) := by decide +kernel
theorem dX1_setTone_30 : decode cX1_setTone 30 = .ok (.iload_n 2, 1) := by decide +kernel
theorem dX1_setTone_31 : decode cX1_setTone 31 = .ok (.iload_n 3, 1) := by decide +kernel
theorem dX1_setTone_32 : decode cX1_setTone 32 = .ok (.iastore, 1) := by decide +kernel
theorem dX1_setTone_33 : decode cX1_setTone 33 = .ok (.return_, 1) := by decide +kernel
set_option maxRecDepth 20000 in
theorem ggX1_fill_X1_setTone : GoodIn wsX1_fill wsX1_setTone := goodIn_r _ [6, 7, 8, 9, 10, 11] (by decide +kernel) (by decide +kernel)
set_option maxRecDepth 20000 in
theorem gX1_fill_X1_setTone : GoodIn wsX1_fill (wsV RX1 22 RX1 yX1_setTone wsX1_setTone) := goodIn_app (goodIn_of _ (by decide +kernel)) ggX1_fill_X1_setTone
theorem dX1_fill_0 : decode cX1_fill 0 = .ok (.aload_n 0, 1) := by decide +kernel
theorem dX1_fill_1 : decode cX1_fill 1 = .ok (.iload_n 1, 1) := by decide +kernel
theorem dX1_fill_2 : decode cX1_fill 2 = .ok (.putfield 9, 3) := by decide +kernel
theorem dX1_fill_5 : decode cX1_fill 5 = .ok (.iconst 0, 1) := by decide +kernel
theorem dX1_fill_6 : decode cX1_fill 6 = .ok (.istore_n 3, 1) := by decide +kernel
theorem dX1_fill_7 : decode cX1_fill 7 = .ok (.iload_n 3, 1) := by decide +kernel
theorem dX1_fill_8 : decode cX1_fill 8 = .ok (.iload_n 1, 1) := by decide +kernel
theorem dX1_fill_9 : decode cX1_fill 9 = .ok (.if_icmp .ge 23, 3) := by decide +kernel
theorem dX1_fill_12 : decode cX1_fill 12 = .ok (.aload_n 0, 1) := by decide +kernel
theorem dX1_fill_13 : decode cX1_fill 13 = .ok (.iconst 0, 1) := by decide +kernel
theorem dX1_fill_14 : decode cX1_fill 14 = .ok (.iload_n 3, 1) := by decide +kernel
theorem dX1_fill_15 : decode cX1_fill 15 = .ok (.iload_n 2, 1) := by decide +kernel
theorem dX1_fill_16 : decode cX1_fill 16 = .ok (.invokevirtual 22, 3) := by decide +kernel
theorem dX1_fill_19 : decode cX1_fill 19 = .ok (.aload_n 0, 1) := by decide +kernel
theorem dX1_fill_20 : decode cX1_fill 20 = .ok (.iconst 1, 1) := by decide +kernel
theorem dX1_fill_21 : decode cX1_fill 21 = .ok (.iload_n 3, 1) := by decide +kernel
theorem dX1_fill_22 : decode cX1_fill 22 = .ok (.iload_n 2, 1) := by decide +kernel
theorem dX1_fill_23 : decode cX1_fill 23 = .ok (.invokevirtual 22, 3) := by decide +kernel
theorem dX1_fill_26 : decode cX1_fill 26 = .ok (.iinc 3 1, 3) := by decide +kernel
theorem dX1_fill_29 : decode cX1_fill 29 = .ok (.goto (-22), 3) := by decide +kernel
theorem dX1_fill_32 : decode cX1_fill 32 = .ok (.return_, 1) := by decide +kernel
set_option maxRecDepth 20000 in
theorem ggX1_takeAll_X1_takeBar : GoodIn wsX1_takeAll wsX1_takeBar := goodIn_r _ [6, 7, 8, 9, 5, 10, 11, 12, 13, 14, 15, 16, 17, 18, 19] (by decide +kernel) (by decide +kernel)
set_option maxRecDepth 20000 in
theorem gX1_takeAll_X1_takeBar : GoodIn wsX1_takeAll (wsV RX1 26 RX1 yX1_takeBar wsX1_takeBar) := goodIn_app (goodIn_of _ (by decide +kernel)) ggX1_takeAll_X1_takeBar
theorem dX1_takeAll_0 : decode cX1_takeAll 0 = .ok (.aload_n 0, 1) := by decide +kernel
theorem dX1_takeAll_1 : decode cX1_takeAll 1 = .ok (.aload_n 1, 1) := by decide +kernel
theorem dX1_takeAll_2 : decode cX1_takeAll 2 = .ok (.getfield 9, 3) := by decide +kernel
theorem dX1_takeAll_5 : decode cX1_takeAll 5 = .ok (.putfield 9, 3) := by decide +kernel
theorem dX1_takeAll_8 : decode cX1_takeAll 8 = .ok (.iconst 0, 1) := by decide +kernel
theorem dX1_takeAll_9 : decode cX1_takeAll 9 = .ok (.istore_n 2, 1) := by decide +kernel
theorem dX1_takeAll_10 : decode cX1_takeAll 10 = .ok (.iload_n 2, 1) := by decide +kernel
theorem dX1_takeAll_11 : decode cX1_takeAll 11 = .ok (.aload_n 1, 1) := by decide +kernel
theorem dX1_takeAll_12 : decode cX1_takeAll 12 = .ok (.getfield 9, 3) := by decide +kernel
theorem dX1_takeAll_15 : decode cX1_takeAll 15 = .ok (.if_icmp .ge 15, 3) := by decide +kernel
theorem dX1_takeAll_18 : decode cX1_takeAll 18 = .ok (.aload_n 0, 1) := by decide +kernel
theorem dX1_takeAll_19 : decode cX1_takeAll 19 = .ok (.aload_n 1, 1) := by decide +kernel
theorem dX1_takeAll_20 : decode cX1_takeAll 20 = .ok (.iload_n 2, 1) := by decide +kernel
theorem dX1_takeAll_21 : decode cX1_takeAll 21 = .ok (.invokevirtual 26, 3) := by decide +kernel
theorem dX1_takeAll_24 : decode cX1_takeAll 24 = .ok (.iinc 2 1, 3) := by decide +kernel
theorem dX1_takeAll_27 : decode cX1_takeAll 27 = .ok (.goto (-17), 3) := by decide +kernel
theorem dX1_takeAll_30 : decode cX1_takeAll 30 = .ok (.return_, 1) := by decide +kernel
set_option maxRecDepth 20000 in
theorem ggX1_takeBar_X1_tone : GoodIn wsX1_takeBar wsX1_tone := goodIn_r _ [5, 6, 7, 12, 13, 14] (by decide +kernel) (by decide +kernel)
set_option maxRecDepth 20000 in
theorem gX1_takeBar_X1_tone : GoodIn wsX1_takeBar (wsV RX1 30 RX1 yX1_tone wsX1_tone) := goodIn_app (goodIn_of _ (by decide +kernel)) ggX1_takeBar_X1_tone
set_option maxRecDepth 20000 in
theorem ggX1_takeBar_X1_setTone : GoodIn wsX1_takeBar wsX1_setTone := goodIn_r _ [11, 6, 7, 12, 13, 14] (by decide +kernel) (by decide +kernel)
set_option maxRecDepth 20000 in
theorem gX1_takeBar_X1_setTone : GoodIn wsX1_takeBar (wsV RX1 22 RX1 yX1_setTone wsX1_setTone) := goodIn_app (goodIn_of _ (by decide +kernel)) ggX1_takeBar_X1_setTone
theorem dX1_takeBar_0 : decode cX1_takeBar 0 = .ok (.aload_n 0, 1) := by decide +kernel
theorem dX1_takeBar_1 : decode cX1_takeBar 1 = .ok (.iconst 0, 1) := by decide +kernel
theorem dX1_takeBar_2 : decode cX1_takeBar 2 = .ok (.iload_n 2, 1) := by decide +kernel
theorem dX1_takeBar_3 : decode cX1_takeBar 3 = .ok (.aload_n 1, 1) := by decide +kernel
theorem dX1_takeBar_4 : decode cX1_takeBar 4 = .ok (.iconst 0, 1) := by decide +kernel
theorem dX1_takeBar_5 : decode cX1_takeBar 5 = .ok (.iload_n 2, 1) := by decide +kernel
theorem dX1_takeBar_6 : decode cX1_takeBar 6 = .ok (.invokevirtual 30, 3) := by decide +kernel
theorem dX1_takeBar_9 : decode cX1_takeBar 9 = .ok (.invokevirtual 22, 3) := by decide +kernel
theorem dX1_takeBar_12 : decode cX1_takeBar 12 = .ok (.aload_n 0, 1) := by decide +kernel
theorem dX1_takeBar_13 : decode cX1_takeBar 13 = .ok (.iconst 1, 1) := by decide +kernel
theorem dX1_takeBar_14 : decode cX1_takeBar 14 = .ok (.iload_n 2, 1) := by decide +kernel
theorem dX1_takeBar_15 : decode cX1_takeBar 15 = .ok (.aload_n 1, 1) := by decide +kernel
theorem dX1_takeBar_16 : decode cX1_takeBar 16 = .ok (.iconst 1, 1) := by decide +kernel
theorem dX1_takeBar_17 : decode cX1_takeBar 17 = .ok (.iload_n 2, 1) := by decide +kernel
theorem dX1_takeBar_18 : decode cX1_takeBar 18 = .ok (.invokevirtual 30, 3) := by decide +kernel
theorem dX1_takeBar_21 : decode cX1_takeBar 21 = .ok (.invokevirtual 22, 3) := by decide +kernel
theorem dX1_takeBar_24 : decode cX1_takeBar 24 = .ok (.return_, 1) := by decide +kernel
set_option maxRecDepth 20000 in
theorem ggX1_sameBar_X1_tone : GoodIn wsX1_sameBar wsX1_tone := goodIn_r _ [5, 6, 7, 8, 9, 10] (by decide +kernel) (by decide +kernel)
set_option maxRecDepth 20000 in
theorem gX1_sameBar_X1_tone : GoodIn wsX1_sameBar (wsV RX1 30 RX1 yX1_tone wsX1_tone) := goodIn_app (goodIn_of _ (by decide +kernel)) ggX1_sameBar_X1_tone
theorem dX1_sameBar_0 : decode cX1_sameBar 0 = .ok (.aload_n 0, 1) := by decide +kernel
theorem dX1_sameBar_1 : decode cX1_sameBar 1 = .ok (.iconst 0, 1) := by decide +kernel
theorem dX1_sameBar_2 : decode cX1_sameBar 2 = .ok (.iload_n 2, 1) := by decide +kernel
theorem dX1_sameBar_3 : decode cX1_sameBar 3 = .ok (.invokevirtual 30, 3) := by decide +kernel
theorem dX1_sameBar_6 : decode cX1_sameBar 6 = .ok (.aload_n 1, 1) := by decide +kernel
theorem dX1_sameBar_7 : decode cX1_sameBar 7 = .ok (.iconst 0, 1) := by decide +kernel
theorem dX1_sameBar_8 : decode cX1_sameBar 8 = .ok (.iload_n 2, 1) := by decide +kernel
theorem dX1_sameBar_9 : decode cX1_sameBar 9 = .ok (.invokevirtual 30, 3) := by decide +kernel
theorem dX1_sameBar_12 : decode cX1_sameBar 12 = .ok (.if_icmp .ne 22, 3) := by decide +kernel
theorem dX1_sameBar_15 : decode cX1_sameBar 15 = .ok (.aload_n 0, 1) := by decide +kernel
theorem dX1_sameBar_16 : decode cX1_sameBar 16 = .ok (.iconst 1, 1) := by decide +kernel
theorem dX1_sameBar_17 : decode cX1_sameBar 17 = .ok (.iload_n 2, 1) := by decide +kernel
theorem dX1_sameBar_18 : decode cX1_sameBar 18 = .ok (.invokevirtual 30, 3) := by decide +kernel
theorem dX1_sameBar_21 : decode cX1_sameBar 21 = .ok (.aload_n 1, 1) := by decide +kernel
theorem dX1_sameBar_22 : decode cX1_sameBar 22 = .ok (.iconst 1, 1) := by decide +kernel
theorem dX1_sameBar_23 : decode cX1_sameBar 23 = .ok (.iload_n 2, 1) := by decide +kernel
theorem dX1_sameBar_24 : decode cX1_sameBar 24 = .ok (.invokevirtual 30, 3) := by decide +kernel
theorem dX1_sameBar_27 : decode cX1_sameBar 27 = .ok (.if_icmp .ne 7, 3) := by decide +kernel
theorem dX1_sameBar_30 : decode cX1_sameBar 30 = .ok (.iconst 1, 1) := by decide +kernel
theorem dX1_sameBar_31 : decode cX1_sameBar 31 = .ok (.goto 4, 3) := by decide +kernel
theorem dX1_sameBar_34 : decode cX1_sameBar 34 = .ok (.iconst 0, 1) := by decide +kernel
theorem dX1_sameBar_35 : decode cX1_sameBar 35 = .ok (.ireturn, 1) := by decide +kernel
set_option maxRecDepth 20000 in
theorem ggX1_wayOf_X1_stepTo : GoodIn wsX1_wayOf wsX1_stepTo := goodIn_r _ [6, 7, 8, 9, 10, 11, 12, 13, 5, 14, 15, 16, 17, 18, 19] (by decide +kernel) (by decide +kernel)
set_option maxRecDepth 20000 in
theorem gX1_wayOf_X1_stepTo : GoodIn wsX1_wayOf (wsV RX1 34 RX1 yX1_stepTo wsX1_stepTo) := goodIn_app (goodIn_of _ (by decide +kernel)) ggX1_wayOf_X1_stepTo
theorem dX1_wayOf_0 : decode cX1_wayOf 0 = .ok (.iconst 0, 1) := by decide +kernel
theorem dX1_wayOf_1 : decode cX1_wayOf 1 = .ok (.istore_n 2, 1) := by decide +kernel
theorem dX1_wayOf_2 : decode cX1_wayOf 2 = .ok (.iconst 1, 1) := by decide +kernel
theorem dX1_wayOf_3 : decode cX1_wayOf 3 = .ok (.istore_n 3, 1) := by decide +kernel
theorem dX1_wayOf_4 : decode cX1_wayOf 4 = .ok (.iload_n 3, 1) := by decide +kernel
theorem dX1_wayOf_5 : decode cX1_wayOf 5 = .ok (.aload_n 0, 1) := by decide +kernel
theorem dX1_wayOf_6 : decode cX1_wayOf 6 = .ok (.getfield 9, 3) := by decide +kernel
theorem dX1_wayOf_9 : decode cX1_wayOf 9 = .ok (.if_icmp .ge 18, 3) := by decide +kernel
theorem dX1_wayOf_12 : decode cX1_wayOf 12 = .ok (.iload_n 2, 1) := by decide +kernel
theorem dX1_wayOf_13 : decode cX1_wayOf 13 = .ok (.aload_n 0, 1) := by decide +kernel
theorem dX1_wayOf_14 : decode cX1_wayOf 14 = .ok (.iload_n 1, 1) := by decide +kernel
theorem dX1_wayOf_15 : decode cX1_wayOf 15 = .ok (.iload_n 3, 1) := by decide +kernel
theorem dX1_wayOf_16 : decode cX1_wayOf 16 = .ok (.invokevirtual 34, 3) := by decide +kernel
theorem dX1_wayOf_19 : decode cX1_wayOf 19 = .ok (.iadd, 1) := by decide +kernel
theorem dX1_wayOf_20 : decode cX1_wayOf 20 = .ok (.istore_n 2, 1) := by decide +kernel
theorem dX1_wayOf_21 : decode cX1_wayOf 21 = .ok (.iinc 3 1, 3) := by decide +kernel
theorem dX1_wayOf_24 : decode cX1_wayOf 24 = .ok (.goto (-20), 3) := by decide +kernel
theorem dX1_wayOf_27 : decode cX1_wayOf 27 = .ok (.iload_n 2, 1) := by decide +kernel
theorem dX1_wayOf_28 : decode cX1_wayOf 28 = .ok (.ireturn, 1) := by decide +kernel
set_option maxRecDepth 20000 in
theorem ggX1_faultsOf_X1_isDiscord : GoodIn wsX1_faultsOf wsX1_isDiscord := goodIn_r _ [5, 6, 7, 8, 4, 9, 10, 11, 12, 13, 14, 15, 16, 17, 18, 19, 44, 45, 46] (by decide +kernel) (by decide +kernel)
set_option maxRecDepth 20000 in
theorem gX1_faultsOf_X1_isDiscord : GoodIn wsX1_faultsOf (wsV RX1 37 RX1 yX1_isDiscord wsX1_isDiscord) := goodIn_app (goodIn_of _ (by decide +kernel)) ggX1_faultsOf_X1_isDiscord
set_option maxRecDepth 20000 in
theorem ggX1_faultsOf_X1_isParallel : GoodIn wsX1_faultsOf wsX1_isParallel := goodIn_r _ [23, 24, 25, 26, 4, 27, 10, 11, 12, 13, 14, 15, 16, 17, 18, 19, 6, 7, 8, 9, 28, 29, 30, 44, 45, 46] (by decide +kernel) (by decide +kernel)
set_option maxRecDepth 20000 in
theorem gX1_faultsOf_X1_isParallel : GoodIn wsX1_faultsOf (wsV RX1 41 RX1 yX1_isParallel wsX1_isParallel) := goodIn_app (goodIn_of _ (by decide +kernel)) ggX1_faultsOf_X1_isParallel
set_option maxRecDepth 20000 in
theorem ggX1_faultsOf_X1_leapsTo : GoodIn wsX1_faultsOf wsX1_leapsTo := goodIn_r _ [34, 24, 25, 26, 4, 27, 10, 11, 12, 13, 14, 15, 16, 17, 18, 19, 44, 45, 46] (by decide +kernel) (by decide +kernel)
set_option maxRecDepth 20000 in
theorem gX1_faultsOf_X1_leapsTo : GoodIn wsX1_faultsOf (wsV RX1 44 RX1 yX1_leapsTo wsX1_leapsTo) := goodIn_app (goodIn_of _ (by decide +kernel)) ggX1_faultsOf_X1_leapsTo
set_option maxRecDepth 20000 in
theorem ggX1_faultsOf_X1_tone : GoodIn wsX1_faultsOf wsX1_tone := goodIn_r _ [17, 18, 19, 44, 45, 46] (by decide +kernel) (by decide +kernel)
set_option maxRecDepth 20000 in
theorem gX1_faultsOf_X1_tone : GoodIn wsX1_faultsOf (wsV RX1 30 RX1 yX1_tone wsX1_tone) := goodIn_app (goodIn_of _ (by decide +kernel)) ggX1_faultsOf_X1_tone
set_option maxRecDepth 20000 in
theorem ggX1_faultsOf_X1_badEndsAt : GoodIn wsX1_faultsOf wsX1_badEndsAt := goodIn_r _ [38, 39, 6, 7, 8, 4, 9, 10, 11, 12, 13, 14, 15, 16, 17, 18, 19, 28, 29, 30, 44, 45, 46] (by decide +kernel) (by decide +kernel)
set_option maxRecDepth 20000 in
theorem gX1_faultsOf_X1_badEndsAt : GoodIn wsX1_faultsOf (wsV RX1 48 RX1 yX1_badEndsAt wsX1_badEndsAt) := goodIn_app (goodIn_of _ (by decide +kernel)) ggX1_faultsOf_X1_badEndsAt
set_option maxRecDepth 20000 in
theorem ggX1_faultsOf_X1_isStanding : GoodIn wsX1_faultsOf wsX1_isStanding := goodIn_r _ [43, 24, 25, 26, 4, 27, 10, 11, 12, 13, 14, 15, 16, 17, 18, 19, 44, 45, 46] (by decide +kernel) (by decide +kernel)
set_option maxRecDepth 20000 in
theorem gX1_faultsOf_X1_isStanding : GoodIn wsX1_faultsOf (wsV RX1 51 RX1 yX1_isStanding wsX1_isStanding) := goodIn_app (goodIn_of _ (by decide +kernel)) ggX1_faultsOf_X1_isStanding
theorem dX1_faultsOf_0 : decode cX1_faultsOf 0 = .ok (.iload_n 1, 1) := by decide +kernel
theorem dX1_faultsOf_1 : decode cX1_faultsOf 1 = .ok (.tableswitch 114 0 5 #[39, 53, 67, 73, 94, 100], 39) := by decide +kernel
theorem dX1_faultsOf_40 : decode cX1_faultsOf 40 = .ok (.aload_n 0, 1) := by decide +kernel
theorem dX1_faultsOf_41 : decode cX1_faultsOf 41 = .ok (.iload_n 2, 1) := by decide +kernel
theorem dX1_faultsOf_42 : decode cX1_faultsOf 42 = .ok (.invokevirtual 37, 3) := by decide +kernel
theorem dX1_faultsOf_45 : decode cX1_faultsOf 45 = .ok (.ifCond .eq 7, 3) := by decide +kernel
theorem dX1_faultsOf_48 : decode cX1_faultsOf 48 = .ok (.iconst 1, 1) := by decide +kernel
theorem dX1_faultsOf_49 : decode cX1_faultsOf 49 = .ok (.goto 4, 3) := by decide +kernel
theorem dX1_faultsOf_52 : decode cX1_faultsOf 52 = .ok (.iconst 0, 1) := by decide +kernel
theorem dX1_faultsOf_53 : decode cX1_faultsOf 53 = .ok (.ireturn, 1) := by decide +kernel
theorem dX1_faultsOf_54 : decode cX1_faultsOf 54 = .ok (.aload_n 0, 1) := by decide +kernel
theorem dX1_faultsOf_55 : decode cX1_faultsOf 55 = .ok (.iload_n 2, 1) := by decide +kernel
theorem dX1_faultsOf_56 : decode cX1_faultsOf 56 = .ok (.invokevirtual 41, 3) := by decide +kernel
theorem dX1_faultsOf_59 : decode cX1_faultsOf 59 = .ok (.ifCond .eq 7, 3) := by decide +kernel
theorem dX1_faultsOf_62 : decode cX1_faultsOf 62 = .ok (.iconst 1, 1) := by decide +kernel
theorem dX1_faultsOf_63 : decode cX1_faultsOf 63 = .ok (.goto 4, 3) := by decide +kernel
theorem dX1_faultsOf_66 : decode cX1_faultsOf 66 = .ok (.iconst 0, 1) := by decide +kernel
theorem dX1_faultsOf_67 : decode cX1_faultsOf 67 = .ok (.ireturn, 1) := by decide +kernel
theorem dX1_faultsOf_68 : decode cX1_faultsOf 68 = .ok (.aload_n 0, 1) := by decide +kernel
theorem dX1_faultsOf_69 : decode cX1_faultsOf 69 = .ok (.iload_n 2, 1) := by decide +kernel
theorem dX1_faultsOf_70 : decode cX1_faultsOf 70 = .ok (.invokevirtual 44, 3) := by decide +kernel
theorem dX1_faultsOf_73 : decode cX1_faultsOf 73 = .ok (.ireturn, 1) := by decide +kernel
theorem dX1_faultsOf_74 : decode cX1_faultsOf 74 = .ok (.aload_n 0, 1) := by decide +kernel
theorem dX1_faultsOf_75 : decode cX1_faultsOf 75 = .ok (.iconst 0, 1) := by decide +kernel
theorem dX1_faultsOf_76 : decode cX1_faultsOf 76 = .ok (.iload_n 2, 1) := by decide +kernel
theorem dX1_faultsOf_77 : decode cX1_faultsOf 77 = .ok (.invokevirtual 30, 3) := by decide +kernel
theorem dX1_faultsOf_80 : decode cX1_faultsOf 80 = .ok (.aload_n 0, 1) := by decide +kernel
theorem dX1_faultsOf_81 : decode cX1_faultsOf 81 = .ok (.iconst 1, 1) := by decide +kernel
theorem dX1_faultsOf_82 : decode cX1_faultsOf 82 = .ok (.iload_n 2, 1) := by decide +kernel
theorem dX1_faultsOf_83 : decode cX1_faultsOf 83 = .ok (.invokevirtual 30, 3) := by decide +kernel
theorem dX1_faultsOf_86 : decode cX1_faultsOf 86 = .ok (.if_icmp .ge 7, 3) := by decide +kernel
theorem dX1_faultsOf_89 : decode cX1_faultsOf 89 = .ok (.iconst 1, 1) := by decide +kernel
theorem dX1_faultsOf_90 : decode cX1_faultsOf 90 = .ok (.goto 4, 3) := by decide +kernel
theorem dX1_faultsOf_93 : decode cX1_faultsOf 93 = .ok (.iconst 0, 1) := by decide +kernel
theorem dX1_faultsOf_94 : decode cX1_faultsOf 94 = .ok (.ireturn, 1) := by decide +kernel
theorem dX1_faultsOf_95 : decode cX1_faultsOf 95 = .ok (.aload_n 0, 1) := by decide +kernel
theorem dX1_faultsOf_96 : decode cX1_faultsOf 96 = .ok (.iload_n 2, 1) := by decide +kernel
theorem dX1_faultsOf_97 : decode cX1_faultsOf 97 = .ok (.invokevirtual 48, 3) := by decide +kernel
theorem dX1_faultsOf_100 : decode cX1_faultsOf 100 = .ok (.ireturn, 1) := by decide +kernel
theorem dX1_faultsOf_101 : decode cX1_faultsOf 101 = .ok (.aload_n 0, 1) := by decide +kernel
theorem dX1_faultsOf_102 : decode cX1_faultsOf 102 = .ok (.iload_n 2, 1) := by decide +kernel
theorem dX1_faultsOf_103 : decode cX1_faultsOf 103 = .ok (.invokevirtual 51, 3) := by decide +kernel
theorem dX1_faultsOf_106 : decode cX1_faultsOf 106 = .ok (.ifCond .eq 7, 3) := by decide +kernel
theorem dX1_faultsOf_109 : decode cX1_faultsOf 109 = .ok (.iconst 1, 1) := by decide +kernel
theorem dX1_faultsOf_110 : decode cX1_faultsOf 110 = .ok (.goto 4, 3) := by decide +kernel
theorem dX1_faultsOf_113 : decode cX1_faultsOf 113 = .ok (.iconst 0, 1) := by decide +kernel
theorem dX1_faultsOf_114 : decode cX1_faultsOf 114 = .ok (.ireturn, 1) := by decide +kernel
theorem dX1_faultsOf_115 : decode cX1_faultsOf 115 = .ok (.iconst 0, 1) := by decide +kernel
theorem dX1_faultsOf_116 : decode cX1_faultsOf 116 = .ok (.ireturn, 1) := by decide +kernel
set_option maxRecDepth 20000 in
theorem ggX1_interval_X1_tone : GoodIn wsX1_interval wsX1_tone := goodIn_r _ [9, 10, 11, 12, 13, 14] (by decide +kernel) (by decide +kernel)
set_option maxRecDepth 20000 in
theorem gX1_interval_X1_tone : GoodIn wsX1_interval (wsV RX1 30 RX1 yX1_tone wsX1_tone) := goodIn_app (goodIn_of _ (by decide +kernel)) ggX1_interval_X1_tone
theorem dX1_interval_0 : decode cX1_interval 0 = .ok (.aload_n 0, 1) := by decide +kernel
theorem dX1_interval_1 : decode cX1_interval 1 = .ok (.iconst 0, 1) := by decide +kernel
theorem dX1_interval_2 : decode cX1_interval 2 = .ok (.iload_n 1, 1) := by decide +kernel
theorem dX1_interval_3 : decode cX1_interval 3 = .ok (.invokevirtual 30, 3) := by decide +kernel
theorem dX1_interval_6 : decode cX1_interval 6 = .ok (.aload_n 0, 1) := by decide +kernel
theorem dX1_interval_7 : decode cX1_interval 7 = .ok (.iconst 1, 1) := by decide +kernel
theorem dX1_interval_8 : decode cX1_interval 8 = .ok (.iload_n 1, 1) := by decide +kernel
theorem dX1_interval_9 : decode cX1_interval 9 = .ok (.invokevirtual 30, 3) := by decide +kernel
theorem dX1_interval_12 : decode cX1_interval 12 = .ok (.isub, 1) := by decide +kernel
theorem dX1_interval_13 : decode cX1_interval 13 = .ok (.invokestatic 54, 3) := by decide +kernel
theorem dX1_interval_16 : decode cX1_interval 16 = .ok (.bipush 12, 2) := by decide +kernel
theorem dX1_interval_18 : decode cX1_interval 18 = .ok (.irem, 1) := by decide +kernel
theorem dX1_interval_19 : decode cX1_interval 19 = .ok (.ireturn, 1) := by decide +kernel
theorem dX1_isPerfect_0 : decode cX1_isPerfect 0 = .ok (.iload_n 0, 1) := by decide +kernel
theorem dX1_isPerfect_1 : decode cX1_isPerfect 1 = .ok (.ifCond .eq 9, 3) := by decide +kernel
theorem dX1_isPerfect_4 : decode cX1_isPerfect 4 = .ok (.iload_n 0, 1) := by decide +kernel
theorem dX1_isPerfect_5 : decode cX1_isPerfect 5 = .ok (.bipush 7, 2) := by decide +kernel
theorem dX1_isPerfect_7 : decode cX1_isPerfect 7 = .ok (.if_icmp .ne 7, 3) := by decide +kernel
theorem dX1_isPerfect_10 : decode cX1_isPerfect 10 = .ok (.iconst 1, 1) := by decide +kernel
theorem dX1_isPerfect_11 : decode cX1_isPerfect 11 = .ok (.goto 4, 3) := by decide +kernel
theorem dX1_isPerfect_14 : decode cX1_isPerfect 14 = .ok (.iconst 0, 1) := by decide +kernel
theorem dX1_isPerfect_15 : decode cX1_isPerfect 15 = .ok (.ireturn, 1) := by decide +kernel
set_option maxRecDepth 20000 in
theorem ggX1_stepTo_X1_tone : GoodIn wsX1_stepTo wsX1_tone := goodIn_r _ [9, 10, 11, 12, 13, 14] (by decide +kernel) (by decide +kernel)
set_option maxRecDepth 20000 in
theorem gX1_stepTo_X1_tone : GoodIn wsX1_stepTo (wsV RX1 30 RX1 yX1_tone wsX1_tone) := goodIn_app (goodIn_of _ (by decide +kernel)) ggX1_stepTo_X1_tone
theorem dX1_stepTo_0 : decode cX1_stepTo 0 = .ok (.aload_n 0, 1) := by decide +kernel
theorem dX1_stepTo_1 : decode cX1_stepTo 1 = .ok (.iload_n 1, 1) := by decide +kernel
theorem dX1_stepTo_2 : decode cX1_stepTo 2 = .ok (.iload_n 2, 1) := by decide +kernel
theorem dX1_stepTo_3 : decode cX1_stepTo 3 = .ok (.invokevirtual 30, 3) := by decide +kernel
theorem dX1_stepTo_6 : decode cX1_stepTo 6 = .ok (.aload_n 0, 1) := by decide +kernel
theorem dX1_stepTo_7 : decode cX1_stepTo 7 = .ok (.iload_n 1, 1) := by decide +kernel
theorem dX1_stepTo_8 : decode cX1_stepTo 8 = .ok (.iload_n 2, 1) := by decide +kernel
theorem dX1_stepTo_9 : decode cX1_stepTo 9 = .ok (.iconst 1, 1) := by decide +kernel
theorem dX1_stepTo_10 : decode cX1_stepTo 10 = .ok (.isub, 1) := by decide +kernel
theorem dX1_stepTo_11 : decode cX1_stepTo 11 = .ok (.invokevirtual 30, 3) := by decide +kernel
theorem dX1_stepTo_14 : decode cX1_stepTo 14 = .ok (.isub, 1) := by decide +kernel
theorem dX1_stepTo_15 : decode cX1_stepTo 15 = .ok (.invokestatic 54, 3) := by decide +kernel
theorem dX1_stepTo_18 : decode cX1_stepTo 18 = .ok (.ireturn, 1) := by decide +kernel
set_option maxRecDepth 20000 in
theorem ggX1_isDiscord_X1_interval : GoodIn wsX1_isDiscord wsX1_interval := goodIn_r _ [5, 6, 7, 8, 9, 10, 11, 12, 4, 13, 14, 15, 16, 17, 18] (by decide +kernel) (by decide +kernel)
set_option maxRecDepth 20000 in
theorem gX1_isDiscord_X1_interval : GoodIn wsX1_isDiscord (wsV RX1 59 RX1 yX1_interval wsX1_interval) := goodIn_app (goodIn_of _ (by decide +kernel)) ggX1_isDiscord_X1_interval
theorem dX1_isDiscord_0 : decode cX1_isDiscord 0 = .ok (.aload_n 0, 1) := by decide +kernel
theorem dX1_isDiscord_1 : decode cX1_isDiscord 1 = .ok (.iload_n 1, 1) := by decide +kernel
theorem dX1_isDiscord_2 : decode cX1_isDiscord 2 = .ok (.invokevirtual 59, 3) := by decide +kernel
theorem dX1_isDiscord_5 : decode cX1_isDiscord 5 = .ok (.tableswitch 61 1 11 #[59, 59, 61, 61, 59, 59, 61, 61, 61, 59, 59], 59) := by decide +kernel
theorem dX1_isDiscord_64 : decode cX1_isDiscord 64 = .ok (.iconst 1, 1) := by decide +kernel
theorem dX1_isDiscord_65 : decode cX1_isDiscord 65 = .ok (.ireturn, 1) := by decide +kernel
theorem dX1_isDiscord_66 : decode cX1_isDiscord 66 = .ok (.iconst 0, 1) := by decide +kernel
theorem dX1_isDiscord_67 : decode cX1_isDiscord 67 = .ok (.ireturn, 1) := by decide +kernel
set_option maxRecDepth 20000 in
theorem ggX1_isParallel_X1_stepTo : GoodIn wsX1_isParallel wsX1_stepTo := goodIn_r _ [5, 6, 7, 8, 9, 10, 11, 12, 4, 13, 14, 15, 23, 24, 25] (by decide +kernel) (by decide +kernel)
set_option maxRecDepth 20000 in
theorem gX1_isParallel_X1_stepTo : GoodIn wsX1_isParallel (wsV RX1 34 RX1 yX1_stepTo wsX1_stepTo) := goodIn_app (goodIn_of _ (by decide +kernel)) ggX1_isParallel_X1_stepTo
set_option maxRecDepth 20000 in
theorem ggX1_isParallel_X1_interval : GoodIn wsX1_isParallel wsX1_interval := goodIn_r _ [19, 6, 7, 8, 9, 10, 11, 12, 4, 13, 14, 15, 23, 24, 25] (by decide +kernel) (by decide +kernel)
set_option maxRecDepth 20000 in
theorem gX1_isParallel_X1_interval : GoodIn wsX1_isParallel (wsV RX1 59 RX1 yX1_interval wsX1_interval) := goodIn_app (goodIn_of _ (by decide +kernel)) ggX1_isParallel_X1_interval
set_option maxRecDepth 20000 in
theorem ggX1_isParallel_X1_isPerfect : GoodIn wsX1_isParallel wsX1_isPerfect := goodIn_r _ [22] (by decide +kernel) (by decide +kernel)
set_option maxRecDepth 20000 in
theorem gX1_isParallel_X1_isPerfect : GoodIn wsX1_isParallel (va_wsS RX1 62 yX1_isPerfect wsX1_isPerfect) := goodIn_app (goodIn_of _ (by decide +kernel)) ggX1_isParallel_X1_isPerfect
theorem dX1_isParallel_0 : decode cX1_isParallel 0 = .ok (.iload_n 1, 1) := by decide +kernel
theorem dX1_isParallel_1 : decode cX1_isParallel 1 = .ok (.iconst 1, 1) := by decide +kernel
theorem dX1_isParallel_2 : decode cX1_isParallel 2 = .ok (.if_icmp .lt 51, 3) := by decide +kernel
theorem dX1_isParallel_5 : decode cX1_isParallel 5 = .ok (.aload_n 0, 1) := by decide +kernel
theorem dX1_isParallel_6 : decode cX1_isParallel 6 = .ok (.iconst 0, 1) := by decide +kernel
theorem dX1_isParallel_7 : decode cX1_isParallel 7 = .ok (.iload_n 1, 1) := by decide +kernel
theorem dX1_isParallel_8 : decode cX1_isParallel 8 = .ok (.invokevirtual 34, 3) := by decide +kernel
theorem dX1_isParallel_11 : decode cX1_isParallel 11 = .ok (.ifCond .eq 42, 3) := by decide +kernel
theorem dX1_isParallel_14 : decode cX1_isParallel 14 = .ok (.aload_n 0, 1) := by decide +kernel
theorem dX1_isParallel_15 : decode cX1_isParallel 15 = .ok (.iconst 1, 1) := by decide +kernel
theorem dX1_isParallel_16 : decode cX1_isParallel 16 = .ok (.iload_n 1, 1) := by decide +kernel
theorem dX1_isParallel_17 : decode cX1_isParallel 17 = .ok (.invokevirtual 34, 3) := by decide +kernel
theorem dX1_isParallel_20 : decode cX1_isParallel 20 = .ok (.ifCond .eq 33, 3) := by decide +kernel
theorem dX1_isParallel_23 : decode cX1_isParallel 23 = .ok (.aload_n 0, 1) := by decide +kernel
theorem dX1_isParallel_24 : decode cX1_isParallel 24 = .ok (.iload_n 1, 1) := by decide +kernel
theorem dX1_isParallel_25 : decode cX1_isParallel 25 = .ok (.invokevirtual 59, 3) := by decide +kernel
theorem dX1_isParallel_28 : decode cX1_isParallel 28 = .ok (.aload_n 0, 1) := by decide +kernel
theorem dX1_isParallel_29 : decode cX1_isParallel 29 = .ok (.iload_n 1, 1) := by decide +kernel
theorem dX1_isParallel_30 : decode cX1_isParallel 30 = .ok (.iconst 1, 1) := by decide +kernel
theorem dX1_isParallel_31 : decode cX1_isParallel 31 = .ok (.isub, 1) := by decide +kernel
theorem dX1_isParallel_32 : decode cX1_isParallel 32 = .ok (.invokevirtual 59, 3) := by decide +kernel
theorem dX1_isParallel_35 : decode cX1_isParallel 35 = .ok (.if_icmp .ne 18, 3) := by decide +kernel
theorem dX1_isParallel_38 : decode cX1_isParallel 38 = .ok (.aload_n 0, 1) := by decide +kernel
theorem dX1_isParallel_39 : decode cX1_isParallel 39 = .ok (.iload_n 1, 1) := by decide +kernel
theorem dX1_isParallel_40 : decode cX1_isParallel 40 = .ok (.invokevirtual 59, 3) := by decide +kernel
theorem dX1_isParallel_43 : decode cX1_isParallel 43 = .ok (.invokestatic 62, 3) := by decide +kernel
theorem dX1_isParallel_46 : decode cX1_isParallel 46 = .ok (.ifCond .eq 7, 3) := by decide +kernel
theorem dX1_isParallel_49 : decode cX1_isParallel 49 = .ok (.iconst 1, 1) := by decide +kernel
theorem dX1_isParallel_50 : decode cX1_isParallel 50 = .ok (.goto 4, 3) := by decide +kernel
theorem dX1_isParallel_53 : decode cX1_isParallel 53 = .ok (.iconst 0, 1) := by decide +kernel
theorem dX1_isParallel_54 : decode cX1_isParallel 54 = .ok (.ireturn, 1) := by decide +kernel
set_option maxRecDepth 20000 in
theorem ggX1_leapsTo_X1_stepTo : GoodIn wsX1_leapsTo wsX1_stepTo := goodIn_r _ [5, 6, 7, 8, 9, 10, 11, 12, 4, 13, 14, 15, 16, 17, 18] (by decide +kernel) (by decide +kernel)
set_option maxRecDepth 20000 in
theorem gX1_leapsTo_X1_stepTo : GoodIn wsX1_leapsTo (wsV RX1 34 RX1 yX1_stepTo wsX1_stepTo) := goodIn_app (goodIn_of _ (by decide +kernel)) ggX1_leapsTo_X1_stepTo
theorem dX1_leapsTo_0 : decode cX1_leapsTo 0 = .ok (.iload_n 1, 1) := by decide +kernel
theorem dX1_leapsTo_1 : decode cX1_leapsTo 1 = .ok (.iconst 1, 1) := by decide +kernel
theorem dX1_leapsTo_2 : decode cX1_leapsTo 2 = .ok (.if_icmp .ge 5, 3) := by decide +kernel
theorem dX1_leapsTo_5 : decode cX1_leapsTo 5 = .ok (.iconst 0, 1) := by decide +kernel
theorem dX1_leapsTo_6 : decode cX1_leapsTo 6 = .ok (.ireturn, 1) := by decide +kernel
theorem dX1_leapsTo_7 : decode cX1_leapsTo 7 = .ok (.aload_n 0, 1) := by decide +kernel
theorem dX1_leapsTo_8 : decode cX1_leapsTo 8 = .ok (.iconst 0, 1) := by decide +kernel
theorem dX1_leapsTo_9 : decode cX1_leapsTo 9 = .ok (.iload_n 1, 1) := by decide +kernel
theorem dX1_leapsTo_10 : decode cX1_leapsTo 10 = .ok (.invokevirtual 34, 3) := by decide +kernel
theorem dX1_leapsTo_13 : decode cX1_leapsTo 13 = .ok (.bipush 9, 2) := by decide +kernel
theorem dX1_leapsTo_15 : decode cX1_leapsTo 15 = .ok (.if_icmp .le 7, 3) := by decide +kernel
theorem dX1_leapsTo_18 : decode cX1_leapsTo 18 = .ok (.iconst 1, 1) := by decide +kernel
theorem dX1_leapsTo_19 : decode cX1_leapsTo 19 = .ok (.goto 4, 3) := by decide +kernel
theorem dX1_leapsTo_22 : decode cX1_leapsTo 22 = .ok (.iconst 0, 1) := by decide +kernel
theorem dX1_leapsTo_23 : decode cX1_leapsTo 23 = .ok (.istore_n 2, 1) := by decide +kernel
theorem dX1_leapsTo_24 : decode cX1_leapsTo 24 = .ok (.aload_n 0, 1) := by decide +kernel
theorem dX1_leapsTo_25 : decode cX1_leapsTo 25 = .ok (.iconst 1, 1) := by decide +kernel
theorem dX1_leapsTo_26 : decode cX1_leapsTo 26 = .ok (.iload_n 1, 1) := by decide +kernel
theorem dX1_leapsTo_27 : decode cX1_leapsTo 27 = .ok (.invokevirtual 34, 3) := by decide +kernel
theorem dX1_leapsTo_30 : decode cX1_leapsTo 30 = .ok (.bipush 9, 2) := by decide +kernel
theorem dX1_leapsTo_32 : decode cX1_leapsTo 32 = .ok (.if_icmp .le 7, 3) := by decide +kernel
theorem dX1_leapsTo_35 : decode cX1_leapsTo 35 = .ok (.iconst 1, 1) := by decide +kernel
theorem dX1_leapsTo_36 : decode cX1_leapsTo 36 = .ok (.goto 4, 3) := by decide +kernel
theorem dX1_leapsTo_39 : decode cX1_leapsTo 39 = .ok (.iconst 0, 1) := by decide +kernel
theorem dX1_leapsTo_40 : decode cX1_leapsTo 40 = .ok (.istore_n 3, 1) := by decide +kernel
theorem dX1_leapsTo_41 : decode cX1_leapsTo 41 = .ok (.iload_n 2, 1) := by decide +kernel
theorem dX1_leapsTo_42 : decode cX1_leapsTo 42 = .ok (.iload_n 3, 1) := by decide +kernel
theorem dX1_leapsTo_43 : decode cX1_leapsTo 43 = .ok (.iadd, 1) := by decide +kernel
theorem dX1_leapsTo_44 : decode cX1_leapsTo 44 = .ok (.ireturn, 1) := by decide +kernel
set_option maxRecDepth 20000 in
theorem ggX1_badEndsAt_X1_interval : GoodIn wsX1_badEndsAt wsX1_interval := goodIn_r _ [6, 7, 8, 9, 10, 11, 12, 13, 5, 14, 15, 16, 20, 21, 22] (by decide +kernel) (by decide +kernel)
set_option maxRecDepth 20000 in
theorem gX1_badEndsAt_X1_interval : GoodIn wsX1_badEndsAt (wsV RX1 59 RX1 yX1_interval wsX1_interval) := goodIn_app (goodIn_of _ (by decide +kernel)) ggX1_badEndsAt_X1_interval
set_option maxRecDepth 20000 in
theorem ggX1_badEndsAt_X1_isPerfect : GoodIn wsX1_badEndsAt wsX1_isPerfect := goodIn_r _ [19] (by decide +kernel) (by decide +kernel)
set_option maxRecDepth 20000 in
theorem gX1_badEndsAt_X1_isPerfect : GoodIn wsX1_badEndsAt (va_wsS RX1 62 yX1_isPerfect wsX1_isPerfect) := goodIn_app (goodIn_of _ (by decide +kernel)) ggX1_badEndsAt_X1_isPerfect
theorem dX1_badEndsAt_0 : decode cX1_badEndsAt 0 = .ok (.aload_n 0, 1) := by decide +kernel
theorem dX1_badEndsAt_1 : decode cX1_badEndsAt 1 = .ok (.iload_n 1, 1) := by decide +kernel
theorem dX1_badEndsAt_2 : decode cX1_badEndsAt 2 = .ok (.invokevirtual 59, 3) := by decide +kernel
theorem dX1_badEndsAt_5 : decode cX1_badEndsAt 5 = .ok (.invokestatic 62, 3) := by decide +kernel
theorem dX1_badEndsAt_8 : decode cX1_badEndsAt 8 = .ok (.ifCond .eq 5, 3) := by decide +kernel
theorem dX1_badEndsAt_11 : decode cX1_badEndsAt 11 = .ok (.iconst 0, 1) := by decide +kernel
theorem dX1_badEndsAt_12 : decode cX1_badEndsAt 12 = .ok (.ireturn, 1) := by decide +kernel
theorem dX1_badEndsAt_13 : decode cX1_badEndsAt 13 = .ok (.iload_n 1, 1) := by decide +kernel
theorem dX1_badEndsAt_14 : decode cX1_badEndsAt 14 = .ok (.ifCond .ne 7, 3) := by decide +kernel
theorem dX1_badEndsAt_17 : decode cX1_badEndsAt 17 = .ok (.iconst 1, 1) := by decide +kernel
theorem dX1_badEndsAt_18 : decode cX1_badEndsAt 18 = .ok (.goto 4, 3) := by decide +kernel
theorem dX1_badEndsAt_21 : decode cX1_badEndsAt 21 = .ok (.iconst 0, 1) := by decide +kernel
theorem dX1_badEndsAt_22 : decode cX1_badEndsAt 22 = .ok (.istore_n 2, 1) := by decide +kernel
theorem dX1_badEndsAt_23 : decode cX1_badEndsAt 23 = .ok (.iload_n 1, 1) := by decide +kernel
theorem dX1_badEndsAt_24 : decode cX1_badEndsAt 24 = .ok (.aload_n 0, 1) := by decide +kernel
theorem dX1_badEndsAt_25 : decode cX1_badEndsAt 25 = .ok (.getfield 9, 3) := by decide +kernel
theorem dX1_badEndsAt_28 : decode cX1_badEndsAt 28 = .ok (.iconst 1, 1) := by decide +kernel
theorem dX1_badEndsAt_29 : decode cX1_badEndsAt 29 = .ok (.isub, 1) := by decide +kernel
theorem dX1_badEndsAt_30 : decode cX1_badEndsAt 30 = .ok (.if_icmp .ne 7, 3) := by decide +kernel
theorem dX1_badEndsAt_33 : decode cX1_badEndsAt 33 = .ok (.iconst 1, 1) := by decide +kernel
theorem dX1_badEndsAt_34 : decode cX1_badEndsAt 34 = .ok (.goto 4, 3) := by decide +kernel
theorem dX1_badEndsAt_37 : decode cX1_badEndsAt 37 = .ok (.iconst 0, 1) := by decide +kernel
theorem dX1_badEndsAt_38 : decode cX1_badEndsAt 38 = .ok (.istore_n 3, 1) := by decide +kernel
theorem dX1_badEndsAt_39 : decode cX1_badEndsAt 39 = .ok (.iload_n 2, 1) := by decide +kernel
theorem dX1_badEndsAt_40 : decode cX1_badEndsAt 40 = .ok (.iload_n 3, 1) := by decide +kernel
theorem dX1_badEndsAt_41 : decode cX1_badEndsAt 41 = .ok (.iadd, 1) := by decide +kernel
theorem dX1_badEndsAt_42 : decode cX1_badEndsAt 42 = .ok (.ireturn, 1) := by decide +kernel
set_option maxRecDepth 20000 in
theorem ggX1_isStanding_X1_stepTo : GoodIn wsX1_isStanding wsX1_stepTo := goodIn_r _ [5, 6, 7, 8, 9, 10, 11, 12, 4, 13, 14, 15, 16, 17, 18] (by decide +kernel) (by decide +kernel)
set_option maxRecDepth 20000 in
theorem gX1_isStanding_X1_stepTo : GoodIn wsX1_isStanding (wsV RX1 34 RX1 yX1_stepTo wsX1_stepTo) := goodIn_app (goodIn_of _ (by decide +kernel)) ggX1_isStanding_X1_stepTo
theorem dX1_isStanding_0 : decode cX1_isStanding 0 = .ok (.iload_n 1, 1) := by decide +kernel
theorem dX1_isStanding_1 : decode cX1_isStanding 1 = .ok (.iconst 2, 1) := by decide +kernel
theorem dX1_isStanding_2 : decode cX1_isStanding 2 = .ok (.if_icmp .lt 27, 3) := by decide +kernel
theorem dX1_isStanding_5 : decode cX1_isStanding 5 = .ok (.aload_n 0, 1) := by decide +kernel
theorem dX1_isStanding_6 : decode cX1_isStanding 6 = .ok (.iconst 0, 1) := by decide +kernel
theorem dX1_isStanding_7 : decode cX1_isStanding 7 = .ok (.iload_n 1, 1) := by decide +kernel
theorem dX1_isStanding_8 : decode cX1_isStanding 8 = .ok (.invokevirtual 34, 3) := by decide +kernel
theorem dX1_isStanding_11 : decode cX1_isStanding 11 = .ok (.ifCond .ne 18, 3) := by decide +kernel
theorem dX1_isStanding_14 : decode cX1_isStanding 14 = .ok (.aload_n 0, 1) := by decide +kernel
theorem dX1_isStanding_15 : decode cX1_isStanding 15 = .ok (.iconst 0, 1) := by decide +kernel
theorem dX1_isStanding_16 : decode cX1_isStanding 16 = .ok (.iload_n 1, 1) := by decide +kernel
theorem dX1_isStanding_17 : decode cX1_isStanding 17 = .ok (.iconst 1, 1) := by decide +kernel
theorem dX1_isStanding_18 : decode cX1_isStanding 18 = .ok (.isub, 1) := by decide +kernel
theorem dX1_isStanding_19 : decode cX1_isStanding 19 = .ok (.invokevirtual 34, 3) := by decide +kernel
theorem dX1_isStanding_22 : decode cX1_isStanding 22 = .ok (.ifCond .ne 7, 3) := by decide +kernel
theorem dX1_isStanding_25 : decode cX1_isStanding 25 = .ok (.iconst 1, 1) := by decide +kernel
theorem dX1_isStanding_26 : decode cX1_isStanding 26 = .ok (.goto 4, 3) := by decide +kernel
theorem dX1_isStanding_29 : decode cX1_isStanding 29 = .ok (.iconst 0, 1) := by decide +kernel
theorem dX1_isStanding_30 : decode cX1_isStanding 30 = .ok (.ireturn, 1) := by decide +kernel
set_option maxRecDepth 20000 in
theorem ggX2_init_X1_init : GoodIn wsX2_init wsX1_init := goodIn_r _ [13, 14, 2, 3, 15, 16, 17, 18, 19, 20, 21] (by decide +kernel) (by decide +kernel)
set_option maxRecDepth 20000 in
theorem gX2_init_X1_init_n9 : GoodIn wsX2_init (wsX1_init) := ggX2_init_X1_init
theorem dX2_init_0 : decode cX2_init 0 = .ok (.aload_n 0, 1) := by decide +kernel
theorem dX2_init_1 : decode cX2_init 1 = .ok (.invokespecial 1, 3) := by decide +kernel
theorem dX2_init_4 : decode cX2_init 4 = .ok (.aload_n 0, 1) := by decide +kernel
theorem dX2_init_5 : decode cX2_init 5 = .ok (.new 7, 3) := by decide +kernel
theorem dX2_init_8 : decode cX2_init 8 = .ok (.dup, 1) := by decide +kernel
theorem dX2_init_9 : decode cX2_init 9 = .ok (.invokespecial 9, 3) := by decide +kernel
theorem dX2_init_12 : decode cX2_init 12 = .ok (.putfield 10, 3) := by decide +kernel
theorem dX2_init_15 : decode cX2_init 15 = .ok (.aload_n 0, 1) := by decide +kernel
theorem dX2_init_16 : decode cX2_init 16 = .ok (.iconst 0, 1) := by decide +kernel
theorem dX2_init_17 : decode cX2_init 17 = .ok (.putfield 16, 3) := by decide +kernel
theorem dX2_init_20 : decode cX2_init 20 = .ok (.aload_n 0, 1) := by decide +kernel
theorem dX2_init_21 : decode cX2_init 21 = .ok (.iconst 0, 1) := by decide +kernel
theorem dX2_init_22 : decode cX2_init 22 = .ok (.putfield 20, 3) := by decide +kernel
theorem dX2_init_25 : decode cX2_init 25 = .ok (.aload_n 0, 1) := by decide +kernel
theorem dX2_init_26 : decode cX2_init 26 = .ok (.iload_n 1, 1) := by decide +kernel
theorem dX2_init_27 : decode cX2_init 27 = .ok (.putfield 23, 3) := by decide +kernel
theorem dX2_init_30 : decode cX2_init 30 = .ok (.aload_n 0, 1) := by decide +kernel
theorem dX2_init_31 : decode cX2_init 31 = .ok (.aload_n 2, 1) := by decide +kernel
theorem dX2_init_32 : decode cX2_init 32 = .ok (.putfield 27, 3) := by decide +kernel
theorem dX2_init_35 : decode cX2_init 35 = .ok (.return_, 1) := by decide +kernel
set_option maxRecDepth 20000 in
theorem ggX3_init_X1_init : GoodIn wsX3_init wsX1_init := goodIn_r _ [18, 19, 2, 3, 20, 10, 21, 22, 30, 31, 32] (by decide +kernel) (by decide +kernel)
set_option maxRecDepth 20000 in
theorem gX3_init_X1_init_n37 : GoodIn wsX3_init (wsX1_init) := ggX3_init_X1_init
theorem dX3_init_0 : decode cX3_init 0 = .ok (.aload_n 0, 1) := by decide +kernel
theorem dX3_init_1 : decode cX3_init 1 = .ok (.invokespecial 1, 3) := by decide +kernel
theorem dX3_init_4 : decode cX3_init 4 = .ok (.aload_n 0, 1) := by decide +kernel
theorem dX3_init_5 : decode cX3_init 5 = .ok (.bipush 30, 2) := by decide +kernel
theorem dX3_init_7 : decode cX3_init 7 = .ok (.anewarray 9, 3) := by decide +kernel
theorem dX3_init_10 : decode cX3_init 10 = .ok (.putfield 11, 3) := by decide +kernel
theorem dX3_init_13 : decode cX3_init 13 = .ok (.aload_n 0, 1) := by decide +kernel
theorem dX3_init_14 : decode cX3_init 14 = .ok (.iconst 0, 1) := by decide +kernel
theorem dX3_init_15 : decode cX3_init 15 = .ok (.putfield 15, 3) := by decide +kernel
theorem dX3_init_18 : decode cX3_init 18 = .ok (.aload_n 0, 1) := by decide +kernel
theorem dX3_init_19 : decode cX3_init 19 = .ok (.bipush 20, 2) := by decide +kernel
theorem dX3_init_21 : decode cX3_init 21 = .ok (.anewarray 19, 3) := by decide +kernel
theorem dX3_init_24 : decode cX3_init 24 = .ok (.putfield 21, 3) := by decide +kernel
theorem dX3_init_27 : decode cX3_init 27 = .ok (.aload_n 0, 1) := by decide +kernel
theorem dX3_init_28 : decode cX3_init 28 = .ok (.iconst 0, 1) := by decide +kernel
theorem dX3_init_29 : decode cX3_init 29 = .ok (.putfield 25, 3) := by decide +kernel
theorem dX3_init_32 : decode cX3_init 32 = .ok (.aload_n 0, 1) := by decide +kernel
theorem dX3_init_33 : decode cX3_init 33 = .ok (.bipush 6, 2) := by decide +kernel
theorem dX3_init_35 : decode cX3_init 35 = .ok (.newarray .int, 2) := by decide +kernel
theorem dX3_init_37 : decode cX3_init 37 = .ok (.putfield 28, 3) := by decide +kernel
theorem dX3_init_40 : decode cX3_init 40 = .ok (.aload_n 0, 1) := by decide +kernel
theorem dX3_init_41 : decode cX3_init 41 = .ok (.bipush 60, 2) := by decide +kernel
theorem dX3_init_43 : decode cX3_init 43 = .ok (.putfield 32, 3) := by decide +kernel
theorem dX3_init_46 : decode cX3_init 46 = .ok (.aload_n 0, 1) := by decide +kernel
theorem dX3_init_47 : decode cX3_init 47 = .ok (.new 35, 3) := by decide +kernel
theorem dX3_init_50 : decode cX3_init 50 = .ok (.dup, 1) := by decide +kernel
theorem dX3_init_51 : decode cX3_init 51 = .ok (.invokespecial 37, 3) := by decide +kernel
theorem dX3_init_54 : decode cX3_init 54 = .ok (.putfield 38, 3) := by decide +kernel
theorem dX3_init_57 : decode cX3_init 57 = .ok (.iconst 0, 1) := by decide +kernel
theorem dX3_init_58 : decode cX3_init 58 = .ok (.istore_n 1, 1) := by decide +kernel
theorem dX3_init_59 : decode cX3_init 59 = .ok (.iload_n 1, 1) := by decide +kernel
theorem dX3_init_60 : decode cX3_init 60 = .ok (.aload_n 0, 1) := by decide +kernel
theorem dX3_init_61 : decode cX3_init 61 = .ok (.getfield 28, 3) := by decide +kernel
theorem dX3_init_64 : decode cX3_init 64 = .ok (.arraylength, 1) := by decide +kernel
theorem dX3_init_65 : decode cX3_init 65 = .ok (.if_icmp .ge 16, 3) := by decide +kernel
theorem dX3_init_68 : decode cX3_init 68 = .ok (.aload_n 0, 1) := by decide +kernel
theorem dX3_init_69 : decode cX3_init 69 = .ok (.getfield 28, 3) := by decide +kernel
theorem dX3_init_72 : decode cX3_init 72 = .ok (.iload_n 1, 1) := by decide +kernel
theorem dX3_init_73 : decode cX3_init 73 = .ok (.iconst 5, 1) := by decide +kernel
theorem dX3_init_74 : decode cX3_init 74 = .ok (.iastore, 1) := by decide +kernel
theorem dX3_init_75 : decode cX3_init 75 = .ok (.iinc 1 1, 3) := by decide +kernel
theorem dX3_init_78 : decode cX3_init 78 = .ok (.goto (-19), 3) := by decide +kernel
theorem dX3_init_81 : decode cX3_init 81 = .ok (.return_, 1) := by decide +kernel
set_option maxRecDepth 20000 in
theorem ggX3_begin_X3_addVersion : GoodIn wsX3_begin wsX3_addVersion := goodIn_ca (goodIn_r _ [7, 8, 9, 10, 11, 12, 13, 14, 15, 16, 17, 18, 19, 20, 21, 22, 23, 24, 25, 26, 27, 28, 29, 30, 31, 32, 33, 34, 35, 49, 50, 51, 52, 53, 54, 55, 44, 45, 46, 47, 48, 56, 57, 58] (by decide +kernel) (by decide +kernel)) (goodIn_sub (fun _ h => List.mem_cons_of_mem _ (List.mem_append_right _ h)) (by decide +kernel))
set_option maxRecDepth 20000 in
theorem gX3_begin_X3_addVersion : GoodIn wsX3_begin (wsV RX3 49 RX3 yX3_addVersion wsX3_addVersion) := goodIn_app (goodIn_of _ (by decide +kernel)) ggX3_begin_X3_addVersion
set_option maxRecDepth 20000 in
theorem ggX3_begin_X1_fill : GoodIn wsX3_begin wsX1_fill := goodIn_r _ [39, 32, 40, 41, 42, 23, 43, 34, 35, 56, 57, 58] (by decide +kernel) (by decide +kernel)
set_option maxRecDepth 20000 in
theorem gX3_begin_X1_fill : GoodIn wsX3_begin (wsV RX3 56 RX1 yX1_fill wsX1_fill) := goodIn_app (goodIn_of _ (by decide +kernel)) ggX3_begin_X1_fill
theorem dX3_begin_0 : decode cX3_begin 0 = .ok (.iload_n 1, 1) := by decide +kernel
theorem dX3_begin_1 : decode cX3_begin 1 = .ok (.iconst 1, 1) := by decide +kernel
theorem dX3_begin_2 : decode cX3_begin 2 = .ok (.if_icmp .lt 9, 3) := by decide +kernel
theorem dX3_begin_5 : decode cX3_begin 5 = .ok (.iload_n 1, 1) := by decide +kernel
theorem dX3_begin_6 : decode cX3_begin 6 = .ok (.bipush 12, 2) := by decide +kernel
theorem dX3_begin_8 : decode cX3_begin 8 = .ok (.if_icmp .le 13, 3) := by decide +kernel
theorem dX3_begin_11 : decode cX3_begin 11 = .ok (.new 42, 3) := by decide +kernel
theorem dX3_begin_14 : decode cX3_begin 14 = .ok (.dup, 1) := by decide +kernel
theorem dX3_begin_15 : decode cX3_begin 15 = .ok (.ldc 44, 2) := by decide +kernel
theorem dX3_begin_17 : decode cX3_begin 17 = .ok (.invokespecial 46, 3) := by decide +kernel

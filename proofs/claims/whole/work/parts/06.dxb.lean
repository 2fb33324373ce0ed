theorem dX3_begin_20 : decode cX3_begin 20 = .ok (.athrow, 1) := by decide +kernel
theorem dX3_begin_21 : decode cX3_begin 21 = .ok (.aload_n 0, 1) := by decide +kernel
theorem dX3_begin_22 : decode cX3_begin 22 = .ok (.aconst_null, 1) := by decide +kernel
theorem dX3_begin_23 : decode cX3_begin 23 = .ok (.invokevirtual 49, 3) := by decide +kernel
theorem dX3_begin_26 : decode cX3_begin 26 = .ok (.astore_n 2, 1) := by decide +kernel
theorem dX3_begin_27 : decode cX3_begin 27 = .ok (.aload_n 2, 1) := by decide +kernel
theorem dX3_begin_28 : decode cX3_begin 28 = .ok (.getfield 53, 3) := by decide +kernel
theorem dX3_begin_31 : decode cX3_begin 31 = .ok (.iload_n 1, 1) := by decide +kernel
theorem dX3_begin_32 : decode cX3_begin 32 = .ok (.bipush 20, 2) := by decide +kernel
theorem dX3_begin_34 : decode cX3_begin 34 = .ok (.invokevirtual 56, 3) := by decide +kernel
theorem dX3_begin_37 : decode cX3_begin 37 = .ok (.aload_n 2, 1) := by decide +kernel
theorem dX3_begin_38 : decode cX3_begin 38 = .ok (.getfield 60, 3) := by decide +kernel
theorem dX3_begin_41 : decode cX3_begin 41 = .ok (.ireturn, 1) := by decide +kernel
set_option maxRecDepth 20000 in
theorem ggX3_branch_X3_findVersion : GoodIn wsX3_branch wsX3_findVersion := goodIn_ca (goodIn_r _ [5, 6, 7, 8, 61, 62, 63, 64, 65, 66, 67] (by decide +kernel) (by decide +kernel)) (goodIn_sub (fun _ h => List.mem_cons_of_mem _ (List.mem_append_left _ (List.mem_append_right _ h))) (by decide +kernel))
set_option maxRecDepth 20000 in
theorem gX3_branch_X3_findVersion : GoodIn wsX3_branch (wsV RX3 63 RX3 yX3_findVersion wsX3_findVersion) := goodIn_app (goodIn_of _ (by decide +kernel)) ggX3_branch_X3_findVersion
set_option maxRecDepth 20000 in
theorem ggX3_branch_X3_addVersion : GoodIn wsX3_branch wsX3_addVersion := goodIn_ca (goodIn_r _ [12, 13, 14, 15, 8, 16, 17, 18, 19, 20, 21, 22, 23, 24, 25, 26, 27, 28, 29, 30, 31, 32, 33, 34, 35, 36, 37, 38, 39, 61, 62, 63, 64, 65, 66, 67, 56, 57, 58, 59, 60, 68, 69, 70] (by decide +kernel) (by decide +kernel)) (goodIn_sub (fun _ h => List.mem_cons_of_mem _ (List.mem_append_right _ h)) (by decide +kernel))
set_option maxRecDepth 20000 in
theorem gX3_branch_X3_addVersion : GoodIn wsX3_branch (wsV RX3 49 RX3 yX3_addVersion wsX3_addVersion) := goodIn_app (goodIn_of _ (by decide +kernel)) ggX3_branch_X3_addVersion
set_option maxRecDepth 20000 in
theorem ggX3_branch_X1_takeAll : GoodIn wsX3_branch wsX1_takeAll := goodIn_r _ [43, 36, 44, 45, 46, 27, 47, 48, 49, 50, 51, 38, 39, 52, 53, 54, 55, 68, 69, 70] (by decide +kernel) (by decide +kernel)
set_option maxRecDepth 20000 in
theorem gX3_branch_X1_takeAll : GoodIn wsX3_branch (wsV RX3 67 RX1 yX1_takeAll wsX1_takeAll) := goodIn_app (goodIn_of _ (by decide +kernel)) ggX3_branch_X1_takeAll
theorem dX3_branch_0 : decode cX3_branch 0 = .ok (.aload_n 0, 1) := by decide +kernel
theorem dX3_branch_1 : decode cX3_branch 1 = .ok (.iload_n 1, 1) := by decide +kernel
theorem dX3_branch_2 : decode cX3_branch 2 = .ok (.invokevirtual 63, 3) := by decide +kernel
theorem dX3_branch_5 : decode cX3_branch 5 = .ok (.astore_n 2, 1) := by decide +kernel
theorem dX3_branch_6 : decode cX3_branch 6 = .ok (.aload_n 0, 1) := by decide +kernel
theorem dX3_branch_7 : decode cX3_branch 7 = .ok (.aload_n 2, 1) := by decide +kernel
theorem dX3_branch_8 : decode cX3_branch 8 = .ok (.invokevirtual 49, 3) := by decide +kernel
theorem dX3_branch_11 : decode cX3_branch 11 = .ok (.astore_n 3, 1) := by decide +kernel
theorem dX3_branch_12 : decode cX3_branch 12 = .ok (.aload_n 3, 1) := by decide +kernel
theorem dX3_branch_13 : decode cX3_branch 13 = .ok (.getfield 53, 3) := by decide +kernel
theorem dX3_branch_16 : decode cX3_branch 16 = .ok (.aload_n 2, 1) := by decide +kernel
theorem dX3_branch_17 : decode cX3_branch 17 = .ok (.getfield 53, 3) := by decide +kernel
theorem dX3_branch_20 : decode cX3_branch 20 = .ok (.invokevirtual 67, 3) := by decide +kernel
theorem dX3_branch_23 : decode cX3_branch 23 = .ok (.aload_n 2, 1) := by decide +kernel
theorem dX3_branch_24 : decode cX3_branch 24 = .ok (.iconst 1, 1) := by decide +kernel
theorem dX3_branch_25 : decode cX3_branch 25 = .ok (.putfield 71, 3) := by decide +kernel
theorem dX3_branch_28 : decode cX3_branch 28 = .ok (.aload_n 3, 1) := by decide +kernel
theorem dX3_branch_29 : decode cX3_branch 29 = .ok (.getfield 60, 3) := by decide +kernel
theorem dX3_branch_32 : decode cX3_branch 32 = .ok (.ireturn, 1) := by decide +kernel
set_option maxRecDepth 20000 in
theorem ggX3_setNote_X3_findVersion : GoodIn wsX3_setNote wsX3_findVersion := goodIn_ca (goodIn_r _ [9, 10, 11, 12, 35, 36, 37, 38, 39, 40, 41] (by decide +kernel) (by decide +kernel)) (goodIn_sub (fun _ h => List.mem_cons_of_mem _ (List.mem_append_right _ h)) (by decide +kernel))
set_option maxRecDepth 20000 in
theorem gX3_setNote_X3_findVersion : GoodIn wsX3_setNote (wsV RX3 63 RX3 yX3_findVersion wsX3_findVersion) := goodIn_app (goodIn_of _ (by decide +kernel)) ggX3_setNote_X3_findVersion
set_option maxRecDepth 20000 in
theorem ggX3_setNote_X3_checkVoice : GoodIn wsX3_setNote wsX3_checkVoice := goodIn_ca (goodIn_r _ [15, 10, 11] (by decide +kernel) (by decide +kernel)) (goodIn_sub (fun _ h => List.mem_cons_of_mem _ (List.mem_append_right _ h)) (by decide +kernel))
set_option maxRecDepth 20000 in
theorem gX3_setNote_X3_checkVoice : GoodIn wsX3_setNote (va_wsS RX3 75 yX3_checkVoice wsX3_checkVoice) := goodIn_app (goodIn_of _ (by decide +kernel)) ggX3_setNote_X3_checkVoice
set_option maxRecDepth 20000 in
theorem ggX3_setNote_X3_checkBar : GoodIn wsX3_setNote wsX3_checkBar := goodIn_ca (goodIn_r _ [18, 10, 11, 30, 31, 32, 33, 34, 42, 43, 44] (by decide +kernel) (by decide +kernel)) (goodIn_sub (fun _ h => List.mem_cons_of_mem _ (List.mem_append_right _ h)) (by decide +kernel))
set_option maxRecDepth 20000 in
theorem gX3_setNote_X3_checkBar : GoodIn wsX3_setNote (va_wsS RX3 79 yX3_checkBar wsX3_checkBar) := goodIn_app (goodIn_of _ (by decide +kernel)) ggX3_setNote_X3_checkBar
set_option maxRecDepth 20000 in
theorem ggX3_setNote_X1_tone : GoodIn wsX3_setNote wsX1_tone := goodIn_r _ [23, 24, 25, 42, 43, 44] (by decide +kernel) (by decide +kernel)
set_option maxRecDepth 20000 in
theorem gX3_setNote_X1_tone : GoodIn wsX3_setNote (wsV RX3 90 RX1 yX1_tone wsX1_tone) := goodIn_app (goodIn_of _ (by decide +kernel)) ggX3_setNote_X1_tone
set_option maxRecDepth 20000 in
theorem ggX3_setNote_X1_setTone : GoodIn wsX3_setNote wsX1_setTone := goodIn_r _ [29, 24, 25, 42, 43, 44] (by decide +kernel) (by decide +kernel)
set_option maxRecDepth 20000 in
theorem gX3_setNote_X1_setTone : GoodIn wsX3_setNote (wsV RX3 94 RX1 yX1_setTone wsX1_setTone) := goodIn_app (goodIn_of _ (by decide +kernel)) ggX3_setNote_X1_setTone
theorem dX3_setNote_0 : decode cX3_setNote 0 = .ok (.aload_n 0, 1) := by decide +kernel
theorem dX3_setNote_1 : decode cX3_setNote 1 = .ok (.iload_n 1, 1) := by decide +kernel
theorem dX3_setNote_2 : decode cX3_setNote 2 = .ok (.invokevirtual 63, 3) := by decide +kernel
theorem dX3_setNote_5 : decode cX3_setNote 5 = .ok (.astore 5, 2) := by decide +kernel
theorem dX3_setNote_7 : decode cX3_setNote 7 = .ok (.iload_n 2, 1) := by decide +kernel
theorem dX3_setNote_8 : decode cX3_setNote 8 = .ok (.invokestatic 75, 3) := by decide +kernel
theorem dX3_setNote_11 : decode cX3_setNote 11 = .ok (.aload 5, 2) := by decide +kernel
theorem dX3_setNote_13 : decode cX3_setNote 13 = .ok (.iload_n 3, 1) := by decide +kernel
theorem dX3_setNote_14 : decode cX3_setNote 14 = .ok (.invokestatic 79, 3) := by decide +kernel
theorem dX3_setNote_17 : decode cX3_setNote 17 = .ok (.iload 4, 2) := by decide +kernel
theorem dX3_setNote_19 : decode cX3_setNote 19 = .ok (.ifCond .lt 10, 3) := by decide +kernel
theorem dX3_setNote_22 : decode cX3_setNote 22 = .ok (.iload 4, 2) := by decide +kernel
theorem dX3_setNote_24 : decode cX3_setNote 24 = .ok (.bipush 40, 2) := by decide +kernel
theorem dX3_setNote_26 : decode cX3_setNote 26 = .ok (.if_icmp .le 13, 3) := by decide +kernel
theorem dX3_setNote_29 : decode cX3_setNote 29 = .ok (.new 42, 3) := by decide +kernel
theorem dX3_setNote_32 : decode cX3_setNote 32 = .ok (.dup, 1) := by decide +kernel
theorem dX3_setNote_33 : decode cX3_setNote 33 = .ok (.ldc 83, 2) := by decide +kernel
theorem dX3_setNote_35 : decode cX3_setNote 35 = .ok (.invokespecial 46, 3) := by decide +kernel
theorem dX3_setNote_38 : decode cX3_setNote 38 = .ok (.athrow, 1) := by decide +kernel
theorem dX3_setNote_39 : decode cX3_setNote 39 = .ok (.aload 5, 2) := by decide +kernel
theorem dX3_setNote_41 : decode cX3_setNote 41 = .ok (.getfield 71, 3) := by decide +kernel
theorem dX3_setNote_44 : decode cX3_setNote 44 = .ok (.ifCond .eq 13, 3) := by decide +kernel
theorem dX3_setNote_47 : decode cX3_setNote 47 = .ok (.new 85, 3) := by decide +kernel
theorem dX3_setNote_50 : decode cX3_setNote 50 = .ok (.dup, 1) := by decide +kernel
theorem dX3_setNote_51 : decode cX3_setNote 51 = .ok (.ldc 87, 2) := by decide +kernel
theorem dX3_setNote_53 : decode cX3_setNote 53 = .ok (.invokespecial 89, 3) := by decide +kernel
theorem dX3_setNote_56 : decode cX3_setNote 56 = .ok (.athrow, 1) := by decide +kernel
theorem dX3_setNote_57 : decode cX3_setNote 57 = .ok (.aload 5, 2) := by decide +kernel
theorem dX3_setNote_59 : decode cX3_setNote 59 = .ok (.getfield 53, 3) := by decide +kernel
theorem dX3_setNote_62 : decode cX3_setNote 62 = .ok (.iload_n 2, 1) := by decide +kernel
theorem dX3_setNote_63 : decode cX3_setNote 63 = .ok (.iload_n 3, 1) := by decide +kernel
theorem dX3_setNote_64 : decode cX3_setNote 64 = .ok (.invokevirtual 90, 3) := by decide +kernel
theorem dX3_setNote_67 : decode cX3_setNote 67 = .ok (.istore 6, 2) := by decide +kernel
theorem dX3_setNote_69 : decode cX3_setNote 69 = .ok (.aload 5, 2) := by decide +kernel
theorem dX3_setNote_71 : decode cX3_setNote 71 = .ok (.getfield 53, 3) := by decide +kernel
theorem dX3_setNote_74 : decode cX3_setNote 74 = .ok (.iload_n 2, 1) := by decide +kernel
theorem dX3_setNote_75 : decode cX3_setNote 75 = .ok (.iload_n 3, 1) := by decide +kernel
theorem dX3_setNote_76 : decode cX3_setNote 76 = .ok (.iload 4, 2) := by decide +kernel
theorem dX3_setNote_78 : decode cX3_setNote 78 = .ok (.invokevirtual 94, 3) := by decide +kernel
theorem dX3_setNote_81 : decode cX3_setNote 81 = .ok (.iload 6, 2) := by decide +kernel
theorem dX3_setNote_83 : decode cX3_setNote 83 = .ok (.ireturn, 1) := by decide +kernel
set_option maxRecDepth 20000 in
theorem ggX3_note_X3_findVersion : GoodIn wsX3_note wsX3_findVersion := goodIn_ca (goodIn_r _ [5, 6, 7, 8, 27, 28, 29, 30, 31, 32, 33] (by decide +kernel) (by decide +kernel)) (goodIn_sub (fun _ h => List.mem_cons_of_mem _ (List.mem_append_right _ h)) (by decide +kernel))
set_option maxRecDepth 20000 in
theorem gX3_note_X3_findVersion : GoodIn wsX3_note (wsV RX3 63 RX3 yX3_findVersion wsX3_findVersion) := goodIn_app (goodIn_of _ (by decide +kernel)) ggX3_note_X3_findVersion
set_option maxRecDepth 20000 in
theorem ggX3_note_X3_checkVoice : GoodIn wsX3_note wsX3_checkVoice := goodIn_ca (goodIn_r _ [11, 6, 7] (by decide +kernel) (by decide +kernel)) (goodIn_sub (fun _ h => List.mem_cons_of_mem _ (List.mem_append_right _ h)) (by decide +kernel))
set_option maxRecDepth 20000 in
theorem gX3_note_X3_checkVoice : GoodIn wsX3_note (va_wsS RX3 75 yX3_checkVoice wsX3_checkVoice) := goodIn_app (goodIn_of _ (by decide +kernel)) ggX3_note_X3_checkVoice
set_option maxRecDepth 20000 in
theorem ggX3_note_X3_checkBar : GoodIn wsX3_note wsX3_checkBar := goodIn_ca (goodIn_r _ [14, 6, 7, 22, 23, 24, 25, 26, 34, 35, 36] (by decide +kernel) (by decide +kernel)) (goodIn_sub (fun _ h => List.mem_cons_of_mem _ (List.mem_append_right _ h)) (by decide +kernel))
set_option maxRecDepth 20000 in
theorem gX3_note_X3_checkBar : GoodIn wsX3_note (va_wsS RX3 79 yX3_checkBar wsX3_checkBar) := goodIn_app (goodIn_of _ (by decide +kernel)) ggX3_note_X3_checkBar
set_option maxRecDepth 20000 in
theorem ggX3_note_X1_tone : GoodIn wsX3_note wsX1_tone := goodIn_r _ [19, 20, 21, 34, 35, 36] (by decide +kernel) (by decide +kernel)
set_option maxRecDepth 20000 in
theorem gX3_note_X1_tone : GoodIn wsX3_note (wsV RX3 90 RX1 yX1_tone wsX1_tone) := goodIn_app (goodIn_of _ (by decide +kernel)) ggX3_note_X1_tone
theorem dX3_note_0 : decode cX3_note 0 = .ok (.aload_n 0, 1) := by decide +kernel
theorem dX3_note_1 : decode cX3_note 1 = .ok (.iload_n 1, 1) := by decide +kernel
theorem dX3_note_2 : decode cX3_note 2 = .ok (.invokevirtual 63, 3) := by decide +kernel
theorem dX3_note_5 : decode cX3_note 5 = .ok (.astore 4, 2) := by decide +kernel
theorem dX3_note_7 : decode cX3_note 7 = .ok (.iload_n 2, 1) := by decide +kernel
theorem dX3_note_8 : decode cX3_note 8 = .ok (.invokestatic 75, 3) := by decide +kernel
theorem dX3_note_11 : decode cX3_note 11 = .ok (.aload 4, 2) := by decide +kernel
theorem dX3_note_13 : decode cX3_note 13 = .ok (.iload_n 3, 1) := by decide +kernel
theorem dX3_note_14 : decode cX3_note 14 = .ok (.invokestatic 79, 3) := by decide +kernel
theorem dX3_note_17 : decode cX3_note 17 = .ok (.aload 4, 2) := by decide +kernel
theorem dX3_note_19 : decode cX3_note 19 = .ok (.getfield 53, 3) := by decide +kernel
theorem dX3_note_22 : decode cX3_note 22 = .ok (.iload_n 2, 1) := by decide +kernel
theorem dX3_note_23 : decode cX3_note 23 = .ok (.iload_n 3, 1) := by decide +kernel
theorem dX3_note_24 : decode cX3_note 24 = .ok (.invokevirtual 90, 3) := by decide +kernel
theorem dX3_note_27 : decode cX3_note 27 = .ok (.ireturn, 1) := by decide +kernel
set_option maxRecDepth 20000 in
theorem ggX3_base_X3_findVersion : GoodIn wsX3_base wsX3_findVersion := goodIn_ca (goodIn_r _ [5, 6, 7, 8, 20, 21, 22, 23, 24, 25, 26] (by decide +kernel) (by decide +kernel)) (goodIn_sub (fun _ h => List.mem_cons_of_mem _ (List.mem_append_right _ h)) (by decide +kernel))
set_option maxRecDepth 20000 in
theorem gX3_base_X3_findVersion : GoodIn wsX3_base (wsV RX3 63 RX3 yX3_findVersion wsX3_findVersion) := goodIn_app (goodIn_of _ (by decide +kernel)) ggX3_base_X3_findVersion
set_option maxRecDepth 20000 in
theorem ggX3_base_X3_commonAncestor : GoodIn wsX3_base wsX3_commonAncestor := goodIn_r _ [11, 12, 13, 4, 14, 15, 16, 17, 18, 19] (by decide +kernel) (by decide +kernel)
set_option maxRecDepth 20000 in
theorem gX3_base_X3_commonAncestor : GoodIn wsX3_base (va_wsS RX3 98 yX3_commonAncestor wsX3_commonAncestor) := goodIn_app (goodIn_of _ (by decide +kernel)) ggX3_base_X3_commonAncestor
theorem dX3_base_0 : decode cX3_base 0 = .ok (.aload_n 0, 1) := by decide +kernel
theorem dX3_base_1 : decode cX3_base 1 = .ok (.iload_n 1, 1) := by decide +kernel
theorem dX3_base_2 : decode cX3_base 2 = .ok (.invokevirtual 63, 3) := by decide +kernel
theorem dX3_base_5 : decode cX3_base 5 = .ok (.aload_n 0, 1) := by decide +kernel
theorem dX3_base_6 : decode cX3_base 6 = .ok (.iload_n 2, 1) := by decide +kernel
theorem dX3_base_7 : decode cX3_base 7 = .ok (.invokevirtual 63, 3) := by decide +kernel
theorem dX3_base_10 : decode cX3_base 10 = .ok (.invokestatic 98, 3) := by decide +kernel
theorem dX3_base_13 : decode cX3_base 13 = .ok (.astore_n 3, 1) := by decide +kernel
theorem dX3_base_14 : decode cX3_base 14 = .ok (.aload_n 3, 1) := by decide +kernel
theorem dX3_base_15 : decode cX3_base 15 = .ok (.ifnonnull 7, 3) := by decide +kernel
theorem dX3_base_18 : decode cX3_base 18 = .ok (.iconst (-1), 1) := by decide +kernel
theorem dX3_base_19 : decode cX3_base 19 = .ok (.goto 7, 3) := by decide +kernel
theorem dX3_base_22 : decode cX3_base 22 = .ok (.aload_n 3, 1) := by decide +kernel
theorem dX3_base_23 : decode cX3_base 23 = .ok (.getfield 60, 3) := by decide +kernel
theorem dX3_base_26 : decode cX3_base 26 = .ok (.ireturn, 1) := by decide +kernel
set_option maxRecDepth 20000 in
theorem ggX3_conflicts_X3_findVersion : GoodIn wsX3_conflicts wsX3_findVersion := goodIn_ca (goodIn_r _ [7, 8, 9, 10, 36, 37, 38, 39, 40, 41, 42] (by decide +kernel) (by decide +kernel)) (goodIn_sub (fun _ h => List.mem_cons_of_mem _ (List.mem_append_right _ h)) (by decide +kernel))
set_option maxRecDepth 20000 in
theorem gX3_conflicts_X3_findVersion : GoodIn wsX3_conflicts (wsV RX3 63 RX3 yX3_findVersion wsX3_findVersion) := goodIn_app (goodIn_of _ (by decide +kernel)) ggX3_conflicts_X3_findVersion
set_option maxRecDepth 20000 in
theorem ggX3_conflicts_X3_commonAncestor : GoodIn wsX3_conflicts wsX3_commonAncestor := goodIn_r _ [13, 14, 15, 6, 16, 31, 32, 33, 34, 35] (by decide +kernel) (by decide +kernel)
set_option maxRecDepth 20000 in
theorem gX3_conflicts_X3_commonAncestor : GoodIn wsX3_conflicts (va_wsS RX3 98 yX3_commonAncestor wsX3_commonAncestor) := goodIn_app (goodIn_of _ (by decide +kernel)) ggX3_conflicts_X3_commonAncestor
set_option maxRecDepth 20000 in
theorem ggX3_conflicts_X3_conflictingBars : GoodIn wsX3_conflicts wsX3_conflictingBars := goodIn_r _ [19, 20, 21, 22, 23, 24, 25, 26, 27, 28, 29, 30, 43, 44, 45] (by decide +kernel) (by decide +kernel)
set_option maxRecDepth 20000 in
theorem gX3_conflicts_X3_conflictingBars : GoodIn wsX3_conflicts (va_wsS RX3 104 yX3_conflictingBars wsX3_conflictingBars) := goodIn_app (goodIn_of _ (by decide +kernel)) ggX3_conflicts_X3_conflictingBars
theorem dX3_conflicts_0 : decode cX3_conflicts 0 = .ok (.aload_n 0, 1) := by decide +kernel
theorem dX3_conflicts_1 : decode cX3_conflicts 1 = .ok (.iload_n 1, 1) := by decide +kernel
theorem dX3_conflicts_2 : decode cX3_conflicts 2 = .ok (.invokevirtual 63, 3) := by decide +kernel
theorem dX3_conflicts_5 : decode cX3_conflicts 5 = .ok (.astore_n 3, 1) := by decide +kernel
theorem dX3_conflicts_6 : decode cX3_conflicts 6 = .ok (.aload_n 0, 1) := by decide +kernel
theorem dX3_conflicts_7 : decode cX3_conflicts 7 = .ok (.iload_n 2, 1) := by decide +kernel
theorem dX3_conflicts_8 : decode cX3_conflicts 8 = .ok (.invokevirtual 63, 3) := by decide +kernel
theorem dX3_conflicts_11 : decode cX3_conflicts 11 = .ok (.astore 4, 2) := by decide +kernel
theorem dX3_conflicts_13 : decode cX3_conflicts 13 = .ok (.aload_n 3, 1) := by decide +kernel
theorem dX3_conflicts_14 : decode cX3_conflicts 14 = .ok (.aload 4, 2) := by decide +kernel
theorem dX3_conflicts_16 : decode cX3_conflicts 16 = .ok (.invokestatic 98, 3) := by decide +kernel
theorem dX3_conflicts_19 : decode cX3_conflicts 19 = .ok (.astore 5, 2) := by decide +kernel
theorem dX3_conflicts_21 : decode cX3_conflicts 21 = .ok (.aload 5, 2) := by decide +kernel
theorem dX3_conflicts_23 : decode cX3_conflicts 23 = .ok (.ifnonnull 13, 3) := by decide +kernel
theorem dX3_conflicts_26 : decode cX3_conflicts 26 = .ok (.new 85, 3) := by decide +kernel
theorem dX3_conflicts_29 : decode cX3_conflicts 29 = .ok (.dup, 1) := by decide +kernel
theorem dX3_conflicts_30 : decode cX3_conflicts 30 = .ok (.ldc 102, 2) := by decide +kernel
theorem dX3_conflicts_32 : decode cX3_conflicts 32 = .ok (.invokespecial 89, 3) := by decide +kernel
theorem dX3_conflicts_35 : decode cX3_conflicts 35 = .ok (.athrow, 1) := by decide +kernel
theorem dX3_conflicts_36 : decode cX3_conflicts 36 = .ok (.aload_n 3, 1) := by decide +kernel
theorem dX3_conflicts_37 : decode cX3_conflicts 37 = .ok (.getfield 53, 3) := by decide +kernel
theorem dX3_conflicts_40 : decode cX3_conflicts 40 = .ok (.aload 4, 2) := by decide +kernel
theorem dX3_conflicts_42 : decode cX3_conflicts 42 = .ok (.getfield 53, 3) := by decide +kernel
theorem dX3_conflicts_45 : decode cX3_conflicts 45 = .ok (.aload 5, 2) := by decide +kernel
theorem dX3_conflicts_47 : decode cX3_conflicts 47 = .ok (.getfield 53, 3) := by decide +kernel
theorem dX3_conflicts_50 : decode cX3_conflicts 50 = .ok (.invokestatic 104, 3) := by decide +kernel
theorem dX3_conflicts_53 : decode cX3_conflicts 53 = .ok (.ireturn, 1) := by decide +kernel
set_option maxRecDepth 20000 in
theorem ggX3_merge_X3_findVersion : GoodIn wsX3_merge wsX3_findVersion := goodIn_ca (goodIn_r _ [9, 10, 11, 12, 77, 78, 79, 80, 81, 82, 83] (by decide +kernel) (by decide +kernel)) (goodIn_sub (fun _ h => List.mem_cons_of_mem _ (List.mem_append_right _ h)) (by decide +kernel))
set_option maxRecDepth 20000 in
theorem gX3_merge_X3_findVersion : GoodIn wsX3_merge (wsV RX3 63 RX3 yX3_findVersion wsX3_findVersion) := goodIn_app (goodIn_of _ (by decide +kernel)) ggX3_merge_X3_findVersion
set_option maxRecDepth 20000 in
theorem ggX3_merge_X3_commonAncestor : GoodIn wsX3_merge wsX3_commonAncestor := goodIn_r _ [15, 16, 17, 8, 18, 72, 73, 74, 75, 76] (by decide +kernel) (by decide +kernel)
set_option maxRecDepth 20000 in
theorem gX3_merge_X3_commonAncestor : GoodIn wsX3_merge (va_wsS RX3 98 yX3_commonAncestor wsX3_commonAncestor) := goodIn_app (goodIn_of _ (by decide +kernel)) ggX3_merge_X3_commonAncestor
set_option maxRecDepth 20000 in
theorem ggX3_merge_X3_addVersion : GoodIn wsX3_merge wsX3_addVersion := goodIn_ca (goodIn_r _ [22, 3, 4, 23, 12, 24, 25, 26, 27, 28, 29, 30, 31, 32, 33, 34, 35, 36, 37, 38, 39, 40, 41, 42, 43, 44, 45, 46, 47, 77, 78, 79, 80, 81, 82, 83, 72, 73, 74, 75, 76, 84, 85, 86] (by decide +kernel) (by decide +kernel)) (goodIn_sub (fun _ h => List.mem_cons_of_mem _ (List.mem_append_left _ (List.mem_append_right _ h))) (by decide +kernel))
set_option maxRecDepth 20000 in
theorem gX3_merge_X3_addVersion : GoodIn wsX3_merge (wsV RX3 49 RX3 yX3_addVersion wsX3_addVersion) := goodIn_app (goodIn_of _ (by decide +kernel)) ggX3_merge_X3_addVersion
set_option maxRecDepth 20000 in
theorem ggX3_merge_X3_mergeInto : GoodIn wsX3_merge wsX3_mergeInto := goodIn_r _ [50, 51, 52, 53, 35, 54, 44, 55, 56, 57, 58, 59, 60, 61, 62, 46, 47, 63, 64, 65, 66, 67, 68, 69, 70, 71, 84, 85, 86] (by decide +kernel) (by decide +kernel)
set_option maxRecDepth 20000 in
theorem gX3_merge_X3_mergeInto : GoodIn wsX3_merge (va_wsS RX3 110 yX3_mergeInto wsX3_mergeInto) := goodIn_app (goodIn_of _ (by decide +kernel)) ggX3_merge_X3_mergeInto
theorem dX3_merge_0 : decode cX3_merge 0 = .ok (.aload_n 0, 1) := by decide +kernel
theorem dX3_merge_1 : decode cX3_merge 1 = .ok (.iload_n 1, 1) := by decide +kernel
theorem dX3_merge_2 : decode cX3_merge 2 = .ok (.invokevirtual 63, 3) := by decide +kernel
theorem dX3_merge_5 : decode cX3_merge 5 = .ok (.astore_n 3, 1) := by decide +kernel
theorem dX3_merge_6 : decode cX3_merge 6 = .ok (.aload_n 0, 1) := by decide +kernel
theorem dX3_merge_7 : decode cX3_merge 7 = .ok (.iload_n 2, 1) := by decide +kernel
theorem dX3_merge_8 : decode cX3_merge 8 = .ok (.invokevirtual 63, 3) := by decide +kernel
theorem dX3_merge_11 : decode cX3_merge 11 = .ok (.astore 4, 2) := by decide +kernel
theorem dX3_merge_13 : decode cX3_merge 13 = .ok (.iload_n 1, 1) := by decide +kernel
theorem dX3_merge_14 : decode cX3_merge 14 = .ok (.iload_n 2, 1) := by decide +kernel
theorem dX3_merge_15 : decode cX3_merge 15 = .ok (.if_icmp .ne 13, 3) := by decide +kernel
theorem dX3_merge_18 : decode cX3_merge 18 = .ok (.new 42, 3) := by decide +kernel
theorem dX3_merge_21 : decode cX3_merge 21 = .ok (.dup, 1) := by decide +kernel
theorem dX3_merge_22 : decode cX3_merge 22 = .ok (.ldc 108, 2) := by decide +kernel
theorem dX3_merge_24 : decode cX3_merge 24 = .ok (.invokespecial 46, 3) := by decide +kernel
theorem dX3_merge_27 : decode cX3_merge 27 = .ok (.athrow, 1) := by decide +kernel
theorem dX3_merge_28 : decode cX3_merge 28 = .ok (.aload_n 3, 1) := by decide +kernel
theorem dX3_merge_29 : decode cX3_merge 29 = .ok (.aload 4, 2) := by decide +kernel
theorem dX3_merge_31 : decode cX3_merge 31 = .ok (.invokestatic 98, 3) := by decide +kernel
theorem dX3_merge_34 : decode cX3_merge 34 = .ok (.astore 5, 2) := by decide +kernel
theorem dX3_merge_36 : decode cX3_merge 36 = .ok (.aload 5, 2) := by decide +kernel
theorem dX3_merge_38 : decode cX3_merge 38 = .ok (.ifnonnull 13, 3) := by decide +kernel
theorem dX3_merge_41 : decode cX3_merge 41 = .ok (.new 85, 3) := by decide +kernel
theorem dX3_merge_44 : decode cX3_merge 44 = .ok (.dup, 1) := by decide +kernel
theorem dX3_merge_45 : decode cX3_merge 45 = .ok (.ldc 102, 2) := by decide +kernel
theorem dX3_merge_47 : decode cX3_merge 47 = .ok (.invokespecial 89, 3) := by decide +kernel
theorem dX3_merge_50 : decode cX3_merge 50 = .ok (.athrow, 1) := by decide +kernel
theorem dX3_merge_51 : decode cX3_merge 51 = .ok (.aload_n 0, 1) := by decide +kernel
theorem dX3_merge_52 : decode cX3_merge 52 = .ok (.aload_n 3, 1) := by decide +kernel
theorem dX3_merge_53 : decode cX3_merge 53 = .ok (.invokevirtual 49, 3) := by decide +kernel
theorem dX3_merge_56 : decode cX3_merge 56 = .ok (.astore 6, 2) := by decide +kernel
theorem dX3_merge_58 : decode cX3_merge 58 = .ok (.aload 6, 2) := by decide +kernel
theorem dX3_merge_60 : decode cX3_merge 60 = .ok (.getfield 53, 3) := by decide +kernel
theorem dX3_merge_63 : decode cX3_merge 63 = .ok (.aload_n 3, 1) := by decide +kernel
theorem dX3_merge_64 : decode cX3_merge 64 = .ok (.getfield 53, 3) := by decide +kernel
theorem dX3_merge_67 : decode cX3_merge 67 = .ok (.aload 4, 2) := by decide +kernel
theorem dX3_merge_69 : decode cX3_merge 69 = .ok (.getfield 53, 3) := by decide +kernel
theorem dX3_merge_72 : decode cX3_merge 72 = .ok (.aload 5, 2) := by decide +kernel
theorem dX3_merge_74 : decode cX3_merge 74 = .ok (.getfield 53, 3) := by decide +kernel
theorem dX3_merge_77 : decode cX3_merge 77 = .ok (.invokestatic 110, 3) := by decide +kernel
theorem dX3_merge_80 : decode cX3_merge 80 = .ok (.aload_n 3, 1) := by decide +kernel
theorem dX3_merge_81 : decode cX3_merge 81 = .ok (.iconst 1, 1) := by decide +kernel
theorem dX3_merge_82 : decode cX3_merge 82 = .ok (.putfield 71, 3) := by decide +kernel
theorem dX3_merge_85 : decode cX3_merge 85 = .ok (.aload 4, 2) := by decide +kernel
theorem dX3_merge_87 : decode cX3_merge 87 = .ok (.iconst 1, 1) := by decide +kernel
theorem dX3_merge_88 : decode cX3_merge 88 = .ok (.putfield 71, 3) := by decide +kernel
theorem dX3_merge_91 : decode cX3_merge 91 = .ok (.aload 6, 2) := by decide +kernel
theorem dX3_merge_93 : decode cX3_merge 93 = .ok (.getfield 60, 3) := by decide +kernel
theorem dX3_merge_96 : decode cX3_merge 96 = .ok (.ireturn, 1) := by decide +kernel
theorem dX3_setWeight_0 : decode cX3_setWeight 0 = .ok (.iload_n 1, 1) := by decide +kernel
theorem dX3_setWeight_1 : decode cX3_setWeight 1 = .ok (.ifCond .lt 12, 3) := by decide +kernel
theorem dX3_setWeight_4 : decode cX3_setWeight 4 = .ok (.iload_n 1, 1) := by decide +kernel
theorem dX3_setWeight_5 : decode cX3_setWeight 5 = .ok (.aload_n 0, 1) := by decide +kernel
theorem dX3_setWeight_6 : decode cX3_setWeight 6 = .ok (.getfield 28, 3) := by decide +kernel
theorem dX3_setWeight_9 : decode cX3_setWeight 9 = .ok (.arraylength, 1) := by decide +kernel
theorem dX3_setWeight_10 : decode cX3_setWeight 10 = .ok (.if_icmp .lt 13, 3) := by decide +kernel
theorem dX3_setWeight_13 : decode cX3_setWeight 13 = .ok (.new 114, 3) := by decide +kernel
theorem dX3_setWeight_16 : decode cX3_setWeight 16 = .ok (.dup, 1) := by decide +kernel
theorem dX3_setWeight_17 : decode cX3_setWeight 17 = .ok (.ldc 116, 2) := by decide +kernel
theorem dX3_setWeight_19 : decode cX3_setWeight 19 = .ok (.invokespecial 118, 3) := by decide +kernel
theorem dX3_setWeight_22 : decode cX3_setWeight 22 = .ok (.athrow, 1) := by decide +kernel
theorem dX3_setWeight_23 : decode cX3_setWeight 23 = .ok (.iload_n 2, 1) := by decide +kernel
theorem dX3_setWeight_24 : decode cX3_setWeight 24 = .ok (.ifCond .lt 9, 3) := by decide +kernel
theorem dX3_setWeight_27 : decode cX3_setWeight 27 = .ok (.iload_n 2, 1) := by decide +kernel
theorem dX3_setWeight_28 : decode cX3_setWeight 28 = .ok (.bipush 50, 2) := by decide +kernel
theorem dX3_setWeight_30 : decode cX3_setWeight 30 = .ok (.if_icmp .le 13, 3) := by decide +kernel
theorem dX3_setWeight_33 : decode cX3_setWeight 33 = .ok (.new 42, 3) := by decide +kernel
theorem dX3_setWeight_36 : decode cX3_setWeight 36 = .ok (.dup, 1) := by decide +kernel
theorem dX3_setWeight_37 : decode cX3_setWeight 37 = .ok (.ldc 119, 2) := by decide +kernel
theorem dX3_setWeight_39 : decode cX3_setWeight 39 = .ok (.invokespecial 46, 3) := by decide +kernel
theorem dX3_setWeight_42 : decode cX3_setWeight 42 = .ok (.athrow, 1) := by decide +kernel
theorem dX3_setWeight_43 : decode cX3_setWeight 43 = .ok (.aload_n 0, 1) := by decide +kernel
theorem dX3_setWeight_44 : decode cX3_setWeight 44 = .ok (.getfield 28, 3) := by decide +kernel
theorem dX3_setWeight_47 : decode cX3_setWeight 47 = .ok (.iload_n 1, 1) := by decide +kernel
theorem dX3_setWeight_48 : decode cX3_setWeight 48 = .ok (.iaload, 1) := by decide +kernel
theorem dX3_setWeight_49 : decode cX3_setWeight 49 = .ok (.istore_n 3, 1) := by decide +kernel
theorem dX3_setWeight_50 : decode cX3_setWeight 50 = .ok (.aload_n 0, 1) := by decide +kernel
theorem dX3_setWeight_51 : decode cX3_setWeight 51 = .ok (.getfield 28, 3) := by decide +kernel
theorem dX3_setWeight_54 : decode cX3_setWeight 54 = .ok (.iload_n 1, 1) := by decide +kernel
theorem dX3_setWeight_55 : decode cX3_setWeight 55 = .ok (.iload_n 2, 1) := by decide +kernel
theorem dX3_setWeight_56 : decode cX3_setWeight 56 = .ok (.iastore, 1) := by decide +kernel
theorem dX3_setWeight_57 : decode cX3_setWeight 57 = .ok (.iload_n 3, 1) := by decide +kernel
theorem dX3_setWeight_58 : decode cX3_setWeight 58 = .ok (.ireturn, 1) := by decide +kernel
theorem dX3_setPass_0 : decode cX3_setPass 0 = .ok (.iload_n 1, 1) := by decide +kernel
theorem dX3_setPass_1 : decode cX3_setPass 1 = .ok (.ifCond .lt 9, 3) := by decide +kernel
theorem dX3_setPass_4 : decode cX3_setPass 4 = .ok (.iload_n 1, 1) := by decide +kernel
theorem dX3_setPass_5 : decode cX3_setPass 5 = .ok (.bipush 100, 2) := by decide +kernel
theorem dX3_setPass_7 : decode cX3_setPass 7 = .ok (.if_icmp .le 13, 3) := by decide +kernel
theorem dX3_setPass_10 : decode cX3_setPass 10 = .ok (.new 42, 3) := by decide +kernel
theorem dX3_setPass_13 : decode cX3_setPass 13 = .ok (.dup, 1) := by decide +kernel
theorem dX3_setPass_14 : decode cX3_setPass 14 = .ok (.ldc 121, 2) := by decide +kernel
theorem dX3_setPass_16 : decode cX3_setPass 16 = .ok (.invokespecial 46, 3) := by decide +kernel
theorem dX3_setPass_19 : decode cX3_setPass 19 = .ok (.athrow, 1) := by decide +kernel
theorem dX3_setPass_20 : decode cX3_setPass 20 = .ok (.aload_n 0, 1) := by decide +kernel
theorem dX3_setPass_21 : decode cX3_setPass 21 = .ok (.getfield 32, 3) := by decide +kernel
theorem dX3_setPass_24 : decode cX3_setPass 24 = .ok (.istore_n 2, 1) := by decide +kernel
theorem dX3_setPass_25 : decode cX3_setPass 25 = .ok (.aload_n 0, 1) := by decide +kernel
theorem dX3_setPass_26 : decode cX3_setPass 26 = .ok (.iload_n 1, 1) := by decide +kernel
theorem dX3_setPass_27 : decode cX3_setPass 27 = .ok (.putfield 32, 3) := by decide +kernel
theorem dX3_setPass_30 : decode cX3_setPass 30 = .ok (.iload_n 2, 1) := by decide +kernel
theorem dX3_setPass_31 : decode cX3_setPass 31 = .ok (.ireturn, 1) := by decide +kernel
set_option maxRecDepth 20000 in
theorem ggX3_faults_X3_findVersion : GoodIn wsX3_faults wsX3_findVersion := goodIn_ca (goodIn_r _ [7, 1, 2, 8, 64, 65, 66, 67, 68, 69, 70] (by decide +kernel) (by decide +kernel)) (goodIn_sub (fun _ h => List.mem_cons_of_mem _ (List.mem_append_right _ h)) (by decide +kernel))
set_option maxRecDepth 20000 in
theorem gX3_faults_X3_findVersion : GoodIn wsX3_faults (wsV RX3 63 RX3 yX3_findVersion wsX3_findVersion) := goodIn_app (goodIn_of _ (by decide +kernel)) ggX3_faults_X3_findVersion
set_option maxRecDepth 20000 in
theorem ggX3_faults_X3_checkBar : GoodIn wsX3_faults wsX3_checkBar := goodIn_ca (goodIn_r _ [11, 1, 2, 59, 60, 61, 62, 63, 71, 72, 73] (by decide +kernel) (by decide +kernel)) (goodIn_sub (fun _ h => List.mem_cons_of_mem _ (List.mem_append_right _ h)) (by decide +kernel))
set_option maxRecDepth 20000 in
theorem gX3_faults_X3_checkBar : GoodIn wsX3_faults (va_wsS RX3 79 yX3_checkBar wsX3_checkBar) := goodIn_app (goodIn_of _ (by decide +kernel)) ggX3_faults_X3_checkBar
set_option maxRecDepth 20000 in
theorem ggX3_faults_X1_faultsOf : GoodIn wsX3_faults wsX1_faultsOf := goodIn_r _ [16, 17, 18, 19, 15, 20, 21, 22, 23, 24, 25, 26, 27, 28, 29, 30, 31, 32, 33, 34, 35, 36, 37, 38, 39, 40, 41, 42, 43, 44, 45, 46, 47, 48, 49, 50, 51, 52, 53, 54, 55, 56, 57, 58, 71, 72, 73] (by decide +kernel) (by decide +kernel)
set_option maxRecDepth 20000 in
theorem gX3_faults_X1_faultsOf : GoodIn wsX3_faults (wsV RX3 123 RX1 yX1_faultsOf wsX1_faultsOf) := goodIn_app (goodIn_of _ (by decide +kernel)) ggX3_faults_X1_faultsOf
theorem dX3_faults_0 : decode cX3_faults 0 = .ok (.aload_n 0, 1) := by decide +kernel
theorem dX3_faults_1 : decode cX3_faults 1 = .ok (.iload_n 1, 1) := by decide +kernel
theorem dX3_faults_2 : decode cX3_faults 2 = .ok (.invokevirtual 63, 3) := by decide +kernel
theorem dX3_faults_5 : decode cX3_faults 5 = .ok (.astore 4, 2) := by decide +kernel
theorem dX3_faults_7 : decode cX3_faults 7 = .ok (.aload 4, 2) := by decide +kernel
theorem dX3_faults_9 : decode cX3_faults 9 = .ok (.iload_n 2, 1) := by decide +kernel
theorem dX3_faults_10 : decode cX3_faults 10 = .ok (.invokestatic 79, 3) := by decide +kernel
theorem dX3_faults_13 : decode cX3_faults 13 = .ok (.iload_n 3, 1) := by decide +kernel
theorem dX3_faults_14 : decode cX3_faults 14 = .ok (.ifCond .lt 9, 3) := by decide +kernel
theorem dX3_faults_17 : decode cX3_faults 17 = .ok (.iload_n 3, 1) := by decide +kernel
theorem dX3_faults_18 : decode cX3_faults 18 = .ok (.bipush 6, 2) := by decide +kernel
theorem dX3_faults_20 : decode cX3_faults 20 = .ok (.if_icmp .lt 13, 3) := by decide +kernel
theorem dX3_faults_23 : decode cX3_faults 23 = .ok (.new 114, 3) := by decide +kernel
theorem dX3_faults_26 : decode cX3_faults 26 = .ok (.dup, 1) := by decide +kernel
theorem dX3_faults_27 : decode cX3_faults 27 = .ok (.ldc 116, 2) := by decide +kernel
theorem dX3_faults_29 : decode cX3_faults 29 = .ok (.invokespecial 118, 3) := by decide +kernel
theorem dX3_faults_32 : decode cX3_faults 32 = .ok (.athrow, 1) := by decide +kernel
theorem dX3_faults_33 : decode cX3_faults 33 = .ok (.aload 4, 2) := by decide +kernel
theorem dX3_faults_35 : decode cX3_faults 35 = .ok (.getfield 53, 3) := by decide +kernel
theorem dX3_faults_38 : decode cX3_faults 38 = .ok (.iload_n 3, 1) := by decide +kernel
theorem dX3_faults_39 : decode cX3_faults 39 = .ok (.iload_n 2, 1) := by decide +kernel
theorem dX3_faults_40 : decode cX3_faults 40 = .ok (.invokevirtual 123, 3) := by decide +kernel
theorem dX3_faults_43 : decode cX3_faults 43 = .ok (.ireturn, 1) := by decide +kernel
set_option maxRecDepth 20000 in
theorem ggX3_mark_X3_findVersion : GoodIn wsX3_mark wsX3_findVersion := goodIn_ca (goodIn_r _ [5, 6, 7, 8, 73, 74, 75, 76, 77, 78, 79] (by decide +kernel) (by decide +kernel)) (goodIn_sub (fun _ h => List.mem_cons_of_mem _ (List.mem_append_right _ h)) (by decide +kernel))
set_option maxRecDepth 20000 in
theorem gX3_mark_X3_findVersion : GoodIn wsX3_mark (wsV RX3 63 RX3 yX3_findVersion wsX3_findVersion) := goodIn_app (goodIn_of _ (by decide +kernel)) ggX3_mark_X3_findVersion
set_option maxRecDepth 20000 in
theorem ggX3_mark_X3_markOf : GoodIn wsX3_mark wsX3_markOf := goodIn_r _ [12, 13, 14, 15, 16, 17, 18, 19, 4, 20, 21, 22, 23, 24, 25, 26, 27, 28, 29, 30, 31, 32, 33, 34, 35, 36, 37, 38, 39, 40, 41, 42, 43, 44, 45, 46, 47, 48, 49, 50, 51, 52, 53, 54, 55, 56, 57, 58, 59, 60, 61, 62, 63, 64, 65, 66, 67, 80, 81, 82, 73, 74, 75, 76, 77, 78, 79] (by decide +kernel) (by decide +kernel)
set_option maxRecDepth 20000 in
theorem gX3_mark_X3_markOf : GoodIn wsX3_mark (wsV RX3 126 RX3 yX3_markOf wsX3_markOf) := goodIn_app (goodIn_of _ (by decide +kernel)) ggX3_mark_X3_markOf
theorem dX3_mark_0 : decode cX3_mark 0 = .ok (.aload_n 0, 1) := by decide +kernel
theorem dX3_mark_1 : decode cX3_mark 1 = .ok (.aload_n 0, 1) := by decide +kernel
theorem dX3_mark_2 : decode cX3_mark 2 = .ok (.iload_n 1, 1) := by decide +kernel
theorem dX3_mark_3 : decode cX3_mark 3 = .ok (.invokevirtual 63, 3) := by decide +kernel
theorem dX3_mark_6 : decode cX3_mark 6 = .ok (.getfield 53, 3) := by decide +kernel
theorem dX3_mark_9 : decode cX3_mark 9 = .ok (.invokevirtual 126, 3) := by decide +kernel
theorem dX3_mark_12 : decode cX3_mark 12 = .ok (.ireturn, 1) := by decide +kernel
set_option maxRecDepth 20000 in
theorem ggX3_handIn_X3_findVersion : GoodIn wsX3_handIn wsX3_findVersion := goodIn_ca (goodIn_r _ [6, 7, 8, 9, 74, 75, 76, 77, 78, 79, 80] (by decide +kernel) (by decide +kernel)) (goodIn_sub (fun _ h => List.mem_cons_of_mem _ (List.mem_append_right _ h)) (by decide +kernel))
set_option maxRecDepth 20000 in
theorem gX3_handIn_X3_findVersion : GoodIn wsX3_handIn (wsV RX3 63 RX3 yX3_findVersion wsX3_findVersion) := goodIn_app (goodIn_of _ (by decide +kernel)) ggX3_handIn_X3_findVersion
set_option maxRecDepth 20000 in
theorem ggX3_handIn_X3_markOf : GoodIn wsX3_handIn wsX3_markOf := goodIn_r _ [13, 14, 15, 16, 17, 18, 19, 20, 5, 21, 22, 23, 24, 25, 26, 27, 28, 29, 30, 31, 32, 33, 34, 35, 36, 37, 38, 39, 40, 41, 42, 43, 44, 45, 46, 47, 48, 49, 50, 51, 52, 53, 54, 55, 56, 57, 58, 59, 60, 61, 62, 63, 64, 65, 66, 67, 68, 81, 82, 83, 74, 75, 76, 77, 78, 79, 80] (by decide +kernel) (by decide +kernel)
set_option maxRecDepth 20000 in
theorem gX3_handIn_X3_markOf : GoodIn wsX3_handIn (wsV RX3 126 RX3 yX3_markOf wsX3_markOf) := goodIn_app (goodIn_of _ (by decide +kernel)) ggX3_handIn_X3_markOf
theorem dX3_handIn_0 : decode cX3_handIn 0 = .ok (.aload_n 0, 1) := by decide +kernel
theorem dX3_handIn_1 : decode cX3_handIn 1 = .ok (.iload_n 1, 1) := by decide +kernel
theorem dX3_handIn_2 : decode cX3_handIn 2 = .ok (.invokevirtual 63, 3) := by decide +kernel
theorem dX3_handIn_5 : decode cX3_handIn 5 = .ok (.astore_n 2, 1) := by decide +kernel
theorem dX3_handIn_6 : decode cX3_handIn 6 = .ok (.aload_n 2, 1) := by decide +kernel
theorem dX3_handIn_7 : decode cX3_handIn 7 = .ok (.aload_n 0, 1) := by decide +kernel
theorem dX3_handIn_8 : decode cX3_handIn 8 = .ok (.aload_n 2, 1) := by decide +kernel
theorem dX3_handIn_9 : decode cX3_handIn 9 = .ok (.getfield 53, 3) := by decide +kernel
theorem dX3_handIn_12 : decode cX3_handIn 12 = .ok (.invokevirtual 126, 3) := by decide +kernel
theorem dX3_handIn_15 : decode cX3_handIn 15 = .ok (.aload_n 0, 1) := by decide +kernel
theorem dX3_handIn_16 : decode cX3_handIn 16 = .ok (.getfield 32, 3) := by decide +kernel
theorem dX3_handIn_19 : decode cX3_handIn 19 = .ok (.if_icmp .lt 7, 3) := by decide +kernel
theorem dX3_handIn_22 : decode cX3_handIn 22 = .ok (.iconst 1, 1) := by decide +kernel
theorem dX3_handIn_23 : decode cX3_handIn 23 = .ok (.goto 4, 3) := by decide +kernel
theorem dX3_handIn_26 : decode cX3_handIn 26 = .ok (.iconst 0, 1) := by decide +kernel
theorem dX3_handIn_27 : decode cX3_handIn 27 = .ok (.putfield 130, 3) := by decide +kernel
theorem dX3_handIn_30 : decode cX3_handIn 30 = .ok (.aload_n 2, 1) := by decide +kernel
theorem dX3_handIn_31 : decode cX3_handIn 31 = .ok (.getfield 130, 3) := by decide +kernel
theorem dX3_handIn_34 : decode cX3_handIn 34 = .ok (.ireturn, 1) := by decide +kernel
set_option maxRecDepth 20000 in
theorem ggX3_fallen_X3_markOf : GoodIn wsX3_fallen wsX3_markOf := goodIn_r _ [7, 8, 9, 10, 11, 12, 13, 14, 6, 15, 16, 17, 18, 19, 20, 21, 22, 23, 24, 25, 26, 27, 28, 29, 30, 31, 32, 33, 34, 35, 36, 37, 38, 39, 40, 41, 42, 43, 44, 45, 46, 47, 48, 49, 50, 51, 52, 53, 54, 55, 56, 57, 58, 59, 60, 61, 62, 75, 76, 77, 63, 64, 65, 66, 67, 68, 69] (by decide +kernel) (by decide +kernel)
set_option maxRecDepth 20000 in
theorem gX3_fallen_X3_markOf : GoodIn wsX3_fallen (wsV RX3 126 RX3 yX3_markOf wsX3_markOf) := goodIn_app (goodIn_of _ (by decide +kernel)) ggX3_fallen_X3_markOf
theorem dX3_fallen_0 : decode cX3_fallen 0 = .ok (.iconst 0, 1) := by decide +kernel
theorem dX3_fallen_1 : decode cX3_fallen 1 = .ok (.istore_n 1, 1) := by decide +kernel
theorem dX3_fallen_2 : decode cX3_fallen 2 = .ok (.iconst 0, 1) := by decide +kernel
theorem dX3_fallen_3 : decode cX3_fallen 3 = .ok (.istore_n 2, 1) := by decide +kernel
theorem dX3_fallen_4 : decode cX3_fallen 4 = .ok (.iload_n 2, 1) := by decide +kernel
theorem dX3_fallen_5 : decode cX3_fallen 5 = .ok (.aload_n 0, 1) := by decide +kernel
theorem dX3_fallen_6 : decode cX3_fallen 6 = .ok (.getfield 11, 3) := by decide +kernel
theorem dX3_fallen_9 : decode cX3_fallen 9 = .ok (.arraylength, 1) := by decide +kernel
theorem dX3_fallen_10 : decode cX3_fallen 10 = .ok (.if_icmp .ge 48, 3) := by decide +kernel
theorem dX3_fallen_13 : decode cX3_fallen 13 = .ok (.aload_n 0, 1) := by decide +kernel
theorem dX3_fallen_14 : decode cX3_fallen 14 = .ok (.getfield 11, 3) := by decide +kernel
theorem dX3_fallen_17 : decode cX3_fallen 17 = .ok (.iload_n 2, 1) := by decide +kernel
theorem dX3_fallen_18 : decode cX3_fallen 18 = .ok (.aaload, 1) := by decide +kernel
theorem dX3_fallen_19 : decode cX3_fallen 19 = .ok (.astore_n 3, 1) := by decide +kernel
theorem dX3_fallen_20 : decode cX3_fallen 20 = .ok (.aload_n 3, 1) := by decide +kernel
theorem dX3_fallen_21 : decode cX3_fallen 21 = .ok (.ifnull 31, 3) := by decide +kernel
theorem dX3_fallen_24 : decode cX3_fallen 24 = .ok (.aload_n 3, 1) := by decide +kernel
theorem dX3_fallen_25 : decode cX3_fallen 25 = .ok (.getfield 130, 3) := by decide +kernel
theorem dX3_fallen_28 : decode cX3_fallen 28 = .ok (.ifCond .eq 24, 3) := by decide +kernel
theorem dX3_fallen_31 : decode cX3_fallen 31 = .ok (.aload_n 0, 1) := by decide +kernel
theorem dX3_fallen_32 : decode cX3_fallen 32 = .ok (.aload_n 3, 1) := by decide +kernel
theorem dX3_fallen_33 : decode cX3_fallen 33 = .ok (.getfield 53, 3) := by decide +kernel
theorem dX3_fallen_36 : decode cX3_fallen 36 = .ok (.invokevirtual 126, 3) := by decide +kernel
theorem dX3_fallen_39 : decode cX3_fallen 39 = .ok (.aload_n 0, 1) := by decide +kernel
theorem dX3_fallen_40 : decode cX3_fallen 40 = .ok (.getfield 32, 3) := by decide +kernel
theorem dX3_fallen_43 : decode cX3_fallen 43 = .ok (.if_icmp .ge 9, 3) := by decide +kernel
theorem dX3_fallen_46 : decode cX3_fallen 46 = .ok (.iload_n 1, 1) := by decide +kernel
theorem dX3_fallen_47 : decode cX3_fallen 47 = .ok (.iconst 1, 1) := by decide +kernel
theorem dX3_fallen_48 : decode cX3_fallen 48 = .ok (.iload_n 2, 1) := by decide +kernel
theorem dX3_fallen_49 : decode cX3_fallen 49 = .ok (.ishl, 1) := by decide +kernel
theorem dX3_fallen_50 : decode cX3_fallen 50 = .ok (.ior, 1) := by decide +kernel
theorem dX3_fallen_51 : decode cX3_fallen 51 = .ok (.istore_n 1, 1) := by decide +kernel
theorem dX3_fallen_52 : decode cX3_fallen 52 = .ok (.iinc 2 1, 3) := by decide +kernel
theorem dX3_fallen_55 : decode cX3_fallen 55 = .ok (.goto (-51), 3) := by decide +kernel
theorem dX3_fallen_58 : decode cX3_fallen 58 = .ok (.iload_n 1, 1) := by decide +kernel
theorem dX3_fallen_59 : decode cX3_fallen 59 = .ok (.ireturn, 1) := by decide +kernel
set_option maxRecDepth 20000 in
theorem ggX3_best_X3_findVersion : GoodIn wsX3_best wsX3_findVersion := goodIn_ca (goodIn_r _ [6, 7, 8, 9, 88, 89, 90, 91, 92, 93, 94] (by decide +kernel) (by decide +kernel)) (goodIn_sub (fun _ h => List.mem_cons_of_mem _ (List.mem_append_right _ h)) (by decide +kernel))
set_option maxRecDepth 20000 in
theorem gX3_best_X3_findVersion : GoodIn wsX3_best (wsV RX3 63 RX3 yX3_findVersion wsX3_findVersion) := goodIn_app (goodIn_of _ (by decide +kernel)) ggX3_best_X3_findVersion
set_option maxRecDepth 20000 in
theorem ggX3_best_X3_checkVoice : GoodIn wsX3_best wsX3_checkVoice := goodIn_ca (goodIn_r _ [12, 7, 8] (by decide +kernel) (by decide +kernel)) (goodIn_sub (fun _ h => List.mem_cons_of_mem _ (List.mem_append_right _ h)) (by decide +kernel))
set_option maxRecDepth 20000 in
theorem gX3_best_X3_checkVoice : GoodIn wsX3_best (va_wsS RX3 75 yX3_checkVoice wsX3_checkVoice) := goodIn_app (goodIn_of _ (by decide +kernel)) ggX3_best_X3_checkVoice
set_option maxRecDepth 20000 in
theorem ggX3_best_X3_checkBar : GoodIn wsX3_best wsX3_checkBar := goodIn_ca (goodIn_r _ [15, 7, 8, 95, 96, 97, 98, 99, 100, 101, 102] (by decide +kernel) (by decide +kernel)) (goodIn_sub (fun _ h => List.mem_cons_of_mem _ (List.mem_append_right _ h)) (by decide +kernel))
set_option maxRecDepth 20000 in
theorem gX3_best_X3_checkBar : GoodIn wsX3_best (va_wsS RX3 79 yX3_checkBar wsX3_checkBar) := goodIn_app (goodIn_of _ (by decide +kernel)) ggX3_best_X3_checkBar
set_option maxRecDepth 20000 in
theorem ggX3_best_X1_takeAll : GoodIn wsX3_best wsX1_takeAll := goodIn_r _ [20, 21, 22, 23, 24, 19, 25, 26, 27, 28, 29, 30, 31, 32, 33, 34, 35, 100, 101, 102] (by decide +kernel) (by decide +kernel)
set_option maxRecDepth 20000 in
theorem gX3_best_X1_takeAll : GoodIn wsX3_best (wsV RX3 67 RX1 yX1_takeAll wsX1_takeAll) := goodIn_app (goodIn_of _ (by decide +kernel)) ggX3_best_X1_takeAll
set_option maxRecDepth 20000 in
theorem ggX3_best_X3_bestTone : GoodIn wsX3_best wsX3_bestTone := goodIn_r _ [39, 1, 40, 41, 42, 43, 44, 33, 34, 19, 35, 30, 31, 45, 46, 47, 5, 48, 49, 50, 51, 52, 53, 54, 55, 56, 57, 58, 59, 60, 61, 62, 63, 64, 26, 27, 28, 29, 65, 66, 67, 68, 69, 70, 71, 72, 73, 74, 75, 76, 77, 78, 79, 80, 81, 82, 83, 21, 84, 85, 86, 87, 88, 89, 90, 91, 92, 93, 94, 100, 101, 102] (by decide +kernel) (by decide +kernel)
set_option maxRecDepth 20000 in
theorem gX3_best_X3_bestTone : GoodIn wsX3_best (wsV RX3 133 RX3 yX3_bestTone wsX3_bestTone) := goodIn_app (goodIn_of _ (by decide +kernel)) ggX3_best_X3_bestTone
theorem dX3_best_0 : decode cX3_best 0 = .ok (.aload_n 0, 1) := by decide +kernel
theorem dX3_best_1 : decode cX3_best 1 = .ok (.iload_n 1, 1) := by decide +kernel
theorem dX3_best_2 : decode cX3_best 2 = .ok (.invokevirtual 63, 3) := by decide +kernel
theorem dX3_best_5 : decode cX3_best 5 = .ok (.astore 4, 2) := by decide +kernel
theorem dX3_best_7 : decode cX3_best 7 = .ok (.iload_n 2, 1) := by decide +kernel
theorem dX3_best_8 : decode cX3_best 8 = .ok (.invokestatic 75, 3) := by decide +kernel
theorem dX3_best_11 : decode cX3_best 11 = .ok (.aload 4, 2) := by decide +kernel
theorem dX3_best_13 : decode cX3_best 13 = .ok (.iload_n 3, 1) := by decide +kernel
theorem dX3_best_14 : decode cX3_best 14 = .ok (.invokestatic 79, 3) := by decide +kernel
theorem dX3_best_17 : decode cX3_best 17 = .ok (.aload_n 0, 1) := by decide +kernel
theorem dX3_best_18 : decode cX3_best 18 = .ok (.getfield 38, 3) := by decide +kernel
theorem dX3_best_21 : decode cX3_best 21 = .ok (.aload 4, 2) := by decide +kernel
theorem dX3_best_23 : decode cX3_best 23 = .ok (.getfield 53, 3) := by decide +kernel
theorem dX3_best_26 : decode cX3_best 26 = .ok (.invokevirtual 67, 3) := by decide +kernel
theorem dX3_best_29 : decode cX3_best 29 = .ok (.aload_n 0, 1) := by decide +kernel
theorem dX3_best_30 : decode cX3_best 30 = .ok (.iload_n 2, 1) := by decide +kernel
theorem dX3_best_31 : decode cX3_best 31 = .ok (.iload_n 3, 1) := by decide +kernel
theorem dX3_best_32 : decode cX3_best 32 = .ok (.invokevirtual 133, 3) := by decide +kernel
theorem dX3_best_35 : decode cX3_best 35 = .ok (.ireturn, 1) := by decide +kernel
set_option maxRecDepth 20000 in
theorem ggX3_movement_X3_findVersion : GoodIn wsX3_movement wsX3_findVersion := goodIn_ca (goodIn_r _ [5, 6, 7, 8, 40, 41, 42, 43, 44, 45, 46] (by decide +kernel) (by decide +kernel)) (goodIn_sub (fun _ h => List.mem_cons_of_mem _ (List.mem_append_right _ h)) (by decide +kernel))
set_option maxRecDepth 20000 in
theorem gX3_movement_X3_findVersion : GoodIn wsX3_movement (wsV RX3 63 RX3 yX3_findVersion wsX3_findVersion) := goodIn_app (goodIn_of _ (by decide +kernel)) ggX3_movement_X3_findVersion
set_option maxRecDepth 20000 in
theorem ggX3_movement_X3_checkVoice : GoodIn wsX3_movement wsX3_checkVoice := goodIn_ca (goodIn_r _ [11, 6, 7] (by decide +kernel) (by decide +kernel)) (goodIn_sub (fun _ h => List.mem_cons_of_mem _ (List.mem_append_right _ h)) (by decide +kernel))
set_option maxRecDepth 20000 in
theorem gX3_movement_X3_checkVoice : GoodIn wsX3_movement (va_wsS RX3 75 yX3_checkVoice wsX3_checkVoice) := goodIn_app (goodIn_of _ (by decide +kernel)) ggX3_movement_X3_checkVoice
set_option maxRecDepth 20000 in
theorem ggX3_movement_X1_wayOf : GoodIn wsX3_movement wsX1_wayOf := goodIn_r _ [16, 17, 18, 19, 20, 15, 21, 22, 23, 24, 25, 26, 27, 28, 29, 30, 31, 37, 38, 39] (by decide +kernel) (by decide +kernel)
set_option maxRecDepth 20000 in
theorem gX3_movement_X1_wayOf : GoodIn wsX3_movement (wsV RX3 139 RX1 yX1_wayOf wsX1_wayOf) := goodIn_app (goodIn_of _ (by decide +kernel)) ggX3_movement_X1_wayOf
theorem dX3_movement_0 : decode cX3_movement 0 = .ok (.aload_n 0, 1) := by decide +kernel
theorem dX3_movement_1 : decode cX3_movement 1 = .ok (.iload_n 1, 1) := by decide +kernel
theorem dX3_movement_2 : decode cX3_movement 2 = .ok (.invokevirtual 63, 3) := by decide +kernel
theorem dX3_movement_5 : decode cX3_movement 5 = .ok (.astore_n 3, 1) := by decide +kernel
theorem dX3_movement_6 : decode cX3_movement 6 = .ok (.iload_n 2, 1) := by decide +kernel
theorem dX3_movement_7 : decode cX3_movement 7 = .ok (.invokestatic 75, 3) := by decide +kernel
theorem dX3_movement_10 : decode cX3_movement 10 = .ok (.aload_n 3, 1) := by decide +kernel
theorem dX3_movement_11 : decode cX3_movement 11 = .ok (.getfield 53, 3) := by decide +kernel
theorem dX3_movement_14 : decode cX3_movement 14 = .ok (.getfield 136, 3) := by decide +kernel
theorem dX3_movement_17 : decode cX3_movement 17 = .ok (.iconst 1, 1) := by decide +kernel
theorem dX3_movement_18 : decode cX3_movement 18 = .ok (.isub, 1) := by decide +kernel
theorem dX3_movement_19 : decode cX3_movement 19 = .ok (.istore 4, 2) := by decide +kernel
theorem dX3_movement_21 : decode cX3_movement 21 = .ok (.iload 4, 2) := by decide +kernel
theorem dX3_movement_23 : decode cX3_movement 23 = .ok (.ifCond .gt 5, 3) := by decide +kernel
theorem dX3_movement_26 : decode cX3_movement 26 = .ok (.fconst 0, 1) := by decide +kernel
theorem dX3_movement_27 : decode cX3_movement 27 = .ok (.freturn, 1) := by decide +kernel
theorem dX3_movement_28 : decode cX3_movement 28 = .ok (.aload_n 3, 1) := by decide +kernel
theorem dX3_movement_29 : decode cX3_movement 29 = .ok (.getfield 53, 3) := by decide +kernel
theorem dX3_movement_32 : decode cX3_movement 32 = .ok (.iload_n 2, 1) := by decide +kernel
theorem dX3_movement_33 : decode cX3_movement 33 = .ok (.invokevirtual 139, 3) := by decide +kernel
theorem dX3_movement_36 : decode cX3_movement 36 = .ok (.i2f, 1) := by decide +kernel
theorem dX3_movement_37 : decode cX3_movement 37 = .ok (.iload 4, 2) := by decide +kernel
theorem dX3_movement_39 : decode cX3_movement 39 = .ok (.i2f, 1) := by decide +kernel
theorem dX3_movement_40 : decode cX3_movement 40 = .ok (.fdiv, 1) := by decide +kernel
theorem dX3_movement_41 : decode cX3_movement 41 = .ok (.freturn, 1) := by decide +kernel
set_option maxRecDepth 20000 in
theorem ggX3_print_X3_findVersion : GoodIn wsX3_print wsX3_findVersion := goodIn_ca (goodIn_r _ [5, 6, 7, 8, 50, 51, 52, 53, 54, 55, 56] (by decide +kernel) (by decide +kernel)) (goodIn_sub (fun _ h => List.mem_cons_of_mem _ (List.mem_append_left _ (List.mem_append_right _ h))) (by decide +kernel))
set_option maxRecDepth 20000 in
theorem gX3_print_X3_findVersion : GoodIn wsX3_print (wsV RX3 63 RX3 yX3_findVersion wsX3_findVersion) := goodIn_app (goodIn_of _ (by decide +kernel)) ggX3_print_X3_findVersion
set_option maxRecDepth 20000 in
theorem ggX3_print_X3_checkVoice : GoodIn wsX3_print wsX3_checkVoice := goodIn_ca (goodIn_r _ [11, 6, 7] (by decide +kernel) (by decide +kernel)) (goodIn_sub (fun _ h => List.mem_cons_of_mem _ (List.mem_append_left _ (List.mem_append_right _ h))) (by decide +kernel))
set_option maxRecDepth 20000 in
theorem gX3_print_X3_checkVoice : GoodIn wsX3_print (va_wsS RX3 75 yX3_checkVoice wsX3_checkVoice) := goodIn_app (goodIn_of _ (by decide +kernel)) ggX3_print_X3_checkVoice
set_option maxRecDepth 20000 in
theorem ggX3_print_X3_addCopy : GoodIn wsX3_print wsX3_addCopy := goodIn_ca (goodIn_r _ [15, 16, 17, 18, 19, 20, 21, 22, 23, 24, 25, 26, 27, 28, 29, 30, 31, 32, 33, 34, 35, 36, 37, 38, 39, 40, 41, 42, 43, 44, 50, 51, 52, 53, 54, 55, 56, 57, 58, 59, 60, 61, 62, 63] (by decide +kernel) (by decide +kernel)) (goodIn_sub (fun _ h => List.mem_cons_of_mem _ (List.mem_append_right _ h)) (by decide +kernel))
set_option maxRecDepth 20000 in
theorem gX3_print_X3_addCopy : GoodIn wsX3_print (wsV RX3 143 RX3 yX3_addCopy wsX3_addCopy) := goodIn_app (goodIn_of _ (by decide +kernel)) ggX3_print_X3_addCopy
theorem dX3_print_0 : decode cX3_print 0 = .ok (.aload_n 0, 1) := by decide +kernel
theorem dX3_print_1 : decode cX3_print 1 = .ok (.iload_n 1, 1) := by decide +kernel
theorem dX3_print_2 : decode cX3_print 2 = .ok (.invokevirtual 63, 3) := by decide +kernel
theorem dX3_print_5 : decode cX3_print 5 = .ok (.astore_n 3, 1) := by decide +kernel
theorem dX3_print_6 : decode cX3_print 6 = .ok (.iload_n 2, 1) := by decide +kernel
theorem dX3_print_7 : decode cX3_print 7 = .ok (.invokestatic 75, 3) := by decide +kernel
theorem dX3_print_10 : decode cX3_print 10 = .ok (.aload_n 0, 1) := by decide +kernel
theorem dX3_print_11 : decode cX3_print 11 = .ok (.iload_n 2, 1) := by decide +kernel
theorem dX3_print_12 : decode cX3_print 12 = .ok (.aload_n 3, 1) := by decide +kernel
theorem dX3_print_13 : decode cX3_print 13 = .ok (.getfield 53, 3) := by decide +kernel
theorem dX3_print_16 : decode cX3_print 16 = .ok (.invokevirtual 143, 3) := by decide +kernel
theorem dX3_print_19 : decode cX3_print 19 = .ok (.istore 4, 2) := by decide +kernel
theorem dX3_print_21 : decode cX3_print 21 = .ok (.aload_n 3, 1) := by decide +kernel
theorem dX3_print_22 : decode cX3_print 22 = .ok (.iconst 1, 1) := by decide +kernel
theorem dX3_print_23 : decode cX3_print 23 = .ok (.putfield 71, 3) := by decide +kernel
theorem dX3_print_26 : decode cX3_print 26 = .ok (.iload 4, 2) := by decide +kernel
theorem dX3_print_28 : decode cX3_print 28 = .ok (.ireturn, 1) := by decide +kernel
set_option maxRecDepth 20000 in
theorem ggX3_errata_X3_findCopy : GoodIn wsX3_errata wsX3_findCopy := goodIn_ca (goodIn_r _ [5, 6, 7, 8, 39, 40, 41, 42, 43, 44, 45] (by decide +kernel) (by decide +kernel)) (goodIn_sub (fun _ h => List.mem_cons_of_mem _ (List.mem_append_left _ (List.mem_append_right _ h))) (by decide +kernel))
set_option maxRecDepth 20000 in
theorem gX3_errata_X3_findCopy : GoodIn wsX3_errata (wsV RX3 147 RX3 yX3_findCopy wsX3_findCopy) := goodIn_app (goodIn_of _ (by decide +kernel)) ggX3_errata_X3_findCopy
set_option maxRecDepth 20000 in
theorem ggX3_errata_X3_findVersion : GoodIn wsX3_errata wsX3_findVersion := goodIn_ca (goodIn_r _ [12, 6, 7, 13, 39, 40, 41, 42, 43, 44, 45] (by decide +kernel) (by decide +kernel)) (goodIn_sub (fun _ h => List.mem_cons_of_mem _ (List.mem_append_left _ (List.mem_append_right _ h))) (by decide +kernel))
set_option maxRecDepth 20000 in
theorem gX3_errata_X3_findVersion : GoodIn wsX3_errata (wsV RX3 63 RX3 yX3_findVersion wsX3_findVersion) := goodIn_app (goodIn_of _ (by decide +kernel)) ggX3_errata_X3_findVersion
set_option maxRecDepth 20000 in
theorem ggX3_errata_X3_checkAsManyBars : GoodIn wsX3_errata wsX3_checkAsManyBars := goodIn_ca (goodIn_r _ [16, 17, 18, 46, 47, 48, 49, 34, 35, 36, 37, 38, 50, 51, 52] (by decide +kernel) (by decide +kernel)) (goodIn_sub (fun _ h => List.mem_cons_of_mem _ (List.mem_append_right _ h)) (by decide +kernel))
set_option maxRecDepth 20000 in
theorem gX3_errata_X3_checkAsManyBars : GoodIn wsX3_errata (va_wsS RX3 151 yX3_checkAsManyBars wsX3_checkAsManyBars) := goodIn_app (goodIn_of _ (by decide +kernel)) ggX3_errata_X3_checkAsManyBars
set_option maxRecDepth 20000 in
theorem ggX3_errata_X0_differingBars : GoodIn wsX3_errata wsX0_differingBars := goodIn_r _ [23, 24, 25, 26, 27, 28, 29, 30, 31, 32, 33, 46, 47, 48, 49, 50, 51, 52] (by decide +kernel) (by decide +kernel)
set_option maxRecDepth 20000 in
theorem gX3_errata_X0_differingBars : GoodIn wsX3_errata (wsV RX3 155 RX0 yX0_differingBars wsX0_differingBars) := goodIn_app (goodIn_of _ (by decide +kernel)) ggX3_errata_X0_differingBars
theorem dX3_errata_0 : decode cX3_errata 0 = .ok (.aload_n 0, 1) := by decide +kernel
theorem dX3_errata_1 : decode cX3_errata 1 = .ok (.iload_n 1, 1) := by decide +kernel
theorem dX3_errata_2 : decode cX3_errata 2 = .ok (.invokevirtual 147, 3) := by decide +kernel
theorem dX3_errata_5 : decode cX3_errata 5 = .ok (.astore_n 3, 1) := by decide +kernel
theorem dX3_errata_6 : decode cX3_errata 6 = .ok (.aload_n 0, 1) := by decide +kernel
theorem dX3_errata_7 : decode cX3_errata 7 = .ok (.iload_n 2, 1) := by decide +kernel
theorem dX3_errata_8 : decode cX3_errata 8 = .ok (.invokevirtual 63, 3) := by decide +kernel
theorem dX3_errata_11 : decode cX3_errata 11 = .ok (.astore 4, 2) := by decide +kernel
theorem dX3_errata_13 : decode cX3_errata 13 = .ok (.aload_n 3, 1) := by decide +kernel
theorem dX3_errata_14 : decode cX3_errata 14 = .ok (.aload 4, 2) := by decide +kernel
theorem dX3_errata_16 : decode cX3_errata 16 = .ok (.invokestatic 151, 3) := by decide +kernel
theorem dX3_errata_19 : decode cX3_errata 19 = .ok (.aload_n 3, 1) := by decide +kernel
theorem dX3_errata_20 : decode cX3_errata 20 = .ok (.aload 4, 2) := by decide +kernel
theorem dX3_errata_22 : decode cX3_errata 22 = .ok (.getfield 53, 3) := by decide +kernel
theorem dX3_errata_25 : decode cX3_errata 25 = .ok (.invokevirtual 155, 3) := by decide +kernel
theorem dX3_errata_28 : decode cX3_errata 28 = .ok (.ireturn, 1) := by decide +kernel
set_option maxRecDepth 20000 in
theorem ggX3_slip_X3_findCopy : GoodIn wsX3_slip wsX3_findCopy := goodIn_ca (goodIn_r _ [5, 6, 7, 8, 54, 55, 56, 57, 58, 59, 60] (by decide +kernel) (by decide +kernel)) (goodIn_sub (fun _ h => List.mem_cons_of_mem _ (List.mem_append_left _ (List.mem_append_right _ h))) (by decide +kernel))
set_option maxRecDepth 20000 in
theorem gX3_slip_X3_findCopy : GoodIn wsX3_slip (wsV RX3 147 RX3 yX3_findCopy wsX3_findCopy) := goodIn_app (goodIn_of _ (by decide +kernel)) ggX3_slip_X3_findCopy
set_option maxRecDepth 20000 in
theorem ggX3_slip_X3_findVersion : GoodIn wsX3_slip wsX3_findVersion := goodIn_ca (goodIn_r _ [12, 6, 7, 13, 54, 55, 56, 57, 58, 59, 60] (by decide +kernel) (by decide +kernel)) (goodIn_sub (fun _ h => List.mem_cons_of_mem _ (List.mem_append_left _ (List.mem_append_right _ h))) (by decide +kernel))
set_option maxRecDepth 20000 in
theorem gX3_slip_X3_findVersion : GoodIn wsX3_slip (wsV RX3 63 RX3 yX3_findVersion wsX3_findVersion) := goodIn_app (goodIn_of _ (by decide +kernel)) ggX3_slip_X3_findVersion
set_option maxRecDepth 20000 in
theorem ggX3_slip_X3_checkAsManyBars : GoodIn wsX3_slip wsX3_checkAsManyBars := goodIn_ca (goodIn_r _ [16, 17, 18, 50, 51, 52, 53, 45, 46, 47, 48, 49, 61, 62, 63] (by decide +kernel) (by decide +kernel)) (goodIn_sub (fun _ h => List.mem_cons_of_mem _ (List.mem_append_right _ h)) (by decide +kernel))
set_option maxRecDepth 20000 in
theorem gX3_slip_X3_checkAsManyBars : GoodIn wsX3_slip (va_wsS RX3 151 yX3_checkAsManyBars wsX3_checkAsManyBars) := goodIn_app (goodIn_of _ (by decide +kernel)) ggX3_slip_X3_checkAsManyBars
set_option maxRecDepth 20000 in
theorem ggX3_slip_X0_differingBars : GoodIn wsX3_slip wsX0_differingBars := goodIn_r _ [23, 24, 25, 26, 27, 28, 29, 30, 31, 32, 33, 50, 51, 52, 53, 61, 62, 63] (by decide +kernel) (by decide +kernel)
set_option maxRecDepth 20000 in
theorem gX3_slip_X0_differingBars : GoodIn wsX3_slip (wsV RX3 155 RX0 yX0_differingBars wsX0_differingBars) := goodIn_app (goodIn_of _ (by decide +kernel)) ggX3_slip_X0_differingBars
set_option maxRecDepth 20000 in
theorem ggX3_slip_J6_bitCount_0f7a4 : GoodIn wsX3_slip wsJ6_bitCount_0f7a4 := goodIn_r _ [37, 38, 39, 40] (by decide +kernel) (by decide +kernel)
set_option maxRecDepth 20000 in
theorem gX3_slip_J6_bitCount_0f7a4 : GoodIn wsX3_slip (va_wsS RX3 158 yJ6_bitCount_0f7a4 wsJ6_bitCount_0f7a4) := goodIn_app (goodIn_of _ (by decide +kernel)) ggX3_slip_J6_bitCount_0f7a4
set_option maxRecDepth 20000 in
theorem ggX3_slip_X0_takeVoice : GoodIn wsX3_slip wsX0_takeVoice := goodIn_r _ [44, 24, 25, 26, 27, 28, 29, 30, 31, 32, 33, 50, 51, 52, 53, 61, 62, 63] (by decide +kernel) (by decide +kernel)
set_option maxRecDepth 20000 in
theorem gX3_slip_X0_takeVoice : GoodIn wsX3_slip (wsV RX3 163 RX0 yX0_takeVoice wsX0_takeVoice) := goodIn_app (goodIn_of _ (by decide +kernel)) ggX3_slip_X0_takeVoice
theorem dX3_slip_0 : decode cX3_slip 0 = .ok (.aload_n 0, 1) := by decide +kernel
theorem dX3_slip_1 : decode cX3_slip 1 = .ok (.iload_n 1, 1) := by decide +kernel
theorem dX3_slip_2 : decode cX3_slip 2 = .ok (.invokevirtual 147, 3) := by decide +kernel
theorem dX3_slip_5 : decode cX3_slip 5 = .ok (.astore_n 3, 1) := by decide +kernel
theorem dX3_slip_6 : decode cX3_slip 6 = .ok (.aload_n 0, 1) := by decide +kernel
theorem dX3_slip_7 : decode cX3_slip 7 = .ok (.iload_n 2, 1) := by decide +kernel
theorem dX3_slip_8 : decode cX3_slip 8 = .ok (.invokevirtual 63, 3) := by decide +kernel
theorem dX3_slip_11 : decode cX3_slip 11 = .ok (.astore 4, 2) := by decide +kernel
theorem dX3_slip_13 : decode cX3_slip 13 = .ok (.aload_n 3, 1) := by decide +kernel
theorem dX3_slip_14 : decode cX3_slip 14 = .ok (.aload 4, 2) := by decide +kernel
theorem dX3_slip_16 : decode cX3_slip 16 = .ok (.invokestatic 151, 3) := by decide +kernel
theorem dX3_slip_19 : decode cX3_slip 19 = .ok (.aload_n 3, 1) := by decide +kernel
theorem dX3_slip_20 : decode cX3_slip 20 = .ok (.aload 4, 2) := by decide +kernel
theorem dX3_slip_22 : decode cX3_slip 22 = .ok (.getfield 53, 3) := by decide +kernel
theorem dX3_slip_25 : decode cX3_slip 25 = .ok (.invokevirtual 155, 3) := by decide +kernel
theorem dX3_slip_28 : decode cX3_slip 28 = .ok (.invokestatic 158, 3) := by decide +kernel
theorem dX3_slip_31 : decode cX3_slip 31 = .ok (.istore 5, 2) := by decide +kernel
theorem dX3_slip_33 : decode cX3_slip 33 = .ok (.aload_n 3, 1) := by decide +kernel
theorem dX3_slip_34 : decode cX3_slip 34 = .ok (.aload 4, 2) := by decide +kernel
theorem dX3_slip_36 : decode cX3_slip 36 = .ok (.getfield 53, 3) := by decide +kernel
theorem dX3_slip_39 : decode cX3_slip 39 = .ok (.invokevirtual 163, 3) := by decide +kernel
theorem dX3_slip_42 : decode cX3_slip 42 = .ok (.aload_n 3, 1) := by decide +kernel
theorem dX3_slip_43 : decode cX3_slip 43 = .ok (.dup, 1) := by decide +kernel
theorem dX3_slip_44 : decode cX3_slip 44 = .ok (.getfield 166, 3) := by decide +kernel
theorem dX3_slip_47 : decode cX3_slip 47 = .ok (.iload 5, 2) := by decide +kernel
theorem dX3_slip_49 : decode cX3_slip 49 = .ok (.iadd, 1) := by decide +kernel
theorem dX3_slip_50 : decode cX3_slip 50 = .ok (.putfield 166, 3) := by decide +kernel
theorem dX3_slip_53 : decode cX3_slip 53 = .ok (.iload 5, 2) := by decide +kernel
theorem dX3_slip_55 : decode cX3_slip 55 = .ok (.ireturn, 1) := by decide +kernel
set_option maxRecDepth 20000 in
theorem ggX3_slips_X3_findCopy : GoodIn wsX3_slips wsX3_findCopy := goodIn_ca (goodIn_r _ [5, 6, 7, 8, 13, 14, 15, 16, 17, 18, 19] (by decide +kernel) (by decide +kernel)) (goodIn_sub (fun _ h => List.mem_cons_of_mem _ (List.mem_append_right _ h)) (by decide +kernel))
set_option maxRecDepth 20000 in
theorem gX3_slips_X3_findCopy : GoodIn wsX3_slips (wsV RX3 147 RX3 yX3_findCopy wsX3_findCopy) := goodIn_app (goodIn_of _ (by decide +kernel)) ggX3_slips_X3_findCopy
theorem dX3_slips_0 : decode cX3_slips 0 = .ok (.aload_n 0, 1) := by decide +kernel
theorem dX3_slips_1 : decode cX3_slips 1 = .ok (.iload_n 1, 1) := by decide +kernel
theorem dX3_slips_2 : decode cX3_slips 2 = .ok (.invokevirtual 147, 3) := by decide +kernel
theorem dX3_slips_5 : decode cX3_slips 5 = .ok (.getfield 166, 3) := by decide +kernel
theorem dX3_slips_8 : decode cX3_slips 8 = .ok (.ireturn, 1) := by decide +kernel
theorem dX3_findVersion_0 : decode cX3_findVersion 0 = .ok (.iload_n 1, 1) := by decide +kernel
theorem dX3_findVersion_1 : decode cX3_findVersion 1 = .ok (.ifCond .lt 12, 3) := by decide +kernel
theorem dX3_findVersion_4 : decode cX3_findVersion 4 = .ok (.iload_n 1, 1) := by decide +kernel
theorem dX3_findVersion_5 : decode cX3_findVersion 5 = .ok (.aload_n 0, 1) := by decide +kernel
theorem dX3_findVersion_6 : decode cX3_findVersion 6 = .ok (.getfield 11, 3) := by decide +kernel
theorem dX3_findVersion_9 : decode cX3_findVersion 9 = .ok (.arraylength, 1) := by decide +kernel
theorem dX3_findVersion_10 : decode cX3_findVersion 10 = .ok (.if_icmp .lt 13, 3) := by decide +kernel
theorem dX3_findVersion_13 : decode cX3_findVersion 13 = .ok (.new 114, 3) := by decide +kernel
theorem dX3_findVersion_16 : decode cX3_findVersion 16 = .ok (.dup, 1) := by decide +kernel
theorem dX3_findVersion_17 : decode cX3_findVersion 17 = .ok (.ldc 169, 2) := by decide +kernel
theorem dX3_findVersion_19 : decode cX3_findVersion 19 = .ok (.invokespecial 118, 3) := by decide +kernel
theorem dX3_findVersion_22 : decode cX3_findVersion 22 = .ok (.athrow, 1) := by decide +kernel
theorem dX3_findVersion_23 : decode cX3_findVersion 23 = .ok (.aload_n 0, 1) := by decide +kernel
theorem dX3_findVersion_24 : decode cX3_findVersion 24 = .ok (.getfield 11, 3) := by decide +kernel
theorem dX3_findVersion_27 : decode cX3_findVersion 27 = .ok (.iload_n 1, 1) := by decide +kernel
theorem dX3_findVersion_28 : decode cX3_findVersion 28 = .ok (.aaload, 1) := by decide +kernel
theorem dX3_findVersion_29 : decode cX3_findVersion 29 = .ok (.astore_n 2, 1) := by decide +kernel
theorem dX3_findVersion_30 : decode cX3_findVersion 30 = .ok (.aload_n 2, 1) := by decide +kernel
theorem dX3_findVersion_31 : decode cX3_findVersion 31 = .ok (.ifnonnull 13, 3) := by decide +kernel
theorem dX3_findVersion_34 : decode cX3_findVersion 34 = .ok (.new 114, 3) := by decide +kernel
theorem dX3_findVersion_37 : decode cX3_findVersion 37 = .ok (.dup, 1) := by decide +kernel
theorem dX3_findVersion_38 : decode cX3_findVersion 38 = .ok (.ldc 169, 2) := by decide +kernel
theorem dX3_findVersion_40 : decode cX3_findVersion 40 = .ok (.invokespecial 118, 3) := by decide +kernel
theorem dX3_findVersion_43 : decode cX3_findVersion 43 = .ok (.athrow, 1) := by decide +kernel
theorem dX3_findVersion_44 : decode cX3_findVersion 44 = .ok (.aload_n 2, 1) := by decide +kernel
theorem dX3_findVersion_45 : decode cX3_findVersion 45 = .ok (.areturn, 1) := by decide +kernel
theorem dX3_findCopy_0 : decode cX3_findCopy 0 = .ok (.iload_n 1, 1) := by decide +kernel
theorem dX3_findCopy_1 : decode cX3_findCopy 1 = .ok (.ifCond .lt 12, 3) := by decide +kernel
theorem dX3_findCopy_4 : decode cX3_findCopy 4 = .ok (.iload_n 1, 1) := by decide +kernel
theorem dX3_findCopy_5 : decode cX3_findCopy 5 = .ok (.aload_n 0, 1) := by decide +kernel
theorem dX3_findCopy_6 : decode cX3_findCopy 6 = .ok (.getfield 21, 3) := by decide +kernel
theorem dX3_findCopy_9 : decode cX3_findCopy 9 = .ok (.arraylength, 1) := by decide +kernel
theorem dX3_findCopy_10 : decode cX3_findCopy 10 = .ok (.if_icmp .lt 13, 3) := by decide +kernel
theorem dX3_findCopy_13 : decode cX3_findCopy 13 = .ok (.new 114, 3) := by decide +kernel
theorem dX3_findCopy_16 : decode cX3_findCopy 16 = .ok (.dup, 1) := by decide +kernel
theorem dX3_findCopy_17 : decode cX3_findCopy 17 = .ok (.ldc 171, 2) := by decide +kernel
theorem dX3_findCopy_19 : decode cX3_findCopy 19 = .ok (.invokespecial 118, 3) := by decide +kernel
theorem dX3_findCopy_22 : decode cX3_findCopy 22 = .ok (.athrow, 1) := by decide +kernel
theorem dX3_findCopy_23 : decode cX3_findCopy 23 = .ok (.aload_n 0, 1) := by decide +kernel
theorem dX3_findCopy_24 : decode cX3_findCopy 24 = .ok (.getfield 21, 3) := by decide +kernel
theorem dX3_findCopy_27 : decode cX3_findCopy 27 = .ok (.iload_n 1, 1) := by decide +kernel
theorem dX3_findCopy_28 : decode cX3_findCopy 28 = .ok (.aaload, 1) := by decide +kernel
theorem dX3_findCopy_29 : decode cX3_findCopy 29 = .ok (.astore_n 2, 1) := by decide +kernel
theorem dX3_findCopy_30 : decode cX3_findCopy 30 = .ok (.aload_n 2, 1) := by decide +kernel
theorem dX3_findCopy_31 : decode cX3_findCopy 31 = .ok (.ifnonnull 13, 3) := by decide +kernel
theorem dX3_findCopy_34 : decode cX3_findCopy 34 = .ok (.new 114, 3) := by decide +kernel
theorem dX3_findCopy_37 : decode cX3_findCopy 37 = .ok (.dup, 1) := by decide +kernel
theorem dX3_findCopy_38 : decode cX3_findCopy 38 = .ok (.ldc 171, 2) := by decide +kernel
theorem dX3_findCopy_40 : decode cX3_findCopy 40 = .ok (.invokespecial 118, 3) := by decide +kernel
theorem dX3_findCopy_43 : decode cX3_findCopy 43 = .ok (.athrow, 1) := by decide +kernel
theorem dX3_findCopy_44 : decode cX3_findCopy 44 = .ok (.aload_n 2, 1) := by decide +kernel
theorem dX3_findCopy_45 : decode cX3_findCopy 45 = .ok (.areturn, 1) := by decide +kernel
theorem dX3_checkVoice_0 : decode cX3_checkVoice 0 = .ok (.iload_n 0, 1) := by decide +kernel
theorem dX3_checkVoice_1 : decode cX3_checkVoice 1 = .ok (.ifCond .lt 8, 3) := by decide +kernel
theorem dX3_checkVoice_4 : decode cX3_checkVoice 4 = .ok (.iload_n 0, 1) := by decide +kernel
theorem dX3_checkVoice_5 : decode cX3_checkVoice 5 = .ok (.iconst 2, 1) := by decide +kernel
theorem dX3_checkVoice_6 : decode cX3_checkVoice 6 = .ok (.if_icmp .lt 13, 3) := by decide +kernel
theorem dX3_checkVoice_9 : decode cX3_checkVoice 9 = .ok (.new 114, 3) := by decide +kernel
theorem dX3_checkVoice_12 : decode cX3_checkVoice 12 = .ok (.dup, 1) := by decide +kernel
theorem dX3_checkVoice_13 : decode cX3_checkVoice 13 = .ok (.ldc 173, 2) := by decide +kernel
theorem dX3_checkVoice_15 : decode cX3_checkVoice 15 = .ok (.invokespecial 118, 3) := by decide +kernel
theorem dX3_checkVoice_18 : decode cX3_checkVoice 18 = .ok (.athrow, 1) := by decide +kernel
theorem dX3_checkVoice_19 : decode cX3_checkVoice 19 = .ok (.return_, 1) := by decide +kernel
theorem dX3_checkBar_0 : decode cX3_checkBar 0 = .ok (.iload_n 1, 1) := by decide +kernel
theorem dX3_checkBar_1 : decode cX3_checkBar 1 = .ok (.ifCond .lt 14, 3) := by decide +kernel
theorem dX3_checkBar_4 : decode cX3_checkBar 4 = .ok (.iload_n 1, 1) := by decide +kernel
theorem dX3_checkBar_5 : decode cX3_checkBar 5 = .ok (.aload_n 0, 1) := by decide +kernel
theorem dX3_checkBar_6 : decode cX3_checkBar 6 = .ok (.getfield 53, 3) := by decide +kernel
theorem dX3_checkBar_9 : decode cX3_checkBar 9 = .ok (.getfield 136, 3) := by decide +kernel
theorem dX3_checkBar_12 : decode cX3_checkBar 12 = .ok (.if_icmp .lt 13, 3) := by decide +kernel
theorem dX3_checkBar_15 : decode cX3_checkBar 15 = .ok (.new 114, 3) := by decide +kernel
theorem dX3_checkBar_18 : decode cX3_checkBar 18 = .ok (.dup, 1) := by decide +kernel
theorem dX3_checkBar_19 : decode cX3_checkBar 19 = .ok (.ldc 175, 2) := by decide +kernel
theorem dX3_checkBar_21 : decode cX3_checkBar 21 = .ok (.invokespecial 118, 3) := by decide +kernel
theorem dX3_checkBar_24 : decode cX3_checkBar 24 = .ok (.athrow, 1) := by decide +kernel
theorem dX3_checkBar_25 : decode cX3_checkBar 25 = .ok (.return_, 1) := by decide +kernel
theorem dX3_checkAsManyBars_0 : decode cX3_checkAsManyBars 0 = .ok (.aload_n 0, 1) := by decide +kernel
theorem dX3_checkAsManyBars_1 : decode cX3_checkAsManyBars 1 = .ok (.getfield 177, 3) := by decide +kernel
theorem dX3_checkAsManyBars_4 : decode cX3_checkAsManyBars 4 = .ok (.aload_n 1, 1) := by decide +kernel
theorem dX3_checkAsManyBars_5 : decode cX3_checkAsManyBars 5 = .ok (.getfield 53, 3) := by decide +kernel
theorem dX3_checkAsManyBars_8 : decode cX3_checkAsManyBars 8 = .ok (.getfield 136, 3) := by decide +kernel
theorem dX3_checkAsManyBars_11 : decode cX3_checkAsManyBars 11 = .ok (.if_icmp .eq 13, 3) := by decide +kernel
theorem dX3_checkAsManyBars_14 : decode cX3_checkAsManyBars 14 = .ok (.new 85, 3) := by decide +kernel
theorem dX3_checkAsManyBars_17 : decode cX3_checkAsManyBars 17 = .ok (.dup, 1) := by decide +kernel
theorem dX3_checkAsManyBars_18 : decode cX3_checkAsManyBars 18 = .ok (.ldc 178, 2) := by decide +kernel
theorem dX3_checkAsManyBars_20 : decode cX3_checkAsManyBars 20 = .ok (.invokespecial 89, 3) := by decide +kernel
theorem dX3_checkAsManyBars_23 : decode cX3_checkAsManyBars 23 = .ok (.athrow, 1) := by decide +kernel
theorem dX3_checkAsManyBars_24 : decode cX3_checkAsManyBars 24 = .ok (.return_, 1) := by decide +kernel
set_option maxRecDepth 20000 in
theorem ggX3_addVersion_X2_init : GoodIn wsX3_addVersion wsX2_init := goodIn_r _ [10, 11, 12, 13, 14, 15, 16, 17, 18, 19, 20, 21, 22, 23, 24, 25, 26, 27, 28, 41, 42, 43, 36, 37, 38, 39, 40] (by decide +kernel) (by decide +kernel)
set_option maxRecDepth 20000 in
theorem gX3_addVersion_X2_init : GoodIn wsX3_addVersion (wsX2_init) := ggX3_addVersion_X2_init
theorem dX3_addVersion_0 : decode cX3_addVersion 0 = .ok (.aload_n 0, 1) := by decide +kernel
theorem dX3_addVersion_1 : decode cX3_addVersion 1 = .ok (.getfield 15, 3) := by decide +kernel
theorem dX3_addVersion_4 : decode cX3_addVersion 4 = .ok (.ifCond .lt 15, 3) := by decide +kernel
theorem dX3_addVersion_7 : decode cX3_addVersion 7 = .ok (.aload_n 0, 1) := by decide +kernel
theorem dX3_addVersion_8 : decode cX3_addVersion 8 = .ok (.getfield 15, 3) := by decide +kernel
theorem dX3_addVersion_11 : decode cX3_addVersion 11 = .ok (.aload_n 0, 1) := by decide +kernel
theorem dX3_addVersion_12 : decode cX3_addVersion 12 = .ok (.getfield 11, 3) := by decide +kernel
theorem dX3_addVersion_15 : decode cX3_addVersion 15 = .ok (.arraylength, 1) := by decide +kernel
theorem dX3_addVersion_16 : decode cX3_addVersion 16 = .ok (.if_icmp .lt 13, 3) := by decide +kernel
theorem dX3_addVersion_19 : decode cX3_addVersion 19 = .ok (.new 85, 3) := by decide +kernel
theorem dX3_addVersion_22 : decode cX3_addVersion 22 = .ok (.dup, 1) := by decide +kernel
theorem dX3_addVersion_23 : decode cX3_addVersion 23 = .ok (.ldc 180, 2) := by decide +kernel
theorem dX3_addVersion_25 : decode cX3_addVersion 25 = .ok (.invokespecial 89, 3) := by decide +kernel
theorem dX3_addVersion_28 : decode cX3_addVersion 28 = .ok (.athrow, 1) := by decide +kernel
theorem dX3_addVersion_29 : decode cX3_addVersion 29 = .ok (.new 9, 3) := by decide +kernel
theorem dX3_addVersion_32 : decode cX3_addVersion 32 = .ok (.dup, 1) := by decide +kernel
theorem dX3_addVersion_33 : decode cX3_addVersion 33 = .ok (.aload_n 0, 1) := by decide +kernel
theorem dX3_addVersion_34 : decode cX3_addVersion 34 = .ok (.getfield 15, 3) := by decide +kernel
theorem dX3_addVersion_37 : decode cX3_addVersion 37 = .ok (.aload_n 1, 1) := by decide +kernel
theorem dX3_addVersion_38 : decode cX3_addVersion 38 = .ok (.invokespecial 182, 3) := by decide +kernel
theorem dX3_addVersion_41 : decode cX3_addVersion 41 = .ok (.astore_n 2, 1) := by decide +kernel
theorem dX3_addVersion_42 : decode cX3_addVersion 42 = .ok (.aload_n 0, 1) := by decide +kernel
theorem dX3_addVersion_43 : decode cX3_addVersion 43 = .ok (.getfield 11, 3) := by decide +kernel
theorem dX3_addVersion_46 : decode cX3_addVersion 46 = .ok (.aload_n 0, 1) := by decide +kernel
theorem dX3_addVersion_47 : decode cX3_addVersion 47 = .ok (.getfield 15, 3) := by decide +kernel
theorem dX3_addVersion_50 : decode cX3_addVersion 50 = .ok (.aload_n 2, 1) := by decide +kernel
theorem dX3_addVersion_51 : decode cX3_addVersion 51 = .ok (.aastore, 1) := by decide +kernel
theorem dX3_addVersion_52 : decode cX3_addVersion 52 = .ok (.aload_n 0, 1) := by decide +kernel
theorem dX3_addVersion_53 : decode cX3_addVersion 53 = .ok (.dup, 1) := by decide +kernel
theorem dX3_addVersion_54 : decode cX3_addVersion 54 = .ok (.getfield 15, 3) := by decide +kernel
theorem dX3_addVersion_57 : decode cX3_addVersion 57 = .ok (.iconst 1, 1) := by decide +kernel
theorem dX3_addVersion_58 : decode cX3_addVersion 58 = .ok (.iadd, 1) := by decide +kernel
theorem dX3_addVersion_59 : decode cX3_addVersion 59 = .ok (.putfield 15, 3) := by decide +kernel
theorem dX3_addVersion_62 : decode cX3_addVersion 62 = .ok (.aload_n 2, 1) := by decide +kernel
theorem dX3_addVersion_63 : decode cX3_addVersion 63 = .ok (.areturn, 1) := by decide +kernel
set_option maxRecDepth 20000 in
theorem ggX3_addCopy_X0_init : GoodIn wsX3_addCopy wsX0_init := goodIn_r _ [10, 11, 12, 13, 14, 15, 16, 17, 18, 19, 20, 21, 7, 22, 23, 24, 25, 26, 27, 28, 29, 37, 38, 39, 40, 41, 42, 43] (by decide +kernel) (by decide +kernel)
set_option maxRecDepth 20000 in
theorem gX3_addCopy_X0_init : GoodIn wsX3_addCopy (wsX0_init) := ggX3_addCopy_X0_init
theorem dX3_addCopy_0 : decode cX3_addCopy 0 = .ok (.aload_n 0, 1) := by decide +kernel
theorem dX3_addCopy_1 : decode cX3_addCopy 1 = .ok (.getfield 25, 3) := by decide +kernel
theorem dX3_addCopy_4 : decode cX3_addCopy 4 = .ok (.istore_n 3, 1) := by decide +kernel
theorem dX3_addCopy_5 : decode cX3_addCopy 5 = .ok (.iload_n 3, 1) := by decide +kernel
theorem dX3_addCopy_6 : decode cX3_addCopy 6 = .ok (.ifCond .lt 12, 3) := by decide +kernel
theorem dX3_addCopy_9 : decode cX3_addCopy 9 = .ok (.iload_n 3, 1) := by decide +kernel
theorem dX3_addCopy_10 : decode cX3_addCopy 10 = .ok (.aload_n 0, 1) := by decide +kernel
theorem dX3_addCopy_11 : decode cX3_addCopy 11 = .ok (.getfield 21, 3) := by decide +kernel
theorem dX3_addCopy_14 : decode cX3_addCopy 14 = .ok (.arraylength, 1) := by decide +kernel
theorem dX3_addCopy_15 : decode cX3_addCopy 15 = .ok (.if_icmp .lt 13, 3) := by decide +kernel
theorem dX3_addCopy_18 : decode cX3_addCopy 18 = .ok (.new 85, 3) := by decide +kernel
theorem dX3_addCopy_21 : decode cX3_addCopy 21 = .ok (.dup, 1) := by decide +kernel
theorem dX3_addCopy_22 : decode cX3_addCopy 22 = .ok (.ldc 185, 2) := by decide +kernel
theorem dX3_addCopy_24 : decode cX3_addCopy 24 = .ok (.invokespecial 89, 3) := by decide +kernel
theorem dX3_addCopy_27 : decode cX3_addCopy 27 = .ok (.athrow, 1) := by decide +kernel
theorem dX3_addCopy_28 : decode cX3_addCopy 28 = .ok (.aload_n 0, 1) := by decide +kernel
theorem dX3_addCopy_29 : decode cX3_addCopy 29 = .ok (.getfield 21, 3) := by decide +kernel
theorem dX3_addCopy_32 : decode cX3_addCopy 32 = .ok (.iload_n 3, 1) := by decide +kernel
theorem dX3_addCopy_33 : decode cX3_addCopy 33 = .ok (.new 19, 3) := by decide +kernel
theorem dX3_addCopy_36 : decode cX3_addCopy 36 = .ok (.dup, 1) := by decide +kernel
theorem dX3_addCopy_37 : decode cX3_addCopy 37 = .ok (.iload_n 1, 1) := by decide +kernel
theorem dX3_addCopy_38 : decode cX3_addCopy 38 = .ok (.aload_n 2, 1) := by decide +kernel
theorem dX3_addCopy_39 : decode cX3_addCopy 39 = .ok (.invokespecial 187, 3) := by decide +kernel
theorem dX3_addCopy_42 : decode cX3_addCopy 42 = .ok (.aastore, 1) := by decide +kernel
theorem dX3_addCopy_43 : decode cX3_addCopy 43 = .ok (.aload_n 0, 1) := by decide +kernel
theorem dX3_addCopy_44 : decode cX3_addCopy 44 = .ok (.dup, 1) := by decide +kernel
theorem dX3_addCopy_45 : decode cX3_addCopy 45 = .ok (.getfield 25, 3) := by decide +kernel
theorem dX3_addCopy_48 : decode cX3_addCopy 48 = .ok (.iconst 1, 1) := by decide +kernel
theorem dX3_addCopy_49 : decode cX3_addCopy 49 = .ok (.iadd, 1) := by decide +kernel
theorem dX3_addCopy_50 : decode cX3_addCopy 50 = .ok (.putfield 25, 3) := by decide +kernel
theorem dX3_addCopy_53 : decode cX3_addCopy 53 = .ok (.iload_n 3, 1) := by decide +kernel
theorem dX3_addCopy_54 : decode cX3_addCopy 54 = .ok (.ireturn, 1) := by decide +kernel
set_option maxRecDepth 20000 in
theorem ggX3_commonAncestor_X3_isAncestor : GoodIn wsX3_commonAncestor wsX3_isAncestor := goodIn_r _ [4, 5, 6, 7, 8, 9] (by decide +kernel) (by decide +kernel)
set_option maxRecDepth 20000 in
theorem gX3_commonAncestor_X3_isAncestor : GoodIn wsX3_commonAncestor (va_wsS RX3 190 yX3_isAncestor wsX3_isAncestor) := goodIn_app (goodIn_of _ (by decide +kernel)) ggX3_commonAncestor_X3_isAncestor
theorem dX3_commonAncestor_0 : decode cX3_commonAncestor 0 = .ok (.aload_n 0, 1) := by decide +kernel
theorem dX3_commonAncestor_1 : decode cX3_commonAncestor 1 = .ok (.astore_n 2, 1) := by decide +kernel
theorem dX3_commonAncestor_2 : decode cX3_commonAncestor 2 = .ok (.aload_n 2, 1) := by decide +kernel
theorem dX3_commonAncestor_3 : decode cX3_commonAncestor 3 = .ok (.ifnull 21, 3) := by decide +kernel
theorem dX3_commonAncestor_6 : decode cX3_commonAncestor 6 = .ok (.aload_n 2, 1) := by decide +kernel
theorem dX3_commonAncestor_7 : decode cX3_commonAncestor 7 = .ok (.aload_n 1, 1) := by decide +kernel
theorem dX3_commonAncestor_8 : decode cX3_commonAncestor 8 = .ok (.invokestatic 190, 3) := by decide +kernel
theorem dX3_commonAncestor_11 : decode cX3_commonAncestor 11 = .ok (.ifCond .eq 5, 3) := by decide +kernel
theorem dX3_commonAncestor_14 : decode cX3_commonAncestor 14 = .ok (.aload_n 2, 1) := by decide +kernel
theorem dX3_commonAncestor_15 : decode cX3_commonAncestor 15 = .ok (.areturn, 1) := by decide +kernel
theorem dX3_commonAncestor_16 : decode cX3_commonAncestor 16 = .ok (.aload_n 2, 1) := by decide +kernel
theorem dX3_commonAncestor_17 : decode cX3_commonAncestor 17 = .ok (.getfield 194, 3) := by decide +kernel
theorem dX3_commonAncestor_20 : decode cX3_commonAncestor 20 = .ok (.astore_n 2, 1) := by decide +kernel
theorem dX3_commonAncestor_21 : decode cX3_commonAncestor 21 = .ok (.goto (-19), 3) := by decide +kernel
theorem dX3_commonAncestor_24 : decode cX3_commonAncestor 24 = .ok (.aconst_null, 1) := by decide +kernel
theorem dX3_commonAncestor_25 : decode cX3_commonAncestor 25 = .ok (.areturn, 1) := by decide +kernel
theorem dX3_isAncestor_0 : decode cX3_isAncestor 0 = .ok (.aload_n 1, 1) := by decide +kernel
theorem dX3_isAncestor_1 : decode cX3_isAncestor 1 = .ok (.astore_n 2, 1) := by decide +kernel
theorem dX3_isAncestor_2 : decode cX3_isAncestor 2 = .ok (.aload_n 2, 1) := by decide +kernel
theorem dX3_isAncestor_3 : decode cX3_isAncestor 3 = .ok (.ifnull 18, 3) := by decide +kernel
theorem dX3_isAncestor_6 : decode cX3_isAncestor 6 = .ok (.aload_n 2, 1) := by decide +kernel
theorem dX3_isAncestor_7 : decode cX3_isAncestor 7 = .ok (.aload_n 0, 1) := by decide +kernel
theorem dX3_isAncestor_8 : decode cX3_isAncestor 8 = .ok (.if_acmp .ne 5, 3) := by decide +kernel
theorem dX3_isAncestor_11 : decode cX3_isAncestor 11 = .ok (.iconst 1, 1) := by decide +kernel
theorem dX3_isAncestor_12 : decode cX3_isAncestor 12 = .ok (.ireturn, 1) := by decide +kernel
theorem dX3_isAncestor_13 : decode cX3_isAncestor 13 = .ok (.aload_n 2, 1) := by decide +kernel
theorem dX3_isAncestor_14 : decode cX3_isAncestor 14 = .ok (.getfield 194, 3) := by decide +kernel
theorem dX3_isAncestor_17 : decode cX3_isAncestor 17 = .ok (.astore_n 2, 1) := by decide +kernel
theorem dX3_isAncestor_18 : decode cX3_isAncestor 18 = .ok (.goto (-16), 3) := by decide +kernel
theorem dX3_isAncestor_21 : decode cX3_isAncestor 21 = .ok (.iconst 0, 1) := by decide +kernel
theorem dX3_isAncestor_22 : decode cX3_isAncestor 22 = .ok (.ireturn, 1) := by decide +kernel
set_option maxRecDepth 20000 in
theorem ggX3_conflictingBars_X1_sameBar : GoodIn wsX3_conflictingBars wsX1_sameBar := goodIn_r _ [5, 6, 7, 8, 4, 9, 10, 11, 12, 13, 14] (by decide +kernel) (by decide +kernel)
set_option maxRecDepth 20000 in
theorem gX3_conflictingBars_X1_sameBar : GoodIn wsX3_conflictingBars (wsV RX3 198 RX1 yX1_sameBar wsX1_sameBar) := goodIn_app (goodIn_of _ (by decide +kernel)) ggX3_conflictingBars_X1_sameBar
theorem dX3_conflictingBars_0 : decode cX3_conflictingBars 0 = .ok (.iconst 0, 1) := by decide +kernel
theorem dX3_conflictingBars_1 : decode cX3_conflictingBars 1 = .ok (.istore_n 3, 1) := by decide +kernel
theorem dX3_conflictingBars_2 : decode cX3_conflictingBars 2 = .ok (.iconst 0, 1) := by decide +kernel
theorem dX3_conflictingBars_3 : decode cX3_conflictingBars 3 = .ok (.istore 4, 2) := by decide +kernel
theorem dX3_conflictingBars_5 : decode cX3_conflictingBars 5 = .ok (.iload 4, 2) := by decide +kernel
theorem dX3_conflictingBars_7 : decode cX3_conflictingBars 7 = .ok (.aload_n 0, 1) := by decide +kernel
theorem dX3_conflictingBars_8 : decode cX3_conflictingBars 8 = .ok (.getfield 136, 3) := by decide +kernel
theorem dX3_conflictingBars_11 : decode cX3_conflictingBars 11 = .ok (.if_icmp .ge 46, 3) := by decide +kernel
theorem dX3_conflictingBars_14 : decode cX3_conflictingBars 14 = .ok (.aload_n 0, 1) := by decide +kernel
theorem dX3_conflictingBars_15 : decode cX3_conflictingBars 15 = .ok (.aload_n 1, 1) := by decide +kernel
theorem dX3_conflictingBars_16 : decode cX3_conflictingBars 16 = .ok (.iload 4, 2) := by decide +kernel
theorem dX3_conflictingBars_18 : decode cX3_conflictingBars 18 = .ok (.invokevirtual 198, 3) := by decide +kernel
theorem dX3_conflictingBars_21 : decode cX3_conflictingBars 21 = .ok (.ifCond .ne 30, 3) := by decide +kernel
theorem dX3_conflictingBars_24 : decode cX3_conflictingBars 24 = .ok (.aload_n 0, 1) := by decide +kernel
theorem dX3_conflictingBars_25 : decode cX3_conflictingBars 25 = .ok (.aload_n 2, 1) := by decide +kernel
theorem dX3_conflictingBars_26 : decode cX3_conflictingBars 26 = .ok (.iload 4, 2) := by decide +kernel
theorem dX3_conflictingBars_28 : decode cX3_conflictingBars 28 = .ok (.invokevirtual 198, 3) := by decide +kernel
theorem dX3_conflictingBars_31 : decode cX3_conflictingBars 31 = .ok (.ifCond .ne 20, 3) := by decide +kernel
theorem dX3_conflictingBars_34 : decode cX3_conflictingBars 34 = .ok (.aload_n 1, 1) := by decide +kernel
theorem dX3_conflictingBars_35 : decode cX3_conflictingBars 35 = .ok (.aload_n 2, 1) := by decide +kernel
theorem dX3_conflictingBars_36 : decode cX3_conflictingBars 36 = .ok (.iload 4, 2) := by decide +kernel
theorem dX3_conflictingBars_38 : decode cX3_conflictingBars 38 = .ok (.invokevirtual 198, 3) := by decide +kernel
theorem dX3_conflictingBars_41 : decode cX3_conflictingBars 41 = .ok (.ifCond .ne 10, 3) := by decide +kernel
theorem dX3_conflictingBars_44 : decode cX3_conflictingBars 44 = .ok (.iload_n 3, 1) := by decide +kernel
theorem dX3_conflictingBars_45 : decode cX3_conflictingBars 45 = .ok (.iconst 1, 1) := by decide +kernel
theorem dX3_conflictingBars_46 : decode cX3_conflictingBars 46 = .ok (.iload 4, 2) := by decide +kernel
theorem dX3_conflictingBars_48 : decode cX3_conflictingBars 48 = .ok (.ishl, 1) := by decide +kernel
theorem dX3_conflictingBars_49 : decode cX3_conflictingBars 49 = .ok (.ior, 1) := by decide +kernel
theorem dX3_conflictingBars_50 : decode cX3_conflictingBars 50 = .ok (.istore_n 3, 1) := by decide +kernel
theorem dX3_conflictingBars_51 : decode cX3_conflictingBars 51 = .ok (.iinc 4 1, 3) := by decide +kernel
theorem dX3_conflictingBars_54 : decode cX3_conflictingBars 54 = .ok (.goto (-49), 3) := by decide +kernel
theorem dX3_conflictingBars_57 : decode cX3_conflictingBars 57 = .ok (.iload_n 3, 1) := by decide +kernel
theorem dX3_conflictingBars_58 : decode cX3_conflictingBars 58 = .ok (.ireturn, 1) := by decide +kernel
set_option maxRecDepth 20000 in
theorem ggX3_mergeInto_X1_takeAll : GoodIn wsX3_mergeInto wsX1_takeAll := goodIn_r _ [5, 6, 7, 8, 9, 4, 10, 11, 12, 13, 14, 15, 16, 17, 18, 19, 20, 26, 27, 28] (by decide +kernel) (by decide +kernel)
set_option maxRecDepth 20000 in
theorem gX3_mergeInto_X1_takeAll : GoodIn wsX3_mergeInto (wsV RX3 67 RX1 yX1_takeAll wsX1_takeAll) := goodIn_app (goodIn_of _ (by decide +kernel)) ggX3_mergeInto_X1_takeAll
set_option maxRecDepth 20000 in
theorem ggX3_mergeInto_X1_sameBar : GoodIn wsX3_mergeInto wsX1_sameBar := goodIn_r _ [24, 11, 12, 13, 4, 14, 15, 16, 26, 27, 28] (by decide +kernel) (by decide +kernel)
set_option maxRecDepth 20000 in
theorem gX3_mergeInto_X1_sameBar : GoodIn wsX3_mergeInto (wsV RX3 198 RX1 yX1_sameBar wsX1_sameBar) := goodIn_app (goodIn_of _ (by decide +kernel)) ggX3_mergeInto_X1_sameBar
set_option maxRecDepth 20000 in
theorem ggX3_mergeInto_X1_takeBar : GoodIn wsX3_mergeInto wsX1_takeBar := goodIn_r _ [10, 11, 12, 13, 4, 14, 15, 16, 17, 18, 19, 20, 26, 27, 28] (by decide +kernel) (by decide +kernel)
set_option maxRecDepth 20000 in
theorem gX3_mergeInto_X1_takeBar : GoodIn wsX3_mergeInto (wsV RX3 202 RX1 yX1_takeBar wsX1_takeBar) := goodIn_app (goodIn_of _ (by decide +kernel)) ggX3_mergeInto_X1_takeBar
theorem dX3_mergeInto_0 : decode cX3_mergeInto 0 = .ok (.aload_n 0, 1) := by decide +kernel
theorem dX3_mergeInto_1 : decode cX3_mergeInto 1 = .ok (.aload_n 1, 1) := by decide +kernel
theorem dX3_mergeInto_2 : decode cX3_mergeInto 2 = .ok (.invokevirtual 67, 3) := by decide +kernel
theorem dX3_mergeInto_5 : decode cX3_mergeInto 5 = .ok (.iconst 0, 1) := by decide +kernel
theorem dX3_mergeInto_6 : decode cX3_mergeInto 6 = .ok (.istore 4, 2) := by decide +kernel
theorem dX3_mergeInto_8 : decode cX3_mergeInto 8 = .ok (.iload 4, 2) := by decide +kernel
theorem dX3_mergeInto_10 : decode cX3_mergeInto 10 = .ok (.aload_n 1, 1) := by decide +kernel
theorem dX3_mergeInto_11 : decode cX3_mergeInto 11 = .ok (.getfield 136, 3) := by decide +kernel
theorem dX3_mergeInto_14 : decode cX3_mergeInto 14 = .ok (.if_icmp .ge 26, 3) := by decide +kernel
theorem dX3_mergeInto_17 : decode cX3_mergeInto 17 = .ok (.aload_n 1, 1) := by decide +kernel
theorem dX3_mergeInto_18 : decode cX3_mergeInto 18 = .ok (.aload_n 3, 1) := by decide +kernel
theorem dX3_mergeInto_19 : decode cX3_mergeInto 19 = .ok (.iload 4, 2) := by decide +kernel
theorem dX3_mergeInto_21 : decode cX3_mergeInto 21 = .ok (.invokevirtual 198, 3) := by decide +kernel
theorem dX3_mergeInto_24 : decode cX3_mergeInto 24 = .ok (.ifCond .eq 10, 3) := by decide +kernel
theorem dX3_mergeInto_27 : decode cX3_mergeInto 27 = .ok (.aload_n 0, 1) := by decide +kernel
theorem dX3_mergeInto_28 : decode cX3_mergeInto 28 = .ok (.aload_n 2, 1) := by decide +kernel
theorem dX3_mergeInto_29 : decode cX3_mergeInto 29 = .ok (.iload 4, 2) := by decide +kernel
theorem dX3_mergeInto_31 : decode cX3_mergeInto 31 = .ok (.invokevirtual 202, 3) := by decide +kernel
theorem dX3_mergeInto_34 : decode cX3_mergeInto 34 = .ok (.iinc 4 1, 3) := by decide +kernel
theorem dX3_mergeInto_37 : decode cX3_mergeInto 37 = .ok (.goto (-29), 3) := by decide +kernel
theorem dX3_mergeInto_40 : decode cX3_mergeInto 40 = .ok (.return_, 1) := by decide +kernel
set_option maxRecDepth 20000 in
theorem ggX3_markOf_X3_weightedFaults : GoodIn wsX3_markOf wsX3_weightedFaults := goodIn_r _ [9, 10, 11, 12, 13, 14, 15, 16, 17, 18, 19, 20, 21, 22, 23, 24, 25, 3, 26, 27, 28, 29, 30, 31, 32, 33, 34, 35, 36, 37, 38, 39, 40, 41, 42, 43, 44, 45, 46, 47, 48, 49, 50, 51, 52, 53, 54, 55, 56, 60, 61, 62, 63, 64, 65, 66, 57, 58, 59] (by decide +kernel) (by decide +kernel)
set_option maxRecDepth 20000 in
theorem gX3_markOf_X3_weightedFaults : GoodIn wsX3_markOf (wsV RX3 206 RX3 yX3_weightedFaults wsX3_weightedFaults) := goodIn_app (goodIn_of _ (by decide +kernel)) ggX3_markOf_X3_weightedFaults
theorem dX3_markOf_0 : decode cX3_markOf 0 = .ok (.iconst 0, 1) := by decide +kernel
theorem dX3_markOf_1 : decode cX3_markOf 1 = .ok (.bipush 100, 2) := by decide +kernel
theorem dX3_markOf_3 : decode cX3_markOf 3 = .ok (.aload_n 0, 1) := by decide +kernel
theorem dX3_markOf_4 : decode cX3_markOf 4 = .ok (.aload_n 1, 1) := by decide +kernel
theorem dX3_markOf_5 : decode cX3_markOf 5 = .ok (.iconst 0, 1) := by decide +kernel
theorem dX3_markOf_6 : decode cX3_markOf 6 = .ok (.aload_n 1, 1) := by decide +kernel
theorem dX3_markOf_7 : decode cX3_markOf 7 = .ok (.getfield 136, 3) := by decide +kernel
theorem dX3_markOf_10 : decode cX3_markOf 10 = .ok (.invokevirtual 206, 3) := by decide +kernel
theorem dX3_markOf_13 : decode cX3_markOf 13 = .ok (.isub, 1) := by decide +kernel
theorem dX3_markOf_14 : decode cX3_markOf 14 = .ok (.invokestatic 210, 3) := by decide +kernel
theorem dX3_markOf_17 : decode cX3_markOf 17 = .ok (.ireturn, 1) := by decide +kernel
set_option maxRecDepth 20000 in
theorem ggX3_weightedFaults_X1_faultsOf : GoodIn wsX3_weightedFaults wsX1_faultsOf := goodIn_r _ [6, 7, 8, 9, 5, 10, 11, 12, 13, 14, 15, 16, 17, 18, 19, 20, 21, 22, 23, 24, 25, 26, 27, 28, 29, 30, 31, 32, 33, 34, 35, 36, 37, 38, 39, 40, 41, 42, 43, 44, 45, 46, 47, 48, 56, 57, 58] (by decide +kernel) (by decide +kernel)
set_option maxRecDepth 20000 in
theorem gX3_weightedFaults_X1_faultsOf : GoodIn wsX3_weightedFaults (wsV RX3 123 RX1 yX1_faultsOf wsX1_faultsOf) := goodIn_app (goodIn_of _ (by decide +kernel)) ggX3_weightedFaults_X1_faultsOf
theorem dX3_weightedFaults_0 : decode cX3_weightedFaults 0 = .ok (.iconst 0, 1) := by decide +kernel
theorem dX3_weightedFaults_1 : decode cX3_weightedFaults 1 = .ok (.istore 4, 2) := by decide +kernel
theorem dX3_weightedFaults_3 : decode cX3_weightedFaults 3 = .ok (.iconst 0, 1) := by decide +kernel
theorem dX3_weightedFaults_4 : decode cX3_weightedFaults 4 = .ok (.istore 5, 2) := by decide +kernel
theorem dX3_weightedFaults_6 : decode cX3_weightedFaults 6 = .ok (.iload 5, 2) := by decide +kernel
theorem dX3_weightedFaults_8 : decode cX3_weightedFaults 8 = .ok (.aload_n 0, 1) := by decide +kernel
theorem dX3_weightedFaults_9 : decode cX3_weightedFaults 9 = .ok (.getfield 28, 3) := by decide +kernel
theorem dX3_weightedFaults_12 : decode cX3_weightedFaults 12 = .ok (.arraylength, 1) := by decide +kernel
theorem dX3_weightedFaults_13 : decode cX3_weightedFaults 13 = .ok (.if_icmp .ge 45, 3) := by decide +kernel
theorem dX3_weightedFaults_16 : decode cX3_weightedFaults 16 = .ok (.iload_n 2, 1) := by decide +kernel
theorem dX3_weightedFaults_17 : decode cX3_weightedFaults 17 = .ok (.istore 6, 2) := by decide +kernel
theorem dX3_weightedFaults_19 : decode cX3_weightedFaults 19 = .ok (.iload 6, 2) := by decide +kernel
theorem dX3_weightedFaults_21 : decode cX3_weightedFaults 21 = .ok (.iload_n 3, 1) := by decide +kernel
theorem dX3_weightedFaults_22 : decode cX3_weightedFaults 22 = .ok (.if_icmp .ge 30, 3) := by decide +kernel
theorem dX3_weightedFaults_25 : decode cX3_weightedFaults 25 = .ok (.iload 4, 2) := by decide +kernel
theorem dX3_weightedFaults_27 : decode cX3_weightedFaults 27 = .ok (.aload_n 0, 1) := by decide +kernel
theorem dX3_weightedFaults_28 : decode cX3_weightedFaults 28 = .ok (.getfield 28, 3) := by decide +kernel
theorem dX3_weightedFaults_31 : decode cX3_weightedFaults 31 = .ok (.iload 5, 2) := by decide +kernel
theorem dX3_weightedFaults_33 : decode cX3_weightedFaults 33 = .ok (.iaload, 1) := by decide +kernel
theorem dX3_weightedFaults_34 : decode cX3_weightedFaults 34 = .ok (.aload_n 1, 1) := by decide +kernel
theorem dX3_weightedFaults_35 : decode cX3_weightedFaults 35 = .ok (.iload 5, 2) := by decide +kernel
theorem dX3_weightedFaults_37 : decode cX3_weightedFaults 37 = .ok (.iload 6, 2) := by decide +kernel
theorem dX3_weightedFaults_39 : decode cX3_weightedFaults 39 = .ok (.invokevirtual 123, 3) := by decide +kernel
theorem dX3_weightedFaults_42 : decode cX3_weightedFaults 42 = .ok (.imul, 1) := by decide +kernel
theorem dX3_weightedFaults_43 : decode cX3_weightedFaults 43 = .ok (.iadd, 1) := by decide +kernel
theorem dX3_weightedFaults_44 : decode cX3_weightedFaults 44 = .ok (.istore 4, 2) := by decide +kernel
theorem dX3_weightedFaults_46 : decode cX3_weightedFaults 46 = .ok (.iinc 6 1, 3) := by decide +kernel
theorem dX3_weightedFaults_49 : decode cX3_weightedFaults 49 = .ok (.goto (-30), 3) := by decide +kernel
theorem dX3_weightedFaults_52 : decode cX3_weightedFaults 52 = .ok (.iinc 5 1, 3) := by decide +kernel
theorem dX3_weightedFaults_55 : decode cX3_weightedFaults 55 = .ok (.goto (-49), 3) := by decide +kernel
theorem dX3_weightedFaults_58 : decode cX3_weightedFaults 58 = .ok (.iload 4, 2) := by decide +kernel
theorem dX3_weightedFaults_60 : decode cX3_weightedFaults 60 = .ok (.ireturn, 1) := by decide +kernel
set_option maxRecDepth 20000 in
theorem ggX3_bestTone_X1_setTone : GoodIn wsX3_bestTone wsX1_setTone := goodIn_r _ [10, 11, 12, 69, 70, 71] (by decide +kernel) (by decide +kernel)
set_option maxRecDepth 20000 in
theorem gX3_bestTone_X1_setTone : GoodIn wsX3_bestTone (wsV RX3 94 RX1 yX1_setTone wsX1_setTone) := goodIn_app (goodIn_of _ (by decide +kernel)) ggX3_bestTone_X1_setTone
set_option maxRecDepth 20000 in
theorem ggX3_bestTone_X3_weightedFaults : GoodIn wsX3_bestTone wsX3_weightedFaults := goodIn_r _ [17, 18, 19, 20, 21, 9, 22, 23, 24, 25, 26, 27, 28, 29, 30, 31, 32, 4, 33, 34, 35, 36, 37, 11, 12, 38, 39, 40, 41, 42, 43, 44, 45, 46, 47, 48, 49, 50, 51, 52, 53, 54, 55, 56, 57, 58, 59, 60, 61, 62, 63, 64, 65, 66, 67, 68, 69, 70, 71] (by decide +kernel) (by decide +kernel)
set_option maxRecDepth 20000 in
theorem gX3_bestTone_X3_weightedFaults : GoodIn wsX3_bestTone (wsV RX3 206 RX3 yX3_weightedFaults wsX3_weightedFaults) := goodIn_app (goodIn_of _ (by decide +kernel)) ggX3_bestTone_X3_weightedFaults
theorem dX3_bestTone_0 : decode cX3_bestTone 0 = .ok (.iload_n 2, 1) := by decide +kernel
theorem dX3_bestTone_1 : decode cX3_bestTone 1 = .ok (.iconst 3, 1) := by decide +kernel
theorem dX3_bestTone_2 : decode cX3_bestTone 2 = .ok (.iadd, 1) := by decide +kernel
theorem dX3_bestTone_3 : decode cX3_bestTone 3 = .ok (.aload_n 0, 1) := by decide +kernel
theorem dX3_bestTone_4 : decode cX3_bestTone 4 = .ok (.getfield 38, 3) := by decide +kernel
theorem dX3_bestTone_7 : decode cX3_bestTone 7 = .ok (.getfield 136, 3) := by decide +kernel
theorem dX3_bestTone_10 : decode cX3_bestTone 10 = .ok (.invokestatic 215, 3) := by decide +kernel
theorem dX3_bestTone_13 : decode cX3_bestTone 13 = .ok (.istore_n 3, 1) := by decide +kernel
theorem dX3_bestTone_14 : decode cX3_bestTone 14 = .ok (.iconst 0, 1) := by decide +kernel
theorem dX3_bestTone_15 : decode cX3_bestTone 15 = .ok (.istore 4, 2) := by decide +kernel
theorem dX3_bestTone_17 : decode cX3_bestTone 17 = .ok (.iconst 0, 1) := by decide +kernel
theorem dX3_bestTone_18 : decode cX3_bestTone 18 = .ok (.istore 5, 2) := by decide +kernel
theorem dX3_bestTone_20 : decode cX3_bestTone 20 = .ok (.iconst 0, 1) := by decide +kernel
theorem dX3_bestTone_21 : decode cX3_bestTone 21 = .ok (.istore 6, 2) := by decide +kernel
theorem dX3_bestTone_23 : decode cX3_bestTone 23 = .ok (.iload 6, 2) := by decide +kernel
theorem dX3_bestTone_25 : decode cX3_bestTone 25 = .ok (.bipush 40, 2) := by decide +kernel
theorem dX3_bestTone_27 : decode cX3_bestTone 27 = .ok (.if_icmp .gt 52, 3) := by decide +kernel
theorem dX3_bestTone_30 : decode cX3_bestTone 30 = .ok (.aload_n 0, 1) := by decide +kernel
theorem dX3_bestTone_31 : decode cX3_bestTone 31 = .ok (.getfield 38, 3) := by decide +kernel
theorem dX3_bestTone_34 : decode cX3_bestTone 34 = .ok (.iload_n 1, 1) := by decide +kernel
theorem dX3_bestTone_35 : decode cX3_bestTone 35 = .ok (.iload_n 2, 1) := by decide +kernel
theorem dX3_bestTone_36 : decode cX3_bestTone 36 = .ok (.iload 6, 2) := by decide +kernel
theorem dX3_bestTone_38 : decode cX3_bestTone 38 = .ok (.invokevirtual 94, 3) := by decide +kernel
theorem dX3_bestTone_41 : decode cX3_bestTone 41 = .ok (.aload_n 0, 1) := by decide +kernel
theorem dX3_bestTone_42 : decode cX3_bestTone 42 = .ok (.aload_n 0, 1) := by decide +kernel
theorem dX3_bestTone_43 : decode cX3_bestTone 43 = .ok (.getfield 38, 3) := by decide +kernel
theorem dX3_bestTone_46 : decode cX3_bestTone 46 = .ok (.iload_n 2, 1) := by decide +kernel
theorem dX3_bestTone_47 : decode cX3_bestTone 47 = .ok (.iload_n 3, 1) := by decide +kernel
theorem dX3_bestTone_48 : decode cX3_bestTone 48 = .ok (.invokevirtual 206, 3) := by decide +kernel
theorem dX3_bestTone_51 : decode cX3_bestTone 51 = .ok (.istore 7, 2) := by decide +kernel
theorem dX3_bestTone_53 : decode cX3_bestTone 53 = .ok (.iload 6, 2) := by decide +kernel
theorem dX3_bestTone_55 : decode cX3_bestTone 55 = .ok (.ifCond .eq 10, 3) := by decide +kernel
theorem dX3_bestTone_58 : decode cX3_bestTone 58 = .ok (.iload 7, 2) := by decide +kernel
theorem dX3_bestTone_60 : decode cX3_bestTone 60 = .ok (.iload 5, 2) := by decide +kernel
theorem dX3_bestTone_62 : decode cX3_bestTone 62 = .ok (.if_icmp .ge 11, 3) := by decide +kernel
theorem dX3_bestTone_65 : decode cX3_bestTone 65 = .ok (.iload 7, 2) := by decide +kernel
theorem dX3_bestTone_67 : decode cX3_bestTone 67 = .ok (.istore 5, 2) := by decide +kernel
theorem dX3_bestTone_69 : decode cX3_bestTone 69 = .ok (.iload 6, 2) := by decide +kernel
theorem dX3_bestTone_71 : decode cX3_bestTone 71 = .ok (.istore 4, 2) := by decide +kernel
theorem dX3_bestTone_73 : decode cX3_bestTone 73 = .ok (.iinc 6 1, 3) := by decide +kernel
theorem dX3_bestTone_76 : decode cX3_bestTone 76 = .ok (.goto (-53), 3) := by decide +kernel
theorem dX3_bestTone_79 : decode cX3_bestTone 79 = .ok (.iload 4, 2) := by decide +kernel
theorem dX3_bestTone_81 : decode cX3_bestTone 81 = .ok (.ireturn, 1) := by decide +kernel

/-! the helpers' rows (printed) -/
set_option maxRecDepth 20000 in
theorem ggL_begin_X3_begin : GoodIn wsL_begin wsX3_begin := goodIn_ca (goodIn_ca (goodIn_r _ [7, 8, 9, 10, 11, 12, 6, 13, 14, 15, 16, 17, 18, 19, 20, 21, 22, 23, 24, 25, 26, 27, 28, 29, 30, 31, 32, 33, 34, 35, 36, 37, 38, 39, 40, 41, 42, 43, 44, 45, 46, 47, 48, 49, 50, 51, 52, 53, 54, 55, 56, 57, 58, 59, 60, 61, 62, 63, 64] (by decide +kernel) (by decide +kernel)) (goodIn_sub (fun _ h => List.mem_cons_of_mem _ (List.mem_append_left _ (List.mem_append_right _ h))) (by decide +kernel))) (goodIn_sub (fun _ h => List.mem_cons_of_mem _ (List.mem_append_right _ h)) (by decide +kernel))
set_option maxRecDepth 20000 in
theorem gL_begin_X3_begin : GoodIn wsL_begin (wsV RL 7 RX3 yX3_begin wsX3_begin) := goodIn_app (goodIn_of _ (by decide +kernel)) ggL_begin_X3_begin
theorem dL_begin_0 : decode cL_begin 0 = .ok (.aload_n 2, 1) := by decide +kernel
theorem dL_begin_1 : decode cL_begin 1 = .ok (.iconst 0, 1) := by decide +kernel
theorem dL_begin_2 : decode cL_begin 2 = .ok (.aload_n 0, 1) := by decide +kernel
theorem dL_begin_3 : decode cL_begin 3 = .ok (.iload_n 1, 1) := by decide +kernel
theorem dL_begin_4 : decode cL_begin 4 = .ok (.invokevirtual 7, 3) := by decide +kernel
theorem dL_begin_7 : decode cL_begin 7 = .ok (.i2l, 1) := by decide +kernel
theorem dL_begin_8 : decode cL_begin 8 = .ok (.lastore, 1) := by decide +kernel
theorem dL_begin_9 : decode cL_begin 9 = .ok (.goto 9, 3) := by decide +kernel
theorem dL_begin_12 : decode cL_begin 12 = .ok (.astore_n 3, 1) := by decide +kernel
theorem dL_begin_13 : decode cL_begin 13 = .ok (.iconst 1, 1) := by decide +kernel
theorem dL_begin_14 : decode cL_begin 14 = .ok (.ireturn, 1) := by decide +kernel
theorem dL_begin_15 : decode cL_begin 15 = .ok (.astore_n 3, 1) := by decide +kernel
theorem dL_begin_16 : decode cL_begin 16 = .ok (.iconst 2, 1) := by decide +kernel
theorem dL_begin_17 : decode cL_begin 17 = .ok (.ireturn, 1) := by decide +kernel
theorem dL_begin_18 : decode cL_begin 18 = .ok (.iconst 0, 1) := by decide +kernel
theorem dL_begin_19 : decode cL_begin 19 = .ok (.ireturn, 1) := by decide +kernel
set_option maxRecDepth 20000 in
theorem ggL_branch_X3_branch : GoodIn wsL_branch wsX3_branch := goodIn_ca (goodIn_ca (goodIn_r _ [7, 8, 9, 10, 6, 11, 12, 13, 14, 15, 16, 17, 18, 19, 20, 21, 22, 23, 24, 25, 26, 27, 28, 29, 30, 31, 32, 33, 34, 35, 36, 37, 38, 39, 40, 41, 42, 43, 44, 45, 46, 47, 48, 49, 50, 51, 52, 53, 54, 55, 56, 57, 58, 59, 60, 61, 62, 63, 64, 65, 66, 67, 68, 69, 70, 71, 72, 73, 74, 75, 76] (by decide +kernel) (by decide +kernel)) (goodIn_sub (fun _ h => List.mem_cons_of_mem _ (List.mem_append_left _ (List.mem_append_right _ h))) (by decide +kernel))) (goodIn_sub (fun _ h => List.mem_cons_of_mem _ (List.mem_append_right _ h)) (by decide +kernel))
set_option maxRecDepth 20000 in
theorem gL_branch_X3_branch : GoodIn wsL_branch (wsV RL 17 RX3 yX3_branch wsX3_branch) := goodIn_app (goodIn_of _ (by decide +kernel)) ggL_branch_X3_branch
theorem dL_branch_0 : decode cL_branch 0 = .ok (.aload_n 2, 1) := by decide +kernel
theorem dL_branch_1 : decode cL_branch 1 = .ok (.iconst 0, 1) := by decide +kernel
theorem dL_branch_2 : decode cL_branch 2 = .ok (.aload_n 0, 1) := by decide +kernel
theorem dL_branch_3 : decode cL_branch 3 = .ok (.iload_n 1, 1) := by decide +kernel
theorem dL_branch_4 : decode cL_branch 4 = .ok (.invokevirtual 17, 3) := by decide +kernel
theorem dL_branch_7 : decode cL_branch 7 = .ok (.i2l, 1) := by decide +kernel
theorem dL_branch_8 : decode cL_branch 8 = .ok (.lastore, 1) := by decide +kernel
theorem dL_branch_9 : decode cL_branch 9 = .ok (.goto 9, 3) := by decide +kernel
theorem dL_branch_12 : decode cL_branch 12 = .ok (.astore_n 3, 1) := by decide +kernel
theorem dL_branch_13 : decode cL_branch 13 = .ok (.iconst 1, 1) := by decide +kernel
theorem dL_branch_14 : decode cL_branch 14 = .ok (.ireturn, 1) := by decide +kernel
theorem dL_branch_15 : decode cL_branch 15 = .ok (.astore_n 3, 1) := by decide +kernel
theorem dL_branch_16 : decode cL_branch 16 = .ok (.iconst 2, 1) := by decide +kernel
theorem dL_branch_17 : decode cL_branch 17 = .ok (.ireturn, 1) := by decide +kernel
theorem dL_branch_18 : decode cL_branch 18 = .ok (.iconst 0, 1) := by decide +kernel
theorem dL_branch_19 : decode cL_branch 19 = .ok (.ireturn, 1) := by decide +kernel
set_option maxRecDepth 20000 in
theorem ggL_setNote_X3_setNote : GoodIn wsL_setNote wsX3_setNote := goodIn_ca (goodIn_ca (goodIn_ca (goodIn_r _ [8, 9, 10, 11, 12, 13, 14, 15, 7, 16, 17, 18, 19, 20, 21, 22, 23, 24, 25, 26, 27, 28, 29, 30, 31, 32, 33, 34, 35, 36, 37, 38, 39, 40, 41, 42, 43, 44, 45, 46, 47, 48, 49, 50, 51] (by decide +kernel) (by decide +kernel)) (goodIn_sub (fun _ h => List.mem_cons_of_mem _ (List.mem_append_left _ (List.mem_append_left _ (List.mem_append_right _ h)))) (by decide +kernel))) (goodIn_sub (fun _ h => List.mem_cons_of_mem _ (List.mem_append_left _ (List.mem_append_right _ h))) (by decide +kernel))) (goodIn_sub (fun _ h => List.mem_cons_of_mem _ (List.mem_append_right _ h)) (by decide +kernel))
set_option maxRecDepth 20000 in
theorem gL_setNote_X3_setNote : GoodIn wsL_setNote (wsV RL 22 RX3 yX3_setNote wsX3_setNote) := goodIn_app (goodIn_of _ (by decide +kernel)) ggL_setNote_X3_setNote
theorem dL_setNote_0 : decode cL_setNote 0 = .ok (.aload 5, 2) := by decide +kernel
theorem dL_setNote_2 : decode cL_setNote 2 = .ok (.iconst 0, 1) := by decide +kernel
theorem dL_setNote_3 : decode cL_setNote 3 = .ok (.aload_n 0, 1) := by decide +kernel
theorem dL_setNote_4 : decode cL_setNote 4 = .ok (.iload_n 1, 1) := by decide +kernel
theorem dL_setNote_5 : decode cL_setNote 5 = .ok (.iload_n 2, 1) := by decide +kernel
theorem dL_setNote_6 : decode cL_setNote 6 = .ok (.iload_n 3, 1) := by decide +kernel
theorem dL_setNote_7 : decode cL_setNote 7 = .ok (.iload 4, 2) := by decide +kernel
theorem dL_setNote_9 : decode cL_setNote 9 = .ok (.invokevirtual 22, 3) := by decide +kernel
theorem dL_setNote_12 : decode cL_setNote 12 = .ok (.i2l, 1) := by decide +kernel
theorem dL_setNote_13 : decode cL_setNote 13 = .ok (.lastore, 1) := by decide +kernel
theorem dL_setNote_14 : decode cL_setNote 14 = .ok (.goto 15, 3) := by decide +kernel
theorem dL_setNote_17 : decode cL_setNote 17 = .ok (.astore 6, 2) := by decide +kernel
theorem dL_setNote_19 : decode cL_setNote 19 = .ok (.iconst 1, 1) := by decide +kernel
theorem dL_setNote_20 : decode cL_setNote 20 = .ok (.ireturn, 1) := by decide +kernel
theorem dL_setNote_21 : decode cL_setNote 21 = .ok (.astore 6, 2) := by decide +kernel
theorem dL_setNote_23 : decode cL_setNote 23 = .ok (.iconst 2, 1) := by decide +kernel
theorem dL_setNote_24 : decode cL_setNote 24 = .ok (.ireturn, 1) := by decide +kernel
theorem dL_setNote_25 : decode cL_setNote 25 = .ok (.astore 6, 2) := by decide +kernel
theorem dL_setNote_27 : decode cL_setNote 27 = .ok (.iconst 3, 1) := by decide +kernel
theorem dL_setNote_28 : decode cL_setNote 28 = .ok (.ireturn, 1) := by decide +kernel
theorem dL_setNote_29 : decode cL_setNote 29 = .ok (.iconst 0, 1) := by decide +kernel
theorem dL_setNote_30 : decode cL_setNote 30 = .ok (.ireturn, 1) := by decide +kernel
set_option maxRecDepth 20000 in
theorem ggL_note_X3_note : GoodIn wsL_note wsX3_note := goodIn_ca (goodIn_r _ [6, 7, 8, 9, 5, 10, 11, 12, 13, 14, 15, 16, 17, 18, 19, 20, 21, 22, 23, 24, 25, 26, 27, 28, 29, 30, 31, 32, 33, 34, 35, 36, 37, 38, 39, 40, 41] (by decide +kernel) (by decide +kernel)) (goodIn_sub (fun _ h => List.mem_cons_of_mem _ (List.mem_append_right _ h)) (by decide +kernel))
set_option maxRecDepth 20000 in
theorem gL_note_X3_note : GoodIn wsL_note (wsV RL 26 RX3 yX3_note wsX3_note) := goodIn_app (goodIn_of _ (by decide +kernel)) ggL_note_X3_note
theorem dL_note_0 : decode cL_note 0 = .ok (.aload 4, 2) := by decide +kernel
theorem dL_note_2 : decode cL_note 2 = .ok (.iconst 0, 1) := by decide +kernel
theorem dL_note_3 : decode cL_note 3 = .ok (.aload_n 0, 1) := by decide +kernel
theorem dL_note_4 : decode cL_note 4 = .ok (.iload_n 1, 1) := by decide +kernel
theorem dL_note_5 : decode cL_note 5 = .ok (.iload_n 2, 1) := by decide +kernel
theorem dL_note_6 : decode cL_note 6 = .ok (.iload_n 3, 1) := by decide +kernel
theorem dL_note_7 : decode cL_note 7 = .ok (.invokevirtual 26, 3) := by decide +kernel
theorem dL_note_10 : decode cL_note 10 = .ok (.i2l, 1) := by decide +kernel
theorem dL_note_11 : decode cL_note 11 = .ok (.lastore, 1) := by decide +kernel
theorem dL_note_12 : decode cL_note 12 = .ok (.goto 7, 3) := by decide +kernel
theorem dL_note_15 : decode cL_note 15 = .ok (.astore 5, 2) := by decide +kernel
theorem dL_note_17 : decode cL_note 17 = .ok (.iconst 1, 1) := by decide +kernel
theorem dL_note_18 : decode cL_note 18 = .ok (.ireturn, 1) := by decide +kernel
theorem dL_note_19 : decode cL_note 19 = .ok (.iconst 0, 1) := by decide +kernel
theorem dL_note_20 : decode cL_note 20 = .ok (.ireturn, 1) := by decide +kernel
set_option maxRecDepth 20000 in
theorem ggL_base_X3_base : GoodIn wsL_base wsX3_base := goodIn_ca (goodIn_r _ [6, 7, 8, 9, 5, 10, 11, 12, 13, 14, 15, 16, 17, 18, 19, 20, 21, 22, 23, 24, 25, 26, 27, 28, 29, 30, 31] (by decide +kernel) (by decide +kernel)) (goodIn_sub (fun _ h => List.mem_cons_of_mem _ (List.mem_append_right _ h)) (by decide +kernel))
set_option maxRecDepth 20000 in
theorem gL_base_X3_base : GoodIn wsL_base (wsV RL 30 RX3 yX3_base wsX3_base) := goodIn_app (goodIn_of _ (by decide +kernel)) ggL_base_X3_base
theorem dL_base_0 : decode cL_base 0 = .ok (.aload_n 3, 1) := by decide +kernel
theorem dL_base_1 : decode cL_base 1 = .ok (.iconst 0, 1) := by decide +kernel
theorem dL_base_2 : decode cL_base 2 = .ok (.aload_n 0, 1) := by decide +kernel
theorem dL_base_3 : decode cL_base 3 = .ok (.iload_n 1, 1) := by decide +kernel
theorem dL_base_4 : decode cL_base 4 = .ok (.iload_n 2, 1) := by decide +kernel
theorem dL_base_5 : decode cL_base 5 = .ok (.invokevirtual 30, 3) := by decide +kernel
theorem dL_base_8 : decode cL_base 8 = .ok (.i2l, 1) := by decide +kernel
theorem dL_base_9 : decode cL_base 9 = .ok (.lastore, 1) := by decide +kernel
theorem dL_base_10 : decode cL_base 10 = .ok (.goto 7, 3) := by decide +kernel
theorem dL_base_13 : decode cL_base 13 = .ok (.astore 4, 2) := by decide +kernel
theorem dL_base_15 : decode cL_base 15 = .ok (.iconst 1, 1) := by decide +kernel
theorem dL_base_16 : decode cL_base 16 = .ok (.ireturn, 1) := by decide +kernel
theorem dL_base_17 : decode cL_base 17 = .ok (.iconst 0, 1) := by decide +kernel
theorem dL_base_18 : decode cL_base 18 = .ok (.ireturn, 1) := by decide +kernel
set_option maxRecDepth 20000 in
theorem ggL_conflicts_X3_conflicts : GoodIn wsL_conflicts wsX3_conflicts := goodIn_ca (goodIn_ca (goodIn_r _ [7, 8, 9, 10, 11, 12, 6, 13, 14, 15, 16, 17, 18, 19, 20, 21, 22, 23, 24, 25, 26, 27, 28, 29, 30, 31, 32, 33, 34, 35, 36, 37, 38, 39, 40, 41, 42, 43, 44, 45, 46, 47, 48, 49, 50, 51] (by decide +kernel) (by decide +kernel)) (goodIn_sub (fun _ h => List.mem_cons_of_mem _ (List.mem_append_left _ (List.mem_append_right _ h))) (by decide +kernel))) (goodIn_sub (fun _ h => List.mem_cons_of_mem _ (List.mem_append_right _ h)) (by decide +kernel))
set_option maxRecDepth 20000 in
theorem gL_conflicts_X3_conflicts : GoodIn wsL_conflicts (wsV RL 34 RX3 yX3_conflicts wsX3_conflicts) := goodIn_app (goodIn_of _ (by decide +kernel)) ggL_conflicts_X3_conflicts
theorem dL_conflicts_0 : decode cL_conflicts 0 = .ok (.aload_n 3, 1) := by decide +kernel
theorem dL_conflicts_1 : decode cL_conflicts 1 = .ok (.iconst 0, 1) := by decide +kernel
theorem dL_conflicts_2 : decode cL_conflicts 2 = .ok (.aload_n 0, 1) := by decide +kernel
theorem dL_conflicts_3 : decode cL_conflicts 3 = .ok (.iload_n 1, 1) := by decide +kernel
theorem dL_conflicts_4 : decode cL_conflicts 4 = .ok (.iload_n 2, 1) := by decide +kernel
theorem dL_conflicts_5 : decode cL_conflicts 5 = .ok (.invokevirtual 34, 3) := by decide +kernel
theorem dL_conflicts_8 : decode cL_conflicts 8 = .ok (.i2l, 1) := by decide +kernel
theorem dL_conflicts_9 : decode cL_conflicts 9 = .ok (.lastore, 1) := by decide +kernel
theorem dL_conflicts_10 : decode cL_conflicts 10 = .ok (.goto 11, 3) := by decide +kernel
theorem dL_conflicts_13 : decode cL_conflicts 13 = .ok (.astore 4, 2) := by decide +kernel
theorem dL_conflicts_15 : decode cL_conflicts 15 = .ok (.iconst 1, 1) := by decide +kernel
theorem dL_conflicts_16 : decode cL_conflicts 16 = .ok (.ireturn, 1) := by decide +kernel
theorem dL_conflicts_17 : decode cL_conflicts 17 = .ok (.astore 4, 2) := by decide +kernel
theorem dL_conflicts_19 : decode cL_conflicts 19 = .ok (.iconst 2, 1) := by decide +kernel
theorem dL_conflicts_20 : decode cL_conflicts 20 = .ok (.ireturn, 1) := by decide +kernel
theorem dL_conflicts_21 : decode cL_conflicts 21 = .ok (.iconst 0, 1) := by decide +kernel
theorem dL_conflicts_22 : decode cL_conflicts 22 = .ok (.ireturn, 1) := by decide +kernel
set_option maxRecDepth 20000 in
theorem ggL_merge_X3_merge : GoodIn wsL_merge wsX3_merge := goodIn_ca (goodIn_ca (goodIn_ca (goodIn_r _ [8, 9, 10, 11, 12, 13, 14, 15, 7, 16, 17, 18, 19, 20, 21, 22, 23, 24, 25, 26, 27, 28, 29, 30, 31, 32, 33, 34, 35, 36, 37, 38, 39, 40, 41, 42, 43, 44, 45, 46, 47, 48, 49, 50, 51, 52, 53, 54, 55, 56, 57, 58, 59, 60, 61, 62, 63, 64, 65, 66, 67, 68, 69, 70, 71, 72, 73, 74, 75, 76, 77, 78, 79, 80, 81, 82, 83, 84, 85, 86, 87, 88, 89, 90, 91, 92, 93] (by decide +kernel) (by decide +kernel)) (goodIn_sub (fun _ h => List.mem_cons_of_mem _ (List.mem_append_left _ (List.mem_append_left _ (List.mem_append_right _ h)))) (by decide +kernel))) (goodIn_sub (fun _ h => List.mem_cons_of_mem _ (List.mem_append_left _ (List.mem_append_right _ h))) (by decide +kernel))) (goodIn_sub (fun _ h => List.mem_cons_of_mem _ (List.mem_append_right _ h)) (by decide +kernel))
set_option maxRecDepth 20000 in
theorem gL_merge_X3_merge : GoodIn wsL_merge (wsV RL 37 RX3 yX3_merge wsX3_merge) := goodIn_app (goodIn_of _ (by decide +kernel)) ggL_merge_X3_merge
theorem dL_merge_0 : decode cL_merge 0 = .ok (.aload_n 3, 1) := by decide +kernel
theorem dL_merge_1 : decode cL_merge 1 = .ok (.iconst 0, 1) := by decide +kernel
theorem dL_merge_2 : decode cL_merge 2 = .ok (.aload_n 0, 1) := by decide +kernel
theorem dL_merge_3 : decode cL_merge 3 = .ok (.iload_n 1, 1) := by decide +kernel
theorem dL_merge_4 : decode cL_merge 4 = .ok (.iload_n 2, 1) := by decide +kernel
theorem dL_merge_5 : decode cL_merge 5 = .ok (.invokevirtual 37, 3) := by decide +kernel
theorem dL_merge_8 : decode cL_merge 8 = .ok (.i2l, 1) := by decide +kernel
theorem dL_merge_9 : decode cL_merge 9 = .ok (.lastore, 1) := by decide +kernel
theorem dL_merge_10 : decode cL_merge 10 = .ok (.goto 15, 3) := by decide +kernel
theorem dL_merge_13 : decode cL_merge 13 = .ok (.astore 4, 2) := by decide +kernel
theorem dL_merge_15 : decode cL_merge 15 = .ok (.iconst 1, 1) := by decide +kernel
theorem dL_merge_16 : decode cL_merge 16 = .ok (.ireturn, 1) := by decide +kernel
theorem dL_merge_17 : decode cL_merge 17 = .ok (.astore 4, 2) := by decide +kernel
theorem dL_merge_19 : decode cL_merge 19 = .ok (.iconst 2, 1) := by decide +kernel
theorem dL_merge_20 : decode cL_merge 20 = .ok (.ireturn, 1) := by decide +kernel
theorem dL_merge_21 : decode cL_merge 21 = .ok (.astore 4, 2) := by decide +kernel
theorem dL_merge_23 : decode cL_merge 23 = .ok (.iconst 3, 1) := by decide +kernel
theorem dL_merge_24 : decode cL_merge 24 = .ok (.ireturn, 1) := by decide +kernel
theorem dL_merge_25 : decode cL_merge 25 = .ok (.iconst 0, 1) := by decide +kernel
theorem dL_merge_26 : decode cL_merge 26 = .ok (.ireturn, 1) := by decide +kernel
set_option maxRecDepth 20000 in
theorem ggL_setWeight_X3_setWeight : GoodIn wsL_setWeight wsX3_setWeight := goodIn_ca (goodIn_ca (goodIn_r _ [7, 8, 9, 10, 11, 12, 13, 14, 15, 16, 17, 18, 19] (by decide +kernel) (by decide +kernel)) (goodIn_sub (fun _ h => List.mem_cons_of_mem _ (List.mem_append_left _ (List.mem_append_right _ h))) (by decide +kernel))) (goodIn_sub (fun _ h => List.mem_cons_of_mem _ (List.mem_append_right _ h)) (by decide +kernel))
set_option maxRecDepth 20000 in
theorem gL_setWeight_X3_setWeight : GoodIn wsL_setWeight (wsV RL 40 RX3 yX3_setWeight wsX3_setWeight) := goodIn_app (goodIn_of _ (by decide +kernel)) ggL_setWeight_X3_setWeight
theorem dL_setWeight_0 : decode cL_setWeight 0 = .ok (.aload_n 3, 1) := by decide +kernel
theorem dL_setWeight_1 : decode cL_setWeight 1 = .ok (.iconst 0, 1) := by decide +kernel
theorem dL_setWeight_2 : decode cL_setWeight 2 = .ok (.aload_n 0, 1) := by decide +kernel
theorem dL_setWeight_3 : decode cL_setWeight 3 = .ok (.iload_n 1, 1) := by decide +kernel
theorem dL_setWeight_4 : decode cL_setWeight 4 = .ok (.iload_n 2, 1) := by decide +kernel
theorem dL_setWeight_5 : decode cL_setWeight 5 = .ok (.invokevirtual 40, 3) := by decide +kernel
theorem dL_setWeight_8 : decode cL_setWeight 8 = .ok (.i2l, 1) := by decide +kernel
theorem dL_setWeight_9 : decode cL_setWeight 9 = .ok (.lastore, 1) := by decide +kernel
theorem dL_setWeight_10 : decode cL_setWeight 10 = .ok (.goto 11, 3) := by decide +kernel
theorem dL_setWeight_13 : decode cL_setWeight 13 = .ok (.astore 4, 2) := by decide +kernel
theorem dL_setWeight_15 : decode cL_setWeight 15 = .ok (.iconst 1, 1) := by decide +kernel
theorem dL_setWeight_16 : decode cL_setWeight 16 = .ok (.ireturn, 1) := by decide +kernel
theorem dL_setWeight_17 : decode cL_setWeight 17 = .ok (.astore 4, 2) := by decide +kernel
theorem dL_setWeight_19 : decode cL_setWeight 19 = .ok (.iconst 2, 1) := by decide +kernel
theorem dL_setWeight_20 : decode cL_setWeight 20 = .ok (.ireturn, 1) := by decide +kernel
theorem dL_setWeight_21 : decode cL_setWeight 21 = .ok (.iconst 0, 1) := by decide +kernel
theorem dL_setWeight_22 : decode cL_setWeight 22 = .ok (.ireturn, 1) := by decide +kernel
set_option maxRecDepth 20000 in
theorem ggL_setPass_X3_setPass : GoodIn wsL_setPass wsX3_setPass := goodIn_ca (goodIn_r _ [6, 7, 8, 9, 10, 11, 12, 13, 14, 15, 16] (by decide +kernel) (by decide +kernel)) (goodIn_sub (fun _ h => List.mem_cons_of_mem _ (List.mem_append_right _ h)) (by decide +kernel))
set_option maxRecDepth 20000 in
theorem gL_setPass_X3_setPass : GoodIn wsL_setPass (wsV RL 43 RX3 yX3_setPass wsX3_setPass) := goodIn_app (goodIn_of _ (by decide +kernel)) ggL_setPass_X3_setPass
theorem dL_setPass_0 : decode cL_setPass 0 = .ok (.aload_n 2, 1) := by decide +kernel
theorem dL_setPass_1 : decode cL_setPass 1 = .ok (.iconst 0, 1) := by decide +kernel
theorem dL_setPass_2 : decode cL_setPass 2 = .ok (.aload_n 0, 1) := by decide +kernel
theorem dL_setPass_3 : decode cL_setPass 3 = .ok (.iload_n 1, 1) := by decide +kernel
theorem dL_setPass_4 : decode cL_setPass 4 = .ok (.invokevirtual 43, 3) := by decide +kernel
theorem dL_setPass_7 : decode cL_setPass 7 = .ok (.i2l, 1) := by decide +kernel
theorem dL_setPass_8 : decode cL_setPass 8 = .ok (.lastore, 1) := by decide +kernel
theorem dL_setPass_9 : decode cL_setPass 9 = .ok (.goto 6, 3) := by decide +kernel
theorem dL_setPass_12 : decode cL_setPass 12 = .ok (.astore_n 3, 1) := by decide +kernel
theorem dL_setPass_13 : decode cL_setPass 13 = .ok (.iconst 1, 1) := by decide +kernel
theorem dL_setPass_14 : decode cL_setPass 14 = .ok (.ireturn, 1) := by decide +kernel
theorem dL_setPass_15 : decode cL_setPass 15 = .ok (.iconst 0, 1) := by decide +kernel
theorem dL_setPass_16 : decode cL_setPass 16 = .ok (.ireturn, 1) := by decide +kernel
set_option maxRecDepth 20000 in
theorem ggL_faults_X3_faults : GoodIn wsL_faults wsX3_faults := goodIn_ca (goodIn_r _ [6, 7, 8, 9, 10, 11, 5, 12, 13, 14, 15, 16, 17, 18, 19, 20, 21, 22, 23, 24, 25, 26, 27, 28, 29, 30, 31, 32, 33, 34, 35, 36, 37, 38, 39, 40, 41, 42, 43, 44, 45, 46, 47, 48, 49, 50, 51, 52, 53, 54, 55, 56, 57, 58, 59, 60, 61, 62, 63, 64, 65, 66, 67, 68, 69, 70, 71, 72, 73, 74, 75, 76, 77, 78] (by decide +kernel) (by decide +kernel)) (goodIn_sub (fun _ h => List.mem_cons_of_mem _ (List.mem_append_right _ h)) (by decide +kernel))
set_option maxRecDepth 20000 in
theorem gL_faults_X3_faults : GoodIn wsL_faults (wsV RL 46 RX3 yX3_faults wsX3_faults) := goodIn_app (goodIn_of _ (by decide +kernel)) ggL_faults_X3_faults
theorem dL_faults_0 : decode cL_faults 0 = .ok (.aload 4, 2) := by decide +kernel
theorem dL_faults_2 : decode cL_faults 2 = .ok (.iconst 0, 1) := by decide +kernel
theorem dL_faults_3 : decode cL_faults 3 = .ok (.aload_n 0, 1) := by decide +kernel
theorem dL_faults_4 : decode cL_faults 4 = .ok (.iload_n 1, 1) := by decide +kernel
theorem dL_faults_5 : decode cL_faults 5 = .ok (.iload_n 2, 1) := by decide +kernel
theorem dL_faults_6 : decode cL_faults 6 = .ok (.iload_n 3, 1) := by decide +kernel
theorem dL_faults_7 : decode cL_faults 7 = .ok (.invokevirtual 46, 3) := by decide +kernel
theorem dL_faults_10 : decode cL_faults 10 = .ok (.i2l, 1) := by decide +kernel
theorem dL_faults_11 : decode cL_faults 11 = .ok (.lastore, 1) := by decide +kernel
theorem dL_faults_12 : decode cL_faults 12 = .ok (.goto 7, 3) := by decide +kernel
theorem dL_faults_15 : decode cL_faults 15 = .ok (.astore 5, 2) := by decide +kernel
theorem dL_faults_17 : decode cL_faults 17 = .ok (.iconst 1, 1) := by decide +kernel
theorem dL_faults_18 : decode cL_faults 18 = .ok (.ireturn, 1) := by decide +kernel
theorem dL_faults_19 : decode cL_faults 19 = .ok (.iconst 0, 1) := by decide +kernel
theorem dL_faults_20 : decode cL_faults 20 = .ok (.ireturn, 1) := by decide +kernel
set_option maxRecDepth 20000 in
theorem ggL_mark_X3_mark : GoodIn wsL_mark wsX3_mark := goodIn_ca (goodIn_r _ [6, 7, 8, 9, 5, 10, 11, 12, 13, 14, 15, 16, 17, 18, 19, 20, 21, 22, 23, 24, 25, 26, 27, 28, 29, 30, 31, 32, 33, 34, 35, 36, 37, 38, 39, 40, 41, 42, 43, 44, 45, 46, 47, 48, 49, 50, 51, 52, 53, 54, 55, 56, 57, 58, 59, 60, 61, 62, 63, 64, 65, 66, 67, 68, 69, 70, 71, 72, 73, 74, 75, 76, 77, 78, 79, 80, 81, 82, 83, 84, 85, 86, 87] (by decide +kernel) (by decide +kernel)) (goodIn_sub (fun _ h => List.mem_cons_of_mem _ (List.mem_append_right _ h)) (by decide +kernel))
set_option maxRecDepth 20000 in
theorem gL_mark_X3_mark : GoodIn wsL_mark (wsV RL 49 RX3 yX3_mark wsX3_mark) := goodIn_app (goodIn_of _ (by decide +kernel)) ggL_mark_X3_mark
theorem dL_mark_0 : decode cL_mark 0 = .ok (.aload_n 2, 1) := by decide +kernel
theorem dL_mark_1 : decode cL_mark 1 = .ok (.iconst 0, 1) := by decide +kernel
theorem dL_mark_2 : decode cL_mark 2 = .ok (.aload_n 0, 1) := by decide +kernel
theorem dL_mark_3 : decode cL_mark 3 = .ok (.iload_n 1, 1) := by decide +kernel
theorem dL_mark_4 : decode cL_mark 4 = .ok (.invokevirtual 49, 3) := by decide +kernel
theorem dL_mark_7 : decode cL_mark 7 = .ok (.i2l, 1) := by decide +kernel
theorem dL_mark_8 : decode cL_mark 8 = .ok (.lastore, 1) := by decide +kernel
theorem dL_mark_9 : decode cL_mark 9 = .ok (.goto 6, 3) := by decide +kernel
theorem dL_mark_12 : decode cL_mark 12 = .ok (.astore_n 3, 1) := by decide +kernel
theorem dL_mark_13 : decode cL_mark 13 = .ok (.iconst 1, 1) := by decide +kernel
theorem dL_mark_14 : decode cL_mark 14 = .ok (.ireturn, 1) := by decide +kernel
theorem dL_mark_15 : decode cL_mark 15 = .ok (.iconst 0, 1) := by decide +kernel
theorem dL_mark_16 : decode cL_mark 16 = .ok (.ireturn, 1) := by decide +kernel
set_option maxRecDepth 20000 in
theorem ggL_handIn_X3_handIn : GoodIn wsL_handIn wsX3_handIn := goodIn_ca (goodIn_r _ [6, 7, 8, 9, 10, 5, 11, 12, 13, 14, 15, 16, 17, 18, 19, 20, 21, 22, 23, 24, 25, 26, 27, 28, 29, 30, 31, 32, 33, 34, 35, 36, 37, 38, 39, 40, 41, 42, 43, 44, 45, 46, 47, 48, 49, 50, 51, 52, 53, 54, 55, 56, 57, 58, 59, 60, 61, 62, 63, 64, 65, 66, 67, 68, 69, 70, 71, 72, 73, 74, 75, 76, 77, 78, 79, 80, 81, 82, 83, 84, 85, 86, 87, 88] (by decide +kernel) (by decide +kernel)) (goodIn_sub (fun _ h => List.mem_cons_of_mem _ (List.mem_append_right _ h)) (by decide +kernel))
set_option maxRecDepth 20000 in
theorem gL_handIn_X3_handIn : GoodIn wsL_handIn (wsV RL 52 RX3 yX3_handIn wsX3_handIn) := goodIn_app (goodIn_of _ (by decide +kernel)) ggL_handIn_X3_handIn
theorem dL_handIn_0 : decode cL_handIn 0 = .ok (.aload_n 2, 1) := by decide +kernel
theorem dL_handIn_1 : decode cL_handIn 1 = .ok (.iconst 0, 1) := by decide +kernel
theorem dL_handIn_2 : decode cL_handIn 2 = .ok (.aload_n 0, 1) := by decide +kernel
theorem dL_handIn_3 : decode cL_handIn 3 = .ok (.iload_n 1, 1) := by decide +kernel
theorem dL_handIn_4 : decode cL_handIn 4 = .ok (.invokevirtual 52, 3) := by decide +kernel
theorem dL_handIn_7 : decode cL_handIn 7 = .ok (.ifCond .eq 7, 3) := by decide +kernel
theorem dL_handIn_10 : decode cL_handIn 10 = .ok (.lconst 1, 1) := by decide +kernel
theorem dL_handIn_11 : decode cL_handIn 11 = .ok (.goto 4, 3) := by decide +kernel
theorem dL_handIn_14 : decode cL_handIn 14 = .ok (.lconst 0, 1) := by decide +kernel
theorem dL_handIn_15 : decode cL_handIn 15 = .ok (.lastore, 1) := by decide +kernel
theorem dL_handIn_16 : decode cL_handIn 16 = .ok (.goto 6, 3) := by decide +kernel
theorem dL_handIn_19 : decode cL_handIn 19 = .ok (.astore_n 3, 1) := by decide +kernel
theorem dL_handIn_20 : decode cL_handIn 20 = .ok (.iconst 1, 1) := by decide +kernel
theorem dL_handIn_21 : decode cL_handIn 21 = .ok (.ireturn, 1) := by decide +kernel
theorem dL_handIn_22 : decode cL_handIn 22 = .ok (.iconst 0, 1) := by decide +kernel
theorem dL_handIn_23 : decode cL_handIn 23 = .ok (.ireturn, 1) := by decide +kernel
set_option maxRecDepth 20000 in
theorem ggL_best_X3_best : GoodIn wsL_best wsX3_best := goodIn_ca (goodIn_r _ [6, 7, 8, 9, 10, 5, 11, 12, 13, 14, 15, 16, 17, 18, 19, 20, 21, 22, 23, 24, 25, 26, 27, 28, 29, 30, 31, 32, 33, 34, 35, 36, 37, 38, 39, 40, 41, 42, 43, 44, 45, 46, 47, 48, 49, 50, 51, 52, 53, 54, 55, 56, 57, 58, 59, 60, 61, 62, 63, 64, 65, 66, 67, 68, 69, 70, 71, 72, 73, 74, 75, 76, 77, 78, 79, 80, 81, 82, 83, 84, 85, 86, 87, 88, 89, 90, 91, 92, 93, 94, 95, 96, 97, 98, 99, 100, 101, 102, 103, 104, 105, 106, 107] (by decide +kernel) (by decide +kernel)) (goodIn_sub (fun _ h => List.mem_cons_of_mem _ (List.mem_append_right _ h)) (by decide +kernel))
set_option maxRecDepth 20000 in
theorem gL_best_X3_best : GoodIn wsL_best (wsV RL 56 RX3 yX3_best wsX3_best) := goodIn_app (goodIn_of _ (by decide +kernel)) ggL_best_X3_best
theorem dL_best_0 : decode cL_best 0 = .ok (.aload 4, 2) := by decide +kernel
theorem dL_best_2 : decode cL_best 2 = .ok (.iconst 0, 1) := by decide +kernel
theorem dL_best_3 : decode cL_best 3 = .ok (.aload_n 0, 1) := by decide +kernel
theorem dL_best_4 : decode cL_best 4 = .ok (.iload_n 1, 1) := by decide +kernel
theorem dL_best_5 : decode cL_best 5 = .ok (.iload_n 2, 1) := by decide +kernel
theorem dL_best_6 : decode cL_best 6 = .ok (.iload_n 3, 1) := by decide +kernel
theorem dL_best_7 : decode cL_best 7 = .ok (.invokevirtual 56, 3) := by decide +kernel
theorem dL_best_10 : decode cL_best 10 = .ok (.i2l, 1) := by decide +kernel
theorem dL_best_11 : decode cL_best 11 = .ok (.lastore, 1) := by decide +kernel
theorem dL_best_12 : decode cL_best 12 = .ok (.goto 7, 3) := by decide +kernel
theorem dL_best_15 : decode cL_best 15 = .ok (.astore 5, 2) := by decide +kernel
theorem dL_best_17 : decode cL_best 17 = .ok (.iconst 1, 1) := by decide +kernel
theorem dL_best_18 : decode cL_best 18 = .ok (.ireturn, 1) := by decide +kernel
theorem dL_best_19 : decode cL_best 19 = .ok (.iconst 0, 1) := by decide +kernel
theorem dL_best_20 : decode cL_best 20 = .ok (.ireturn, 1) := by decide +kernel
set_option maxRecDepth 20000 in
theorem ggL_movement_X3_movement : GoodIn wsL_movement wsX3_movement := goodIn_ca (goodIn_r _ [6, 7, 8, 9, 5, 10, 11, 12, 13, 14, 15, 16, 17, 18, 19, 20, 21, 22, 23, 24, 25, 26, 27, 28, 29, 30, 31, 32, 33, 34, 35, 36, 37, 38, 39, 40, 41, 42, 43, 44, 45, 46, 47, 48, 49, 50, 51] (by decide +kernel) (by decide +kernel)) (goodIn_sub (fun _ h => List.mem_cons_of_mem _ (List.mem_append_right _ h)) (by decide +kernel))
set_option maxRecDepth 20000 in
theorem gL_movement_X3_movement : GoodIn wsL_movement (wsV RL 59 RX3 yX3_movement wsX3_movement) := goodIn_app (goodIn_of _ (by decide +kernel)) ggL_movement_X3_movement
theorem dL_movement_0 : decode cL_movement 0 = .ok (.aload_n 3, 1) := by decide +kernel
theorem dL_movement_1 : decode cL_movement 1 = .ok (.iconst 0, 1) := by decide +kernel
theorem dL_movement_2 : decode cL_movement 2 = .ok (.aload_n 0, 1) := by decide +kernel
theorem dL_movement_3 : decode cL_movement 3 = .ok (.iload_n 1, 1) := by decide +kernel
theorem dL_movement_4 : decode cL_movement 4 = .ok (.iload_n 2, 1) := by decide +kernel
theorem dL_movement_5 : decode cL_movement 5 = .ok (.invokevirtual 59, 3) := by decide +kernel
theorem dL_movement_8 : decode cL_movement 8 = .ok (.f2d, 1) := by decide +kernel
theorem dL_movement_9 : decode cL_movement 9 = .ok (.dastore, 1) := by decide +kernel
theorem dL_movement_10 : decode cL_movement 10 = .ok (.goto 7, 3) := by decide +kernel
theorem dL_movement_13 : decode cL_movement 13 = .ok (.astore 4, 2) := by decide +kernel
theorem dL_movement_15 : decode cL_movement 15 = .ok (.iconst 1, 1) := by decide +kernel
theorem dL_movement_16 : decode cL_movement 16 = .ok (.ireturn, 1) := by decide +kernel
theorem dL_movement_17 : decode cL_movement 17 = .ok (.iconst 0, 1) := by decide +kernel
theorem dL_movement_18 : decode cL_movement 18 = .ok (.ireturn, 1) := by decide +kernel
set_option maxRecDepth 20000 in
theorem ggL_print_X3_print : GoodIn wsL_print wsX3_print := goodIn_ca (goodIn_ca (goodIn_r _ [7, 8, 9, 10, 6, 11, 12, 13, 14, 15, 16, 17, 18, 19, 20, 21, 22, 23, 24, 25, 26, 27, 28, 29, 30, 31, 32, 33, 34, 35, 36, 37, 38, 39, 40, 41, 42, 43, 44, 45, 46, 47, 48, 49, 50, 51, 52, 53, 54, 55, 56, 57, 58, 59, 60, 61, 62, 63, 64, 65, 66, 67, 68, 69] (by decide +kernel) (by decide +kernel)) (goodIn_sub (fun _ h => List.mem_cons_of_mem _ (List.mem_append_left _ (List.mem_append_right _ h))) (by decide +kernel))) (goodIn_sub (fun _ h => List.mem_cons_of_mem _ (List.mem_append_right _ h)) (by decide +kernel))
set_option maxRecDepth 20000 in
theorem gL_print_X3_print : GoodIn wsL_print (wsV RL 63 RX3 yX3_print wsX3_print) := goodIn_app (goodIn_of _ (by decide +kernel)) ggL_print_X3_print
theorem dL_print_0 : decode cL_print 0 = .ok (.aload_n 3, 1) := by decide +kernel
theorem dL_print_1 : decode cL_print 1 = .ok (.iconst 0, 1) := by decide +kernel
theorem dL_print_2 : decode cL_print 2 = .ok (.aload_n 0, 1) := by decide +kernel
theorem dL_print_3 : decode cL_print 3 = .ok (.iload_n 1, 1) := by decide +kernel
theorem dL_print_4 : decode cL_print 4 = .ok (.iload_n 2, 1) := by decide +kernel
theorem dL_print_5 : decode cL_print 5 = .ok (.invokevirtual 63, 3) := by decide +kernel
theorem dL_print_8 : decode cL_print 8 = .ok (.i2l, 1) := by decide +kernel
theorem dL_print_9 : decode cL_print 9 = .ok (.lastore, 1) := by decide +kernel
theorem dL_print_10 : decode cL_print 10 = .ok (.goto 11, 3) := by decide +kernel
theorem dL_print_13 : decode cL_print 13 = .ok (.astore 4, 2) := by decide +kernel
theorem dL_print_15 : decode cL_print 15 = .ok (.iconst 1, 1) := by decide +kernel
theorem dL_print_16 : decode cL_print 16 = .ok (.ireturn, 1) := by decide +kernel
theorem dL_print_17 : decode cL_print 17 = .ok (.astore 4, 2) := by decide +kernel
theorem dL_print_19 : decode cL_print 19 = .ok (.iconst 2, 1) := by decide +kernel
theorem dL_print_20 : decode cL_print 20 = .ok (.ireturn, 1) := by decide +kernel
theorem dL_print_21 : decode cL_print 21 = .ok (.iconst 0, 1) := by decide +kernel
theorem dL_print_22 : decode cL_print 22 = .ok (.ireturn, 1) := by decide +kernel
set_option maxRecDepth 20000 in
theorem ggL_errata_X3_errata : GoodIn wsL_errata wsX3_errata := goodIn_ca (goodIn_ca (goodIn_r _ [7, 8, 9, 10, 6, 11, 12, 13, 14, 15, 16, 17, 18, 19, 20, 21, 22, 23, 24, 25, 26, 27, 28, 29, 30, 31, 32, 33, 34, 35, 36, 37, 38, 39, 40, 41, 42, 43, 44, 45, 46, 47, 48, 49, 50, 51, 52, 53, 54, 55, 56, 57, 58] (by decide +kernel) (by decide +kernel)) (goodIn_sub (fun _ h => List.mem_cons_of_mem _ (List.mem_append_left _ (List.mem_append_right _ h))) (by decide +kernel))) (goodIn_sub (fun _ h => List.mem_cons_of_mem _ (List.mem_append_right _ h)) (by decide +kernel))
set_option maxRecDepth 20000 in
theorem gL_errata_X3_errata : GoodIn wsL_errata (wsV RL 66 RX3 yX3_errata wsX3_errata) := goodIn_app (goodIn_of _ (by decide +kernel)) ggL_errata_X3_errata
theorem dL_errata_0 : decode cL_errata 0 = .ok (.aload_n 3, 1) := by decide +kernel
theorem dL_errata_1 : decode cL_errata 1 = .ok (.iconst 0, 1) := by decide +kernel
theorem dL_errata_2 : decode cL_errata 2 = .ok (.aload_n 0, 1) := by decide +kernel
theorem dL_errata_3 : decode cL_errata 3 = .ok (.iload_n 1, 1) := by decide +kernel
theorem dL_errata_4 : decode cL_errata 4 = .ok (.iload_n 2, 1) := by decide +kernel
theorem dL_errata_5 : decode cL_errata 5 = .ok (.invokevirtual 66, 3) := by decide +kernel
theorem dL_errata_8 : decode cL_errata 8 = .ok (.i2l, 1) := by decide +kernel
theorem dL_errata_9 : decode cL_errata 9 = .ok (.lastore, 1) := by decide +kernel
theorem dL_errata_10 : decode cL_errata 10 = .ok (.goto 11, 3) := by decide +kernel
theorem dL_errata_13 : decode cL_errata 13 = .ok (.astore 4, 2) := by decide +kernel
theorem dL_errata_15 : decode cL_errata 15 = .ok (.iconst 1, 1) := by decide +kernel
theorem dL_errata_16 : decode cL_errata 16 = .ok (.ireturn, 1) := by decide +kernel
theorem dL_errata_17 : decode cL_errata 17 = .ok (.astore 4, 2) := by decide +kernel
theorem dL_errata_19 : decode cL_errata 19 = .ok (.iconst 2, 1) := by decide +kernel
theorem dL_errata_20 : decode cL_errata 20 = .ok (.ireturn, 1) := by decide +kernel
theorem dL_errata_21 : decode cL_errata 21 = .ok (.iconst 0, 1) := by decide +kernel
theorem dL_errata_22 : decode cL_errata 22 = .ok (.ireturn, 1) := by decide +kernel
set_option maxRecDepth 20000 in
theorem ggL_slip_X3_slip : GoodIn wsL_slip wsX3_slip := goodIn_ca (goodIn_ca (goodIn_r _ [7, 8, 9, 10, 6, 11, 12, 13, 14, 15, 16, 17, 18, 19, 20, 21, 22, 23, 24, 25, 26, 27, 28, 29, 30, 31, 32, 33, 34, 35, 36, 37, 38, 39, 40, 41, 42, 43, 44, 45, 46, 47, 48, 49, 50, 51, 52, 53, 54, 55, 56, 57, 58, 59, 60, 61, 62, 63, 64, 65, 66, 67, 68, 69] (by decide +kernel) (by decide +kernel)) (goodIn_sub (fun _ h => List.mem_cons_of_mem _ (List.mem_append_left _ (List.mem_append_right _ h))) (by decide +kernel))) (goodIn_sub (fun _ h => List.mem_cons_of_mem _ (List.mem_append_right _ h)) (by decide +kernel))
set_option maxRecDepth 20000 in
theorem gL_slip_X3_slip : GoodIn wsL_slip (wsV RL 69 RX3 yX3_slip wsX3_slip) := goodIn_app (goodIn_of _ (by decide +kernel)) ggL_slip_X3_slip
theorem dL_slip_0 : decode cL_slip 0 = .ok (.aload_n 3, 1) := by decide +kernel
theorem dL_slip_1 : decode cL_slip 1 = .ok (.iconst 0, 1) := by decide +kernel
theorem dL_slip_2 : decode cL_slip 2 = .ok (.aload_n 0, 1) := by decide +kernel
theorem dL_slip_3 : decode cL_slip 3 = .ok (.iload_n 1, 1) := by decide +kernel
theorem dL_slip_4 : decode cL_slip 4 = .ok (.iload_n 2, 1) := by decide +kernel
theorem dL_slip_5 : decode cL_slip 5 = .ok (.invokevirtual 69, 3) := by decide +kernel
theorem dL_slip_8 : decode cL_slip 8 = .ok (.i2l, 1) := by decide +kernel
theorem dL_slip_9 : decode cL_slip 9 = .ok (.lastore, 1) := by decide +kernel
theorem dL_slip_10 : decode cL_slip 10 = .ok (.goto 11, 3) := by decide +kernel
theorem dL_slip_13 : decode cL_slip 13 = .ok (.astore 4, 2) := by decide +kernel
theorem dL_slip_15 : decode cL_slip 15 = .ok (.iconst 1, 1) := by decide +kernel
theorem dL_slip_16 : decode cL_slip 16 = .ok (.ireturn, 1) := by decide +kernel
theorem dL_slip_17 : decode cL_slip 17 = .ok (.astore 4, 2) := by decide +kernel
theorem dL_slip_19 : decode cL_slip 19 = .ok (.iconst 2, 1) := by decide +kernel
theorem dL_slip_20 : decode cL_slip 20 = .ok (.ireturn, 1) := by decide +kernel
theorem dL_slip_21 : decode cL_slip 21 = .ok (.iconst 0, 1) := by decide +kernel
theorem dL_slip_22 : decode cL_slip 22 = .ok (.ireturn, 1) := by decide +kernel
set_option maxRecDepth 20000 in
theorem ggL_slips_X3_slips : GoodIn wsL_slips wsX3_slips := goodIn_ca (goodIn_r _ [6, 7, 8, 9, 5, 10, 11, 12, 13, 14, 15, 16, 17, 18, 19, 20, 21, 22, 23, 24] (by decide +kernel) (by decide +kernel)) (goodIn_sub (fun _ h => List.mem_cons_of_mem _ (List.mem_append_right _ h)) (by decide +kernel))
set_option maxRecDepth 20000 in
theorem gL_slips_X3_slips : GoodIn wsL_slips (wsV RL 72 RX3 yX3_slips wsX3_slips) := goodIn_app (goodIn_of _ (by decide +kernel)) ggL_slips_X3_slips
theorem dL_slips_0 : decode cL_slips 0 = .ok (.aload_n 2, 1) := by decide +kernel
theorem dL_slips_1 : decode cL_slips 1 = .ok (.iconst 0, 1) := by decide +kernel
theorem dL_slips_2 : decode cL_slips 2 = .ok (.aload_n 0, 1) := by decide +kernel
theorem dL_slips_3 : decode cL_slips 3 = .ok (.iload_n 1, 1) := by decide +kernel
theorem dL_slips_4 : decode cL_slips 4 = .ok (.invokevirtual 72, 3) := by decide +kernel
theorem dL_slips_7 : decode cL_slips 7 = .ok (.i2l, 1) := by decide +kernel
theorem dL_slips_8 : decode cL_slips 8 = .ok (.lastore, 1) := by decide +kernel
theorem dL_slips_9 : decode cL_slips 9 = .ok (.goto 6, 3) := by decide +kernel
theorem dL_slips_12 : decode cL_slips 12 = .ok (.astore_n 3, 1) := by decide +kernel
theorem dL_slips_13 : decode cL_slips 13 = .ok (.iconst 1, 1) := by decide +kernel
theorem dL_slips_14 : decode cL_slips 14 = .ok (.ireturn, 1) := by decide +kernel
theorem dL_slips_15 : decode cL_slips 15 = .ok (.iconst 0, 1) := by decide +kernel
theorem dL_slips_16 : decode cL_slips 16 = .ok (.ireturn, 1) := by decide +kernel

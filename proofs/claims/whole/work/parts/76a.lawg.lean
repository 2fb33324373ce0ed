/-! the law's calls (printed) -/
set_option maxRecDepth 20000 in
theorem ggL_law_X3_init : GoodIn wsL_law wsX3_init := goodIn_r _ [10, 11, 12, 13, 14, 15, 16, 17, 18, 19, 20, 21, 22, 23, 24, 25, 26, 27, 28, 29, 30, 31, 32, 509, 510, 511, 512, 513, 514, 515, 530, 531, 532] (by decide +kernel) (by decide +kernel)
set_option maxRecDepth 20000 in
theorem gL_law_X3_init : GoodIn wsL_law (wsX3_init) := ggL_law_X3_init
set_option maxRecDepth 20000 in
theorem ggL_law_X4_init : GoodIn wsL_law wsX4_init := goodIn_r _ [35, 36, 12, 13, 20, 37, 38, 39, 40, 41, 42, 43, 44, 45, 46, 47, 48, 516, 517, 518, 519, 520, 521, 522, 523, 524, 525, 526, 527, 528, 529] (by decide +kernel) (by decide +kernel)
set_option maxRecDepth 20000 in
theorem gL_law_X4_init : GoodIn wsL_law (wsX4_init) := ggL_law_X4_init
set_option maxRecDepth 20000 in
theorem ggL_law_L_begin : GoodIn wsL_law wsL_begin := goodIn_ca (goodIn_ca (goodIn_r _ [52, 53, 54, 55, 56, 57, 2, 58, 59, 60, 61, 62, 63, 64, 65, 66, 16, 15, 14, 67, 68, 69, 70, 71, 72, 12, 13, 73, 24, 25, 74, 75, 76, 77, 78, 27, 28, 29, 30, 20, 31, 32, 79, 80, 81, 82, 83, 84, 85, 86, 533, 534, 535, 536, 537, 509, 510, 511, 512, 513, 514, 515, 530, 531, 532] (by decide +kernel) (by decide +kernel)) (goodIn_sub (fun _ h => List.mem_append_left _ (List.mem_append_left _ (List.mem_append_right _ h))) (by decide +kernel))) (goodIn_sub (fun _ h => List.mem_append_left _ (List.mem_append_right _ h)) (by decide +kernel))
set_option maxRecDepth 20000 in
theorem gL_law_L_begin : GoodIn wsL_law (va_wsS RL 79 yL_begin wsL_begin) := goodIn_app (goodIn_of _ (by decide +kernel)) ggL_law_L_begin
set_option maxRecDepth 20000 in
theorem ggL_law_X4_begin : GoodIn wsL_law wsX4_begin := goodIn_r _ [90, 91, 37, 38, 42, 92, 93, 5, 94, 95, 96, 97, 98, 99, 100, 101, 102, 516, 517, 518, 519, 520, 521, 522, 523, 524, 525, 526, 527, 528, 529] (by decide +kernel) (by decide +kernel)
set_option maxRecDepth 20000 in
theorem gL_law_X4_begin : GoodIn wsL_law (wsV RL 84 RX4 yX4_begin wsX4_begin) := goodIn_app (goodIn_of _ (by decide +kernel)) ggL_law_X4_begin
set_option maxRecDepth 20000 in
theorem ggL_law_X4_thrown : GoodIn wsL_law wsX4_thrown := goodIn_r _ [106, 99, 516, 517, 518, 519, 520, 521, 522, 523, 524, 525, 526, 527, 528, 529] (by decide +kernel) (by decide +kernel)
set_option maxRecDepth 20000 in
theorem gL_law_X4_thrown : GoodIn wsL_law (wsV RL 85 RX4 yX4_thrown wsX4_thrown) := goodIn_app (goodIn_of _ (by decide +kernel)) ggL_law_X4_thrown
set_option maxRecDepth 20000 in
theorem ggL_law_L_branch : GoodIn wsL_law wsL_branch := goodIn_ca (goodIn_ca (goodIn_r _ [109, 110, 54, 111, 112, 113, 2, 114, 115, 116, 117, 118, 119, 120, 15, 61, 62, 63, 64, 65, 66, 16, 14, 67, 68, 69, 70, 71, 72, 12, 13, 73, 24, 25, 74, 75, 76, 77, 78, 27, 28, 29, 30, 20, 31, 32, 121, 122, 123, 124, 125, 126, 127, 128, 129, 130, 131, 132, 83, 84, 85, 86, 533, 534, 535, 536, 537, 509, 510, 511, 512, 513, 514, 515, 530, 531, 532] (by decide +kernel) (by decide +kernel)) (goodIn_sub (fun _ h => List.mem_append_right _ h) (by decide +kernel))) (goodIn_sub (fun _ h => List.mem_append_left _ (List.mem_append_right _ h)) (by decide +kernel))
set_option maxRecDepth 20000 in
theorem gL_law_L_branch : GoodIn wsL_law (va_wsS RL 89 yL_branch wsL_branch) := goodIn_app (goodIn_of _ (by decide +kernel)) ggL_law_L_branch
set_option maxRecDepth 20000 in
theorem ggL_law_X4_branch : GoodIn wsL_law wsX4_branch := goodIn_r _ [136, 91, 137, 138, 139, 5, 140, 92, 93, 94, 95, 96, 97, 98, 99, 141, 142, 143, 144, 37, 38, 42, 40, 100, 101, 102, 516, 517, 518, 519, 520, 521, 522, 523, 524, 525, 526, 527, 528, 529] (by decide +kernel) (by decide +kernel)
set_option maxRecDepth 20000 in
theorem gL_law_X4_branch : GoodIn wsL_law (wsV RL 91 RX4 yX4_branch wsX4_branch) := goodIn_app (goodIn_of _ (by decide +kernel)) ggL_law_X4_branch
set_option maxRecDepth 20000 in
theorem ggL_law_L_setNote : GoodIn wsL_law wsL_setNote := goodIn_ca (goodIn_ca (goodIn_ca (goodIn_r _ [147, 110, 53, 54, 148, 149, 150, 2, 151, 59, 60, 65, 66, 115, 116, 117, 118, 119, 120, 15, 152, 153, 154, 155, 156, 157, 158, 130, 131, 25, 132, 31, 32, 159, 84, 85, 86, 533, 534, 535, 536, 537, 509, 510, 511, 512, 513, 514, 515, 530, 531, 532] (by decide +kernel) (by decide +kernel)) (goodIn_sub (fun _ h => List.mem_append_left _ (List.mem_append_left _ (List.mem_append_right _ h))) (by decide +kernel))) (goodIn_sub (fun _ h => List.mem_append_left _ (List.mem_append_right _ h)) (by decide +kernel))) (goodIn_sub (fun _ h => List.mem_append_right _ h) (by decide +kernel))
set_option maxRecDepth 20000 in
theorem gL_law_L_setNote : GoodIn wsL_law (va_wsS RL 92 yL_setNote wsL_setNote) := goodIn_app (goodIn_of _ (by decide +kernel)) ggL_law_L_setNote
set_option maxRecDepth 20000 in
theorem ggL_law_X4_setNote : GoodIn wsL_law wsX4_setNote := goodIn_r _ [163, 40, 42, 164, 165, 166, 5, 167, 37, 137, 138, 139, 140, 91, 92, 93, 94, 95, 96, 97, 98, 99, 100, 101, 102, 516, 517, 518, 519, 520, 521, 522, 523, 524, 525, 526, 527, 528, 529] (by decide +kernel) (by decide +kernel)
set_option maxRecDepth 20000 in
theorem gL_law_X4_setNote : GoodIn wsL_law (wsV RL 95 RX4 yX4_setNote wsX4_setNote) := goodIn_app (goodIn_of _ (by decide +kernel)) ggL_law_X4_setNote
set_option maxRecDepth 20000 in
theorem ggL_law_L_note : GoodIn wsL_law wsL_note := goodIn_ca (goodIn_r _ [170, 110, 171, 172, 173, 2, 174, 115, 116, 117, 118, 119, 120, 15, 152, 153, 154, 155, 156, 157, 158, 130, 131, 25, 132, 31, 32, 533, 534, 535, 536, 537, 509, 510, 511, 512, 513, 514, 515, 530, 531, 532] (by decide +kernel) (by decide +kernel)) (goodIn_sub (fun _ h => List.mem_append_right _ h) (by decide +kernel))
set_option maxRecDepth 20000 in
theorem gL_law_L_note : GoodIn wsL_law (va_wsS RL 96 yL_note wsL_note) := goodIn_app (goodIn_of _ (by decide +kernel)) ggL_law_L_note
set_option maxRecDepth 20000 in
theorem ggL_law_X4_note : GoodIn wsL_law wsX4_note := goodIn_r _ [178, 42, 164, 165, 166, 5, 167, 37, 137, 138, 139, 140, 91, 92, 93, 94, 95, 96, 97, 98, 99, 100, 101, 102, 516, 517, 518, 519, 520, 521, 522, 523, 524, 525, 526, 527, 528, 529] (by decide +kernel) (by decide +kernel)
set_option maxRecDepth 20000 in
theorem gL_law_X4_note : GoodIn wsL_law (wsV RL 99 RX4 yX4_note wsX4_note) := goodIn_app (goodIn_of _ (by decide +kernel)) ggL_law_X4_note
set_option maxRecDepth 20000 in
theorem ggL_law_L_base : GoodIn wsL_law wsL_base := goodIn_ca (goodIn_r _ [181, 110, 182, 183, 184, 2, 185, 115, 116, 117, 118, 119, 120, 15, 186, 187, 188, 189, 190, 191, 533, 534, 535, 536, 537, 509, 510, 511, 512, 513, 514, 515] (by decide +kernel) (by decide +kernel)) (goodIn_sub (fun _ h => List.mem_append_right _ h) (by decide +kernel))
set_option maxRecDepth 20000 in
theorem gL_law_L_base : GoodIn wsL_law (va_wsS RL 100 yL_base wsL_base) := goodIn_app (goodIn_of _ (by decide +kernel)) ggL_law_L_base
set_option maxRecDepth 20000 in
theorem ggL_law_X4_base : GoodIn wsL_law wsX4_base := goodIn_r _ [195, 137, 138, 139, 5, 140, 91, 92, 93, 94, 95, 96, 97, 98, 99, 196, 197, 198, 199, 200, 201, 202, 203, 38, 516, 517, 518, 519, 520, 521, 522, 523, 524, 525, 526, 527, 528, 529] (by decide +kernel) (by decide +kernel)
set_option maxRecDepth 20000 in
theorem gL_law_X4_base : GoodIn wsL_law (wsV RL 103 RX4 yX4_base wsX4_base) := goodIn_app (goodIn_of _ (by decide +kernel)) ggL_law_X4_base
set_option maxRecDepth 20000 in
theorem ggL_law_L_conflicts : GoodIn wsL_law wsL_conflicts := goodIn_ca (goodIn_ca (goodIn_r _ [206, 110, 54, 207, 208, 209, 2, 210, 65, 66, 115, 116, 117, 118, 119, 120, 15, 186, 187, 188, 189, 190, 191, 211, 212, 213, 214, 215, 216, 25, 217, 129, 130, 131, 132, 31, 32, 533, 534, 535, 536, 537, 509, 510, 511, 512, 513, 514, 515, 530, 531, 532] (by decide +kernel) (by decide +kernel)) (goodIn_sub (fun _ h => List.mem_append_left _ (List.mem_append_right _ h)) (by decide +kernel))) (goodIn_sub (fun _ h => List.mem_append_right _ h) (by decide +kernel))
set_option maxRecDepth 20000 in
theorem gL_law_L_conflicts : GoodIn wsL_law (va_wsS RL 104 yL_conflicts wsL_conflicts) := goodIn_app (goodIn_of _ (by decide +kernel)) ggL_law_L_conflicts
set_option maxRecDepth 20000 in
theorem ggL_law_X4_conflicts : GoodIn wsL_law wsX4_conflicts := goodIn_r _ [221, 37, 137, 138, 139, 5, 140, 91, 92, 93, 94, 196, 197, 198, 199, 200, 201, 202, 203, 38, 95, 96, 97, 98, 99, 222, 223, 224, 225, 42, 100, 101, 102, 516, 517, 518, 519, 520, 521, 522, 523, 524, 525, 526, 527, 528, 529] (by decide +kernel) (by decide +kernel)
set_option maxRecDepth 20000 in
theorem gL_law_X4_conflicts : GoodIn wsL_law (wsV RL 106 RX4 yX4_conflicts wsX4_conflicts) := goodIn_app (goodIn_of _ (by decide +kernel)) ggL_law_X4_conflicts
set_option maxRecDepth 20000 in
theorem ggL_law_L_merge : GoodIn wsL_law wsL_merge := goodIn_ca (goodIn_ca (goodIn_ca (goodIn_r _ [228, 110, 53, 54, 229, 230, 231, 2, 232, 59, 60, 65, 66, 115, 116, 117, 118, 119, 120, 15, 186, 187, 188, 189, 190, 191, 61, 62, 63, 64, 16, 14, 67, 68, 69, 70, 71, 72, 12, 13, 73, 24, 25, 74, 75, 76, 77, 78, 27, 28, 29, 30, 20, 31, 32, 233, 234, 235, 121, 122, 123, 124, 125, 126, 127, 128, 129, 130, 131, 132, 83, 84, 85, 86, 214, 215, 216, 217, 236, 533, 534, 535, 536, 537, 509, 510, 511, 512, 513, 514, 515, 530, 531, 532] (by decide +kernel) (by decide +kernel)) (goodIn_sub (fun _ h => List.mem_append_left _ (List.mem_append_left _ (List.mem_append_right _ h))) (by decide +kernel))) (goodIn_sub (fun _ h => List.mem_append_left _ (List.mem_append_right _ h)) (by decide +kernel))) (goodIn_sub (fun _ h => List.mem_append_right _ h) (by decide +kernel))
set_option maxRecDepth 20000 in
theorem gL_law_L_merge : GoodIn wsL_law (va_wsS RL 107 yL_merge wsL_merge) := goodIn_app (goodIn_of _ (by decide +kernel)) ggL_law_L_merge
set_option maxRecDepth 20000 in
theorem ggL_law_X4_merge : GoodIn wsL_law wsX4_merge := goodIn_r _ [240, 91, 40, 37, 42, 137, 138, 139, 5, 140, 92, 93, 94, 196, 197, 198, 199, 200, 201, 202, 203, 38, 95, 96, 97, 98, 99, 141, 142, 143, 144, 100, 101, 102, 222, 223, 224, 225, 516, 517, 518, 519, 520, 521, 522, 523, 524, 525, 526, 527, 528, 529] (by decide +kernel) (by decide +kernel)
set_option maxRecDepth 20000 in
theorem gL_law_X4_merge : GoodIn wsL_law (wsV RL 109 RX4 yX4_merge wsX4_merge) := goodIn_app (goodIn_of _ (by decide +kernel)) ggL_law_X4_merge
set_option maxRecDepth 20000 in
theorem ggL_law_L_setWeight : GoodIn wsL_law wsL_setWeight := goodIn_ca (goodIn_ca (goodIn_r _ [243, 110, 53, 244, 245, 246, 2, 247, 119, 120, 59, 60, 21, 509, 510, 511, 512, 513, 514, 515] (by decide +kernel) (by decide +kernel)) (goodIn_sub (fun _ h => List.mem_append_right _ h) (by decide +kernel))) (goodIn_sub (fun _ h => List.mem_append_left _ (List.mem_append_left _ (List.mem_append_right _ h))) (by decide +kernel))
set_option maxRecDepth 20000 in
theorem gL_law_L_setWeight : GoodIn wsL_law (va_wsS RL 110 yL_setWeight wsL_setWeight) := goodIn_app (goodIn_of _ (by decide +kernel)) ggL_law_L_setWeight
set_option maxRecDepth 20000 in
theorem ggL_law_X4_setWeight : GoodIn wsL_law wsX4_setWeight := goodIn_r _ [251, 43, 92, 93, 5, 94, 95, 96, 97, 98, 99, 516, 517, 518, 519, 520, 521, 522, 523, 524, 525, 526, 527, 528, 529] (by decide +kernel) (by decide +kernel)
set_option maxRecDepth 20000 in
theorem gL_law_X4_setWeight : GoodIn wsL_law (wsV RL 112 RX4 yX4_setWeight wsX4_setWeight) := goodIn_app (goodIn_of _ (by decide +kernel)) ggL_law_X4_setWeight
set_option maxRecDepth 20000 in
theorem ggL_law_L_setPass : GoodIn wsL_law wsL_setPass := goodIn_ca (goodIn_r _ [254, 53, 255, 256, 257, 2, 258, 59, 60, 22, 509, 510, 511, 512, 513, 514, 515] (by decide +kernel) (by decide +kernel)) (goodIn_sub (fun _ h => List.mem_append_left _ (List.mem_append_left _ (List.mem_append_right _ h))) (by decide +kernel))
set_option maxRecDepth 20000 in
theorem gL_law_L_setPass : GoodIn wsL_law (va_wsS RL 113 yL_setPass wsL_setPass) := goodIn_app (goodIn_of _ (by decide +kernel)) ggL_law_L_setPass
set_option maxRecDepth 20000 in
theorem ggL_law_X4_setPass : GoodIn wsL_law wsX4_setPass := goodIn_r _ [262, 44, 92, 93, 5, 94, 95, 96, 97, 98, 99, 516, 517, 518, 519, 520, 521, 522, 523, 524, 525, 526, 527, 528, 529] (by decide +kernel) (by decide +kernel)
set_option maxRecDepth 20000 in
theorem gL_law_X4_setPass : GoodIn wsL_law (wsV RL 115 RX4 yX4_setPass wsX4_setPass) := goodIn_app (goodIn_of _ (by decide +kernel)) ggL_law_X4_setPass
set_option maxRecDepth 20000 in
theorem ggL_law_L_faults : GoodIn wsL_law wsL_faults := goodIn_ca (goodIn_r _ [265, 110, 266, 267, 268, 2, 269, 119, 120, 115, 116, 117, 118, 15, 155, 156, 157, 270, 271, 272, 25, 273, 274, 275, 276, 277, 278, 279, 280, 281, 282, 283, 284, 285, 129, 130, 131, 132, 31, 32, 286, 287, 288, 289, 290, 291, 292, 293, 294, 295, 296, 297, 298, 299, 300, 301, 302, 303, 304, 30, 305, 306, 307, 308, 533, 534, 535, 536, 537, 509, 510, 511, 512, 513, 514, 515, 530, 531, 532] (by decide +kernel) (by decide +kernel)) (goodIn_sub (fun _ h => List.mem_append_right _ h) (by decide +kernel))
set_option maxRecDepth 20000 in
theorem gL_law_L_faults : GoodIn wsL_law (va_wsS RL 116 yL_faults wsL_faults) := goodIn_app (goodIn_of _ (by decide +kernel)) ggL_law_L_faults
set_option maxRecDepth 20000 in
theorem ggL_law_X4_faults : GoodIn wsL_law wsX4_faults := goodIn_r _ [312, 164, 165, 166, 5, 167, 37, 137, 138, 139, 140, 91, 92, 93, 94, 95, 96, 97, 98, 99, 313, 314, 315, 316, 42, 317, 318, 319, 320, 100, 101, 102, 321, 322, 323, 324, 325, 326, 327, 328, 329, 330, 331, 516, 517, 518, 519, 520, 521, 522, 523, 524, 525, 526, 527, 528, 529] (by decide +kernel) (by decide +kernel)
set_option maxRecDepth 20000 in
theorem gL_law_X4_faults : GoodIn wsL_law (wsV RL 118 RX4 yX4_faults wsX4_faults) := goodIn_app (goodIn_of _ (by decide +kernel)) ggL_law_X4_faults
set_option maxRecDepth 20000 in
theorem ggL_law_L_mark : GoodIn wsL_law wsL_mark := goodIn_ca (goodIn_r _ [334, 110, 335, 336, 337, 2, 338, 115, 116, 117, 118, 119, 120, 15, 339, 340, 341, 342, 343, 344, 284, 345, 346, 347, 348, 349, 21, 270, 271, 272, 25, 273, 274, 275, 276, 277, 278, 279, 280, 281, 282, 283, 285, 129, 130, 131, 132, 31, 32, 286, 287, 288, 289, 290, 291, 292, 293, 294, 295, 296, 297, 298, 299, 300, 301, 302, 303, 304, 30, 305, 306, 307, 308, 533, 534, 535, 536, 537, 509, 510, 511, 512, 513, 514, 515, 530, 531, 532] (by decide +kernel) (by decide +kernel)) (goodIn_sub (fun _ h => List.mem_append_right _ h) (by decide +kernel))
set_option maxRecDepth 20000 in
theorem gL_law_L_mark : GoodIn wsL_law (va_wsS RL 119 yL_mark wsL_mark) := goodIn_app (goodIn_of _ (by decide +kernel)) ggL_law_L_mark
set_option maxRecDepth 20000 in
theorem ggL_law_X4_mark : GoodIn wsL_law wsX4_mark := goodIn_r _ [353, 137, 138, 139, 5, 140, 91, 92, 93, 94, 95, 96, 97, 98, 99, 354, 355, 356, 357, 358, 359, 360, 361, 37, 43, 313, 314, 315, 316, 42, 317, 318, 319, 320, 100, 101, 102, 321, 322, 323, 324, 325, 326, 327, 328, 329, 330, 331, 516, 517, 518, 519, 520, 521, 522, 523, 524, 525, 526, 527, 528, 529] (by decide +kernel) (by decide +kernel)
set_option maxRecDepth 20000 in
theorem gL_law_X4_mark : GoodIn wsL_law (wsV RL 121 RX4 yX4_mark wsX4_mark) := goodIn_app (goodIn_of _ (by decide +kernel)) ggL_law_X4_mark
set_option maxRecDepth 20000 in
theorem ggL_law_L_handIn : GoodIn wsL_law wsL_handIn := goodIn_ca (goodIn_r _ [364, 110, 365, 366, 367, 2, 368, 22, 115, 116, 117, 118, 119, 120, 15, 339, 340, 341, 342, 343, 344, 284, 345, 346, 347, 348, 349, 21, 270, 271, 272, 25, 273, 274, 275, 276, 277, 278, 279, 280, 281, 282, 283, 285, 129, 130, 131, 132, 31, 32, 286, 287, 288, 289, 290, 291, 292, 293, 294, 295, 296, 297, 298, 299, 300, 301, 302, 303, 304, 30, 305, 306, 307, 308, 533, 534, 535, 536, 537, 509, 510, 511, 512, 513, 514, 515, 530, 531, 532] (by decide +kernel) (by decide +kernel)) (goodIn_sub (fun _ h => List.mem_append_right _ h) (by decide +kernel))
set_option maxRecDepth 20000 in
theorem gL_law_L_handIn : GoodIn wsL_law (va_wsS RL 122 yL_handIn wsL_handIn) := goodIn_app (goodIn_of _ (by decide +kernel)) ggL_law_L_handIn
set_option maxRecDepth 20000 in
theorem ggL_law_X4_handIn : GoodIn wsL_law wsX4_handIn := goodIn_r _ [372, 41, 44, 137, 138, 139, 5, 140, 91, 92, 93, 94, 95, 96, 97, 98, 99, 354, 355, 356, 357, 358, 359, 360, 361, 37, 43, 313, 314, 315, 316, 42, 317, 318, 319, 320, 100, 101, 102, 321, 322, 323, 324, 325, 326, 327, 328, 329, 330, 331, 516, 517, 518, 519, 520, 521, 522, 523, 524, 525, 526, 527, 528, 529] (by decide +kernel) (by decide +kernel)
set_option maxRecDepth 20000 in
theorem gL_law_X4_handIn : GoodIn wsL_law (wsV RL 124 RX4 yX4_handIn wsX4_handIn) := goodIn_app (goodIn_of _ (by decide +kernel)) ggL_law_X4_handIn
set_option maxRecDepth 20000 in
theorem ggL_law_X3_fallen : GoodIn wsL_law wsX3_fallen := goodIn_r _ [376, 15, 22, 339, 340, 341, 2, 342, 343, 344, 284, 345, 346, 347, 348, 349, 21, 270, 271, 272, 25, 273, 274, 275, 276, 277, 278, 279, 280, 281, 282, 283, 285, 129, 130, 131, 132, 31, 32, 286, 287, 288, 289, 290, 291, 292, 293, 294, 295, 296, 297, 298, 299, 300, 301, 302, 303, 304, 30, 305, 306, 307, 308, 509, 510, 511, 512, 513, 514, 515, 533, 534, 535, 536, 537, 530, 531, 532] (by decide +kernel) (by decide +kernel)
set_option maxRecDepth 20000 in
theorem gL_law_X3_fallen : GoodIn wsL_law (wsV RL 125 RX3 yX3_fallen wsX3_fallen) := goodIn_app (goodIn_of _ (by decide +kernel)) ggL_law_X3_fallen
set_option maxRecDepth 20000 in
theorem ggL_law_X4_fallen : GoodIn wsL_law wsX4_fallen := goodIn_r _ [380, 99, 91, 41, 44, 354, 355, 356, 5, 357, 358, 359, 360, 361, 37, 43, 313, 314, 315, 316, 42, 317, 318, 319, 320, 100, 101, 102, 321, 322, 323, 324, 325, 326, 327, 328, 329, 330, 331, 516, 517, 518, 519, 520, 521, 522, 523, 524, 525, 526, 527, 528, 529] (by decide +kernel) (by decide +kernel)
set_option maxRecDepth 20000 in
theorem gL_law_X4_fallen : GoodIn wsL_law (wsV RL 128 RX4 yX4_fallen wsX4_fallen) := goodIn_app (goodIn_of _ (by decide +kernel)) ggL_law_X4_fallen
set_option maxRecDepth 20000 in
theorem ggL_law_L_best : GoodIn wsL_law wsL_best := goodIn_ca (goodIn_r _ [383, 110, 384, 385, 386, 2, 387, 26, 115, 116, 117, 118, 119, 120, 15, 152, 153, 154, 155, 156, 157, 121, 122, 123, 25, 124, 30, 125, 126, 127, 128, 129, 130, 131, 132, 31, 32, 83, 84, 85, 86, 388, 389, 390, 391, 392, 393, 284, 394, 159, 346, 347, 348, 349, 21, 270, 271, 272, 273, 274, 275, 276, 277, 278, 279, 280, 281, 282, 283, 285, 286, 287, 288, 289, 290, 291, 292, 293, 294, 295, 296, 297, 298, 299, 300, 301, 302, 303, 304, 305, 306, 307, 308, 509, 510, 511, 512, 513, 514, 515, 533, 534, 535, 536, 537, 530, 531, 532] (by decide +kernel) (by decide +kernel)) (goodIn_sub (fun _ h => List.mem_append_right _ h) (by decide +kernel))
set_option maxRecDepth 20000 in
theorem gL_law_L_best : GoodIn wsL_law (va_wsS RL 129 yL_best wsL_best) := goodIn_app (goodIn_of _ (by decide +kernel)) ggL_law_L_best
set_option maxRecDepth 20000 in
theorem ggL_law_X4_best : GoodIn wsL_law wsX4_best := goodIn_r _ [398, 42, 164, 165, 166, 5, 167, 37, 137, 138, 139, 140, 91, 92, 93, 94, 95, 96, 97, 98, 99, 100, 101, 102, 358, 359, 360, 361, 43, 313, 314, 315, 316, 317, 318, 319, 320, 321, 322, 323, 324, 325, 326, 327, 328, 329, 330, 331, 516, 517, 518, 519, 520, 521, 522, 523, 524, 525, 526, 527, 528, 529] (by decide +kernel) (by decide +kernel)
set_option maxRecDepth 20000 in
theorem gL_law_X4_best : GoodIn wsL_law (wsV RL 131 RX4 yX4_best wsX4_best) := goodIn_app (goodIn_of _ (by decide +kernel)) ggL_law_X4_best
set_option maxRecDepth 20000 in
theorem ggL_law_L_movement : GoodIn wsL_law wsL_movement := goodIn_ca (goodIn_r _ [401, 110, 402, 403, 404, 2, 405, 115, 116, 117, 118, 119, 120, 15, 152, 153, 154, 406, 407, 408, 25, 409, 30, 290, 291, 292, 293, 282, 283, 284, 285, 129, 130, 131, 132, 31, 32, 533, 534, 535, 536, 537, 530, 531, 532, 509, 510, 511, 512, 513, 514, 515] (by decide +kernel) (by decide +kernel)) (goodIn_sub (fun _ h => List.mem_append_right _ h) (by decide +kernel))
set_option maxRecDepth 20000 in
theorem gL_law_L_movement : GoodIn wsL_law (va_wsS RL 132 yL_movement wsL_movement) := goodIn_app (goodIn_of _ (by decide +kernel)) ggL_law_L_movement
set_option maxRecDepth 20000 in
theorem ggL_law_X4_movement : GoodIn wsL_law wsX4_movement := goodIn_r _ [413, 37, 42, 164, 165, 166, 5, 167, 137, 138, 139, 140, 91, 92, 93, 94, 95, 96, 97, 98, 99, 100, 101, 102, 321, 322, 323, 516, 517, 518, 519, 520, 521, 522, 523, 524, 525, 526, 527, 528, 529] (by decide +kernel) (by decide +kernel)
set_option maxRecDepth 20000 in
theorem gL_law_X4_movement : GoodIn wsL_law (wsV RL 135 RX4 yX4_movement wsX4_movement) := goodIn_app (goodIn_of _ (by decide +kernel)) ggL_law_X4_movement
set_option maxRecDepth 20000 in
theorem ggL_law_L_print : GoodIn wsL_law wsL_print := goodIn_ca (goodIn_ca (goodIn_r _ [416, 110, 54, 417, 418, 419, 2, 420, 115, 116, 117, 118, 119, 120, 15, 152, 153, 154, 421, 422, 423, 424, 65, 66, 19, 18, 17, 425, 426, 427, 428, 429, 430, 12, 13, 20, 431, 432, 433, 434, 435, 436, 437, 438, 439, 130, 131, 25, 132, 31, 32, 533, 534, 535, 536, 537, 509, 510, 511, 512, 513, 514, 515, 538, 539, 540, 541, 530, 531, 532] (by decide +kernel) (by decide +kernel)) (goodIn_sub (fun _ h => List.mem_append_right _ h) (by decide +kernel))) (goodIn_sub (fun _ h => List.mem_append_left _ (List.mem_append_right _ h)) (by decide +kernel))
set_option maxRecDepth 20000 in
theorem gL_law_L_print : GoodIn wsL_law (va_wsS RL 136 yL_print wsL_print) := goodIn_app (goodIn_of _ (by decide +kernel)) ggL_law_L_print
set_option maxRecDepth 20000 in
theorem ggL_law_X4_print : GoodIn wsL_law wsX4_print := goodIn_r _ [443, 444, 40, 45, 37, 46, 47, 42, 164, 165, 166, 5, 167, 137, 138, 139, 140, 91, 92, 93, 94, 95, 96, 97, 98, 99, 100, 101, 102, 516, 517, 518, 519, 520, 521, 522, 523, 524, 525, 526, 527, 528, 529] (by decide +kernel) (by decide +kernel)
set_option maxRecDepth 20000 in
theorem gL_law_X4_print : GoodIn wsL_law (wsV RL 138 RX4 yX4_print wsX4_print) := goodIn_app (goodIn_of _ (by decide +kernel)) ggL_law_X4_print
set_option maxRecDepth 20000 in
theorem ggL_law_L_errata : GoodIn wsL_law wsL_errata := goodIn_ca (goodIn_ca (goodIn_r _ [447, 110, 54, 448, 449, 450, 2, 451, 452, 453, 454, 455, 119, 120, 18, 115, 116, 117, 118, 15, 456, 457, 458, 65, 66, 459, 460, 461, 426, 462, 434, 431, 433, 439, 130, 131, 25, 132, 31, 32, 533, 534, 535, 536, 537, 509, 510, 511, 512, 513, 514, 515, 538, 539, 540, 541, 530, 531, 532] (by decide +kernel) (by decide +kernel)) (goodIn_sub (fun _ h => List.mem_append_right _ h) (by decide +kernel))) (goodIn_sub (fun _ h => List.mem_append_left _ (List.mem_append_right _ h)) (by decide +kernel))
set_option maxRecDepth 20000 in
theorem gL_law_L_errata : GoodIn wsL_law (va_wsS RL 139 yL_errata wsL_errata) := goodIn_app (goodIn_of _ (by decide +kernel)) ggL_law_L_errata
set_option maxRecDepth 20000 in
theorem ggL_law_X4_errata : GoodIn wsL_law wsX4_errata := goodIn_r _ [466, 467, 468, 469, 5, 470, 37, 45, 471, 472, 473, 474, 444, 92, 93, 94, 137, 138, 139, 140, 91, 95, 96, 97, 98, 99, 475, 476, 477, 478, 47, 42, 46, 100, 101, 102, 516, 517, 518, 519, 520, 521, 522, 523, 524, 525, 526, 527, 528, 529] (by decide +kernel) (by decide +kernel)
set_option maxRecDepth 20000 in
theorem gL_law_X4_errata : GoodIn wsL_law (wsV RL 141 RX4 yX4_errata wsX4_errata) := goodIn_app (goodIn_of _ (by decide +kernel)) ggL_law_X4_errata
set_option maxRecDepth 20000 in
theorem ggL_law_L_slip : GoodIn wsL_law wsL_slip := goodIn_ca (goodIn_ca (goodIn_r _ [481, 110, 54, 482, 483, 484, 2, 485, 452, 453, 454, 455, 119, 120, 18, 115, 116, 117, 118, 15, 456, 457, 458, 65, 66, 459, 460, 461, 426, 462, 434, 431, 433, 439, 130, 131, 25, 132, 31, 32, 486, 487, 488, 489, 490, 491, 492, 493, 436, 437, 438, 533, 534, 535, 536, 537, 538, 539, 540, 541, 509, 510, 511, 512, 513, 514, 515, 530, 531, 532] (by decide +kernel) (by decide +kernel)) (goodIn_sub (fun _ h => List.mem_append_right _ h) (by decide +kernel))) (goodIn_sub (fun _ h => List.mem_append_left _ (List.mem_append_right _ h)) (by decide +kernel))
set_option maxRecDepth 20000 in
theorem gL_law_L_slip : GoodIn wsL_law (va_wsS RL 142 yL_slip wsL_slip) := goodIn_app (goodIn_of _ (by decide +kernel)) ggL_law_L_slip
set_option maxRecDepth 20000 in
theorem ggL_law_X4_slip : GoodIn wsL_law wsX4_slip := goodIn_r _ [497, 37, 47, 42, 46, 48, 467, 468, 469, 5, 470, 45, 471, 472, 473, 474, 444, 92, 93, 94, 137, 138, 139, 140, 91, 95, 96, 97, 98, 99, 475, 476, 477, 478, 100, 101, 102, 516, 517, 518, 519, 520, 521, 522, 523, 524, 525, 526, 527, 528, 529] (by decide +kernel) (by decide +kernel)
set_option maxRecDepth 20000 in
theorem gL_law_X4_slip : GoodIn wsL_law (wsV RL 144 RX4 yX4_slip wsX4_slip) := goodIn_app (goodIn_of _ (by decide +kernel)) ggL_law_X4_slip
set_option maxRecDepth 20000 in
theorem ggL_law_L_slips : GoodIn wsL_law wsL_slips := goodIn_ca (goodIn_r _ [500, 110, 501, 502, 503, 2, 504, 452, 453, 454, 455, 119, 120, 18, 538, 539, 540, 541, 509, 510, 511, 512, 513, 514, 515] (by decide +kernel) (by decide +kernel)) (goodIn_sub (fun _ h => List.mem_append_right _ h) (by decide +kernel))
set_option maxRecDepth 20000 in
theorem gL_law_L_slips : GoodIn wsL_law (va_wsS RL 145 yL_slips wsL_slips) := goodIn_app (goodIn_of _ (by decide +kernel)) ggL_law_L_slips
set_option maxRecDepth 20000 in
theorem ggL_law_X4_slips : GoodIn wsL_law wsX4_slips := goodIn_r _ [508, 48, 471, 472, 473, 5, 474, 444, 92, 93, 94, 95, 96, 97, 98, 99, 516, 517, 518, 519, 520, 521, 522, 523, 524, 525, 526, 527, 528, 529] (by decide +kernel) (by decide +kernel)
set_option maxRecDepth 20000 in
theorem gL_law_X4_slips : GoodIn wsL_law (wsV RL 147 RX4 yX4_slips wsX4_slips) := goodIn_app (goodIn_of _ (by decide +kernel)) ggL_law_X4_slips

set_option maxRecDepth 20000 in
theorem ggL_rule_X3_addRule : GoodIn wsL_rule wsX3_addRule := goodIn_ca (goodIn_ca (goodIn_r _ [7, 8, 9, 10, 11, 12, 13, 14, 15, 6, 16, 17, 18, 19, 20, 21, 22, 23, 24, 25, 26, 27, 28, 29, 30, 31, 32, 33, 34, 35, 36, 37, 38, 39, 40, 41, 42, 43, 44, 45, 46, 47, 48, 49, 50, 51, 52, 53, 54, 55, 56, 57, 58, 59, 60, 61, 62, 63, 64, 65, 66, 67, 68, 69, 70, 71, 72, 73, 74, 75, 76, 77, 78, 79, 80, 81, 82, 83, 84, 85, 86, 87, 88, 89, 90, 91, 92, 93, 94, 95, 96, 97, 98, 99, 100, 101, 102, 103, 104, 105, 106] (by decide +kernel) (by decide +kernel)) (goodIn_sub (fun _ h => List.mem_cons_of_mem _ (List.mem_append_left _ (List.mem_append_right _ h))) (by decide +kernel))) (goodIn_sub (fun _ h => List.mem_cons_of_mem _ (List.mem_append_right _ h)) (by decide +kernel))
set_option maxRecDepth 20000 in
theorem gL_rule_X3_addRule : GoodIn wsL_rule (wsV RL 7 RX3 yX3_addRule wsX3_addRule) := goodIn_app (goodIn_of _ (by decide +kernel)) ggL_rule_X3_addRule
theorem dL_rule_0 : decode cL_rule 0 = .ok (.aload_n 0, 1) := by decide +kernel
theorem dL_rule_1 : decode cL_rule 1 = .ok (.iload_n 1, 1) := by decide +kernel
theorem dL_rule_2 : decode cL_rule 2 = .ok (.iload_n 2, 1) := by decide +kernel
theorem dL_rule_3 : decode cL_rule 3 = .ok (.iload_n 3, 1) := by decide +kernel
theorem dL_rule_4 : decode cL_rule 4 = .ok (.iload 4, 2) := by decide +kernel
theorem dL_rule_6 : decode cL_rule 6 = .ok (.iload 5, 2) := by decide +kernel
theorem dL_rule_8 : decode cL_rule 8 = .ok (.invokevirtual 7, 3) := by decide +kernel
theorem dL_rule_11 : decode cL_rule 11 = .ok (.ireturn, 1) := by decide +kernel
theorem dL_rule_12 : decode cL_rule 12 = .ok (.astore 6, 2) := by decide +kernel
theorem dL_rule_14 : decode cL_rule 14 = .ok (.bipush (-72), 2) := by decide +kernel
theorem dL_rule_16 : decode cL_rule 16 = .ok (.ireturn, 1) := by decide +kernel
theorem dL_rule_17 : decode cL_rule 17 = .ok (.astore 6, 2) := by decide +kernel
theorem dL_rule_19 : decode cL_rule 19 = .ok (.bipush (-73), 2) := by decide +kernel
theorem dL_rule_21 : decode cL_rule 21 = .ok (.ireturn, 1) := by decide +kernel
set_option maxRecDepth 20000 in
theorem ggL_act_X3_setBase : GoodIn wsL_act wsX3_setBase := goodIn_ca (goodIn_r _ [8, 9, 10, 11, 12, 13, 7, 14, 299, 300, 301, 302, 303] (by decide +kernel) (by decide +kernel)) (goodIn_sub (fun _ h => List.mem_cons_of_mem _ (List.mem_append_left _ (List.mem_append_left _ (List.mem_append_right _ h)))) (by decide +kernel))
set_option maxRecDepth 20000 in
theorem gL_act_X3_setBase : GoodIn wsL_act (wsV RL 17 RX3 yX3_setBase wsX3_setBase) := goodIn_app (goodIn_of _ (by decide +kernel)) ggL_act_X3_setBase
set_option maxRecDepth 20000 in
theorem ggL_act_X3_setRule : GoodIn wsL_act wsX3_setRule := goodIn_ca (goodIn_r _ [18, 19, 20, 21, 22, 7, 23, 24, 25, 26, 27, 28, 29, 30, 31, 32, 33, 34, 35, 36, 37, 38, 39, 40, 41, 42, 43, 44, 45, 46, 47, 48, 49, 50, 304, 305, 306, 307, 308, 309, 310, 299, 300, 301, 302, 303, 311, 312, 313] (by decide +kernel) (by decide +kernel)) (goodIn_sub (fun _ h => List.mem_cons_of_mem _ (List.mem_append_left _ (List.mem_append_right _ h))) (by decide +kernel))
set_option maxRecDepth 20000 in
theorem gL_act_X3_setRule : GoodIn wsL_act (wsV RL 21 RX3 yX3_setRule wsX3_setRule) := goodIn_app (goodIn_of _ (by decide +kernel)) ggL_act_X3_setRule
set_option maxRecDepth 20000 in
theorem ggL_act_X3_setHoliday : GoodIn wsL_act wsX3_setHoliday := goodIn_ca (goodIn_r _ [54, 9, 10, 55, 299, 300, 301, 302, 303] (by decide +kernel) (by decide +kernel)) (goodIn_sub (fun _ h => List.mem_cons_of_mem _ (List.mem_append_left _ (List.mem_append_left _ (List.mem_append_right _ h)))) (by decide +kernel))
set_option maxRecDepth 20000 in
theorem gL_act_X3_setHoliday : GoodIn wsL_act (wsV RL 25 RX3 yX3_setHoliday wsX3_setHoliday) := goodIn_app (goodIn_of _ (by decide +kernel)) ggL_act_X3_setHoliday
set_option maxRecDepth 20000 in
theorem ggL_act_X3_addWorker : GoodIn wsL_act wsX3_addWorker := goodIn_ca (goodIn_ca (goodIn_r _ [59, 60, 61, 62, 63, 64, 65, 12, 13, 7, 14, 9, 10, 28, 29, 30, 31, 32, 33, 66, 67, 68, 69, 70, 71, 72, 73, 74, 75, 76, 77, 78, 50, 79, 80, 81, 82, 83, 84, 85, 86, 87, 88, 89, 90, 91, 92, 93, 94, 95, 96, 97, 98, 99, 100, 101, 102, 103, 104, 105, 106, 107, 108, 109, 110, 111, 112, 113, 114, 115, 116, 117, 118, 119, 120, 121, 122, 123, 124, 125, 299, 300, 301, 302, 303, 314, 311, 312, 313] (by decide +kernel) (by decide +kernel)) (goodIn_sub (fun _ h => List.mem_cons_of_mem _ (List.mem_append_right _ h)) (by decide +kernel))) (goodIn_sub (fun _ h => List.mem_cons_of_mem _ (List.mem_append_left _ (List.mem_append_left _ (List.mem_append_right _ h)))) (by decide +kernel))
set_option maxRecDepth 20000 in
theorem gL_act_X3_addWorker : GoodIn wsL_act (wsV RL 28 RX3 yX3_addWorker wsX3_addWorker) := goodIn_app (goodIn_of _ (by decide +kernel)) ggL_act_X3_addWorker
set_option maxRecDepth 20000 in
theorem ggL_act_X3_setRank : GoodIn wsL_act wsX3_setRank := goodIn_ca (goodIn_ca (goodIn_r _ [129, 130, 131, 132, 133, 7, 134, 24, 25, 62, 135, 28, 29, 30, 31, 32, 33, 34, 35, 36, 37, 38, 39, 40, 41, 42, 43, 44, 45, 46, 47, 48, 49, 50, 12, 13, 14, 9, 10, 314, 299, 300, 301, 302, 303, 311, 312, 313] (by decide +kernel) (by decide +kernel)) (goodIn_sub (fun _ h => List.mem_cons_of_mem _ (List.mem_append_left _ (List.mem_append_right _ h))) (by decide +kernel))) (goodIn_sub (fun _ h => List.mem_cons_of_mem _ (List.mem_append_left _ (List.mem_append_left _ (List.mem_append_right _ h)))) (by decide +kernel))
set_option maxRecDepth 20000 in
theorem gL_act_X3_setRank : GoodIn wsL_act (wsV RL 32 RX3 yX3_setRank wsX3_setRank) := goodIn_app (goodIn_of _ (by decide +kernel)) ggL_act_X3_setRank
set_option maxRecDepth 20000 in
theorem ggL_act_X3_addShift : GoodIn wsL_act wsX3_addShift := goodIn_ca (goodIn_ca (goodIn_ca (goodIn_r _ [139, 60, 61, 140, 141, 142, 143, 131, 132, 133, 7, 134, 24, 25, 62, 135, 28, 29, 30, 31, 32, 33, 34, 35, 36, 37, 38, 39, 40, 41, 42, 43, 44, 45, 46, 47, 48, 49, 50, 12, 13, 14, 9, 10, 144, 145, 146, 147, 148, 149, 150, 151, 152, 153, 154, 155, 156, 157, 158, 159, 160, 161, 120, 94, 121, 162, 93, 95, 163, 164, 165, 166, 70, 71, 167, 168, 169, 73, 74, 75, 76, 77, 78, 79, 80, 81, 82, 83, 84, 85, 86, 87, 88, 89, 90, 91, 92, 96, 97, 98, 99, 100, 101, 102, 103, 104, 105, 106, 107, 108, 109, 110, 111, 112, 113, 114, 115, 116, 117, 118, 119, 122, 123, 124, 125, 299, 300, 301, 302, 303, 315, 316, 317, 318, 319, 311, 312, 313] (by decide +kernel) (by decide +kernel)) (goodIn_sub (fun _ h => List.mem_cons_of_mem _ (List.mem_append_right _ h)) (by decide +kernel))) (goodIn_sub (fun _ h => List.mem_cons_of_mem _ (List.mem_append_left _ (List.mem_append_right _ h))) (by decide +kernel))) (goodIn_sub (fun _ h => List.mem_cons_of_mem _ (List.mem_append_left _ (List.mem_append_left _ (List.mem_append_right _ h)))) (by decide +kernel))
set_option maxRecDepth 20000 in
theorem gL_act_X3_addShift : GoodIn wsL_act (wsV RL 35 RX3 yX3_addShift wsX3_addShift) := goodIn_app (goodIn_of _ (by decide +kernel)) ggL_act_X3_addShift
set_option maxRecDepth 20000 in
theorem ggL_act_X3_cancel : GoodIn wsL_act wsX3_cancel := goodIn_ca (goodIn_ca (goodIn_r _ [173, 154, 174, 175, 176, 7, 177, 24, 25, 140, 152, 28, 29, 30, 31, 32, 33, 34, 35, 36, 37, 38, 39, 40, 41, 42, 43, 44, 45, 46, 47, 48, 49, 50, 178, 179, 180, 60, 61, 181, 182, 183, 184, 153, 130, 185, 186, 187, 188, 11, 189, 190, 191, 143, 192, 169, 168, 162, 93, 94, 95, 193, 194, 195, 196, 160, 197, 198, 199, 200, 201, 202, 203, 204, 205, 206, 207, 208, 209, 26, 27, 210, 211, 212, 213, 159, 214, 215, 216, 217, 218, 219, 220, 221, 55, 222, 223, 224, 225, 226, 227, 228, 229, 230, 231, 232, 233, 234, 235, 236, 237, 238, 239, 240, 241, 242, 243, 244, 315, 316, 317, 318, 319, 299, 300, 301, 302, 303, 311, 312, 313, 314, 304, 305, 306, 307, 308, 309, 310] (by decide +kernel) (by decide +kernel)) (goodIn_sub (fun _ h => List.mem_cons_of_mem _ (List.mem_append_left _ (List.mem_append_right _ h))) (by decide +kernel))) (goodIn_sub (fun _ h => List.mem_cons_of_mem _ (List.mem_append_right _ h)) (by decide +kernel))
set_option maxRecDepth 20000 in
theorem gL_act_X3_cancel : GoodIn wsL_act (wsV RL 39 RX3 yX3_cancel wsX3_cancel) := goodIn_app (goodIn_of _ (by decide +kernel)) ggL_act_X3_cancel
set_option maxRecDepth 20000 in
theorem ggL_act_X3_takeBreaks : GoodIn wsL_act wsX3_takeBreaks := goodIn_ca (goodIn_ca (goodIn_ca (goodIn_r _ [248, 249, 174, 175, 176, 7, 177, 24, 25, 140, 152, 28, 29, 30, 31, 32, 33, 34, 35, 36, 37, 38, 39, 40, 41, 42, 43, 44, 45, 46, 47, 48, 49, 50, 12, 13, 14, 9, 10, 178, 179, 180, 60, 61, 154, 315, 316, 317, 318, 319, 299, 300, 301, 302, 303, 311, 312, 313] (by decide +kernel) (by decide +kernel)) (goodIn_sub (fun _ h => List.mem_cons_of_mem _ (List.mem_append_left _ (List.mem_append_right _ h))) (by decide +kernel))) (goodIn_sub (fun _ h => List.mem_cons_of_mem _ (List.mem_append_left _ (List.mem_append_left _ (List.mem_append_right _ h)))) (by decide +kernel))) (goodIn_sub (fun _ h => List.mem_cons_of_mem _ (List.mem_append_right _ h)) (by decide +kernel))
set_option maxRecDepth 20000 in
theorem gL_act_X3_takeBreaks : GoodIn wsL_act (wsV RL 42 RX3 yX3_takeBreaks wsX3_takeBreaks) := goodIn_app (goodIn_of _ (by decide +kernel)) ggL_act_X3_takeBreaks
set_option maxRecDepth 20000 in
theorem ggL_act_X3_paidQuarters : GoodIn wsL_act wsX3_paidQuarters := goodIn_ca (goodIn_r _ [253, 174, 175, 176, 7, 177, 24, 25, 140, 152, 28, 29, 30, 31, 32, 33, 34, 35, 36, 37, 38, 39, 40, 41, 42, 43, 44, 45, 46, 47, 48, 49, 50, 197, 198, 199, 143, 200, 169, 160, 162, 93, 94, 95, 299, 300, 301, 302, 303, 311, 312, 313, 315, 316, 317, 318, 319] (by decide +kernel) (by decide +kernel)) (goodIn_sub (fun _ h => List.mem_cons_of_mem _ (List.mem_append_left _ (List.mem_append_right _ h))) (by decide +kernel))
set_option maxRecDepth 20000 in
theorem gL_act_X3_paidQuarters : GoodIn wsL_act (wsV RL 45 RX3 yX3_paidQuarters wsX3_paidQuarters) := goodIn_app (goodIn_of _ (by decide +kernel)) ggL_act_X3_paidQuarters
set_option maxRecDepth 20000 in
theorem ggL_act_X3_percentAt : GoodIn wsL_act wsX3_percentAt := goodIn_ca (goodIn_r _ [257, 174, 175, 176, 7, 177, 24, 25, 140, 152, 28, 29, 30, 31, 32, 33, 34, 35, 36, 37, 38, 39, 40, 41, 42, 43, 44, 45, 46, 47, 48, 49, 50, 258, 259, 260, 197, 198, 199, 143, 200, 169, 160, 162, 93, 94, 95, 201, 202, 203, 204, 205, 206, 207, 208, 209, 26, 27, 153, 130, 210, 211, 212, 213, 159, 214, 215, 216, 217, 218, 219, 220, 221, 55, 222, 223, 224, 225, 226, 227, 228, 229, 230, 231, 232, 233, 234, 235, 236, 237, 238, 239, 240, 241, 299, 300, 301, 302, 303, 311, 312, 313, 315, 316, 317, 318, 319, 304, 305, 306, 307, 308, 309, 310, 314] (by decide +kernel) (by decide +kernel)) (goodIn_sub (fun _ h => List.mem_cons_of_mem _ (List.mem_append_left _ (List.mem_append_right _ h))) (by decide +kernel))
set_option maxRecDepth 20000 in
theorem gL_act_X3_percentAt : GoodIn wsL_act (wsV RL 48 RX3 yX3_percentAt wsX3_percentAt) := goodIn_app (goodIn_of _ (by decide +kernel)) ggL_act_X3_percentAt
set_option maxRecDepth 20000 in
theorem ggL_act_X3_reasonAt : GoodIn wsL_act wsX3_reasonAt := goodIn_ca (goodIn_r _ [264, 265, 174, 175, 176, 7, 177, 24, 25, 140, 152, 28, 29, 30, 31, 32, 33, 34, 35, 36, 37, 38, 39, 40, 41, 42, 43, 44, 45, 46, 47, 48, 49, 50, 258, 259, 260, 197, 198, 199, 143, 200, 169, 160, 162, 93, 94, 95, 206, 207, 208, 209, 26, 27, 205, 153, 130, 210, 211, 212, 213, 159, 214, 215, 216, 217, 218, 219, 220, 221, 55, 222, 223, 224, 225, 226, 227, 228, 229, 230, 231, 232, 233, 234, 235, 236, 237, 238, 239, 240, 241, 304, 305, 306, 307, 308, 309, 310, 299, 300, 301, 302, 303, 311, 312, 313, 315, 316, 317, 318, 319, 314] (by decide +kernel) (by decide +kernel)) (goodIn_sub (fun _ h => List.mem_cons_of_mem _ (List.mem_append_left _ (List.mem_append_right _ h))) (by decide +kernel))
set_option maxRecDepth 20000 in
theorem gL_act_X3_reasonAt : GoodIn wsL_act (wsV RL 51 RX3 yX3_reasonAt wsX3_reasonAt) := goodIn_app (goodIn_of _ (by decide +kernel)) ggL_act_X3_reasonAt
set_option maxRecDepth 20000 in
theorem ggL_act_X3_missed : GoodIn wsL_act wsX3_missed := goodIn_ca (goodIn_r _ [269, 174, 175, 176, 7, 177, 24, 25, 140, 152, 28, 29, 30, 31, 32, 33, 34, 35, 36, 37, 38, 39, 40, 41, 42, 43, 44, 45, 46, 47, 48, 49, 50, 189, 190, 191, 143, 192, 169, 168, 162, 93, 94, 95, 193, 194, 195, 196, 160, 299, 300, 301, 302, 303, 311, 312, 313, 315, 316, 317, 318, 319] (by decide +kernel) (by decide +kernel)) (goodIn_sub (fun _ h => List.mem_cons_of_mem _ (List.mem_append_left _ (List.mem_append_right _ h))) (by decide +kernel))
set_option maxRecDepth 20000 in
theorem gL_act_X3_missed : GoodIn wsL_act (wsV RL 54 RX3 yX3_missed wsX3_missed) := goodIn_app (goodIn_of _ (by decide +kernel)) ggL_act_X3_missed
set_option maxRecDepth 20000 in
theorem ggL_act_X3_pay : GoodIn wsL_act wsX3_pay := goodIn_ca (goodIn_r _ [273, 174, 175, 176, 7, 177, 24, 25, 140, 152, 28, 29, 30, 31, 32, 33, 34, 35, 36, 37, 38, 39, 40, 41, 42, 43, 44, 45, 46, 47, 48, 49, 50, 181, 182, 183, 184, 153, 130, 185, 186, 187, 188, 11, 189, 190, 191, 143, 192, 169, 168, 162, 93, 94, 95, 193, 194, 195, 196, 160, 197, 198, 199, 200, 201, 202, 203, 204, 205, 206, 207, 208, 209, 26, 27, 210, 211, 212, 213, 159, 214, 215, 216, 217, 218, 219, 220, 221, 55, 222, 223, 224, 225, 226, 227, 228, 229, 230, 231, 232, 233, 234, 235, 236, 237, 238, 239, 240, 241, 242, 243, 244, 299, 300, 301, 302, 303, 311, 312, 313, 315, 316, 317, 318, 319, 314, 304, 305, 306, 307, 308, 309, 310] (by decide +kernel) (by decide +kernel)) (goodIn_sub (fun _ h => List.mem_cons_of_mem _ (List.mem_append_left _ (List.mem_append_right _ h))) (by decide +kernel))
set_option maxRecDepth 20000 in
theorem gL_act_X3_pay : GoodIn wsL_act (wsV RL 57 RX3 yX3_pay wsX3_pay) := goodIn_app (goodIn_of _ (by decide +kernel)) ggL_act_X3_pay
set_option maxRecDepth 20000 in
theorem ggL_act_X3_payOf : GoodIn wsL_act wsX3_payOf := goodIn_ca (goodIn_ca (goodIn_r _ [277, 140, 152, 153, 131, 132, 133, 7, 134, 24, 25, 62, 135, 28, 29, 30, 31, 32, 33, 34, 35, 36, 37, 38, 39, 40, 41, 42, 43, 44, 45, 46, 47, 48, 49, 50, 12, 13, 14, 9, 10, 210, 211, 212, 143, 213, 159, 181, 182, 183, 184, 130, 185, 186, 187, 188, 11, 189, 190, 191, 192, 169, 168, 162, 93, 94, 95, 193, 194, 195, 196, 160, 197, 198, 199, 200, 201, 202, 203, 204, 205, 206, 207, 208, 209, 26, 27, 214, 215, 216, 217, 218, 219, 220, 221, 55, 222, 223, 224, 225, 226, 227, 228, 229, 230, 231, 232, 233, 234, 235, 236, 237, 238, 239, 240, 241, 242, 243, 244, 299, 300, 301, 302, 303, 315, 316, 317, 318, 319, 311, 312, 313, 314, 304, 305, 306, 307, 308, 309, 310] (by decide +kernel) (by decide +kernel)) (goodIn_sub (fun _ h => List.mem_cons_of_mem _ (List.mem_append_left _ (List.mem_append_right _ h))) (by decide +kernel))) (goodIn_sub (fun _ h => List.mem_cons_of_mem _ (List.mem_append_left _ (List.mem_append_left _ (List.mem_append_right _ h)))) (by decide +kernel))
set_option maxRecDepth 20000 in
theorem gL_act_X3_payOf : GoodIn wsL_act (wsV RL 60 RX3 yX3_payOf wsX3_payOf) := goodIn_app (goodIn_of _ (by decide +kernel)) ggL_act_X3_payOf
set_option maxRecDepth 20000 in
theorem ggL_act_X3_paidBy : GoodIn wsL_act wsX3_paidBy := goodIn_ca (goodIn_r _ [281, 140, 152, 20, 21, 22, 7, 23, 24, 25, 26, 27, 28, 29, 30, 31, 32, 33, 34, 35, 36, 37, 38, 39, 40, 41, 42, 43, 44, 45, 46, 47, 48, 49, 50, 282, 283, 284, 285, 153, 130, 265, 205, 185, 186, 187, 188, 11, 197, 198, 199, 143, 200, 169, 160, 162, 93, 94, 95, 206, 207, 208, 209, 210, 211, 212, 213, 159, 214, 215, 216, 217, 218, 219, 220, 221, 55, 222, 223, 224, 225, 226, 227, 228, 229, 230, 231, 232, 233, 234, 235, 236, 237, 238, 239, 240, 241, 242, 243, 244, 299, 300, 301, 302, 303, 311, 312, 313, 315, 316, 317, 318, 319, 314, 304, 305, 306, 307, 308, 309, 310] (by decide +kernel) (by decide +kernel)) (goodIn_sub (fun _ h => List.mem_cons_of_mem _ (List.mem_append_left _ (List.mem_append_right _ h))) (by decide +kernel))
set_option maxRecDepth 20000 in
theorem gL_act_X3_paidBy : GoodIn wsL_act (wsV RL 64 RX3 yX3_paidBy wsX3_paidBy) := goodIn_app (goodIn_of _ (by decide +kernel)) ggL_act_X3_paidBy
set_option maxRecDepth 20000 in
theorem ggL_act_X3_worked : GoodIn wsL_act wsX3_worked := goodIn_ca (goodIn_ca (goodIn_r _ [289, 131, 132, 133, 7, 134, 24, 25, 62, 135, 28, 29, 30, 31, 32, 33, 34, 35, 36, 37, 38, 39, 40, 41, 42, 43, 44, 45, 46, 47, 48, 49, 50, 12, 13, 14, 9, 10, 290, 291, 292, 293, 148, 149, 150, 151, 140, 152, 153, 154, 155, 156, 157, 143, 158, 159, 160, 161, 120, 94, 121, 162, 93, 95, 299, 300, 301, 302, 303, 311, 312, 313, 315, 316, 317, 318, 319] (by decide +kernel) (by decide +kernel)) (goodIn_sub (fun _ h => List.mem_cons_of_mem _ (List.mem_append_left _ (List.mem_append_right _ h))) (by decide +kernel))) (goodIn_sub (fun _ h => List.mem_cons_of_mem _ (List.mem_append_left _ (List.mem_append_left _ (List.mem_append_right _ h)))) (by decide +kernel))
set_option maxRecDepth 20000 in
theorem gL_act_X3_worked : GoodIn wsL_act (wsV RL 67 RX3 yX3_worked wsX3_worked) := goodIn_app (goodIn_of _ (by decide +kernel)) ggL_act_X3_worked
set_option maxRecDepth 20000 in
theorem ggL_act_X3_excess : GoodIn wsL_act wsX3_excess := goodIn_ca (goodIn_ca (goodIn_r _ [297, 298, 93, 94, 95, 131, 132, 133, 7, 134, 24, 25, 62, 135, 28, 29, 30, 31, 32, 33, 34, 35, 36, 37, 38, 39, 40, 41, 42, 43, 44, 45, 46, 47, 48, 49, 50, 12, 13, 14, 9, 10, 290, 291, 292, 293, 148, 149, 150, 151, 140, 152, 153, 154, 155, 156, 157, 143, 158, 159, 160, 161, 120, 121, 162, 299, 300, 301, 302, 303, 311, 312, 313, 315, 316, 317, 318, 319] (by decide +kernel) (by decide +kernel)) (goodIn_sub (fun _ h => List.mem_cons_of_mem _ (List.mem_append_left _ (List.mem_append_right _ h))) (by decide +kernel))) (goodIn_sub (fun _ h => List.mem_cons_of_mem _ (List.mem_append_left _ (List.mem_append_left _ (List.mem_append_right _ h)))) (by decide +kernel))
set_option maxRecDepth 20000 in
theorem gL_act_X3_excess : GoodIn wsL_act (wsV RL 70 RX3 yX3_excess wsX3_excess) := goodIn_app (goodIn_of _ (by decide +kernel)) ggL_act_X3_excess
theorem dL_act_0 : decode cL_act 0 = .ok (.iload_n 1, 1) := by decide +kernel
theorem dL_act_1 : decode cL_act 1 = .ok (.ifCond .ne 12, 3) := by decide +kernel
theorem dL_act_4 : decode cL_act 4 = .ok (.aload_n 0, 1) := by decide +kernel
theorem dL_act_5 : decode cL_act 5 = .ok (.iload_n 2, 1) := by decide +kernel
theorem dL_act_6 : decode cL_act 6 = .ok (.iload_n 3, 1) := by decide +kernel
theorem dL_act_7 : decode cL_act 7 = .ok (.invokevirtual 17, 3) := by decide +kernel
theorem dL_act_10 : decode cL_act 10 = .ok (.goto 263, 3) := by decide +kernel
theorem dL_act_13 : decode cL_act 13 = .ok (.iload_n 1, 1) := by decide +kernel
theorem dL_act_14 : decode cL_act 14 = .ok (.iconst 1, 1) := by decide +kernel
theorem dL_act_15 : decode cL_act 15 = .ok (.if_icmp .ne 29, 3) := by decide +kernel
theorem dL_act_18 : decode cL_act 18 = .ok (.aload_n 0, 1) := by decide +kernel
theorem dL_act_19 : decode cL_act 19 = .ok (.iload_n 2, 1) := by decide +kernel
theorem dL_act_20 : decode cL_act 20 = .ok (.iload_n 3, 1) := by decide +kernel
theorem dL_act_21 : decode cL_act 21 = .ok (.iconst 1, 1) := by decide +kernel
theorem dL_act_22 : decode cL_act 22 = .ok (.if_icmp .ne 7, 3) := by decide +kernel
theorem dL_act_25 : decode cL_act 25 = .ok (.iconst 1, 1) := by decide +kernel
theorem dL_act_26 : decode cL_act 26 = .ok (.goto 4, 3) := by decide +kernel
theorem dL_act_29 : decode cL_act 29 = .ok (.iconst 0, 1) := by decide +kernel
theorem dL_act_30 : decode cL_act 30 = .ok (.invokevirtual 21, 3) := by decide +kernel
theorem dL_act_33 : decode cL_act 33 = .ok (.ifCond .eq 7, 3) := by decide +kernel
theorem dL_act_36 : decode cL_act 36 = .ok (.iconst 1, 1) := by decide +kernel
theorem dL_act_37 : decode cL_act 37 = .ok (.goto 236, 3) := by decide +kernel
theorem dL_act_40 : decode cL_act 40 = .ok (.iconst 0, 1) := by decide +kernel
theorem dL_act_41 : decode cL_act 41 = .ok (.goto 232, 3) := by decide +kernel
theorem dL_act_44 : decode cL_act 44 = .ok (.iload_n 1, 1) := by decide +kernel
theorem dL_act_45 : decode cL_act 45 = .ok (.iconst 2, 1) := by decide +kernel
theorem dL_act_46 : decode cL_act 46 = .ok (.if_icmp .ne 29, 3) := by decide +kernel
theorem dL_act_49 : decode cL_act 49 = .ok (.aload_n 0, 1) := by decide +kernel
theorem dL_act_50 : decode cL_act 50 = .ok (.iload_n 2, 1) := by decide +kernel
theorem dL_act_51 : decode cL_act 51 = .ok (.iload_n 3, 1) := by decide +kernel
theorem dL_act_52 : decode cL_act 52 = .ok (.iconst 1, 1) := by decide +kernel
theorem dL_act_53 : decode cL_act 53 = .ok (.if_icmp .ne 7, 3) := by decide +kernel
theorem dL_act_56 : decode cL_act 56 = .ok (.iconst 1, 1) := by decide +kernel
theorem dL_act_57 : decode cL_act 57 = .ok (.goto 4, 3) := by decide +kernel
theorem dL_act_60 : decode cL_act 60 = .ok (.iconst 0, 1) := by decide +kernel
theorem dL_act_61 : decode cL_act 61 = .ok (.invokevirtual 25, 3) := by decide +kernel
theorem dL_act_64 : decode cL_act 64 = .ok (.ifCond .eq 7, 3) := by decide +kernel
theorem dL_act_67 : decode cL_act 67 = .ok (.iconst 1, 1) := by decide +kernel
theorem dL_act_68 : decode cL_act 68 = .ok (.goto 205, 3) := by decide +kernel
theorem dL_act_71 : decode cL_act 71 = .ok (.iconst 0, 1) := by decide +kernel
theorem dL_act_72 : decode cL_act 72 = .ok (.goto 201, 3) := by decide +kernel
theorem dL_act_75 : decode cL_act 75 = .ok (.iload_n 1, 1) := by decide +kernel
theorem dL_act_76 : decode cL_act 76 = .ok (.iconst 3, 1) := by decide +kernel
theorem dL_act_77 : decode cL_act 77 = .ok (.if_icmp .ne 11, 3) := by decide +kernel
theorem dL_act_80 : decode cL_act 80 = .ok (.aload_n 0, 1) := by decide +kernel
theorem dL_act_81 : decode cL_act 81 = .ok (.iload_n 2, 1) := by decide +kernel
theorem dL_act_82 : decode cL_act 82 = .ok (.invokevirtual 28, 3) := by decide +kernel
theorem dL_act_85 : decode cL_act 85 = .ok (.goto 188, 3) := by decide +kernel
theorem dL_act_88 : decode cL_act 88 = .ok (.iload_n 1, 1) := by decide +kernel
theorem dL_act_89 : decode cL_act 89 = .ok (.iconst 4, 1) := by decide +kernel
theorem dL_act_90 : decode cL_act 90 = .ok (.if_icmp .ne 12, 3) := by decide +kernel
theorem dL_act_93 : decode cL_act 93 = .ok (.aload_n 0, 1) := by decide +kernel
theorem dL_act_94 : decode cL_act 94 = .ok (.iload_n 2, 1) := by decide +kernel
theorem dL_act_95 : decode cL_act 95 = .ok (.iload_n 3, 1) := by decide +kernel
theorem dL_act_96 : decode cL_act 96 = .ok (.invokevirtual 32, 3) := by decide +kernel
theorem dL_act_99 : decode cL_act 99 = .ok (.goto 174, 3) := by decide +kernel
theorem dL_act_102 : decode cL_act 102 = .ok (.iload_n 1, 1) := by decide +kernel
theorem dL_act_103 : decode cL_act 103 = .ok (.iconst 5, 1) := by decide +kernel
theorem dL_act_104 : decode cL_act 104 = .ok (.if_icmp .ne 16, 3) := by decide +kernel
theorem dL_act_107 : decode cL_act 107 = .ok (.aload_n 0, 1) := by decide +kernel
theorem dL_act_108 : decode cL_act 108 = .ok (.iload_n 2, 1) := by decide +kernel
theorem dL_act_109 : decode cL_act 109 = .ok (.iload_n 3, 1) := by decide +kernel
theorem dL_act_110 : decode cL_act 110 = .ok (.iload 4, 2) := by decide +kernel
theorem dL_act_112 : decode cL_act 112 = .ok (.iload 5, 2) := by decide +kernel
theorem dL_act_114 : decode cL_act 114 = .ok (.invokevirtual 35, 3) := by decide +kernel
theorem dL_act_117 : decode cL_act 117 = .ok (.goto 156, 3) := by decide +kernel
theorem dL_act_120 : decode cL_act 120 = .ok (.iload_n 1, 1) := by decide +kernel
theorem dL_act_121 : decode cL_act 121 = .ok (.bipush 6, 2) := by decide +kernel
theorem dL_act_123 : decode cL_act 123 = .ok (.if_icmp .ne 11, 3) := by decide +kernel
theorem dL_act_126 : decode cL_act 126 = .ok (.aload_n 0, 1) := by decide +kernel
theorem dL_act_127 : decode cL_act 127 = .ok (.iload_n 2, 1) := by decide +kernel
theorem dL_act_128 : decode cL_act 128 = .ok (.invokevirtual 39, 3) := by decide +kernel
theorem dL_act_131 : decode cL_act 131 = .ok (.goto 142, 3) := by decide +kernel
theorem dL_act_134 : decode cL_act 134 = .ok (.iload_n 1, 1) := by decide +kernel
theorem dL_act_135 : decode cL_act 135 = .ok (.bipush 7, 2) := by decide +kernel
theorem dL_act_137 : decode cL_act 137 = .ok (.if_icmp .ne 12, 3) := by decide +kernel
theorem dL_act_140 : decode cL_act 140 = .ok (.aload_n 0, 1) := by decide +kernel
theorem dL_act_141 : decode cL_act 141 = .ok (.iload_n 2, 1) := by decide +kernel
theorem dL_act_142 : decode cL_act 142 = .ok (.iload_n 3, 1) := by decide +kernel
theorem dL_act_143 : decode cL_act 143 = .ok (.invokevirtual 42, 3) := by decide +kernel
theorem dL_act_146 : decode cL_act 146 = .ok (.goto 127, 3) := by decide +kernel
theorem dL_act_149 : decode cL_act 149 = .ok (.iload_n 1, 1) := by decide +kernel
theorem dL_act_150 : decode cL_act 150 = .ok (.bipush 8, 2) := by decide +kernel
theorem dL_act_152 : decode cL_act 152 = .ok (.if_icmp .ne 11, 3) := by decide +kernel
theorem dL_act_155 : decode cL_act 155 = .ok (.aload_n 0, 1) := by decide +kernel
theorem dL_act_156 : decode cL_act 156 = .ok (.iload_n 2, 1) := by decide +kernel
theorem dL_act_157 : decode cL_act 157 = .ok (.invokevirtual 45, 3) := by decide +kernel
theorem dL_act_160 : decode cL_act 160 = .ok (.goto 113, 3) := by decide +kernel
theorem dL_act_163 : decode cL_act 163 = .ok (.iload_n 1, 1) := by decide +kernel
theorem dL_act_164 : decode cL_act 164 = .ok (.bipush 9, 2) := by decide +kernel
theorem dL_act_166 : decode cL_act 166 = .ok (.if_icmp .ne 12, 3) := by decide +kernel
theorem dL_act_169 : decode cL_act 169 = .ok (.aload_n 0, 1) := by decide +kernel
theorem dL_act_170 : decode cL_act 170 = .ok (.iload_n 2, 1) := by decide +kernel
theorem dL_act_171 : decode cL_act 171 = .ok (.iload_n 3, 1) := by decide +kernel
theorem dL_act_172 : decode cL_act 172 = .ok (.invokevirtual 48, 3) := by decide +kernel
theorem dL_act_175 : decode cL_act 175 = .ok (.goto 98, 3) := by decide +kernel
theorem dL_act_178 : decode cL_act 178 = .ok (.iload_n 1, 1) := by decide +kernel
theorem dL_act_179 : decode cL_act 179 = .ok (.bipush 10, 2) := by decide +kernel
theorem dL_act_181 : decode cL_act 181 = .ok (.if_icmp .ne 12, 3) := by decide +kernel
theorem dL_act_184 : decode cL_act 184 = .ok (.aload_n 0, 1) := by decide +kernel
theorem dL_act_185 : decode cL_act 185 = .ok (.iload_n 2, 1) := by decide +kernel
theorem dL_act_186 : decode cL_act 186 = .ok (.iload_n 3, 1) := by decide +kernel
theorem dL_act_187 : decode cL_act 187 = .ok (.invokevirtual 51, 3) := by decide +kernel
theorem dL_act_190 : decode cL_act 190 = .ok (.goto 83, 3) := by decide +kernel
theorem dL_act_193 : decode cL_act 193 = .ok (.iload_n 1, 1) := by decide +kernel
theorem dL_act_194 : decode cL_act 194 = .ok (.bipush 11, 2) := by decide +kernel
theorem dL_act_196 : decode cL_act 196 = .ok (.if_icmp .ne 11, 3) := by decide +kernel
theorem dL_act_199 : decode cL_act 199 = .ok (.aload_n 0, 1) := by decide +kernel
theorem dL_act_200 : decode cL_act 200 = .ok (.iload_n 2, 1) := by decide +kernel
theorem dL_act_201 : decode cL_act 201 = .ok (.invokevirtual 54, 3) := by decide +kernel
theorem dL_act_204 : decode cL_act 204 = .ok (.goto 69, 3) := by decide +kernel
theorem dL_act_207 : decode cL_act 207 = .ok (.iload_n 1, 1) := by decide +kernel
theorem dL_act_208 : decode cL_act 208 = .ok (.bipush 12, 2) := by decide +kernel
theorem dL_act_210 : decode cL_act 210 = .ok (.if_icmp .ne 11, 3) := by decide +kernel
theorem dL_act_213 : decode cL_act 213 = .ok (.aload_n 0, 1) := by decide +kernel
theorem dL_act_214 : decode cL_act 214 = .ok (.iload_n 2, 1) := by decide +kernel
theorem dL_act_215 : decode cL_act 215 = .ok (.invokevirtual 57, 3) := by decide +kernel
theorem dL_act_218 : decode cL_act 218 = .ok (.goto 55, 3) := by decide +kernel
theorem dL_act_221 : decode cL_act 221 = .ok (.iload_n 1, 1) := by decide +kernel
theorem dL_act_222 : decode cL_act 222 = .ok (.bipush 13, 2) := by decide +kernel
theorem dL_act_224 : decode cL_act 224 = .ok (.if_icmp .ne 14, 3) := by decide +kernel
theorem dL_act_227 : decode cL_act 227 = .ok (.aload_n 0, 1) := by decide +kernel
theorem dL_act_228 : decode cL_act 228 = .ok (.iload_n 2, 1) := by decide +kernel
theorem dL_act_229 : decode cL_act 229 = .ok (.iload_n 3, 1) := by decide +kernel
theorem dL_act_230 : decode cL_act 230 = .ok (.iload 4, 2) := by decide +kernel
theorem dL_act_232 : decode cL_act 232 = .ok (.invokevirtual 60, 3) := by decide +kernel
theorem dL_act_235 : decode cL_act 235 = .ok (.goto 38, 3) := by decide +kernel
theorem dL_act_238 : decode cL_act 238 = .ok (.iload_n 1, 1) := by decide +kernel
theorem dL_act_239 : decode cL_act 239 = .ok (.bipush 14, 2) := by decide +kernel
theorem dL_act_241 : decode cL_act 241 = .ok (.if_icmp .ne 11, 3) := by decide +kernel
theorem dL_act_244 : decode cL_act 244 = .ok (.aload_n 0, 1) := by decide +kernel
theorem dL_act_245 : decode cL_act 245 = .ok (.iload_n 2, 1) := by decide +kernel
theorem dL_act_246 : decode cL_act 246 = .ok (.invokevirtual 64, 3) := by decide +kernel
theorem dL_act_249 : decode cL_act 249 = .ok (.goto 24, 3) := by decide +kernel
theorem dL_act_252 : decode cL_act 252 = .ok (.iload_n 1, 1) := by decide +kernel
theorem dL_act_253 : decode cL_act 253 = .ok (.bipush 15, 2) := by decide +kernel
theorem dL_act_255 : decode cL_act 255 = .ok (.if_icmp .ne 12, 3) := by decide +kernel
theorem dL_act_258 : decode cL_act 258 = .ok (.aload_n 0, 1) := by decide +kernel
theorem dL_act_259 : decode cL_act 259 = .ok (.iload_n 2, 1) := by decide +kernel
theorem dL_act_260 : decode cL_act 260 = .ok (.iload_n 3, 1) := by decide +kernel
theorem dL_act_261 : decode cL_act 261 = .ok (.invokevirtual 67, 3) := by decide +kernel
theorem dL_act_264 : decode cL_act 264 = .ok (.goto 9, 3) := by decide +kernel
theorem dL_act_267 : decode cL_act 267 = .ok (.aload_n 0, 1) := by decide +kernel
theorem dL_act_268 : decode cL_act 268 = .ok (.iload_n 2, 1) := by decide +kernel
theorem dL_act_269 : decode cL_act 269 = .ok (.iload_n 3, 1) := by decide +kernel
theorem dL_act_270 : decode cL_act 270 = .ok (.invokevirtual 70, 3) := by decide +kernel
theorem dL_act_273 : decode cL_act 273 = .ok (.ireturn, 1) := by decide +kernel
theorem dL_act_274 : decode cL_act 274 = .ok (.astore 6, 2) := by decide +kernel
theorem dL_act_276 : decode cL_act 276 = .ok (.bipush (-71), 2) := by decide +kernel
theorem dL_act_278 : decode cL_act 278 = .ok (.ireturn, 1) := by decide +kernel
theorem dL_act_279 : decode cL_act 279 = .ok (.astore 6, 2) := by decide +kernel
theorem dL_act_281 : decode cL_act 281 = .ok (.bipush (-72), 2) := by decide +kernel
theorem dL_act_283 : decode cL_act 283 = .ok (.ireturn, 1) := by decide +kernel
theorem dL_act_284 : decode cL_act 284 = .ok (.astore 6, 2) := by decide +kernel
theorem dL_act_286 : decode cL_act 286 = .ok (.bipush (-73), 2) := by decide +kernel
theorem dL_act_288 : decode cL_act 288 = .ok (.ireturn, 1) := by decide +kernel
set_option maxRecDepth 20000 in
theorem ggL_refuses_X3_shifts : GoodIn wsL_refuses wsX3_shifts := goodIn_r _ [6, 7, 8, 9, 10, 11, 12, 13, 323, 324, 325, 326, 327, 328, 329, 330] (by decide +kernel) (by decide +kernel)
set_option maxRecDepth 20000 in
theorem gL_refuses_X3_shifts : GoodIn wsL_refuses (wsV RL 75 RX3 yX3_shifts wsX3_shifts) := goodIn_app (goodIn_of _ (by decide +kernel)) ggL_refuses_X3_shifts
set_option maxRecDepth 20000 in
theorem ggL_refuses_X3_payOf : GoodIn wsL_refuses wsX3_payOf := goodIn_ca (goodIn_ca (goodIn_r _ [17, 7, 18, 19, 20, 21, 22, 5, 23, 24, 25, 26, 27, 8, 9, 10, 11, 12, 13, 28, 29, 30, 31, 32, 33, 34, 35, 36, 37, 38, 39, 40, 41, 42, 43, 44, 45, 46, 47, 48, 49, 50, 51, 52, 53, 54, 55, 56, 57, 58, 59, 60, 61, 62, 63, 64, 65, 66, 67, 68, 69, 70, 71, 72, 73, 74, 75, 76, 77, 78, 79, 80, 81, 82, 83, 84, 85, 86, 87, 88, 89, 90, 91, 92, 93, 94, 95, 96, 97, 98, 99, 100, 101, 102, 103, 104, 105, 106, 107, 108, 109, 110, 111, 112, 113, 114, 115, 116, 117, 118, 119, 120, 121, 122, 123, 124, 125, 126, 127, 323, 324, 325, 326, 327, 331, 332, 333, 334, 335, 328, 329, 330, 336, 337, 338, 339, 340, 341, 342, 343] (by decide +kernel) (by decide +kernel)) (goodIn_sub (fun _ h => List.mem_cons_of_mem _ (List.mem_append_left _ (List.mem_append_left _ (List.mem_append_right _ h)))) (by decide +kernel))) (goodIn_sub (fun _ h => List.mem_cons_of_mem _ (List.mem_append_left _ (List.mem_append_right _ h))) (by decide +kernel))
set_option maxRecDepth 20000 in
theorem gL_refuses_X3_payOf : GoodIn wsL_refuses (wsV RL 60 RX3 yX3_payOf wsX3_payOf) := goodIn_app (goodIn_of _ (by decide +kernel)) ggL_refuses_X3_payOf
set_option maxRecDepth 20000 in
theorem ggL_refuses_X3_worked : GoodIn wsL_refuses wsX3_worked := goodIn_ca (goodIn_ca (goodIn_r _ [131, 20, 21, 22, 5, 23, 24, 25, 26, 27, 8, 9, 10, 11, 12, 13, 28, 29, 30, 31, 32, 33, 34, 35, 36, 37, 38, 39, 40, 41, 42, 43, 44, 45, 46, 47, 48, 49, 132, 133, 134, 135, 136, 137, 138, 139, 7, 18, 19, 140, 141, 142, 143, 53, 144, 55, 80, 145, 146, 74, 147, 72, 73, 75, 323, 324, 325, 326, 327, 328, 329, 330, 331, 332, 333, 334, 335] (by decide +kernel) (by decide +kernel)) (goodIn_sub (fun _ h => List.mem_cons_of_mem _ (List.mem_append_left _ (List.mem_append_left _ (List.mem_append_right _ h)))) (by decide +kernel))) (goodIn_sub (fun _ h => List.mem_cons_of_mem _ (List.mem_append_left _ (List.mem_append_right _ h))) (by decide +kernel))
set_option maxRecDepth 20000 in
theorem gL_refuses_X3_worked : GoodIn wsL_refuses (wsV RL 67 RX3 yX3_worked wsX3_worked) := goodIn_app (goodIn_of _ (by decide +kernel)) ggL_refuses_X3_worked
set_option maxRecDepth 20000 in
theorem ggL_refuses_L_act : GoodIn wsL_refuses wsL_act := goodIn_ca (goodIn_ca (goodIn_ca (goodIn_r _ [151, 152, 153, 154, 155, 156, 157, 5, 158, 48, 49, 65, 45, 46, 47, 159, 160, 161, 162, 163, 164, 165, 166, 167, 24, 25, 94, 95, 8, 9, 10, 11, 12, 13, 28, 29, 30, 31, 32, 33, 34, 35, 36, 37, 38, 39, 40, 41, 42, 43, 44, 168, 169, 170, 171, 104, 172, 173, 174, 175, 176, 177, 26, 178, 179, 180, 181, 182, 183, 184, 185, 186, 187, 188, 189, 190, 191, 192, 193, 194, 195, 196, 197, 198, 199, 200, 201, 202, 203, 204, 205, 206, 207, 73, 74, 75, 208, 209, 210, 211, 212, 213, 214, 215, 216, 217, 218, 219, 220, 221, 222, 223, 224, 225, 226, 227, 228, 229, 230, 231, 146, 147, 232, 233, 234, 235, 236, 237, 238, 239, 60, 20, 21, 22, 23, 27, 240, 241, 242, 243, 7, 244, 245, 53, 246, 247, 248, 249, 136, 137, 138, 139, 18, 19, 140, 141, 142, 143, 144, 55, 80, 145, 72, 250, 251, 252, 253, 254, 71, 70, 255, 256, 257, 258, 259, 260, 261, 262, 263, 264, 265, 56, 57, 58, 59, 61, 62, 63, 64, 66, 67, 68, 69, 76, 77, 78, 79, 81, 82, 83, 84, 85, 86, 87, 88, 89, 90, 91, 92, 93, 50, 51, 52, 54, 96, 97, 98, 99, 100, 101, 102, 103, 105, 106, 107, 108, 109, 110, 111, 112, 113, 114, 115, 116, 117, 118, 119, 120, 121, 122, 123, 124, 125, 126, 127, 266, 267, 268, 269, 270, 271, 272, 273, 274, 275, 276, 277, 278, 279, 280, 281, 282, 283, 284, 285, 286, 287, 288, 289, 290, 291, 292, 293, 294, 14, 15, 16, 17, 295, 296, 297, 298, 299, 300, 301, 302, 128, 129, 130, 131, 132, 133, 134, 135, 303, 304, 305, 306, 307, 323, 324, 325, 326, 327, 337, 338, 339, 340, 341, 342, 343, 328, 329, 330, 336, 331, 332, 333, 334, 335] (by decide +kernel) (by decide +kernel)) (goodIn_sub (fun _ h => List.mem_cons_of_mem _ (List.mem_append_left _ (List.mem_append_right _ h))) (by decide +kernel))) (goodIn_sub (fun _ h => List.mem_cons_of_mem _ (List.mem_append_left _ (List.mem_append_left _ (List.mem_append_right _ h)))) (by decide +kernel))) (goodIn_sub (fun _ h => List.mem_cons_of_mem _ (List.mem_append_right _ h)) (by decide +kernel))
set_option maxRecDepth 20000 in
theorem gL_refuses_L_act : GoodIn wsL_refuses (va_wsS RL 80 yL_act wsL_act) := goodIn_app (goodIn_of _ (by decide +kernel)) ggL_refuses_L_act
set_option maxRecDepth 20000 in
theorem ggL_refuses_L_rule : GoodIn wsL_refuses wsL_rule := goodIn_ca (goodIn_ca (goodIn_r _ [310, 153, 154, 311, 312, 313, 5, 314, 176, 177, 94, 315, 316, 111, 45, 46, 47, 48, 49, 8, 9, 10, 11, 12, 13, 317, 318, 319, 320, 185, 186, 321, 124, 115, 116, 114, 322, 113, 188, 189, 190, 191, 192, 193, 44, 194, 195, 196, 197, 198, 199, 200, 201, 202, 203, 204, 205, 206, 207, 73, 74, 75, 208, 209, 210, 211, 212, 213, 214, 215, 216, 217, 218, 219, 220, 221, 222, 223, 224, 225, 226, 227, 228, 229, 230, 231, 146, 147, 232, 233, 234, 235, 323, 324, 325, 326, 327, 337, 338, 339, 340, 341, 342, 343, 328, 329, 330] (by decide +kernel) (by decide +kernel)) (goodIn_sub (fun _ h => List.mem_cons_of_mem _ (List.mem_append_right _ h)) (by decide +kernel))) (goodIn_sub (fun _ h => List.mem_cons_of_mem _ (List.mem_append_left _ (List.mem_append_right _ h))) (by decide +kernel))
set_option maxRecDepth 20000 in
theorem gL_refuses_L_rule : GoodIn wsL_refuses (va_wsS RL 86 yL_rule wsL_rule) := goodIn_app (goodIn_of _ (by decide +kernel)) ggL_refuses_L_rule
set_option maxRecDepth 20000 in
theorem ggL_at_X3_percentAt : GoodIn wsL_at wsX3_percentAt := goodIn_ca (goodIn_r _ [5, 6, 7, 8, 4, 9, 10, 11, 12, 13, 14, 15, 16, 17, 18, 19, 20, 21, 22, 23, 24, 25, 26, 27, 28, 29, 30, 31, 32, 33, 34, 35, 36, 37, 38, 39, 40, 41, 42, 43, 44, 45, 46, 47, 48, 49, 50, 51, 52, 53, 54, 55, 56, 57, 58, 59, 60, 61, 62, 63, 64, 65, 66, 67, 68, 69, 70, 71, 72, 73, 74, 75, 76, 77, 78, 79, 80, 81, 82, 83, 84, 85, 86, 87, 88, 89, 90, 91, 92, 93, 94, 95, 96, 97, 103, 104, 105, 106, 107, 108, 109, 110, 111, 112, 113, 114, 115, 116, 117, 118, 119, 120, 121, 122, 123] (by decide +kernel) (by decide +kernel)) (goodIn_sub (fun _ h => List.mem_cons_of_mem _ (List.mem_append_right _ h)) (by decide +kernel))
set_option maxRecDepth 20000 in
theorem gL_at_X3_percentAt : GoodIn wsL_at (wsV RL 48 RX3 yX3_percentAt wsX3_percentAt) := goodIn_app (goodIn_of _ (by decide +kernel)) ggL_at_X3_percentAt
set_option maxRecDepth 20000 in
theorem ggL_at_X3_reasonAt : GoodIn wsL_at wsX3_reasonAt := goodIn_ca (goodIn_r _ [101, 102, 6, 7, 8, 4, 9, 10, 11, 12, 13, 14, 15, 16, 17, 18, 19, 20, 21, 22, 23, 24, 25, 26, 27, 28, 29, 30, 31, 32, 33, 34, 35, 36, 37, 38, 39, 40, 41, 42, 43, 44, 45, 46, 47, 48, 49, 50, 56, 57, 58, 59, 60, 61, 55, 62, 63, 64, 65, 66, 67, 68, 69, 70, 71, 72, 73, 74, 75, 76, 77, 78, 79, 80, 81, 82, 83, 84, 85, 86, 87, 88, 89, 90, 91, 92, 93, 94, 95, 96, 97, 116, 117, 118, 119, 120, 121, 122, 103, 104, 105, 106, 107, 108, 109, 110, 111, 112, 113, 114, 115, 123] (by decide +kernel) (by decide +kernel)) (goodIn_sub (fun _ h => List.mem_cons_of_mem _ (List.mem_append_right _ h)) (by decide +kernel))
set_option maxRecDepth 20000 in
theorem gL_at_X3_reasonAt : GoodIn wsL_at (wsV RL 51 RX3 yX3_reasonAt wsX3_reasonAt) := goodIn_app (goodIn_of _ (by decide +kernel)) ggL_at_X3_reasonAt
theorem dL_at_0 : decode cL_at 0 = .ok (.aload_n 0, 1) := by decide +kernel
theorem dL_at_1 : decode cL_at 1 = .ok (.iload_n 1, 1) := by decide +kernel
theorem dL_at_2 : decode cL_at 2 = .ok (.iload_n 2, 1) := by decide +kernel
theorem dL_at_3 : decode cL_at 3 = .ok (.invokevirtual 48, 3) := by decide +kernel
theorem dL_at_6 : decode cL_at 6 = .ok (.iload_n 3, 1) := by decide +kernel
theorem dL_at_7 : decode cL_at 7 = .ok (.if_icmp .ne 18, 3) := by decide +kernel
theorem dL_at_10 : decode cL_at 10 = .ok (.aload_n 0, 1) := by decide +kernel
theorem dL_at_11 : decode cL_at 11 = .ok (.iload_n 1, 1) := by decide +kernel
theorem dL_at_12 : decode cL_at 12 = .ok (.iload_n 2, 1) := by decide +kernel
theorem dL_at_13 : decode cL_at 13 = .ok (.invokevirtual 51, 3) := by decide +kernel
theorem dL_at_16 : decode cL_at 16 = .ok (.iload 4, 2) := by decide +kernel
theorem dL_at_18 : decode cL_at 18 = .ok (.if_icmp .ne 7, 3) := by decide +kernel
theorem dL_at_21 : decode cL_at 21 = .ok (.iconst 1, 1) := by decide +kernel
theorem dL_at_22 : decode cL_at 22 = .ok (.goto 4, 3) := by decide +kernel
theorem dL_at_25 : decode cL_at 25 = .ok (.iconst 0, 1) := by decide +kernel
theorem dL_at_26 : decode cL_at 26 = .ok (.ireturn, 1) := by decide +kernel
set_option maxRecDepth 20000 in
theorem ggL_pays_X3_init : GoodIn wsL_pays wsX3_init := goodIn_r _ [6, 7, 8, 9, 10, 11, 12, 13, 14, 15, 16, 17, 18, 19, 20, 21, 22, 23, 24, 25, 26, 27, 28, 29, 30, 31, 32, 33, 34, 35, 36, 37, 38, 355, 356, 357, 358, 359, 360, 361, 362] (by decide +kernel) (by decide +kernel)
set_option maxRecDepth 20000 in
theorem gL_pays_X3_init : GoodIn wsL_pays (wsX3_init) := ggL_pays_X3_init
set_option maxRecDepth 20000 in
theorem ggL_pays_X3_shifts : GoodIn wsL_pays wsX3_shifts := goodIn_r _ [42, 19, 43, 44, 45, 16, 46, 47, 355, 356, 357, 358, 359, 360, 361, 362] (by decide +kernel) (by decide +kernel)
set_option maxRecDepth 20000 in
theorem gL_pays_X3_shifts : GoodIn wsL_pays (wsV RL 75 RX3 yX3_shifts wsX3_shifts) := goodIn_app (goodIn_of _ (by decide +kernel)) ggL_pays_X3_shifts
set_option maxRecDepth 20000 in
theorem ggL_pays_L_act : GoodIn wsL_pays wsL_act := goodIn_ca (goodIn_ca (goodIn_ca (goodIn_r _ [51, 52, 53, 54, 55, 56, 57, 3, 58, 59, 60, 11, 61, 62, 63, 64, 65, 66, 67, 68, 69, 70, 71, 72, 73, 74, 17, 75, 43, 44, 45, 16, 46, 47, 76, 77, 78, 79, 80, 81, 82, 83, 84, 85, 86, 87, 88, 89, 90, 91, 28, 92, 93, 94, 95, 13, 96, 97, 98, 99, 100, 101, 18, 102, 103, 104, 105, 106, 107, 108, 8, 9, 109, 110, 111, 112, 113, 114, 115, 116, 117, 118, 119, 120, 121, 122, 123, 124, 125, 126, 127, 27, 128, 129, 130, 131, 132, 133, 134, 135, 136, 137, 138, 139, 140, 141, 142, 143, 22, 144, 145, 146, 147, 148, 149, 150, 151, 152, 153, 154, 155, 156, 157, 158, 159, 160, 161, 162, 163, 164, 165, 166, 167, 168, 169, 170, 171, 172, 173, 174, 19, 175, 176, 177, 178, 179, 180, 181, 182, 183, 184, 185, 186, 187, 188, 189, 190, 191, 192, 193, 194, 195, 196, 197, 198, 199, 200, 201, 202, 203, 204, 205, 206, 207, 208, 209, 210, 211, 212, 213, 214, 215, 216, 217, 218, 219, 220, 221, 222, 223, 224, 225, 226, 227, 228, 229, 230, 231, 232, 233, 234, 235, 236, 237, 238, 239, 240, 241, 242, 243, 244, 245, 246, 247, 248, 249, 250, 251, 252, 253, 254, 255, 256, 257, 258, 259, 260, 261, 262, 263, 264, 265, 266, 267, 268, 269, 270, 271, 272, 273, 274, 275, 276, 277, 278, 279, 280, 281, 282, 283, 284, 285, 286, 287, 288, 289, 290, 291, 292, 293, 294, 295, 296, 297, 298, 299, 300, 301, 302, 303, 304, 305, 306, 307, 308, 309, 310, 311, 312, 313, 314, 315, 316, 317, 318, 319, 320, 321, 322, 323, 324, 325, 326, 327, 328, 329, 330, 331, 332, 355, 356, 357, 358, 359, 363, 364, 365, 366, 367, 368, 369, 360, 361, 362, 370, 371, 372, 373, 374, 375] (by decide +kernel) (by decide +kernel)) (goodIn_sub (fun _ h => List.mem_cons_of_mem _ (List.mem_append_left _ (List.mem_append_left _ (List.mem_append_right _ h)))) (by decide +kernel))) (goodIn_sub (fun _ h => List.mem_cons_of_mem _ (List.mem_append_left _ (List.mem_append_right _ h))) (by decide +kernel))) (goodIn_sub (fun _ h => List.mem_cons_of_mem _ (List.mem_append_right _ h)) (by decide +kernel))
set_option maxRecDepth 20000 in
theorem gL_pays_L_act : GoodIn wsL_pays (va_wsS RL 80 yL_act wsL_act) := goodIn_app (goodIn_of _ (by decide +kernel)) ggL_pays_L_act
set_option maxRecDepth 20000 in
theorem ggL_pays_X3_addWorker : GoodIn wsL_pays wsX3_addWorker := goodIn_ca (goodIn_ca (goodIn_r _ [99, 100, 101, 18, 102, 103, 104, 61, 62, 3, 63, 59, 60, 43, 44, 45, 16, 46, 47, 105, 106, 107, 108, 8, 9, 109, 110, 111, 112, 113, 114, 115, 28, 116, 117, 118, 119, 120, 121, 122, 123, 124, 125, 126, 127, 27, 128, 129, 130, 131, 132, 133, 134, 135, 136, 137, 138, 139, 140, 141, 142, 143, 22, 144, 145, 146, 147, 148, 149, 150, 151, 152, 153, 154, 155, 156, 157, 158, 159, 160, 355, 356, 357, 358, 359, 370, 360, 361, 362] (by decide +kernel) (by decide +kernel)) (goodIn_sub (fun _ h => List.mem_cons_of_mem _ (List.mem_append_right _ h)) (by decide +kernel))) (goodIn_sub (fun _ h => List.mem_cons_of_mem _ (List.mem_append_left _ (List.mem_append_left _ (List.mem_append_right _ h)))) (by decide +kernel))
set_option maxRecDepth 20000 in
theorem gL_pays_X3_addWorker : GoodIn wsL_pays (wsV RL 28 RX3 yX3_addWorker wsX3_addWorker) := goodIn_app (goodIn_of _ (by decide +kernel)) ggL_pays_X3_addWorker
set_option maxRecDepth 20000 in
theorem ggL_pays_X3_addRule : GoodIn wsL_pays wsX3_addRule := goodIn_ca (goodIn_ca (goodIn_r _ [343, 100, 101, 17, 344, 345, 262, 61, 62, 3, 63, 59, 60, 43, 44, 45, 16, 46, 47, 346, 347, 348, 349, 8, 9, 350, 275, 266, 267, 265, 351, 264, 110, 111, 112, 113, 114, 115, 28, 116, 117, 118, 119, 120, 121, 122, 123, 124, 125, 126, 127, 27, 128, 129, 130, 131, 132, 133, 134, 135, 136, 137, 138, 139, 140, 141, 142, 143, 22, 144, 145, 146, 147, 148, 149, 150, 151, 152, 153, 154, 155, 156, 157, 158, 159, 160, 355, 356, 357, 358, 359, 363, 364, 365, 366, 367, 368, 369, 360, 361, 362] (by decide +kernel) (by decide +kernel)) (goodIn_sub (fun _ h => List.mem_cons_of_mem _ (List.mem_append_right _ h)) (by decide +kernel))) (goodIn_sub (fun _ h => List.mem_cons_of_mem _ (List.mem_append_left _ (List.mem_append_left _ (List.mem_append_right _ h)))) (by decide +kernel))
set_option maxRecDepth 20000 in
theorem gL_pays_X3_addRule : GoodIn wsL_pays (wsV RL 7 RX3 yX3_addRule wsX3_addRule) := goodIn_app (goodIn_of _ (by decide +kernel)) ggL_pays_X3_addRule
set_option maxRecDepth 20000 in
theorem ggL_pays_X3_addShift : GoodIn wsL_pays wsX3_addShift := goodIn_ca (goodIn_ca (goodIn_ca (goodIn_r _ [174, 100, 101, 19, 175, 176, 177, 166, 167, 168, 3, 169, 73, 74, 18, 170, 43, 44, 45, 16, 46, 47, 76, 77, 78, 79, 80, 81, 82, 83, 84, 85, 86, 87, 88, 89, 90, 91, 28, 61, 62, 63, 59, 60, 178, 179, 180, 181, 182, 183, 184, 185, 186, 187, 188, 189, 190, 191, 192, 193, 194, 195, 155, 130, 156, 196, 129, 131, 197, 198, 199, 200, 8, 9, 201, 202, 203, 110, 111, 112, 113, 114, 115, 116, 117, 118, 119, 120, 121, 122, 123, 124, 125, 126, 127, 27, 128, 132, 133, 134, 135, 136, 137, 138, 139, 140, 141, 142, 143, 22, 144, 145, 146, 147, 148, 149, 150, 151, 152, 153, 154, 157, 158, 159, 160, 355, 356, 357, 358, 359, 371, 372, 373, 374, 375, 360, 361, 362] (by decide +kernel) (by decide +kernel)) (goodIn_sub (fun _ h => List.mem_cons_of_mem _ (List.mem_append_right _ h)) (by decide +kernel))) (goodIn_sub (fun _ h => List.mem_cons_of_mem _ (List.mem_append_left _ (List.mem_append_right _ h))) (by decide +kernel))) (goodIn_sub (fun _ h => List.mem_cons_of_mem _ (List.mem_append_left _ (List.mem_append_left _ (List.mem_append_right _ h)))) (by decide +kernel))
set_option maxRecDepth 20000 in
theorem gL_pays_X3_addShift : GoodIn wsL_pays (wsV RL 35 RX3 yX3_addShift wsX3_addShift) := goodIn_app (goodIn_of _ (by decide +kernel)) ggL_pays_X3_addShift
set_option maxRecDepth 20000 in
theorem ggL_pays_X3_paidQuarters : GoodIn wsL_pays wsX3_paidQuarters := goodIn_ca (goodIn_r _ [287, 208, 209, 210, 3, 211, 73, 74, 19, 186, 43, 44, 45, 16, 46, 47, 76, 77, 78, 79, 80, 81, 82, 83, 84, 85, 86, 87, 88, 89, 90, 91, 28, 231, 232, 233, 177, 234, 203, 194, 196, 129, 130, 131, 355, 356, 357, 358, 359, 360, 361, 362, 371, 372, 373, 374, 375] (by decide +kernel) (by decide +kernel)) (goodIn_sub (fun _ h => List.mem_cons_of_mem _ (List.mem_append_left _ (List.mem_append_right _ h))) (by decide +kernel))
set_option maxRecDepth 20000 in
theorem gL_pays_X3_paidQuarters : GoodIn wsL_pays (wsV RL 45 RX3 yX3_paidQuarters wsX3_paidQuarters) := goodIn_app (goodIn_of _ (by decide +kernel)) ggL_pays_X3_paidQuarters
set_option maxRecDepth 20000 in
theorem ggL_pays_L_at : GoodIn wsL_pays wsL_at := goodIn_ca (goodIn_r _ [354, 288, 289, 290, 3, 291, 208, 209, 210, 211, 73, 74, 19, 186, 43, 44, 45, 16, 46, 47, 76, 77, 78, 79, 80, 81, 82, 83, 84, 85, 86, 87, 88, 89, 90, 91, 28, 292, 293, 294, 231, 232, 233, 177, 234, 203, 194, 196, 129, 130, 131, 235, 236, 237, 238, 239, 240, 241, 242, 243, 17, 75, 187, 165, 244, 245, 246, 247, 193, 248, 249, 250, 251, 252, 253, 254, 255, 13, 256, 257, 258, 259, 260, 261, 262, 263, 264, 265, 266, 267, 268, 269, 270, 271, 272, 273, 274, 275, 295, 296, 297, 298, 299, 355, 356, 357, 358, 359, 360, 361, 362, 371, 372, 373, 374, 375, 363, 364, 365, 366, 367, 368, 369, 370] (by decide +kernel) (by decide +kernel)) (goodIn_sub (fun _ h => List.mem_cons_of_mem _ (List.mem_append_left _ (List.mem_append_right _ h))) (by decide +kernel))
set_option maxRecDepth 20000 in
theorem gL_pays_L_at : GoodIn wsL_pays (va_wsS RL 94 yL_at wsL_at) := goodIn_app (goodIn_of _ (by decide +kernel)) ggL_pays_L_at
set_option maxRecDepth 20000 in
theorem ggL_pays_X3_pay : GoodIn wsL_pays wsX3_pay := goodIn_ca (goodIn_r _ [307, 208, 209, 210, 3, 211, 73, 74, 19, 186, 43, 44, 45, 16, 46, 47, 76, 77, 78, 79, 80, 81, 82, 83, 84, 85, 86, 87, 88, 89, 90, 91, 28, 215, 216, 217, 218, 187, 165, 219, 220, 221, 222, 11, 223, 224, 225, 177, 226, 203, 202, 196, 129, 130, 131, 227, 228, 229, 230, 194, 231, 232, 233, 234, 235, 236, 237, 238, 239, 240, 241, 242, 243, 17, 75, 244, 245, 246, 247, 193, 248, 249, 250, 251, 252, 253, 254, 255, 13, 256, 257, 258, 259, 260, 261, 262, 263, 264, 265, 266, 267, 268, 269, 270, 271, 272, 273, 274, 275, 276, 277, 278, 355, 356, 357, 358, 359, 360, 361, 362, 371, 372, 373, 374, 375, 370, 363, 364, 365, 366, 367, 368, 369] (by decide +kernel) (by decide +kernel)) (goodIn_sub (fun _ h => List.mem_cons_of_mem _ (List.mem_append_left _ (List.mem_append_right _ h))) (by decide +kernel))
set_option maxRecDepth 20000 in
theorem gL_pays_X3_pay : GoodIn wsL_pays (wsV RL 57 RX3 yX3_pay wsX3_pay) := goodIn_app (goodIn_of _ (by decide +kernel)) ggL_pays_X3_pay
set_option maxRecDepth 20000 in
theorem ggL_pays_X3_missed : GoodIn wsL_pays wsX3_missed := goodIn_ca (goodIn_r _ [303, 208, 209, 210, 3, 211, 73, 74, 19, 186, 43, 44, 45, 16, 46, 47, 76, 77, 78, 79, 80, 81, 82, 83, 84, 85, 86, 87, 88, 89, 90, 91, 28, 223, 224, 225, 177, 226, 203, 202, 196, 129, 130, 131, 227, 228, 229, 230, 194, 355, 356, 357, 358, 359, 360, 361, 362, 371, 372, 373, 374, 375] (by decide +kernel) (by decide +kernel)) (goodIn_sub (fun _ h => List.mem_cons_of_mem _ (List.mem_append_left _ (List.mem_append_right _ h))) (by decide +kernel))
set_option maxRecDepth 20000 in
theorem gL_pays_X3_missed : GoodIn wsL_pays (wsV RL 54 RX3 yX3_missed wsX3_missed) := goodIn_app (goodIn_of _ (by decide +kernel)) ggL_pays_X3_missed
set_option maxRecDepth 20000 in
theorem ggL_pays_X3_paidBy : GoodIn wsL_pays wsX3_paidBy := goodIn_ca (goodIn_r _ [315, 19, 186, 69, 70, 71, 3, 72, 73, 74, 17, 75, 43, 44, 45, 16, 46, 47, 76, 77, 78, 79, 80, 81, 82, 83, 84, 85, 86, 87, 88, 89, 90, 91, 28, 316, 317, 318, 319, 187, 165, 299, 239, 219, 220, 221, 222, 11, 231, 232, 233, 177, 234, 203, 194, 196, 129, 130, 131, 240, 241, 242, 243, 244, 245, 246, 247, 193, 248, 249, 250, 251, 252, 253, 254, 255, 13, 256, 257, 258, 259, 260, 261, 262, 263, 264, 265, 266, 267, 268, 269, 270, 271, 272, 273, 274, 275, 276, 277, 278, 355, 356, 357, 358, 359, 360, 361, 362, 371, 372, 373, 374, 375, 370, 363, 364, 365, 366, 367, 368, 369] (by decide +kernel) (by decide +kernel)) (goodIn_sub (fun _ h => List.mem_cons_of_mem _ (List.mem_append_left _ (List.mem_append_right _ h))) (by decide +kernel))
set_option maxRecDepth 20000 in
theorem gL_pays_X3_paidBy : GoodIn wsL_pays (wsV RL 64 RX3 yX3_paidBy wsX3_paidBy) := goodIn_app (goodIn_of _ (by decide +kernel)) ggL_pays_X3_paidBy
set_option maxRecDepth 20000 in
theorem ggL_pays_X3_setHoliday : GoodIn wsL_pays wsX3_setHoliday := goodIn_ca (goodIn_r _ [95, 59, 60, 13, 355, 356, 357, 358, 359] (by decide +kernel) (by decide +kernel)) (goodIn_sub (fun _ h => List.mem_cons_of_mem _ (List.mem_append_left _ (List.mem_append_left _ (List.mem_append_right _ h)))) (by decide +kernel))
set_option maxRecDepth 20000 in
theorem gL_pays_X3_setHoliday : GoodIn wsL_pays (wsV RL 25 RX3 yX3_setHoliday wsX3_setHoliday) := goodIn_app (goodIn_of _ (by decide +kernel)) ggL_pays_X3_setHoliday
set_option maxRecDepth 20000 in
theorem ggL_pays_X3_setRank : GoodIn wsL_pays wsX3_setRank := goodIn_ca (goodIn_ca (goodIn_r _ [164, 165, 166, 167, 168, 3, 169, 73, 74, 18, 170, 43, 44, 45, 16, 46, 47, 76, 77, 78, 79, 80, 81, 82, 83, 84, 85, 86, 87, 88, 89, 90, 91, 28, 61, 62, 63, 59, 60, 370, 355, 356, 357, 358, 359, 360, 361, 362] (by decide +kernel) (by decide +kernel)) (goodIn_sub (fun _ h => List.mem_cons_of_mem _ (List.mem_append_left _ (List.mem_append_right _ h))) (by decide +kernel))) (goodIn_sub (fun _ h => List.mem_cons_of_mem _ (List.mem_append_left _ (List.mem_append_left _ (List.mem_append_right _ h)))) (by decide +kernel))
set_option maxRecDepth 20000 in
theorem gL_pays_X3_setRank : GoodIn wsL_pays (wsV RL 32 RX3 yX3_setRank wsX3_setRank) := goodIn_app (goodIn_of _ (by decide +kernel)) ggL_pays_X3_setRank
set_option maxRecDepth 20000 in
theorem ggL_pays_X3_takeBreaks : GoodIn wsL_pays wsX3_takeBreaks := goodIn_ca (goodIn_ca (goodIn_ca (goodIn_r _ [282, 283, 208, 209, 210, 3, 211, 73, 74, 19, 186, 43, 44, 45, 16, 46, 47, 76, 77, 78, 79, 80, 81, 82, 83, 84, 85, 86, 87, 88, 89, 90, 91, 28, 61, 62, 63, 59, 60, 212, 213, 214, 100, 101, 188, 371, 372, 373, 374, 375, 355, 356, 357, 358, 359, 360, 361, 362] (by decide +kernel) (by decide +kernel)) (goodIn_sub (fun _ h => List.mem_cons_of_mem _ (List.mem_append_left _ (List.mem_append_right _ h))) (by decide +kernel))) (goodIn_sub (fun _ h => List.mem_cons_of_mem _ (List.mem_append_left _ (List.mem_append_left _ (List.mem_append_right _ h)))) (by decide +kernel))) (goodIn_sub (fun _ h => List.mem_cons_of_mem _ (List.mem_append_right _ h)) (by decide +kernel))
set_option maxRecDepth 20000 in
theorem gL_pays_X3_takeBreaks : GoodIn wsL_pays (wsV RL 42 RX3 yX3_takeBreaks wsX3_takeBreaks) := goodIn_app (goodIn_of _ (by decide +kernel)) ggL_pays_X3_takeBreaks
set_option maxRecDepth 20000 in
theorem ggL_pays_X3_setRule : GoodIn wsL_pays wsX3_setRule := goodIn_ca (goodIn_r _ [67, 68, 69, 70, 71, 3, 72, 73, 74, 17, 75, 43, 44, 45, 16, 46, 47, 76, 77, 78, 79, 80, 81, 82, 83, 84, 85, 86, 87, 88, 89, 90, 91, 28, 363, 364, 365, 366, 367, 368, 369, 355, 356, 357, 358, 359, 360, 361, 362] (by decide +kernel) (by decide +kernel)) (goodIn_sub (fun _ h => List.mem_cons_of_mem _ (List.mem_append_left _ (List.mem_append_right _ h))) (by decide +kernel))
set_option maxRecDepth 20000 in
theorem gL_pays_X3_setRule : GoodIn wsL_pays (wsV RL 21 RX3 yX3_setRule wsX3_setRule) := goodIn_app (goodIn_of _ (by decide +kernel)) ggL_pays_X3_setRule
set_option maxRecDepth 20000 in
theorem ggL_pays_X3_payOf : GoodIn wsL_pays wsX3_payOf := goodIn_ca (goodIn_ca (goodIn_r _ [311, 19, 186, 187, 166, 167, 168, 3, 169, 73, 74, 18, 170, 43, 44, 45, 16, 46, 47, 76, 77, 78, 79, 80, 81, 82, 83, 84, 85, 86, 87, 88, 89, 90, 91, 28, 61, 62, 63, 59, 60, 244, 245, 246, 177, 247, 193, 215, 216, 217, 218, 165, 219, 220, 221, 222, 11, 223, 224, 225, 226, 203, 202, 196, 129, 130, 131, 227, 228, 229, 230, 194, 231, 232, 233, 234, 235, 236, 237, 238, 239, 240, 241, 242, 243, 17, 75, 248, 249, 250, 251, 252, 253, 254, 255, 13, 256, 257, 258, 259, 260, 261, 262, 263, 264, 265, 266, 267, 268, 269, 270, 271, 272, 273, 274, 275, 276, 277, 278, 355, 356, 357, 358, 359, 371, 372, 373, 374, 375, 360, 361, 362, 370, 363, 364, 365, 366, 367, 368, 369] (by decide +kernel) (by decide +kernel)) (goodIn_sub (fun _ h => List.mem_cons_of_mem _ (List.mem_append_left _ (List.mem_append_right _ h))) (by decide +kernel))) (goodIn_sub (fun _ h => List.mem_cons_of_mem _ (List.mem_append_left _ (List.mem_append_left _ (List.mem_append_right _ h)))) (by decide +kernel))
set_option maxRecDepth 20000 in
theorem gL_pays_X3_payOf : GoodIn wsL_pays (wsV RL 60 RX3 yX3_payOf wsX3_payOf) := goodIn_app (goodIn_of _ (by decide +kernel)) ggL_pays_X3_payOf
set_option maxRecDepth 20000 in
theorem ggL_pays_X3_worked : GoodIn wsL_pays wsX3_worked := goodIn_ca (goodIn_ca (goodIn_r _ [323, 166, 167, 168, 3, 169, 73, 74, 18, 170, 43, 44, 45, 16, 46, 47, 76, 77, 78, 79, 80, 81, 82, 83, 84, 85, 86, 87, 88, 89, 90, 91, 28, 61, 62, 63, 59, 60, 324, 325, 326, 327, 182, 183, 184, 185, 19, 186, 187, 188, 189, 190, 191, 177, 192, 193, 194, 195, 155, 130, 156, 196, 129, 131, 355, 356, 357, 358, 359, 360, 361, 362, 371, 372, 373, 374, 375] (by decide +kernel) (by decide +kernel)) (goodIn_sub (fun _ h => List.mem_cons_of_mem _ (List.mem_append_left _ (List.mem_append_right _ h))) (by decide +kernel))) (goodIn_sub (fun _ h => List.mem_cons_of_mem _ (List.mem_append_left _ (List.mem_append_left _ (List.mem_append_right _ h)))) (by decide +kernel))
set_option maxRecDepth 20000 in
theorem gL_pays_X3_worked : GoodIn wsL_pays (wsV RL 67 RX3 yX3_worked wsX3_worked) := goodIn_app (goodIn_of _ (by decide +kernel)) ggL_pays_X3_worked
set_option maxRecDepth 20000 in
theorem ggL_pays_X3_setBase : GoodIn wsL_pays wsX3_setBase := goodIn_ca (goodIn_r _ [58, 59, 60, 11, 61, 62, 3, 63, 355, 356, 357, 358, 359] (by decide +kernel) (by decide +kernel)) (goodIn_sub (fun _ h => List.mem_cons_of_mem _ (List.mem_append_left _ (List.mem_append_left _ (List.mem_append_right _ h)))) (by decide +kernel))
set_option maxRecDepth 20000 in
theorem gL_pays_X3_setBase : GoodIn wsL_pays (wsV RL 17 RX3 yX3_setBase wsX3_setBase) := goodIn_app (goodIn_of _ (by decide +kernel)) ggL_pays_X3_setBase
set_option maxRecDepth 20000 in
theorem ggL_pays_X3_cancel : GoodIn wsL_pays wsX3_cancel := goodIn_ca (goodIn_ca (goodIn_r _ [207, 188, 208, 209, 210, 3, 211, 73, 74, 19, 186, 43, 44, 45, 16, 46, 47, 76, 77, 78, 79, 80, 81, 82, 83, 84, 85, 86, 87, 88, 89, 90, 91, 28, 212, 213, 214, 100, 101, 215, 216, 217, 218, 187, 165, 219, 220, 221, 222, 11, 223, 224, 225, 177, 226, 203, 202, 196, 129, 130, 131, 227, 228, 229, 230, 194, 231, 232, 233, 234, 235, 236, 237, 238, 239, 240, 241, 242, 243, 17, 75, 244, 245, 246, 247, 193, 248, 249, 250, 251, 252, 253, 254, 255, 13, 256, 257, 258, 259, 260, 261, 262, 263, 264, 265, 266, 267, 268, 269, 270, 271, 272, 273, 274, 275, 276, 277, 278, 371, 372, 373, 374, 375, 355, 356, 357, 358, 359, 360, 361, 362, 370, 363, 364, 365, 366, 367, 368, 369] (by decide +kernel) (by decide +kernel)) (goodIn_sub (fun _ h => List.mem_cons_of_mem _ (List.mem_append_left _ (List.mem_append_right _ h))) (by decide +kernel))) (goodIn_sub (fun _ h => List.mem_cons_of_mem _ (List.mem_append_right _ h)) (by decide +kernel))
set_option maxRecDepth 20000 in
theorem gL_pays_X3_cancel : GoodIn wsL_pays (wsV RL 39 RX3 yX3_cancel wsX3_cancel) := goodIn_app (goodIn_of _ (by decide +kernel)) ggL_pays_X3_cancel
set_option maxRecDepth 20000 in
theorem ggL_hours_X3_init : GoodIn wsL_hours wsX3_init := goodIn_r _ [7, 8, 9, 10, 11, 12, 13, 14, 15, 16, 17, 18, 19, 20, 21, 22, 23, 24, 25, 26, 27, 28, 29, 30, 31, 32, 33, 34, 35, 36, 37, 38, 39, 359, 360, 361, 362, 363, 364, 365, 366] (by decide +kernel) (by decide +kernel)
set_option maxRecDepth 20000 in
theorem gL_hours_X3_init : GoodIn wsL_hours (wsX3_init) := ggL_hours_X3_init
set_option maxRecDepth 20000 in
theorem ggL_hours_X3_addWorker : GoodIn wsL_hours wsX3_addWorker := goodIn_ca (goodIn_ca (goodIn_r _ [43, 44, 45, 19, 46, 47, 48, 49, 50, 3, 51, 52, 53, 54, 55, 56, 17, 57, 58, 59, 60, 61, 62, 9, 10, 63, 64, 65, 66, 67, 68, 69, 29, 70, 71, 72, 73, 74, 75, 76, 77, 78, 79, 80, 81, 28, 82, 83, 84, 85, 86, 87, 88, 89, 90, 91, 92, 93, 94, 95, 96, 97, 23, 98, 99, 100, 101, 102, 103, 104, 105, 106, 107, 108, 109, 110, 111, 112, 113, 114, 359, 360, 361, 362, 363, 367, 364, 365, 366] (by decide +kernel) (by decide +kernel)) (goodIn_sub (fun _ h => List.mem_cons_of_mem _ (List.mem_append_left _ (List.mem_append_left _ (List.mem_append_right _ h)))) (by decide +kernel))) (goodIn_sub (fun _ h => List.mem_cons_of_mem _ (List.mem_append_left _ (List.mem_append_right _ h))) (by decide +kernel))
set_option maxRecDepth 20000 in
theorem gL_hours_X3_addWorker : GoodIn wsL_hours (wsV RL 28 RX3 yX3_addWorker wsX3_addWorker) := goodIn_app (goodIn_of _ (by decide +kernel)) ggL_hours_X3_addWorker
set_option maxRecDepth 20000 in
theorem ggL_hours_X3_addShift : GoodIn wsL_hours wsX3_addShift := goodIn_ca (goodIn_ca (goodIn_ca (goodIn_r _ [118, 44, 45, 20, 119, 120, 121, 122, 123, 124, 3, 125, 126, 127, 19, 128, 54, 55, 56, 17, 57, 58, 129, 130, 131, 132, 133, 134, 135, 136, 137, 138, 139, 140, 141, 142, 143, 144, 29, 49, 50, 51, 52, 53, 145, 146, 147, 148, 149, 150, 151, 152, 153, 154, 155, 156, 157, 158, 159, 160, 161, 162, 109, 84, 110, 163, 83, 85, 164, 165, 166, 167, 9, 10, 168, 169, 170, 64, 65, 66, 67, 68, 69, 70, 71, 72, 73, 74, 75, 76, 77, 78, 79, 80, 81, 28, 82, 86, 87, 88, 89, 90, 91, 92, 93, 94, 95, 96, 97, 23, 98, 99, 100, 101, 102, 103, 104, 105, 106, 107, 108, 111, 112, 113, 114, 359, 360, 361, 362, 363, 368, 369, 370, 371, 372, 364, 365, 366] (by decide +kernel) (by decide +kernel)) (goodIn_sub (fun _ h => List.mem_cons_of_mem _ (List.mem_append_left _ (List.mem_append_left _ (List.mem_append_right _ h)))) (by decide +kernel))) (goodIn_sub (fun _ h => List.mem_cons_of_mem _ (List.mem_append_right _ h)) (by decide +kernel))) (goodIn_sub (fun _ h => List.mem_cons_of_mem _ (List.mem_append_left _ (List.mem_append_right _ h))) (by decide +kernel))
set_option maxRecDepth 20000 in
theorem gL_hours_X3_addShift : GoodIn wsL_hours (wsV RL 35 RX3 yX3_addShift wsX3_addShift) := goodIn_app (goodIn_of _ (by decide +kernel)) ggL_hours_X3_addShift
set_option maxRecDepth 20000 in
theorem ggL_hours_L_act : GoodIn wsL_hours wsL_act := goodIn_ca (goodIn_ca (goodIn_ca (goodIn_r _ [174, 175, 176, 177, 178, 179, 180, 3, 181, 52, 53, 12, 49, 50, 51, 182, 183, 184, 185, 186, 187, 188, 189, 190, 126, 127, 18, 191, 54, 55, 56, 17, 57, 58, 129, 130, 131, 132, 133, 134, 135, 136, 137, 138, 139, 140, 141, 142, 143, 144, 29, 192, 193, 194, 195, 14, 40, 41, 42, 43, 44, 45, 19, 46, 47, 48, 59, 60, 61, 62, 9, 10, 63, 64, 65, 66, 67, 68, 69, 70, 71, 72, 73, 74, 75, 76, 77, 78, 79, 80, 81, 28, 82, 83, 84, 85, 86, 87, 88, 89, 90, 91, 92, 93, 94, 95, 96, 97, 23, 98, 99, 100, 101, 102, 103, 104, 105, 106, 107, 108, 109, 110, 111, 112, 113, 114, 196, 197, 198, 199, 200, 122, 123, 124, 125, 128, 115, 116, 117, 118, 20, 119, 120, 121, 145, 146, 147, 148, 149, 150, 151, 152, 153, 154, 155, 156, 157, 158, 159, 160, 161, 162, 163, 164, 165, 166, 167, 168, 169, 170, 201, 202, 203, 204, 205, 206, 207, 208, 209, 210, 211, 212, 213, 214, 215, 216, 217, 218, 219, 220, 221, 222, 223, 224, 225, 226, 227, 228, 229, 230, 231, 232, 233, 234, 235, 236, 237, 238, 239, 240, 241, 242, 243, 244, 245, 246, 247, 248, 249, 250, 251, 252, 253, 254, 255, 256, 257, 258, 259, 260, 261, 262, 263, 264, 265, 266, 267, 268, 269, 270, 271, 272, 273, 274, 275, 276, 277, 278, 279, 280, 281, 282, 283, 284, 285, 286, 287, 288, 289, 290, 291, 292, 293, 294, 295, 296, 297, 298, 299, 300, 301, 302, 303, 304, 305, 306, 307, 308, 309, 310, 311, 312, 313, 314, 315, 316, 317, 318, 319, 320, 321, 322, 323, 324, 325, 326, 327, 328, 329, 359, 360, 361, 362, 363, 373, 374, 375, 376, 377, 378, 379, 364, 365, 366, 367, 368, 369, 370, 371, 372] (by decide +kernel) (by decide +kernel)) (goodIn_sub (fun _ h => List.mem_cons_of_mem _ (List.mem_append_left _ (List.mem_append_right _ h))) (by decide +kernel))) (goodIn_sub (fun _ h => List.mem_cons_of_mem _ (List.mem_append_right _ h)) (by decide +kernel))) (goodIn_sub (fun _ h => List.mem_cons_of_mem _ (List.mem_append_left _ (List.mem_append_left _ (List.mem_append_right _ h)))) (by decide +kernel))
set_option maxRecDepth 20000 in
theorem gL_hours_L_act : GoodIn wsL_hours (va_wsS RL 80 yL_act wsL_act) := goodIn_app (goodIn_of _ (by decide +kernel)) ggL_hours_L_act
set_option maxRecDepth 20000 in
theorem ggL_hours_X3_worked : GoodIn wsL_hours wsX3_worked := goodIn_ca (goodIn_ca (goodIn_r _ [320, 122, 123, 124, 3, 125, 126, 127, 19, 128, 54, 55, 56, 17, 57, 58, 129, 130, 131, 132, 133, 134, 135, 136, 137, 138, 139, 140, 141, 142, 143, 144, 29, 49, 50, 51, 52, 53, 321, 322, 323, 324, 149, 150, 151, 152, 20, 153, 154, 155, 156, 157, 158, 121, 159, 160, 161, 162, 109, 84, 110, 163, 83, 85, 359, 360, 361, 362, 363, 364, 365, 366, 368, 369, 370, 371, 372] (by decide +kernel) (by decide +kernel)) (goodIn_sub (fun _ h => List.mem_cons_of_mem _ (List.mem_append_right _ h)) (by decide +kernel))) (goodIn_sub (fun _ h => List.mem_cons_of_mem _ (List.mem_append_left _ (List.mem_append_right _ h))) (by decide +kernel))
set_option maxRecDepth 20000 in
theorem gL_hours_X3_worked : GoodIn wsL_hours (wsV RL 67 RX3 yX3_worked wsX3_worked) := goodIn_app (goodIn_of _ (by decide +kernel)) ggL_hours_X3_worked
set_option maxRecDepth 20000 in
theorem ggL_hours_X3_excess : GoodIn wsL_hours wsX3_excess := goodIn_ca (goodIn_ca (goodIn_r _ [328, 329, 83, 84, 85, 122, 123, 124, 3, 125, 126, 127, 19, 128, 54, 55, 56, 17, 57, 58, 129, 130, 131, 132, 133, 134, 135, 136, 137, 138, 139, 140, 141, 142, 143, 144, 29, 49, 50, 51, 52, 53, 321, 322, 323, 324, 149, 150, 151, 152, 20, 153, 154, 155, 156, 157, 158, 121, 159, 160, 161, 162, 109, 110, 163, 359, 360, 361, 362, 363, 364, 365, 366, 368, 369, 370, 371, 372] (by decide +kernel) (by decide +kernel)) (goodIn_sub (fun _ h => List.mem_cons_of_mem _ (List.mem_append_right _ h)) (by decide +kernel))) (goodIn_sub (fun _ h => List.mem_cons_of_mem _ (List.mem_append_left _ (List.mem_append_right _ h))) (by decide +kernel))
set_option maxRecDepth 20000 in
theorem gL_hours_X3_excess : GoodIn wsL_hours (wsV RL 70 RX3 yX3_excess wsX3_excess) := goodIn_app (goodIn_of _ (by decide +kernel)) ggL_hours_X3_excess
set_option maxRecDepth 20000 in
theorem ggL_hours_X3_cancel : GoodIn wsL_hours wsX3_cancel := goodIn_ca (goodIn_ca (goodIn_r _ [204, 155, 205, 206, 207, 3, 208, 126, 127, 20, 153, 54, 55, 56, 17, 57, 58, 129, 130, 131, 132, 133, 134, 135, 136, 137, 138, 139, 140, 141, 142, 143, 144, 29, 209, 210, 211, 44, 45, 212, 213, 214, 215, 154, 200, 216, 217, 218, 219, 12, 220, 221, 222, 121, 223, 170, 169, 163, 83, 84, 85, 224, 225, 226, 227, 161, 228, 229, 230, 231, 232, 233, 234, 235, 236, 237, 238, 239, 240, 18, 191, 241, 242, 243, 244, 160, 245, 246, 247, 248, 249, 250, 251, 252, 14, 253, 254, 255, 256, 257, 258, 259, 260, 261, 262, 263, 264, 265, 266, 267, 268, 269, 270, 271, 272, 273, 274, 275, 368, 369, 370, 371, 372, 359, 360, 361, 362, 363, 364, 365, 366, 367, 373, 374, 375, 376, 377, 378, 379] (by decide +kernel) (by decide +kernel)) (goodIn_sub (fun _ h => List.mem_cons_of_mem _ (List.mem_append_right _ h)) (by decide +kernel))) (goodIn_sub (fun _ h => List.mem_cons_of_mem _ (List.mem_append_left _ (List.mem_append_left _ (List.mem_append_right _ h)))) (by decide +kernel))
set_option maxRecDepth 20000 in
theorem gL_hours_X3_cancel : GoodIn wsL_hours (wsV RL 39 RX3 yX3_cancel wsX3_cancel) := goodIn_app (goodIn_of _ (by decide +kernel)) ggL_hours_X3_cancel
set_option maxRecDepth 20000 in
theorem ggL_hours_X3_pay : GoodIn wsL_hours wsX3_pay := goodIn_ca (goodIn_r _ [304, 205, 206, 207, 3, 208, 126, 127, 20, 153, 54, 55, 56, 17, 57, 58, 129, 130, 131, 132, 133, 134, 135, 136, 137, 138, 139, 140, 141, 142, 143, 144, 29, 212, 213, 214, 215, 154, 200, 216, 217, 218, 219, 12, 220, 221, 222, 121, 223, 170, 169, 163, 83, 84, 85, 224, 225, 226, 227, 161, 228, 229, 230, 231, 232, 233, 234, 235, 236, 237, 238, 239, 240, 18, 191, 241, 242, 243, 244, 160, 245, 246, 247, 248, 249, 250, 251, 252, 14, 253, 254, 255, 256, 257, 258, 259, 260, 261, 262, 263, 264, 265, 266, 267, 268, 269, 270, 271, 272, 273, 274, 275, 359, 360, 361, 362, 363, 364, 365, 366, 368, 369, 370, 371, 372, 367, 373, 374, 375, 376, 377, 378, 379] (by decide +kernel) (by decide +kernel)) (goodIn_sub (fun _ h => List.mem_cons_of_mem _ (List.mem_append_right _ h)) (by decide +kernel))
set_option maxRecDepth 20000 in
theorem gL_hours_X3_pay : GoodIn wsL_hours (wsV RL 57 RX3 yX3_pay wsX3_pay) := goodIn_app (goodIn_of _ (by decide +kernel)) ggL_hours_X3_pay
set_option maxRecDepth 20000 in
theorem ggL_hours_X3_setHoliday : GoodIn wsL_hours wsX3_setHoliday := goodIn_ca (goodIn_r _ [195, 52, 53, 14, 359, 360, 361, 362, 363] (by decide +kernel) (by decide +kernel)) (goodIn_sub (fun _ h => List.mem_cons_of_mem _ (List.mem_append_left _ (List.mem_append_right _ h))) (by decide +kernel))
set_option maxRecDepth 20000 in
theorem gL_hours_X3_setHoliday : GoodIn wsL_hours (wsV RL 25 RX3 yX3_setHoliday wsX3_setHoliday) := goodIn_app (goodIn_of _ (by decide +kernel)) ggL_hours_X3_setHoliday
set_option maxRecDepth 20000 in
theorem ggL_most_L_act : GoodIn wsL_most wsL_act := goodIn_ca (goodIn_ca (goodIn_ca (goodIn_r _ [4, 5, 6, 7, 8, 9, 10, 11, 12, 13, 14, 15, 16, 17, 18, 19, 20, 21, 22, 23, 24, 25, 26, 27, 28, 29, 30, 31, 32, 33, 34, 35, 36, 37, 38, 39, 40, 41, 42, 43, 44, 45, 46, 47, 48, 49, 50, 51, 52, 53, 54, 55, 56, 57, 58, 59, 60, 61, 62, 63, 64, 65, 66, 67, 68, 69, 70, 71, 72, 73, 74, 75, 76, 77, 78, 79, 80, 81, 82, 83, 84, 85, 86, 87, 88, 89, 90, 91, 92, 93, 94, 95, 96, 97, 98, 99, 100, 101, 102, 103, 104, 105, 106, 107, 108, 109, 110, 111, 112, 113, 114, 115, 116, 117, 118, 119, 120, 121, 122, 123, 124, 125, 126, 127, 128, 129, 130, 131, 132, 133, 134, 135, 136, 137, 138, 139, 140, 141, 142, 143, 144, 145, 146, 147, 148, 149, 150, 151, 152, 153, 154, 155, 156, 157, 158, 159, 160, 161, 162, 163, 164, 165, 166, 167, 168, 169, 170, 171, 172, 173, 174, 175, 176, 177, 178, 179, 180, 181, 182, 183, 184, 185, 186, 187, 188, 189, 190, 191, 192, 193, 194, 195, 196, 197, 198, 199, 200, 201, 202, 203, 204, 205, 206, 207, 208, 209, 210, 211, 212, 213, 214, 215, 216, 217, 218, 219, 220, 221, 222, 223, 224, 225, 226, 227, 228, 229, 230, 231, 232, 233, 234, 235, 236, 237, 238, 239, 240, 241, 242, 243, 244, 245, 246, 247, 248, 249, 250, 251, 252, 253, 254, 255, 256, 257, 258, 259, 260, 261, 262, 263, 264, 265, 266, 267, 268, 269, 270, 271, 272, 273, 274, 275, 276, 277, 278, 279, 280, 281, 282, 283, 284, 285, 286, 287, 288, 289, 290, 291, 292, 293, 294, 295, 296, 297, 298, 299, 300, 301, 302, 329, 330, 331, 332, 333, 334, 335, 336, 337, 338, 339, 340, 341, 342, 343, 344, 345, 346, 347, 348, 349] (by decide +kernel) (by decide +kernel)) (goodIn_sub (fun _ h => List.mem_cons_of_mem _ (List.mem_append_left _ (List.mem_append_left _ (List.mem_append_right _ h)))) (by decide +kernel))) (goodIn_sub (fun _ h => List.mem_cons_of_mem _ (List.mem_append_left _ (List.mem_append_right _ h))) (by decide +kernel))) (goodIn_sub (fun _ h => List.mem_cons_of_mem _ (List.mem_append_right _ h)) (by decide +kernel))
set_option maxRecDepth 20000 in
theorem gL_most_L_act : GoodIn wsL_most (va_wsS RL 80 yL_act wsL_act) := goodIn_app (goodIn_of _ (by decide +kernel)) ggL_most_L_act
set_option maxRecDepth 20000 in
theorem ggL_most_L_rule : GoodIn wsL_most wsL_rule := goodIn_ca (goodIn_ca (goodIn_r _ [305, 6, 7, 306, 307, 308, 11, 309, 64, 65, 30, 310, 311, 232, 16, 17, 18, 13, 14, 32, 33, 34, 35, 36, 37, 312, 313, 314, 315, 74, 75, 316, 245, 236, 237, 235, 317, 234, 77, 78, 79, 80, 81, 82, 54, 83, 84, 85, 86, 87, 88, 89, 90, 91, 92, 93, 94, 95, 96, 97, 98, 99, 100, 101, 102, 103, 104, 105, 106, 107, 108, 109, 110, 111, 112, 113, 114, 115, 116, 117, 118, 119, 120, 121, 122, 123, 124, 125, 126, 127, 128, 129, 329, 330, 331, 332, 333, 334, 335, 336, 337, 338, 339, 340, 341, 342, 343] (by decide +kernel) (by decide +kernel)) (goodIn_sub (fun _ h => List.mem_cons_of_mem _ (List.mem_append_right _ h)) (by decide +kernel))) (goodIn_sub (fun _ h => List.mem_cons_of_mem _ (List.mem_append_left _ (List.mem_append_left _ (List.mem_append_right _ h)))) (by decide +kernel))
set_option maxRecDepth 20000 in
theorem gL_most_L_rule : GoodIn wsL_most (va_wsS RL 86 yL_rule wsL_rule) := goodIn_app (goodIn_of _ (by decide +kernel)) ggL_most_L_rule
set_option maxRecDepth 20000 in
theorem ggL_most_X3_paidBy : GoodIn wsL_most wsX3_paidBy := goodIn_ca (goodIn_r _ [285, 144, 156, 24, 25, 26, 11, 27, 28, 29, 30, 31, 32, 33, 34, 35, 36, 37, 38, 39, 40, 41, 42, 43, 44, 45, 46, 47, 48, 49, 50, 51, 52, 53, 54, 286, 287, 288, 289, 157, 134, 269, 209, 189, 190, 191, 192, 15, 201, 202, 203, 147, 204, 173, 164, 166, 97, 98, 99, 210, 211, 212, 213, 214, 215, 216, 217, 163, 218, 219, 220, 221, 222, 223, 224, 225, 59, 226, 227, 228, 229, 230, 231, 232, 233, 234, 235, 236, 237, 238, 239, 240, 241, 242, 243, 244, 245, 246, 247, 248, 329, 330, 331, 332, 333, 341, 342, 343, 345, 346, 347, 348, 349, 344, 334, 335, 336, 337, 338, 339, 340] (by decide +kernel) (by decide +kernel)) (goodIn_sub (fun _ h => List.mem_cons_of_mem _ (List.mem_append_left _ (List.mem_append_right _ h))) (by decide +kernel))
set_option maxRecDepth 20000 in
theorem gL_most_X3_paidBy : GoodIn wsL_most (wsV RL 64 RX3 yX3_paidBy wsX3_paidBy) := goodIn_app (goodIn_of _ (by decide +kernel)) ggL_most_X3_paidBy
set_option maxRecDepth 20000 in
theorem ggL_most_L_at : GoodIn wsL_most wsL_at := goodIn_ca (goodIn_r _ [320, 258, 259, 260, 11, 261, 178, 179, 180, 181, 28, 29, 144, 156, 32, 33, 34, 35, 36, 37, 38, 39, 40, 41, 42, 43, 44, 45, 46, 47, 48, 49, 50, 51, 52, 53, 54, 262, 263, 264, 201, 202, 203, 147, 204, 173, 164, 166, 97, 98, 99, 205, 206, 207, 208, 209, 210, 211, 212, 213, 30, 31, 157, 134, 214, 215, 216, 217, 163, 218, 219, 220, 221, 222, 223, 224, 225, 59, 226, 227, 228, 229, 230, 231, 232, 233, 234, 235, 236, 237, 238, 239, 240, 241, 242, 243, 244, 245, 265, 266, 267, 268, 269, 329, 330, 331, 332, 333, 341, 342, 343, 345, 346, 347, 348, 349, 334, 335, 336, 337, 338, 339, 340, 344] (by decide +kernel) (by decide +kernel)) (goodIn_sub (fun _ h => List.mem_cons_of_mem _ (List.mem_append_left _ (List.mem_append_right _ h))) (by decide +kernel))
set_option maxRecDepth 20000 in
theorem gL_most_L_at : GoodIn wsL_most (va_wsS RL 94 yL_at wsL_at) := goodIn_app (goodIn_of _ (by decide +kernel)) ggL_most_L_at
theorem dL_most_0 : decode cL_most 0 = .ok (.bipush 76, 2) := by decide +kernel
theorem dL_most_2 : decode cL_most 2 = .ok (.istore_n 1, 1) := by decide +kernel
theorem dL_most_3 : decode cL_most 3 = .ok (.iload_n 1, 1) := by decide +kernel
theorem dL_most_4 : decode cL_most 4 = .ok (.bipush 81, 2) := by decide +kernel
theorem dL_most_6 : decode cL_most 6 = .ok (.if_icmp .ge 35, 3) := by decide +kernel
theorem dL_most_9 : decode cL_most 9 = .ok (.aload_n 0, 1) := by decide +kernel
theorem dL_most_10 : decode cL_most 10 = .ok (.iconst 5, 1) := by decide +kernel
theorem dL_most_11 : decode cL_most 11 = .ok (.iconst 0, 1) := by decide +kernel
theorem dL_most_12 : decode cL_most 12 = .ok (.iconst 1, 1) := by decide +kernel
theorem dL_most_13 : decode cL_most 13 = .ok (.iload_n 1, 1) := by decide +kernel
theorem dL_most_14 : decode cL_most 14 = .ok (.iconst 1, 1) := by decide +kernel
theorem dL_most_15 : decode cL_most 15 = .ok (.invokestatic 80, 3) := by decide +kernel
theorem dL_most_18 : decode cL_most 18 = .ok (.iload_n 1, 1) := by decide +kernel
theorem dL_most_19 : decode cL_most 19 = .ok (.bipush 80, 2) := by decide +kernel
theorem dL_most_21 : decode cL_most 21 = .ok (.if_icmp .ge 7, 3) := by decide +kernel
theorem dL_most_24 : decode cL_most 24 = .ok (.iload_n 1, 1) := by decide +kernel
theorem dL_most_25 : decode cL_most 25 = .ok (.goto 5, 3) := by decide +kernel
theorem dL_most_28 : decode cL_most 28 = .ok (.bipush (-73), 2) := by decide +kernel
theorem dL_most_30 : decode cL_most 30 = .ok (.if_icmp .eq 5, 3) := by decide +kernel
theorem dL_most_33 : decode cL_most 33 = .ok (.iconst 0, 1) := by decide +kernel
theorem dL_most_34 : decode cL_most 34 = .ok (.ireturn, 1) := by decide +kernel
theorem dL_most_35 : decode cL_most 35 = .ok (.iinc 1 1, 3) := by decide +kernel
theorem dL_most_38 : decode cL_most 38 = .ok (.goto (-35), 3) := by decide +kernel
theorem dL_most_41 : decode cL_most 41 = .ok (.iconst 1, 1) := by decide +kernel
theorem dL_most_42 : decode cL_most 42 = .ok (.istore_n 1, 1) := by decide +kernel
theorem dL_most_43 : decode cL_most 43 = .ok (.iload_n 1, 1) := by decide +kernel
theorem dL_most_44 : decode cL_most 44 = .ok (.bipush 13, 2) := by decide +kernel
theorem dL_most_46 : decode cL_most 46 = .ok (.if_icmp .ge 37, 3) := by decide +kernel
theorem dL_most_49 : decode cL_most 49 = .ok (.aload_n 0, 1) := by decide +kernel
theorem dL_most_50 : decode cL_most 50 = .ok (.iconst 3, 1) := by decide +kernel
theorem dL_most_51 : decode cL_most 51 = .ok (.iload_n 1, 1) := by decide +kernel
theorem dL_most_52 : decode cL_most 52 = .ok (.iconst 4, 1) := by decide +kernel
theorem dL_most_53 : decode cL_most 53 = .ok (.irem, 1) := by decide +kernel
theorem dL_most_54 : decode cL_most 54 = .ok (.iconst 0, 1) := by decide +kernel
theorem dL_most_55 : decode cL_most 55 = .ok (.iconst 0, 1) := by decide +kernel
theorem dL_most_56 : decode cL_most 56 = .ok (.iconst 0, 1) := by decide +kernel
theorem dL_most_57 : decode cL_most 57 = .ok (.invokestatic 80, 3) := by decide +kernel
theorem dL_most_60 : decode cL_most 60 = .ok (.iload_n 1, 1) := by decide +kernel
theorem dL_most_61 : decode cL_most 61 = .ok (.bipush 12, 2) := by decide +kernel
theorem dL_most_63 : decode cL_most 63 = .ok (.if_icmp .ge 7, 3) := by decide +kernel
theorem dL_most_66 : decode cL_most 66 = .ok (.iload_n 1, 1) := by decide +kernel
theorem dL_most_67 : decode cL_most 67 = .ok (.goto 5, 3) := by decide +kernel
theorem dL_most_70 : decode cL_most 70 = .ok (.bipush (-73), 2) := by decide +kernel
theorem dL_most_72 : decode cL_most 72 = .ok (.if_icmp .eq 5, 3) := by decide +kernel
theorem dL_most_75 : decode cL_most 75 = .ok (.iconst 0, 1) := by decide +kernel
theorem dL_most_76 : decode cL_most 76 = .ok (.ireturn, 1) := by decide +kernel
theorem dL_most_77 : decode cL_most 77 = .ok (.iinc 1 1, 3) := by decide +kernel
theorem dL_most_80 : decode cL_most 80 = .ok (.goto (-37), 3) := by decide +kernel
theorem dL_most_83 : decode cL_most 83 = .ok (.iconst 0, 1) := by decide +kernel
theorem dL_most_84 : decode cL_most 84 = .ok (.istore_n 1, 1) := by decide +kernel
theorem dL_most_85 : decode cL_most 85 = .ok (.iload_n 1, 1) := by decide +kernel
theorem dL_most_86 : decode cL_most 86 = .ok (.bipush 17, 2) := by decide +kernel
theorem dL_most_88 : decode cL_most 88 = .ok (.if_icmp .ge 41, 3) := by decide +kernel
theorem dL_most_91 : decode cL_most 91 = .ok (.aload_n 0, 1) := by decide +kernel
theorem dL_most_92 : decode cL_most 92 = .ok (.bipush 127, 2) := by decide +kernel
theorem dL_most_94 : decode cL_most 94 = .ok (.iconst 0, 1) := by decide +kernel
theorem dL_most_95 : decode cL_most 95 = .ok (.bipush 96, 2) := by decide +kernel
theorem dL_most_97 : decode cL_most 97 = .ok (.bipush 8, 2) := by decide +kernel
theorem dL_most_99 : decode cL_most 99 = .ok (.bipush 100, 2) := by decide +kernel
theorem dL_most_101 : decode cL_most 101 = .ok (.iload_n 1, 1) := by decide +kernel
theorem dL_most_102 : decode cL_most 102 = .ok (.iadd, 1) := by decide +kernel
theorem dL_most_103 : decode cL_most 103 = .ok (.invokestatic 86, 3) := by decide +kernel
theorem dL_most_106 : decode cL_most 106 = .ok (.iload_n 1, 1) := by decide +kernel
theorem dL_most_107 : decode cL_most 107 = .ok (.bipush 16, 2) := by decide +kernel
theorem dL_most_109 : decode cL_most 109 = .ok (.if_icmp .ge 7, 3) := by decide +kernel
theorem dL_most_112 : decode cL_most 112 = .ok (.iload_n 1, 1) := by decide +kernel
theorem dL_most_113 : decode cL_most 113 = .ok (.goto 5, 3) := by decide +kernel
theorem dL_most_116 : decode cL_most 116 = .ok (.bipush (-73), 2) := by decide +kernel
theorem dL_most_118 : decode cL_most 118 = .ok (.if_icmp .eq 5, 3) := by decide +kernel
theorem dL_most_121 : decode cL_most 121 = .ok (.iconst 0, 1) := by decide +kernel
theorem dL_most_122 : decode cL_most 122 = .ok (.ireturn, 1) := by decide +kernel
theorem dL_most_123 : decode cL_most 123 = .ok (.iinc 1 1, 3) := by decide +kernel
theorem dL_most_126 : decode cL_most 126 = .ok (.goto (-41), 3) := by decide +kernel
theorem dL_most_129 : decode cL_most 129 = .ok (.aload_n 0, 1) := by decide +kernel
theorem dL_most_130 : decode cL_most 130 = .ok (.bipush 14, 2) := by decide +kernel
theorem dL_most_132 : decode cL_most 132 = .ok (.invokevirtual 64, 3) := by decide +kernel
theorem dL_most_135 : decode cL_most 135 = .ok (.ifCond .ne 31, 3) := by decide +kernel
theorem dL_most_138 : decode cL_most 138 = .ok (.aload_n 0, 1) := by decide +kernel
theorem dL_most_139 : decode cL_most 139 = .ok (.iconst 0, 1) := by decide +kernel
theorem dL_most_140 : decode cL_most 140 = .ok (.iconst 0, 1) := by decide +kernel
theorem dL_most_141 : decode cL_most 141 = .ok (.bipush 115, 2) := by decide +kernel
theorem dL_most_143 : decode cL_most 143 = .ok (.bipush 15, 2) := by decide +kernel
theorem dL_most_145 : decode cL_most 145 = .ok (.invokestatic 94, 3) := by decide +kernel
theorem dL_most_148 : decode cL_most 148 = .ok (.ifCond .eq 18, 3) := by decide +kernel
theorem dL_most_151 : decode cL_most 151 = .ok (.aload_n 0, 1) := by decide +kernel
theorem dL_most_152 : decode cL_most 152 = .ok (.bipush 16, 2) := by decide +kernel
theorem dL_most_154 : decode cL_most 154 = .ok (.bipush 12, 2) := by decide +kernel
theorem dL_most_156 : decode cL_most 156 = .ok (.invokestatic 90, 3) := by decide +kernel
theorem dL_most_159 : decode cL_most 159 = .ok (.ifCond .eq 7, 3) := by decide +kernel
theorem dL_most_162 : decode cL_most 162 = .ok (.iconst 1, 1) := by decide +kernel
theorem dL_most_163 : decode cL_most 163 = .ok (.goto 4, 3) := by decide +kernel
theorem dL_most_166 : decode cL_most 166 = .ok (.iconst 0, 1) := by decide +kernel
theorem dL_most_167 : decode cL_most 167 = .ok (.ireturn, 1) := by decide +kernel
set_option maxRecDepth 20000 in
theorem ggL_law_X3_init : GoodIn wsL_law wsX3_init := goodIn_r _ [9, 10, 11, 12, 13, 14, 15, 16, 17, 18, 19, 20, 21, 22, 23, 24, 25, 26, 27, 28, 29, 30, 31, 32, 33, 34, 35, 36, 37, 38, 39, 40, 41, 364, 365, 366, 367, 368, 369, 370, 371] (by decide +kernel) (by decide +kernel)
set_option maxRecDepth 20000 in
theorem gL_law_X3_init : GoodIn wsL_law (wsX3_init) := ggL_law_X3_init
set_option maxRecDepth 20000 in
theorem ggL_law_X3_addWorker : GoodIn wsL_law wsX3_addWorker := goodIn_ca (goodIn_ca (goodIn_r _ [101, 102, 103, 21, 104, 105, 106, 63, 64, 2, 65, 61, 62, 46, 47, 48, 19, 49, 50, 107, 108, 109, 110, 11, 12, 111, 112, 113, 114, 115, 116, 117, 31, 118, 119, 120, 121, 122, 123, 124, 125, 126, 127, 128, 129, 30, 130, 131, 132, 133, 134, 135, 136, 137, 138, 139, 140, 141, 142, 143, 144, 145, 25, 146, 147, 148, 149, 150, 151, 152, 153, 154, 155, 156, 157, 158, 159, 160, 161, 162, 364, 365, 366, 367, 368, 379, 369, 370, 371] (by decide +kernel) (by decide +kernel)) (goodIn_sub (fun _ h => List.mem_append_right _ h) (by decide +kernel))) (goodIn_sub (fun _ h => List.mem_append_left _ (List.mem_append_left _ (List.mem_append_right _ h))) (by decide +kernel))
set_option maxRecDepth 20000 in
theorem gL_law_X3_addWorker : GoodIn wsL_law (wsV RL 28 RX3 yX3_addWorker wsX3_addWorker) := goodIn_app (goodIn_of _ (by decide +kernel)) ggL_law_X3_addWorker
set_option maxRecDepth 20000 in
theorem ggL_law_L_rule : GoodIn wsL_law wsL_rule := goodIn_ca (goodIn_ca (goodIn_r _ [341, 55, 56, 342, 343, 344, 2, 345, 102, 103, 20, 346, 347, 264, 63, 64, 65, 61, 62, 46, 47, 48, 19, 49, 50, 348, 349, 350, 351, 11, 12, 352, 277, 268, 269, 267, 353, 266, 112, 113, 114, 115, 116, 117, 31, 118, 119, 120, 121, 122, 123, 124, 125, 126, 127, 128, 129, 30, 130, 131, 132, 133, 134, 135, 136, 137, 138, 139, 140, 141, 142, 143, 144, 145, 25, 146, 147, 148, 149, 150, 151, 152, 153, 154, 155, 156, 157, 158, 159, 160, 161, 162, 364, 365, 366, 367, 368, 372, 373, 374, 375, 376, 377, 378, 369, 370, 371] (by decide +kernel) (by decide +kernel)) (goodIn_sub (fun _ h => List.mem_append_right _ h) (by decide +kernel))) (goodIn_sub (fun _ h => List.mem_append_left _ (List.mem_append_left _ (List.mem_append_right _ h))) (by decide +kernel))
set_option maxRecDepth 20000 in
theorem gL_law_L_rule : GoodIn wsL_law (va_wsS RL 86 yL_rule wsL_rule) := goodIn_app (goodIn_of _ (by decide +kernel)) ggL_law_L_rule
set_option maxRecDepth 20000 in
theorem ggL_law_X3_addShift : GoodIn wsL_law wsX3_addShift := goodIn_ca (goodIn_ca (goodIn_ca (goodIn_r _ [176, 102, 103, 22, 177, 178, 179, 168, 169, 170, 2, 171, 75, 76, 21, 172, 46, 47, 48, 19, 49, 50, 78, 79, 80, 81, 82, 83, 84, 85, 86, 87, 88, 89, 90, 91, 92, 93, 31, 63, 64, 65, 61, 62, 180, 181, 182, 183, 184, 185, 186, 187, 188, 189, 190, 191, 192, 193, 194, 195, 196, 197, 157, 132, 158, 198, 131, 133, 199, 200, 201, 202, 11, 12, 203, 204, 205, 112, 113, 114, 115, 116, 117, 118, 119, 120, 121, 122, 123, 124, 125, 126, 127, 128, 129, 30, 130, 134, 135, 136, 137, 138, 139, 140, 141, 142, 143, 144, 145, 25, 146, 147, 148, 149, 150, 151, 152, 153, 154, 155, 156, 159, 160, 161, 162, 364, 365, 366, 367, 368, 380, 381, 382, 383, 384, 369, 370, 371] (by decide +kernel) (by decide +kernel)) (goodIn_sub (fun _ h => List.mem_append_right _ h) (by decide +kernel))) (goodIn_sub (fun _ h => List.mem_append_left _ (List.mem_append_right _ h)) (by decide +kernel))) (goodIn_sub (fun _ h => List.mem_append_left _ (List.mem_append_left _ (List.mem_append_right _ h))) (by decide +kernel))
set_option maxRecDepth 20000 in
theorem gL_law_X3_addShift : GoodIn wsL_law (wsV RL 35 RX3 yX3_addShift wsX3_addShift) := goodIn_app (goodIn_of _ (by decide +kernel)) ggL_law_X3_addShift
set_option maxRecDepth 20000 in
theorem ggL_law_X3_paidQuarters : GoodIn wsL_law wsX3_paidQuarters := goodIn_ca (goodIn_r _ [289, 210, 211, 212, 2, 213, 75, 76, 22, 188, 46, 47, 48, 19, 49, 50, 78, 79, 80, 81, 82, 83, 84, 85, 86, 87, 88, 89, 90, 91, 92, 93, 31, 233, 234, 235, 179, 236, 205, 196, 198, 131, 132, 133, 364, 365, 366, 367, 368, 369, 370, 371, 380, 381, 382, 383, 384] (by decide +kernel) (by decide +kernel)) (goodIn_sub (fun _ h => List.mem_append_left _ (List.mem_append_right _ h)) (by decide +kernel))
set_option maxRecDepth 20000 in
theorem gL_law_X3_paidQuarters : GoodIn wsL_law (wsV RL 45 RX3 yX3_paidQuarters wsX3_paidQuarters) := goodIn_app (goodIn_of _ (by decide +kernel)) ggL_law_X3_paidQuarters
set_option maxRecDepth 20000 in
theorem ggL_law_X3_pay : GoodIn wsL_law wsX3_pay := goodIn_ca (goodIn_r _ [309, 210, 211, 212, 2, 213, 75, 76, 22, 188, 46, 47, 48, 19, 49, 50, 78, 79, 80, 81, 82, 83, 84, 85, 86, 87, 88, 89, 90, 91, 92, 93, 31, 217, 218, 219, 220, 189, 167, 221, 222, 223, 224, 14, 225, 226, 227, 179, 228, 205, 204, 198, 131, 132, 133, 229, 230, 231, 232, 196, 233, 234, 235, 236, 237, 238, 239, 240, 241, 242, 243, 244, 245, 20, 77, 246, 247, 248, 249, 195, 250, 251, 252, 253, 254, 255, 256, 257, 16, 258, 259, 260, 261, 262, 263, 264, 265, 266, 267, 268, 269, 270, 271, 272, 273, 274, 275, 276, 277, 278, 279, 280, 364, 365, 366, 367, 368, 369, 370, 371, 380, 381, 382, 383, 384, 379, 372, 373, 374, 375, 376, 377, 378] (by decide +kernel) (by decide +kernel)) (goodIn_sub (fun _ h => List.mem_append_left _ (List.mem_append_right _ h)) (by decide +kernel))
set_option maxRecDepth 20000 in
theorem gL_law_X3_pay : GoodIn wsL_law (wsV RL 57 RX3 yX3_pay wsX3_pay) := goodIn_app (goodIn_of _ (by decide +kernel)) ggL_law_X3_pay
theorem dL_law_0 : decode cL_law 0 = .ok (.invokestatic 103, 3) := by decide +kernel
theorem dL_law_3 : decode cL_law 3 = .ok (.ifCond .eq 9, 3) := by decide +kernel
theorem dL_law_6 : decode cL_law 6 = .ok (.invokestatic 107, 3) := by decide +kernel
theorem dL_law_9 : decode cL_law 9 = .ok (.ifCond .ne 5, 3) := by decide +kernel
theorem dL_law_12 : decode cL_law 12 = .ok (.iconst 0, 1) := by decide +kernel
theorem dL_law_13 : decode cL_law 13 = .ok (.ireturn, 1) := by decide +kernel
theorem dL_law_14 : decode cL_law 14 = .ok (.new 8, 3) := by decide +kernel
theorem dL_law_17 : decode cL_law 17 = .ok (.dup, 1) := by decide +kernel
theorem dL_law_18 : decode cL_law 18 = .ok (.invokespecial 89, 3) := by decide +kernel
theorem dL_law_21 : decode cL_law 21 = .ok (.astore_n 1, 1) := by decide +kernel
theorem dL_law_22 : decode cL_law 22 = .ok (.aload_n 1, 1) := by decide +kernel
theorem dL_law_23 : decode cL_law 23 = .ok (.iconst 1, 1) := by decide +kernel
theorem dL_law_24 : decode cL_law 24 = .ok (.invokevirtual 28, 3) := by decide +kernel
theorem dL_law_27 : decode cL_law 27 = .ok (.ifCond .eq 5, 3) := by decide +kernel
theorem dL_law_30 : decode cL_law 30 = .ok (.iconst 0, 1) := by decide +kernel
theorem dL_law_31 : decode cL_law 31 = .ok (.ireturn, 1) := by decide +kernel
theorem dL_law_32 : decode cL_law 32 = .ok (.iconst 0, 1) := by decide +kernel
theorem dL_law_33 : decode cL_law 33 = .ok (.istore_n 2, 1) := by decide +kernel
theorem dL_law_34 : decode cL_law 34 = .ok (.iload_n 2, 1) := by decide +kernel
theorem dL_law_35 : decode cL_law 35 = .ok (.bipush 16, 2) := by decide +kernel
theorem dL_law_37 : decode cL_law 37 = .ok (.if_icmp .ge 153, 3) := by decide +kernel
theorem dL_law_40 : decode cL_law 40 = .ok (.aload_n 0, 1) := by decide +kernel
theorem dL_law_41 : decode cL_law 41 = .ok (.arraylength, 1) := by decide +kernel
theorem dL_law_42 : decode cL_law 42 = .ok (.ifCond .ne 10, 3) := by decide +kernel
theorem dL_law_45 : decode cL_law 45 = .ok (.bipush 29, 2) := by decide +kernel
theorem dL_law_47 : decode cL_law 47 = .ok (.iload_n 2, 1) := by decide +kernel
theorem dL_law_48 : decode cL_law 48 = .ok (.imul, 1) := by decide +kernel
theorem dL_law_49 : decode cL_law 49 = .ok (.goto 12, 3) := by decide +kernel
theorem dL_law_52 : decode cL_law 52 = .ok (.aload_n 0, 1) := by decide +kernel
theorem dL_law_53 : decode cL_law 53 = .ok (.iload_n 2, 1) := by decide +kernel
theorem dL_law_54 : decode cL_law 54 = .ok (.aload_n 0, 1) := by decide +kernel
theorem dL_law_55 : decode cL_law 55 = .ok (.arraylength, 1) := by decide +kernel
theorem dL_law_56 : decode cL_law 56 = .ok (.irem, 1) := by decide +kernel
theorem dL_law_57 : decode cL_law 57 = .ok (.iaload, 1) := by decide +kernel
theorem dL_law_58 : decode cL_law 58 = .ok (.bipush 8, 2) := by decide +kernel
theorem dL_law_60 : decode cL_law 60 = .ok (.iushr, 1) := by decide +kernel
theorem dL_law_61 : decode cL_law 61 = .ok (.istore_n 3, 1) := by decide +kernel
theorem dL_law_62 : decode cL_law 62 = .ok (.iload_n 3, 1) := by decide +kernel
theorem dL_law_63 : decode cL_law 63 = .ok (.bipush 96, 2) := by decide +kernel
theorem dL_law_65 : decode cL_law 65 = .ok (.irem, 1) := by decide +kernel
theorem dL_law_66 : decode cL_law 66 = .ok (.istore 4, 2) := by decide +kernel
theorem dL_law_68 : decode cL_law 68 = .ok (.aload_n 1, 1) := by decide +kernel
theorem dL_law_69 : decode cL_law 69 = .ok (.iload_n 3, 1) := by decide +kernel
theorem dL_law_70 : decode cL_law 70 = .ok (.sipush 128, 3) := by decide +kernel
theorem dL_law_73 : decode cL_law 73 = .ok (.irem, 1) := by decide +kernel
theorem dL_law_74 : decode cL_law 74 = .ok (.iload 4, 2) := by decide +kernel
theorem dL_law_76 : decode cL_law 76 = .ok (.iload 4, 2) := by decide +kernel
theorem dL_law_78 : decode cL_law 78 = .ok (.iconst 1, 1) := by decide +kernel
theorem dL_law_79 : decode cL_law 79 = .ok (.iadd, 1) := by decide +kernel
theorem dL_law_80 : decode cL_law 80 = .ok (.iload_n 3, 1) := by decide +kernel
theorem dL_law_81 : decode cL_law 81 = .ok (.bipush 96, 2) := by decide +kernel
theorem dL_law_83 : decode cL_law 83 = .ok (.idiv, 1) := by decide +kernel
theorem dL_law_84 : decode cL_law 84 = .ok (.bipush 96, 2) := by decide +kernel
theorem dL_law_86 : decode cL_law 86 = .ok (.iload 4, 2) := by decide +kernel
theorem dL_law_88 : decode cL_law 88 = .ok (.isub, 1) := by decide +kernel
theorem dL_law_89 : decode cL_law 89 = .ok (.irem, 1) := by decide +kernel
theorem dL_law_90 : decode cL_law 90 = .ok (.iadd, 1) := by decide +kernel
theorem dL_law_91 : decode cL_law 91 = .ok (.iconst 1, 1) := by decide +kernel
theorem dL_law_92 : decode cL_law 92 = .ok (.iload_n 3, 1) := by decide +kernel
theorem dL_law_93 : decode cL_law 93 = .ok (.bipush 15, 2) := by decide +kernel
theorem dL_law_95 : decode cL_law 95 = .ok (.irem, 1) := by decide +kernel
theorem dL_law_96 : decode cL_law 96 = .ok (.iadd, 1) := by decide +kernel
theorem dL_law_97 : decode cL_law 97 = .ok (.bipush 100, 2) := by decide +kernel
theorem dL_law_99 : decode cL_law 99 = .ok (.iload_n 3, 1) := by decide +kernel
theorem dL_law_100 : decode cL_law 100 = .ok (.sipush 301, 3) := by decide +kernel
theorem dL_law_103 : decode cL_law 103 = .ok (.irem, 1) := by decide +kernel
theorem dL_law_104 : decode cL_law 104 = .ok (.iadd, 1) := by decide +kernel
theorem dL_law_105 : decode cL_law 105 = .ok (.invokestatic 86, 3) := by decide +kernel
theorem dL_law_108 : decode cL_law 108 = .ok (.iload_n 2, 1) := by decide +kernel
theorem dL_law_109 : decode cL_law 109 = .ok (.if_icmp .ne 73, 3) := by decide +kernel
theorem dL_law_112 : decode cL_law 112 = .ok (.aload_n 1, 1) := by decide +kernel
theorem dL_law_113 : decode cL_law 113 = .ok (.iconst 0, 1) := by decide +kernel
theorem dL_law_114 : decode cL_law 114 = .ok (.iconst 3, 1) := by decide +kernel
theorem dL_law_115 : decode cL_law 115 = .ok (.iload_n 2, 1) := by decide +kernel
theorem dL_law_116 : decode cL_law 116 = .ok (.imul, 1) := by decide +kernel
theorem dL_law_117 : decode cL_law 117 = .ok (.iload_n 3, 1) := by decide +kernel
theorem dL_law_118 : decode cL_law 118 = .ok (.iconst 2, 1) := by decide +kernel
theorem dL_law_119 : decode cL_law 119 = .ok (.irem, 1) := by decide +kernel
theorem dL_law_120 : decode cL_law 120 = .ok (.iadd, 1) := by decide +kernel
theorem dL_law_121 : decode cL_law 121 = .ok (.iload_n 3, 1) := by decide +kernel
theorem dL_law_122 : decode cL_law 122 = .ok (.bipush 96, 2) := by decide +kernel
theorem dL_law_124 : decode cL_law 124 = .ok (.irem, 1) := by decide +kernel
theorem dL_law_125 : decode cL_law 125 = .ok (.iconst 1, 1) := by decide +kernel
theorem dL_law_126 : decode cL_law 126 = .ok (.iload_n 3, 1) := by decide +kernel
theorem dL_law_127 : decode cL_law 127 = .ok (.bipush 64, 2) := by decide +kernel
theorem dL_law_129 : decode cL_law 129 = .ok (.irem, 1) := by decide +kernel
theorem dL_law_130 : decode cL_law 130 = .ok (.iadd, 1) := by decide +kernel
theorem dL_law_131 : decode cL_law 131 = .ok (.invokevirtual 35, 3) := by decide +kernel
theorem dL_law_134 : decode cL_law 134 = .ok (.iload_n 2, 1) := by decide +kernel
theorem dL_law_135 : decode cL_law 135 = .ok (.if_icmp .ne 47, 3) := by decide +kernel
theorem dL_law_138 : decode cL_law 138 = .ok (.aload_n 1, 1) := by decide +kernel
theorem dL_law_139 : decode cL_law 139 = .ok (.iload_n 2, 1) := by decide +kernel
theorem dL_law_140 : decode cL_law 140 = .ok (.invokevirtual 45, 3) := by decide +kernel
theorem dL_law_143 : decode cL_law 143 = .ok (.bipush 12, 2) := by decide +kernel
theorem dL_law_145 : decode cL_law 145 = .ok (.if_icmp .lt 37, 3) := by decide +kernel
theorem dL_law_148 : decode cL_law 148 = .ok (.aload_n 1, 1) := by decide +kernel
theorem dL_law_149 : decode cL_law 149 = .ok (.iload_n 2, 1) := by decide +kernel
theorem dL_law_150 : decode cL_law 150 = .ok (.invokevirtual 57, 3) := by decide +kernel
theorem dL_law_153 : decode cL_law 153 = .ok (.sipush 500, 3) := by decide +kernel
theorem dL_law_156 : decode cL_law 156 = .ok (.aload_n 1, 1) := by decide +kernel
theorem dL_law_157 : decode cL_law 157 = .ok (.iload_n 2, 1) := by decide +kernel
theorem dL_law_158 : decode cL_law 158 = .ok (.invokevirtual 45, 3) := by decide +kernel
theorem dL_law_161 : decode cL_law 161 = .ok (.imul, 1) := by decide +kernel
theorem dL_law_162 : decode cL_law 162 = .ok (.if_icmp .lt 20, 3) := by decide +kernel
theorem dL_law_165 : decode cL_law 165 = .ok (.iload_n 2, 1) := by decide +kernel
theorem dL_law_166 : decode cL_law 166 = .ok (.iconst 5, 1) := by decide +kernel
theorem dL_law_167 : decode cL_law 167 = .ok (.irem, 1) := by decide +kernel
theorem dL_law_168 : decode cL_law 168 = .ok (.ifCond .ne 16, 3) := by decide +kernel
theorem dL_law_171 : decode cL_law 171 = .ok (.aload_n 1, 1) := by decide +kernel
theorem dL_law_172 : decode cL_law 172 = .ok (.iload_n 2, 1) := by decide +kernel
theorem dL_law_173 : decode cL_law 173 = .ok (.iconst 1, 1) := by decide +kernel
theorem dL_law_174 : decode cL_law 174 = .ok (.iadd, 1) := by decide +kernel
theorem dL_law_175 : decode cL_law 175 = .ok (.iconst 1, 1) := by decide +kernel
theorem dL_law_176 : decode cL_law 176 = .ok (.invokestatic 90, 3) := by decide +kernel
theorem dL_law_179 : decode cL_law 179 = .ok (.ifCond .ne 5, 3) := by decide +kernel
theorem dL_law_182 : decode cL_law 182 = .ok (.iconst 0, 1) := by decide +kernel
theorem dL_law_183 : decode cL_law 183 = .ok (.ireturn, 1) := by decide +kernel
theorem dL_law_184 : decode cL_law 184 = .ok (.iinc 2 1, 3) := by decide +kernel
theorem dL_law_187 : decode cL_law 187 = .ok (.goto (-153), 3) := by decide +kernel
theorem dL_law_190 : decode cL_law 190 = .ok (.iconst 1, 1) := by decide +kernel
theorem dL_law_191 : decode cL_law 191 = .ok (.ireturn, 1) := by decide +kernel
abbrev vwCl : List vw_C := [(RJx4a65c, TJx4a65c, 3), (RX0, TX0, 7), (RX1, TX1, 5), (RX2, TX2, 1), (RX3, TX3, 5)]

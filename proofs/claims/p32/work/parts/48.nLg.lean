set_option maxRecDepth 20000 in
theorem ggL_isGood_L_hash : GoodIn wsL_isGood wsL_hash := goodIn_r _ [4, 5, 6, 7] (by decide +kernel) (by decide +kernel)
set_option maxRecDepth 20000 in
theorem gL_isGood_L_hash : GoodIn wsL_isGood (va_wsS RL 15 yL_hash wsL_hash) := goodIn_app (goodIn_of _ (by decide +kernel)) ggL_isGood_L_hash
set_option maxRecDepth 20000 in
theorem ggL_isValid_L_check : GoodIn wsL_isValid wsL_check := goodIn_r _ [4] (by decide +kernel) (by decide +kernel)
set_option maxRecDepth 20000 in
theorem gL_isValid_L_check : GoodIn wsL_isValid (va_wsS RL 21 yL_check wsL_check) := goodIn_app (goodIn_of _ (by decide +kernel)) ggL_isValid_L_check
set_option maxRecDepth 20000 in
theorem ggL_best_L_isValid : GoodIn wsL_best wsL_isValid := goodIn_r _ [4, 5, 6, 3, 7] (by decide +kernel) (by decide +kernel)
set_option maxRecDepth 20000 in
theorem gL_best_L_isValid : GoodIn wsL_best (va_wsS RL 25 yL_isValid wsL_isValid) := goodIn_app (goodIn_of _ (by decide +kernel)) ggL_best_L_isValid
set_option maxRecDepth 20000 in
theorem ggL_planRecord_L_best : GoodIn wsL_planRecord wsL_best := goodIn_r _ [4, 5, 6, 3, 7, 8, 9, 10] (by decide +kernel) (by decide +kernel)
set_option maxRecDepth 20000 in
theorem gL_planRecord_L_best : GoodIn wsL_planRecord (va_wsS RL 29 yL_best wsL_best) := goodIn_app (goodIn_of _ (by decide +kernel)) ggL_planRecord_L_best
set_option maxRecDepth 20000 in
theorem ggL_planRecord_L_plan : GoodIn wsL_planRecord wsL_plan := goodIn_r _ [13] (by decide +kernel) (by decide +kernel)
set_option maxRecDepth 20000 in
theorem gL_planRecord_L_plan : GoodIn wsL_planRecord (va_wsS RL 33 yL_plan wsL_plan) := goodIn_app (goodIn_of _ (by decide +kernel)) ggL_planRecord_L_plan
set_option maxRecDepth 20000 in
theorem ggL_planRecord_L_check : GoodIn wsL_planRecord wsL_check := goodIn_r _ [10] (by decide +kernel) (by decide +kernel)
set_option maxRecDepth 20000 in
theorem gL_planRecord_L_check : GoodIn wsL_planRecord (va_wsS RL 21 yL_check wsL_check) := goodIn_app (goodIn_of _ (by decide +kernel)) ggL_planRecord_L_check
set_option maxRecDepth 20000 in
theorem ggL_isDue_L_best : GoodIn wsL_isDue wsL_best := goodIn_r _ [4, 5, 6, 3, 7, 8, 9, 10] (by decide +kernel) (by decide +kernel)
set_option maxRecDepth 20000 in
theorem gL_isDue_L_best : GoodIn wsL_isDue (va_wsS RL 29 yL_best wsL_best) := goodIn_app (goodIn_of _ (by decide +kernel)) ggL_isDue_L_best
set_option maxRecDepth 20000 in
theorem ggL_start_L_best : GoodIn wsL_start wsL_best := goodIn_r _ [4, 5, 6, 3, 7, 8, 9, 10] (by decide +kernel) (by decide +kernel)
set_option maxRecDepth 20000 in
theorem gL_start_L_best : GoodIn wsL_start (va_wsS RL 29 yL_best wsL_best) := goodIn_app (goodIn_of _ (by decide +kernel)) ggL_start_L_best
set_option maxRecDepth 20000 in
theorem ggL_start_L_isGood : GoodIn wsL_start wsL_isGood := goodIn_r _ [13, 14, 15, 3, 16, 17, 18, 19] (by decide +kernel) (by decide +kernel)
set_option maxRecDepth 20000 in
theorem gL_start_L_isGood : GoodIn wsL_start (va_wsS RL 37 yL_isGood wsL_isGood) := goodIn_app (goodIn_of _ (by decide +kernel)) ggL_start_L_isGood
set_option maxRecDepth 20000 in
theorem ggL_isOn_X5_switchOff : GoodIn wsL_isOn wsX5_switchOff := goodIn_ca (goodIn_r _ [5, 6, 7, 8, 9, 4, 10, 11, 12, 13, 14, 15, 16, 17, 18, 19, 20, 21, 22, 23, 24, 25, 26, 27, 167, 168, 169, 170, 171, 172, 173, 174, 175, 176, 177, 178] (by decide +kernel) (by decide +kernel)) (goodIn_sub (fun _ h => List.mem_cons_of_mem _ (List.mem_append_right _ h)) (by decide +kernel))
set_option maxRecDepth 20000 in
theorem gL_isOn_X5_switchOff : GoodIn wsL_isOn (wsV RL 40 RX5 yX5_switchOff wsX5_switchOff) := goodIn_app (goodIn_of _ (by decide +kernel)) ggL_isOn_X5_switchOff
set_option maxRecDepth 20000 in
theorem ggL_isOn_L_start : GoodIn wsL_isOn wsL_start := goodIn_r _ [31, 32, 33, 30, 34, 35, 36, 37, 38, 39, 40, 41, 42, 43, 44, 45, 46, 47, 48, 49] (by decide +kernel) (by decide +kernel)
set_option maxRecDepth 20000 in
theorem gL_isOn_L_start : GoodIn wsL_isOn (va_wsS RL 46 yL_start wsL_start) := goodIn_app (goodIn_of _ (by decide +kernel)) ggL_isOn_L_start
set_option maxRecDepth 20000 in
theorem ggL_isOn_L_best : GoodIn wsL_isOn wsL_best := goodIn_r _ [34, 35, 36, 30, 37, 38, 39, 40] (by decide +kernel) (by decide +kernel)
set_option maxRecDepth 20000 in
theorem gL_isOn_L_best : GoodIn wsL_isOn (va_wsS RL 29 yL_best wsL_best) := goodIn_app (goodIn_of _ (by decide +kernel)) ggL_isOn_L_best
set_option maxRecDepth 20000 in
theorem ggL_isOn_L_isDue : GoodIn wsL_isOn wsL_isDue := goodIn_r _ [52, 32, 33, 30, 34, 35, 36, 37, 38, 39, 40] (by decide +kernel) (by decide +kernel)
set_option maxRecDepth 20000 in
theorem gL_isOn_L_isDue : GoodIn wsL_isOn (va_wsS RL 50 yL_isDue wsL_isDue) := goodIn_app (goodIn_of _ (by decide +kernel)) ggL_isOn_L_isDue
set_option maxRecDepth 20000 in
theorem ggL_isOn_L_planRecord : GoodIn wsL_isOn wsL_planRecord := goodIn_r _ [55, 32, 33, 30, 34, 35, 36, 37, 38, 39, 40, 56, 57, 58] (by decide +kernel) (by decide +kernel)
set_option maxRecDepth 20000 in
theorem gL_isOn_L_planRecord : GoodIn wsL_isOn (va_wsS RL 54 yL_planRecord wsL_planRecord) := goodIn_app (goodIn_of _ (by decide +kernel)) ggL_isOn_L_planRecord
set_option maxRecDepth 20000 in
theorem ggL_isOn_L_carry : GoodIn wsL_isOn wsL_carry := goodIn_r _ [61] (by decide +kernel) (by decide +kernel)
set_option maxRecDepth 20000 in
theorem gL_isOn_L_carry : GoodIn wsL_isOn (va_wsS RL 58 yL_carry wsL_carry) := goodIn_app (goodIn_of _ (by decide +kernel)) ggL_isOn_L_carry
set_option maxRecDepth 20000 in
theorem ggL_isOn_X5_switchOn : GoodIn wsL_isOn wsX5_switchOn := goodIn_ca (goodIn_r _ [65, 11, 12, 66, 6, 13, 14, 15, 4, 16, 67, 68, 69, 70, 71, 72, 73, 74, 75, 76, 77, 78, 79, 80, 81, 82, 83, 84, 85, 86, 87, 88, 89, 90, 91, 92, 93, 94, 95, 96, 97, 98, 99, 100, 101, 102, 103, 104, 105, 106, 107, 108, 109, 110, 111, 112, 113, 114, 115, 116, 117, 118, 119, 120, 121, 122, 123, 124, 125, 126, 127, 128, 129, 130, 131, 132, 133, 134, 135, 136, 137, 138, 139, 140, 141, 142, 143, 144, 145, 146, 147, 148, 149, 150, 151, 152, 153, 154, 155, 156, 157, 158, 159, 160, 161, 162, 163, 164, 165, 166, 167, 168, 169, 170, 171, 172, 179, 180, 181, 182] (by decide +kernel) (by decide +kernel)) (goodIn_sub (fun _ h => List.mem_cons_of_mem _ (List.mem_append_right _ h)) (by decide +kernel))
set_option maxRecDepth 20000 in
theorem gL_isOn_X5_switchOn : GoodIn wsL_isOn (wsV RL 62 RX5 yX5_switchOn wsX5_switchOn) := goodIn_app (goodIn_of _ (by decide +kernel)) ggL_isOn_X5_switchOn
set_option maxRecDepth 20000 in
theorem ggL_offered_X5_offer : GoodIn wsL_offered wsX5_offer := goodIn_ca (goodIn_ca (goodIn_r _ [6, 7, 8, 9, 10, 11, 12, 13, 14, 5, 15, 16, 17, 18, 19, 20, 21, 22, 23, 24, 25, 26, 27, 28, 29, 30, 31, 32, 33, 34, 35, 36, 37, 38, 39, 40, 41, 42, 43, 44, 45, 46, 47, 48, 49, 50, 51, 52, 53, 54, 55, 56, 57, 58, 59, 60, 61, 62, 63, 64, 65, 66, 67, 68, 69, 70, 71, 72, 73, 74, 75, 76, 77, 78, 79, 80, 81, 82, 83, 84, 85, 86, 87, 88, 89, 90, 91, 92, 93, 94, 95, 96, 97, 98, 99, 100, 101, 102, 103, 104, 105, 106, 107, 108, 109, 110, 111, 112, 113, 114, 115, 116, 117, 118, 119, 120, 121] (by decide +kernel) (by decide +kernel)) (goodIn_sub (fun _ h => List.mem_cons_of_mem _ (List.mem_append_left _ (List.mem_append_right _ h))) (by decide +kernel))) (goodIn_sub (fun _ h => List.mem_cons_of_mem _ (List.mem_append_right _ h)) (by decide +kernel))
set_option maxRecDepth 20000 in
theorem gL_offered_X5_offer : GoodIn wsL_offered (wsV RL 65 RX5 yX5_offer wsX5_offer) := goodIn_app (goodIn_of _ (by decide +kernel)) ggL_offered_X5_offer
set_option maxRecDepth 20000 in
theorem ggL_put_X5_put : GoodIn wsL_put wsX5_put := goodIn_ca (goodIn_ca (goodIn_r _ [6, 7, 8, 5, 9, 10, 11, 12, 13, 14, 15, 16, 17, 18, 19, 20, 21, 22, 23, 24, 25, 26, 27, 28, 29, 30, 31, 32, 33, 34, 35, 36, 37, 38, 39, 40, 41, 42, 43, 44, 45, 46, 47, 48, 49, 50, 51, 52, 53, 54, 55, 56, 57, 58, 59, 60, 61, 62, 63, 64, 65, 66, 67, 68, 69, 70, 71, 72, 73, 74, 75, 76, 77, 78, 79, 80, 81, 82, 83, 84, 85, 86, 87, 88, 89, 90] (by decide +kernel) (by decide +kernel)) (goodIn_sub (fun _ h => List.mem_cons_of_mem _ (List.mem_append_left _ (List.mem_append_right _ h))) (by decide +kernel))) (goodIn_sub (fun _ h => List.mem_cons_of_mem _ (List.mem_append_right _ h)) (by decide +kernel))
set_option maxRecDepth 20000 in
theorem gL_put_X5_put : GoodIn wsL_put (wsV RL 71 RX5 yX5_put wsX5_put) := goodIn_app (goodIn_of _ (by decide +kernel)) ggL_put_X5_put
set_option maxRecDepth 20000 in
theorem ggL_copied_X5_copy : GoodIn wsL_copied wsX5_copy := goodIn_ca (goodIn_ca (goodIn_r _ [7, 8, 9, 10, 11, 12, 13, 6, 14, 15, 16, 17, 18, 19, 20, 21, 22, 23, 24, 25, 26, 27, 28, 29, 30, 31, 32, 33, 34, 35, 36, 37, 38, 39, 40, 41, 42, 43, 44, 45, 46, 47, 48, 49, 50, 51, 52, 53, 54, 55, 56, 57, 58, 59, 60, 61, 62, 63, 64, 65, 66, 67, 68, 69, 70, 71, 72, 73, 74, 75, 76, 77, 78, 79, 80, 81, 82, 83, 84, 85, 86, 87, 88, 89, 90, 91, 92, 93, 94, 95, 96, 97, 98, 99, 100, 101, 102, 103, 104] (by decide +kernel) (by decide +kernel)) (goodIn_sub (fun _ h => List.mem_cons_of_mem _ (List.mem_append_left _ (List.mem_append_right _ h))) (by decide +kernel))) (goodIn_sub (fun _ h => List.mem_cons_of_mem _ (List.mem_append_right _ h)) (by decide +kernel))
set_option maxRecDepth 20000 in
theorem gL_copied_X5_copy : GoodIn wsL_copied (wsV RL 75 RX5 yX5_copy wsX5_copy) := goodIn_app (goodIn_of _ (by decide +kernel)) ggL_copied_X5_copy
set_option maxRecDepth 20000 in
theorem ggL_finished_X5_finish : GoodIn wsL_finished wsX5_finish := goodIn_ca (goodIn_ca (goodIn_r _ [6, 7, 8, 9, 10, 11, 5, 12, 13, 14, 15, 16, 17, 18, 19, 20, 21, 22, 23, 24, 25, 26, 27, 28, 29, 30, 31, 32, 33, 34, 35, 36, 37, 38, 39, 40, 41, 42, 43, 44, 45, 46, 47, 48, 49, 50, 51, 52, 53, 54, 55, 56, 57, 58, 59, 60, 61, 62, 63, 64, 65, 66, 67, 68, 69, 70, 71, 72, 73, 74, 75, 76, 77, 78, 79, 80, 81, 82, 83, 84, 85, 86, 87, 88, 89, 90, 91, 92, 93, 94, 95, 96, 97, 98, 99, 100, 101, 102, 103, 104, 105, 106, 107, 108, 109, 110, 111, 112, 113, 114, 115, 116, 117, 118, 119, 120, 121, 122, 123, 124, 125, 126, 127, 128, 129, 130, 131, 132, 133, 134, 135, 136, 137, 138, 139, 140, 141] (by decide +kernel) (by decide +kernel)) (goodIn_sub (fun _ h => List.mem_cons_of_mem _ (List.mem_append_left _ (List.mem_append_right _ h))) (by decide +kernel))) (goodIn_sub (fun _ h => List.mem_cons_of_mem _ (List.mem_append_right _ h)) (by decide +kernel))
set_option maxRecDepth 20000 in
theorem gL_finished_X5_finish : GoodIn wsL_finished (wsV RL 81 RX5 yX5_finish wsX5_finish) := goodIn_app (goodIn_of _ (by decide +kernel)) ggL_finished_X5_finish
set_option maxRecDepth 20000 in
theorem ggL_safe_X5_safeFinish : GoodIn wsL_safe wsX5_safeFinish := goodIn_ca (goodIn_ca (goodIn_r _ [6, 7, 8, 9, 10, 11, 12, 13, 5, 14, 15, 16, 17, 18, 19, 20, 21, 22, 23, 24, 25, 26, 27, 28, 29, 30, 31, 32, 33, 34, 35, 36, 37, 38, 39, 40, 41, 42, 43, 44, 45, 46, 47, 48, 49, 50, 51, 52, 53, 54, 55, 56, 57, 58, 59, 60, 61, 62, 63, 64, 65, 66, 67, 68, 69, 70, 71, 72, 73, 74, 75, 76, 77, 78, 79, 80, 81, 82, 83, 84, 85, 86, 87, 88, 89, 90, 91, 92, 93, 94, 95, 96, 97, 98, 99, 100, 101, 102, 103, 104, 105, 106, 107, 108, 109, 110, 111, 112, 113, 114, 115, 116, 117, 118, 119, 120, 121, 122, 123, 124, 125, 126, 127, 128, 129, 130, 131, 132, 133, 134, 135, 136, 137, 138, 139, 140, 141, 142, 143, 144, 145, 146, 147, 148, 149, 150, 151, 152, 153, 154, 155, 156, 157, 158, 159, 160, 161, 162, 163] (by decide +kernel) (by decide +kernel)) (goodIn_sub (fun _ h => List.mem_cons_of_mem _ (List.mem_append_left _ (List.mem_append_right _ h))) (by decide +kernel))) (goodIn_sub (fun _ h => List.mem_cons_of_mem _ (List.mem_append_right _ h)) (by decide +kernel))
set_option maxRecDepth 20000 in
theorem gL_safe_X5_safeFinish : GoodIn wsL_safe (wsV RL 84 RX5 yX5_safeFinish wsX5_safeFinish) := goodIn_app (goodIn_of _ (by decide +kernel)) ggL_safe_X5_safeFinish
set_option maxRecDepth 20000 in
theorem ggL_confirmed_X5_confirm : GoodIn wsL_confirmed wsX5_confirm := goodIn_ca (goodIn_r _ [6, 7, 8, 9, 10, 11, 12, 13, 14, 15, 16, 17, 5, 18, 19, 20, 21, 22, 23, 24, 25, 26, 27, 28, 29, 30, 31, 32, 33, 34, 35, 36, 37, 38, 39, 40, 41, 42, 43, 44, 45, 46, 47, 48, 49, 50, 51, 52, 53, 54, 55, 56, 57, 58, 59, 60, 61, 62, 63, 64, 65, 66, 67, 68, 69, 70, 71, 72, 73, 74, 75, 76, 77, 78, 79, 80, 81, 82, 83, 84, 85, 86, 87, 88, 89, 90, 91, 92, 93, 94, 95, 96, 97, 98, 99, 100, 101, 102, 103, 104, 105, 106, 107, 108, 109, 110, 111, 112, 113, 114, 115, 116, 117] (by decide +kernel) (by decide +kernel)) (goodIn_sub (fun _ h => List.mem_cons_of_mem _ (List.mem_append_right _ h)) (by decide +kernel))
set_option maxRecDepth 20000 in
theorem gL_confirmed_X5_confirm : GoodIn wsL_confirmed (wsV RL 88 RX5 yX5_confirm wsX5_confirm) := goodIn_app (goodIn_of _ (by decide +kernel)) ggL_confirmed_X5_confirm
set_option maxRecDepth 20000 in
theorem ggL_updates_L_best : GoodIn wsL_updates wsL_best := goodIn_r _ [4, 5, 6, 3, 7, 8, 9, 10] (by decide +kernel) (by decide +kernel)
set_option maxRecDepth 20000 in
theorem gL_updates_L_best : GoodIn wsL_updates (va_wsS RL 29 yL_best wsL_best) := goodIn_app (goodIn_of _ (by decide +kernel)) ggL_updates_L_best
set_option maxRecDepth 20000 in
theorem ggL_updates_L_isDue : GoodIn wsL_updates wsL_isDue := goodIn_r _ [13, 1, 2, 3, 4, 5, 6, 7, 8, 9, 10] (by decide +kernel) (by decide +kernel)
set_option maxRecDepth 20000 in
theorem gL_updates_L_isDue : GoodIn wsL_updates (va_wsS RL 50 yL_isDue wsL_isDue) := goodIn_app (goodIn_of _ (by decide +kernel)) ggL_updates_L_isDue
set_option maxRecDepth 20000 in
theorem ggL_updates_L_told : GoodIn wsL_updates wsL_told := goodIn_r _ [16, 17, 18, 19, 20] (by decide +kernel) (by decide +kernel)
set_option maxRecDepth 20000 in
theorem gL_updates_L_told : GoodIn wsL_updates (va_wsS RL 94 yL_told wsL_told) := goodIn_app (goodIn_of _ (by decide +kernel)) ggL_updates_L_told
set_option maxRecDepth 20000 in
theorem ggL_updates_L_plan : GoodIn wsL_updates wsL_plan := goodIn_r _ [23] (by decide +kernel) (by decide +kernel)
set_option maxRecDepth 20000 in
theorem gL_updates_L_plan : GoodIn wsL_updates (va_wsS RL 33 yL_plan wsL_plan) := goodIn_app (goodIn_of _ (by decide +kernel)) ggL_updates_L_plan
set_option maxRecDepth 20000 in
theorem ggL_updates_L_carry : GoodIn wsL_updates wsL_carry := goodIn_r _ [26] (by decide +kernel) (by decide +kernel)
set_option maxRecDepth 20000 in
theorem gL_updates_L_carry : GoodIn wsL_updates (va_wsS RL 58 yL_carry wsL_carry) := goodIn_app (goodIn_of _ (by decide +kernel)) ggL_updates_L_carry
set_option maxRecDepth 20000 in
theorem ggL_updates_L_offered : GoodIn wsL_updates wsL_offered := goodIn_ca (goodIn_ca (goodIn_r _ [29, 30, 31, 32, 33, 34, 35, 36, 37, 38, 39, 40, 41, 42, 43, 44, 45, 46, 47, 48, 49, 50, 51, 52, 53, 54, 55, 56, 57, 58, 59, 60, 61, 62, 63, 64, 65, 66, 67, 68, 69, 70, 71, 72, 73, 74, 75, 76, 77, 78, 79, 80, 81, 82, 83, 84, 85, 86, 87, 88, 89, 90, 91, 92, 93, 94, 95, 96, 97, 98, 99, 100, 101, 102, 103, 104, 105, 106, 107, 108, 109, 110, 111, 112, 113, 114, 115, 116, 117, 118, 119, 120, 121, 122, 123, 124, 125, 126, 127, 128, 129, 130, 131, 132, 133, 134, 284, 285, 286, 287, 288, 289, 290, 291, 292, 293, 294, 295, 296, 297, 298, 299] (by decide +kernel) (by decide +kernel)) (goodIn_sub (fun _ h => List.mem_cons_of_mem _ (List.mem_append_left _ (List.mem_append_right _ h))) (by decide +kernel))) (goodIn_sub (fun _ h => List.mem_cons_of_mem _ (List.mem_append_right _ h)) (by decide +kernel))
set_option maxRecDepth 20000 in
theorem gL_updates_L_offered : GoodIn wsL_updates (va_wsS RL 97 yL_offered wsL_offered) := goodIn_app (goodIn_of _ (by decide +kernel)) ggL_updates_L_offered
set_option maxRecDepth 20000 in
theorem ggL_updates_L_put : GoodIn wsL_updates wsL_put := goodIn_ca (goodIn_ca (goodIn_r _ [137, 30, 138, 139, 140, 34, 141, 42, 43, 44, 45, 46, 142, 143, 144, 145, 36, 37, 41, 146, 147, 148, 96, 149, 103, 99, 102, 150, 151, 152, 153, 39, 104, 105, 106, 107, 40, 154, 155, 156, 157, 158, 159, 160, 58, 161, 72, 112, 113, 114, 76, 115, 116, 117, 118, 74, 75, 77, 78, 119, 120, 121, 122, 123, 124, 125, 126, 127, 128, 129, 130, 131, 132, 133, 134, 284, 285, 286, 287, 288, 289, 294, 295, 296, 297, 298, 299, 290, 291, 292, 293] (by decide +kernel) (by decide +kernel)) (goodIn_sub (fun _ h => List.mem_cons_of_mem _ (List.mem_append_right _ h)) (by decide +kernel))) (goodIn_sub (fun _ h => List.mem_cons_of_mem _ (List.mem_append_left _ (List.mem_append_right _ h))) (by decide +kernel))
set_option maxRecDepth 20000 in
theorem gL_updates_L_put : GoodIn wsL_updates (va_wsS RL 101 yL_put wsL_put) := goodIn_app (goodIn_of _ (by decide +kernel)) ggL_updates_L_put
set_option maxRecDepth 20000 in
theorem ggL_updates_L_copied : GoodIn wsL_updates wsL_copied := goodIn_ca (goodIn_ca (goodIn_r _ [164, 165, 30, 166, 167, 168, 34, 169, 45, 46, 39, 40, 42, 43, 44, 51, 52, 53, 54, 85, 86, 87, 58, 88, 72, 73, 74, 75, 76, 77, 78, 142, 143, 144, 145, 36, 37, 41, 146, 147, 148, 96, 149, 103, 99, 102, 170, 171, 172, 173, 150, 151, 152, 153, 104, 105, 106, 107, 154, 155, 156, 157, 158, 159, 160, 161, 112, 113, 114, 115, 116, 117, 118, 119, 120, 121, 122, 123, 124, 125, 126, 127, 128, 129, 130, 131, 132, 133, 134, 284, 285, 286, 287, 288, 289, 290, 291, 292, 293, 294, 295, 296, 297, 298, 299] (by decide +kernel) (by decide +kernel)) (goodIn_sub (fun _ h => List.mem_cons_of_mem _ (List.mem_append_right _ h)) (by decide +kernel))) (goodIn_sub (fun _ h => List.mem_cons_of_mem _ (List.mem_append_left _ (List.mem_append_right _ h))) (by decide +kernel))
set_option maxRecDepth 20000 in
theorem gL_updates_L_copied : GoodIn wsL_updates (va_wsS RL 104 yL_copied wsL_copied) := goodIn_app (goodIn_of _ (by decide +kernel)) ggL_updates_L_copied
set_option maxRecDepth 20000 in
theorem ggL_updates_L_planRecord : GoodIn wsL_updates wsL_planRecord := goodIn_r _ [176, 1, 2, 3, 4, 5, 6, 7, 8, 9, 10, 21, 22, 23] (by decide +kernel) (by decide +kernel)
set_option maxRecDepth 20000 in
theorem gL_updates_L_planRecord : GoodIn wsL_updates (va_wsS RL 54 yL_planRecord wsL_planRecord) := goodIn_app (goodIn_of _ (by decide +kernel)) ggL_updates_L_planRecord
set_option maxRecDepth 20000 in
theorem ggL_updates_L_confirmed : GoodIn wsL_updates wsL_confirmed := goodIn_ca (goodIn_r _ [179, 30, 180, 181, 182, 34, 183, 36, 37, 39, 40, 184, 185, 186, 187, 47, 48, 49, 50, 51, 52, 53, 54, 188, 189, 190, 191, 192, 193, 194, 58, 195, 60, 61, 62, 63, 64, 65, 66, 67, 68, 69, 70, 71, 72, 73, 74, 75, 76, 77, 78, 79, 80, 81, 196, 197, 198, 89, 90, 91, 92, 85, 86, 87, 88, 199, 200, 201, 202, 203, 204, 205, 206, 207, 208, 209, 112, 113, 114, 115, 116, 117, 118, 119, 120, 121, 122, 123, 124, 125, 126, 127, 128, 129, 130, 41, 131, 132, 133, 96, 134, 103, 284, 285, 286, 287, 288, 289, 290, 291, 292, 293, 294, 295, 296, 297, 298, 299] (by decide +kernel) (by decide +kernel)) (goodIn_sub (fun _ h => List.mem_cons_of_mem _ (List.mem_append_left _ (List.mem_append_right _ h))) (by decide +kernel))
set_option maxRecDepth 20000 in
theorem gL_updates_L_confirmed : GoodIn wsL_updates (va_wsS RL 108 yL_confirmed wsL_confirmed) := goodIn_app (goodIn_of _ (by decide +kernel)) ggL_updates_L_confirmed
set_option maxRecDepth 20000 in
theorem ggL_updates_L_hash : GoodIn wsL_updates wsL_hash := goodIn_r _ [212, 17, 18, 20] (by decide +kernel) (by decide +kernel)
set_option maxRecDepth 20000 in
theorem gL_updates_L_hash : GoodIn wsL_updates (va_wsS RL 15 yL_hash wsL_hash) := goodIn_app (goodIn_of _ (by decide +kernel)) ggL_updates_L_hash
set_option maxRecDepth 20000 in
theorem ggL_updates_L_safe : GoodIn wsL_updates wsL_safe := goodIn_ca (goodIn_ca (goodIn_r _ [215, 30, 216, 217, 218, 34, 219, 220, 39, 221, 41, 222, 223, 224, 225, 36, 37, 226, 227, 42, 43, 44, 45, 46, 146, 147, 148, 96, 149, 103, 99, 102, 104, 105, 106, 107, 40, 228, 229, 230, 58, 231, 232, 171, 172, 173, 72, 73, 74, 75, 76, 77, 78, 233, 234, 235, 236, 237, 238, 239, 240, 241, 242, 243, 118, 244, 245, 246, 247, 117, 248, 249, 250, 251, 252, 253, 254, 255, 256, 109, 110, 111, 112, 113, 114, 115, 116, 119, 120, 121, 122, 257, 193, 194, 195, 60, 61, 62, 63, 64, 65, 66, 67, 68, 69, 70, 71, 79, 80, 81, 196, 197, 198, 258, 259, 260, 261, 90, 91, 92, 262, 203, 204, 205, 206, 207, 208, 209, 263, 264, 265, 266, 267, 268, 269, 82, 83, 84, 270, 271, 272, 273, 274, 86, 87, 88, 275, 276, 284, 285, 286, 287, 288, 289, 290, 294, 295, 296, 297, 298, 299, 291, 292, 293] (by decide +kernel) (by decide +kernel)) (goodIn_sub (fun _ h => List.mem_cons_of_mem _ (List.mem_append_left _ (List.mem_append_right _ h))) (by decide +kernel))) (goodIn_sub (fun _ h => List.mem_cons_of_mem _ (List.mem_append_right _ h)) (by decide +kernel))
set_option maxRecDepth 20000 in
theorem gL_updates_L_safe : GoodIn wsL_updates (va_wsS RL 112 yL_safe wsL_safe) := goodIn_app (goodIn_of _ (by decide +kernel)) ggL_updates_L_safe
set_option maxRecDepth 20000 in
theorem ggL_updates_L_finished : GoodIn wsL_updates wsL_finished := goodIn_ca (goodIn_ca (goodIn_r _ [279, 30, 280, 281, 282, 34, 283, 39, 41, 222, 223, 224, 225, 36, 37, 226, 227, 42, 43, 44, 45, 46, 146, 147, 148, 96, 149, 103, 99, 102, 104, 105, 106, 107, 40, 228, 229, 230, 58, 231, 232, 171, 172, 173, 72, 73, 74, 75, 76, 77, 78, 233, 234, 235, 248, 249, 250, 251, 252, 253, 254, 255, 256, 109, 110, 111, 112, 113, 114, 115, 116, 117, 118, 119, 120, 121, 122, 257, 193, 194, 195, 60, 61, 62, 63, 64, 65, 66, 67, 68, 69, 70, 71, 79, 80, 81, 196, 197, 198, 258, 259, 260, 261, 90, 91, 92, 262, 203, 204, 205, 206, 207, 208, 209, 131, 132, 133, 134, 123, 124, 125, 126, 127, 128, 129, 130, 284, 285, 286, 287, 288, 289, 294, 295, 296, 297, 298, 299, 290, 291, 292, 293] (by decide +kernel) (by decide +kernel)) (goodIn_sub (fun _ h => List.mem_cons_of_mem _ (List.mem_append_left _ (List.mem_append_right _ h))) (by decide +kernel))) (goodIn_sub (fun _ h => List.mem_cons_of_mem _ (List.mem_append_right _ h)) (by decide +kernel))
set_option maxRecDepth 20000 in
theorem gL_updates_L_finished : GoodIn wsL_updates (va_wsS RL 115 yL_finished wsL_finished) := goodIn_app (goodIn_of _ (by decide +kernel)) ggL_updates_L_finished
set_option maxRecDepth 20000 in
theorem ggL_isTold_L_best : GoodIn wsL_isTold wsL_best := goodIn_r _ [4, 5, 6, 3, 7, 8, 9, 10] (by decide +kernel) (by decide +kernel)
set_option maxRecDepth 20000 in
theorem gL_isTold_L_best : GoodIn wsL_isTold (va_wsS RL 29 yL_best wsL_best) := goodIn_app (goodIn_of _ (by decide +kernel)) ggL_isTold_L_best
set_option maxRecDepth 20000 in
theorem ggL_isTold_X5_isOn : GoodIn wsL_isTold wsX5_isOn := goodIn_r _ [15, 16, 180, 181, 182, 183, 184, 185] (by decide +kernel) (by decide +kernel)
set_option maxRecDepth 20000 in
theorem gL_isTold_X5_isOn : GoodIn wsL_isTold (wsV RL 118 RX5 yX5_isOn wsX5_isOn) := goodIn_app (goodIn_of _ (by decide +kernel)) ggL_isTold_X5_isOn
set_option maxRecDepth 20000 in
theorem ggL_isTold_X5_running : GoodIn wsL_isTold wsX5_running := goodIn_r _ [20, 16, 180, 181, 182, 183, 184, 185] (by decide +kernel) (by decide +kernel)
set_option maxRecDepth 20000 in
theorem gL_isTold_X5_running : GoodIn wsL_isTold (wsV RL 121 RX5 yX5_running wsX5_running) := goodIn_app (goodIn_of _ (by decide +kernel)) ggL_isTold_X5_running
set_option maxRecDepth 20000 in
theorem ggL_isTold_X5_isOnTrial : GoodIn wsL_isTold wsX5_isOnTrial := goodIn_r _ [24, 16, 25, 26, 12, 13, 14, 15, 27, 28, 29, 30, 31, 32, 33, 34, 35, 36, 37, 38, 39, 40, 41, 42, 43, 44, 45, 46, 47, 48, 49, 50, 51, 52, 53, 54, 55, 56, 180, 181, 182, 183, 184, 185, 186, 187, 188, 189] (by decide +kernel) (by decide +kernel)
set_option maxRecDepth 20000 in
theorem gL_isTold_X5_isOnTrial : GoodIn wsL_isTold (wsV RL 124 RX5 yX5_isOnTrial wsX5_isOnTrial) := goodIn_app (goodIn_of _ (by decide +kernel)) ggL_isTold_X5_isOnTrial
set_option maxRecDepth 20000 in
theorem ggL_isTold_X5_writes : GoodIn wsL_isTold wsX5_writes := goodIn_r _ [60, 25, 61, 62, 63, 64, 48, 65, 66, 180, 181, 182, 183, 184, 185, 186, 187, 188, 189] (by decide +kernel) (by decide +kernel)
set_option maxRecDepth 20000 in
theorem gL_isTold_X5_writes : GoodIn wsL_isTold (wsV RL 127 RX5 yX5_writes wsX5_writes) := goodIn_app (goodIn_of _ (by decide +kernel)) ggL_isTold_X5_writes
set_option maxRecDepth 20000 in
theorem ggL_isTold_X5_toCome : GoodIn wsL_isTold wsX5_toCome := goodIn_r _ [70, 71, 72, 73, 74, 75, 76, 77, 78, 79, 180, 181, 182, 183, 184, 185, 190, 191, 192, 193, 194, 195] (by decide +kernel) (by decide +kernel)
set_option maxRecDepth 20000 in
theorem gL_isTold_X5_toCome : GoodIn wsL_isTold (wsV RL 130 RX5 yX5_toCome wsX5_toCome) := goodIn_app (goodIn_of _ (by decide +kernel)) ggL_isTold_X5_toCome
set_option maxRecDepth 20000 in
theorem ggL_isTold_X5_record : GoodIn wsL_isTold wsX5_record := goodIn_r _ [83, 25, 84, 33, 34, 30, 35, 36, 37, 38, 39, 40, 41, 42, 43, 44, 45, 46, 47, 48, 49, 50, 51, 52, 53, 180, 181, 182, 183, 184, 185, 186, 187, 188, 189] (by decide +kernel) (by decide +kernel)
set_option maxRecDepth 20000 in
theorem gL_isTold_X5_record : GoodIn wsL_isTold (wsV RL 133 RX5 yX5_record wsX5_record) := goodIn_app (goodIn_of _ (by decide +kernel)) ggL_isTold_X5_record
set_option maxRecDepth 20000 in
theorem ggL_isTold_X5_confirmed : GoodIn wsL_isTold wsX5_confirmed := goodIn_r _ [88, 25, 27, 28, 29, 30, 31, 32, 33, 34, 35, 36, 37, 38, 39, 40, 41, 42, 43, 44, 45, 46, 47, 48, 49, 50, 51, 52, 53, 54, 55, 56, 180, 181, 182, 183, 184, 185, 186, 187, 188, 189] (by decide +kernel) (by decide +kernel)
set_option maxRecDepth 20000 in
theorem gL_isTold_X5_confirmed : GoodIn wsL_isTold (wsV RL 136 RX5 yX5_confirmed wsX5_confirmed) := goodIn_app (goodIn_of _ (by decide +kernel)) ggL_isTold_X5_confirmed
set_option maxRecDepth 20000 in
theorem ggL_isTold_X5_tries : GoodIn wsL_isTold wsX5_tries := goodIn_r _ [92, 25, 93, 94, 95, 30, 96, 32, 33, 34, 35, 36, 37, 38, 39, 40, 41, 42, 43, 44, 45, 46, 47, 48, 49, 50, 51, 52, 53, 97, 98, 99, 100, 101, 102, 180, 181, 182, 183, 184, 185, 186, 187, 188, 189] (by decide +kernel) (by decide +kernel)
set_option maxRecDepth 20000 in
theorem gL_isTold_X5_tries : GoodIn wsL_isTold (wsV RL 138 RX5 yX5_tries wsX5_tries) := goodIn_app (goodIn_of _ (by decide +kernel)) ggL_isTold_X5_tries
set_option maxRecDepth 20000 in
theorem ggL_isTold_L_isDue : GoodIn wsL_isTold wsL_isDue := goodIn_r _ [105, 1, 2, 3, 4, 5, 6, 7, 8, 9, 10] (by decide +kernel) (by decide +kernel)
set_option maxRecDepth 20000 in
theorem gL_isTold_L_isDue : GoodIn wsL_isTold (va_wsS RL 50 yL_isDue wsL_isDue) := goodIn_app (goodIn_of _ (by decide +kernel)) ggL_isTold_L_isDue
set_option maxRecDepth 20000 in
theorem ggL_isTold_X5_counter : GoodIn wsL_isTold wsX5_counter := goodIn_r _ [109, 25, 110, 111, 112, 30, 113, 32, 33, 34, 35, 36, 37, 38, 39, 40, 41, 42, 43, 44, 45, 46, 47, 48, 49, 50, 51, 52, 53, 180, 181, 182, 183, 184, 185, 186, 187, 188, 189] (by decide +kernel) (by decide +kernel)
set_option maxRecDepth 20000 in
theorem gL_isTold_X5_counter : GoodIn wsL_isTold (wsV RL 141 RX5 yX5_counter wsX5_counter) := goodIn_app (goodIn_of _ (by decide +kernel)) ggL_isTold_X5_counter
set_option maxRecDepth 20000 in
theorem ggL_isTold_X5_wouldStart : GoodIn wsL_isTold wsX5_wouldStart := goodIn_r _ [117, 25, 118, 119, 120, 30, 121, 32, 33, 34, 35, 36, 37, 38, 39, 40, 41, 42, 43, 44, 45, 46, 47, 48, 49, 50, 51, 52, 53, 54, 55, 56, 97, 98, 99, 100, 101, 102, 122, 123, 124, 125, 126, 127, 128, 129, 130, 131, 132, 133, 134, 135, 136, 137, 138, 14, 139, 140, 180, 181, 182, 183, 184, 185, 186, 187, 188, 189] (by decide +kernel) (by decide +kernel)
set_option maxRecDepth 20000 in
theorem gL_isTold_X5_wouldStart : GoodIn wsL_isTold (wsV RL 144 RX5 yX5_wouldStart wsX5_wouldStart) := goodIn_app (goodIn_of _ (by decide +kernel)) ggL_isTold_X5_wouldStart
set_option maxRecDepth 20000 in
theorem ggL_isTold_L_start : GoodIn wsL_isTold wsL_start := goodIn_r _ [143, 1, 2, 3, 4, 5, 6, 7, 8, 9, 10, 144, 145, 146, 147, 148, 149, 150, 151, 152] (by decide +kernel) (by decide +kernel)
set_option maxRecDepth 20000 in
theorem gL_isTold_L_start : GoodIn wsL_isTold (va_wsS RL 46 yL_start wsL_start) := goodIn_app (goodIn_of _ (by decide +kernel)) ggL_isTold_L_start
set_option maxRecDepth 20000 in
theorem ggL_isTold_X5_isValid : GoodIn wsL_isTold wsX5_isValid := goodIn_ca (goodIn_r _ [156, 25, 157, 158, 14, 159, 160, 161, 162, 37, 38, 30, 39, 40, 41, 42, 43, 44, 45, 46, 47, 48, 49, 50, 51, 52, 53, 180, 181, 182, 183, 184, 185, 186, 187, 188, 189] (by decide +kernel) (by decide +kernel)) (goodIn_sub (fun _ h => List.mem_cons_of_mem _ (List.mem_append_left _ (List.mem_append_right _ h))) (by decide +kernel))
set_option maxRecDepth 20000 in
theorem gL_isTold_X5_isValid : GoodIn wsL_isTold (wsV RL 147 RX5 yX5_isValid wsX5_isValid) := goodIn_app (goodIn_of _ (by decide +kernel)) ggL_isTold_X5_isValid
set_option maxRecDepth 20000 in
theorem ggL_isTold_L_isValid : GoodIn wsL_isTold wsL_isValid := goodIn_r _ [7, 8, 9, 3, 10] (by decide +kernel) (by decide +kernel)
set_option maxRecDepth 20000 in
theorem gL_isTold_L_isValid : GoodIn wsL_isTold (va_wsS RL 25 yL_isValid wsL_isValid) := goodIn_app (goodIn_of _ (by decide +kernel)) ggL_isTold_L_isValid
set_option maxRecDepth 20000 in
theorem ggL_isTold_X5_isStartable : GoodIn wsL_isTold wsX5_isStartable := goodIn_ca (goodIn_r _ [166, 25, 157, 158, 14, 159, 160, 161, 167, 123, 124, 30, 125, 126, 127, 128, 129, 44, 45, 46, 47, 48, 49, 50, 130, 131, 132, 133, 134, 135, 136, 137, 138, 139, 140, 180, 181, 182, 183, 184, 185, 186, 187, 188, 189] (by decide +kernel) (by decide +kernel)) (goodIn_sub (fun _ h => List.mem_cons_of_mem _ (List.mem_append_left _ (List.mem_append_right _ h))) (by decide +kernel))
set_option maxRecDepth 20000 in
theorem gL_isTold_X5_isStartable : GoodIn wsL_isTold (wsV RL 149 RX5 yX5_isStartable wsX5_isStartable) := goodIn_app (goodIn_of _ (by decide +kernel)) ggL_isTold_X5_isStartable
set_option maxRecDepth 20000 in
theorem ggL_isTold_L_isGood : GoodIn wsL_isTold wsL_isGood := goodIn_r _ [146, 147, 148, 3, 149, 150, 151, 152] (by decide +kernel) (by decide +kernel)
set_option maxRecDepth 20000 in
theorem gL_isTold_L_isGood : GoodIn wsL_isTold (va_wsS RL 37 yL_isGood wsL_isGood) := goodIn_app (goodIn_of _ (by decide +kernel)) ggL_isTold_L_isGood
set_option maxRecDepth 20000 in
theorem ggL_isTold_X5_version : GoodIn wsL_isTold wsX5_version := goodIn_ca (goodIn_r _ [171, 25, 157, 158, 14, 159, 160, 161, 172, 127, 128, 30, 129, 44, 45, 46, 47, 48, 49, 50, 180, 181, 182, 183, 184, 185, 186, 187, 188, 189] (by decide +kernel) (by decide +kernel)) (goodIn_sub (fun _ h => List.mem_cons_of_mem _ (List.mem_append_left _ (List.mem_append_right _ h))) (by decide +kernel))
set_option maxRecDepth 20000 in
theorem gL_isTold_X5_version : GoodIn wsL_isTold (wsV RL 152 RX5 yX5_version wsX5_version) := goodIn_app (goodIn_of _ (by decide +kernel)) ggL_isTold_X5_version
set_option maxRecDepth 20000 in
theorem ggL_isTold_X5_imageByte : GoodIn wsL_isTold wsX5_imageByte := goodIn_ca (goodIn_ca (goodIn_r _ [176, 177, 178, 25, 157, 158, 14, 159, 160, 161, 179, 135, 136, 30, 137, 44, 45, 46, 47, 48, 49, 50, 180, 181, 182, 183, 184, 185, 186, 187, 188, 189] (by decide +kernel) (by decide +kernel)) (goodIn_sub (fun _ h => List.mem_cons_of_mem _ (List.mem_append_right _ h)) (by decide +kernel))) (goodIn_sub (fun _ h => List.mem_cons_of_mem _ (List.mem_append_left _ (List.mem_append_right _ h))) (by decide +kernel))
set_option maxRecDepth 20000 in
theorem gL_isTold_X5_imageByte : GoodIn wsL_isTold (wsV RL 155 RX5 yX5_imageByte wsX5_imageByte) := goodIn_app (goodIn_of _ (by decide +kernel)) ggL_isTold_X5_imageByte
set_option maxRecDepth 20000 in
theorem ggL_isDelta_X5_clearDraft : GoodIn wsL_isDelta wsX5_clearDraft := goodIn_r _ [9, 10, 11, 12, 13, 14, 15, 16, 132, 133, 134, 135, 136, 137, 138, 139] (by decide +kernel) (by decide +kernel)
set_option maxRecDepth 20000 in
theorem gL_isDelta_X5_clearDraft : GoodIn wsL_isDelta (wsV RL 158 RX5 yX5_clearDraft wsX5_clearDraft) := goodIn_app (goodIn_of _ (by decide +kernel)) ggL_isDelta_X5_clearDraft
set_option maxRecDepth 20000 in
theorem ggL_isDelta_X5_draft : GoodIn wsL_isDelta wsX5_draft := goodIn_ca (goodIn_ca (goodIn_r _ [20, 21, 22, 10, 23, 24, 8, 25, 26, 27, 28, 29, 30, 14, 31, 16, 32, 33, 34, 35, 36, 132, 133, 134, 135, 136, 137, 138, 139] (by decide +kernel) (by decide +kernel)) (goodIn_sub (fun _ h => List.mem_cons_of_mem _ (List.mem_append_left _ (List.mem_append_left _ (List.mem_append_right _ h)))) (by decide +kernel))) (goodIn_sub (fun _ h => List.mem_cons_of_mem _ (List.mem_append_left _ (List.mem_append_right _ h))) (by decide +kernel))
set_option maxRecDepth 20000 in
theorem gL_isDelta_X5_draft : GoodIn wsL_isDelta (wsV RL 161 RX5 yX5_draft wsX5_draft) := goodIn_app (goodIn_of _ (by decide +kernel)) ggL_isDelta_X5_draft
set_option maxRecDepth 20000 in
theorem ggL_isDelta_X5_deltaLength : GoodIn wsL_isDelta wsX5_deltaLength := goodIn_ca (goodIn_ca (goodIn_ca (goodIn_r _ [40, 41, 42, 43, 44, 8, 45, 21, 22, 46, 23, 24, 25, 26, 27, 47, 48, 49, 50, 51, 52, 53, 54, 55, 56, 57, 58, 59, 60, 61, 62, 63, 64, 65, 66, 67, 68, 69, 70, 71, 72, 73, 74, 75, 76, 77, 78, 79, 80, 81, 82, 83, 84, 85, 86, 87, 88, 89, 90, 91, 92, 93, 94, 95, 96, 97, 98, 99, 100, 101, 102, 14, 103, 32, 104, 105, 106, 107, 108, 109, 132, 133, 134, 135, 136, 137, 140, 141, 142, 143, 144, 145, 138, 139] (by decide +kernel) (by decide +kernel)) (goodIn_sub (fun _ h => List.mem_cons_of_mem _ (List.mem_append_left _ (List.mem_append_left _ (List.mem_append_right _ h)))) (by decide +kernel))) (goodIn_sub (fun _ h => List.mem_cons_of_mem _ (List.mem_append_left _ (List.mem_append_right _ h))) (by decide +kernel))) (goodIn_sub (fun _ h => List.mem_cons_of_mem _ (List.mem_append_right _ h)) (by decide +kernel))
set_option maxRecDepth 20000 in
theorem gL_isDelta_X5_deltaLength : GoodIn wsL_isDelta (wsV RL 164 RX5 yX5_deltaLength wsX5_deltaLength) := goodIn_app (goodIn_of _ (by decide +kernel)) ggL_isDelta_X5_deltaLength
set_option maxRecDepth 20000 in
theorem ggL_isDelta_X5_deltaFrom : GoodIn wsL_isDelta wsX5_deltaFrom := goodIn_ca (goodIn_ca (goodIn_ca (goodIn_r _ [113, 41, 42, 43, 44, 8, 45, 21, 22, 46, 23, 24, 25, 26, 27, 47, 48, 49, 50, 51, 52, 53, 54, 55, 56, 57, 58, 59, 60, 61, 62, 63, 64, 65, 66, 67, 68, 69, 70, 71, 72, 73, 74, 75, 76, 77, 78, 79, 80, 81, 82, 83, 84, 85, 86, 87, 88, 89, 90, 91, 92, 93, 94, 95, 96, 97, 98, 99, 100, 101, 102, 14, 103, 32, 104, 105, 106, 107, 108, 114, 132, 133, 134, 135, 136, 137, 140, 141, 142, 143, 144, 145, 138, 139] (by decide +kernel) (by decide +kernel)) (goodIn_sub (fun _ h => List.mem_cons_of_mem _ (List.mem_append_left _ (List.mem_append_left _ (List.mem_append_right _ h)))) (by decide +kernel))) (goodIn_sub (fun _ h => List.mem_cons_of_mem _ (List.mem_append_left _ (List.mem_append_right _ h))) (by decide +kernel))) (goodIn_sub (fun _ h => List.mem_cons_of_mem _ (List.mem_append_right _ h)) (by decide +kernel))
set_option maxRecDepth 20000 in
theorem gL_isDelta_X5_deltaFrom : GoodIn wsL_isDelta (wsV RL 167 RX5 yX5_deltaFrom wsX5_deltaFrom) := goodIn_app (goodIn_of _ (by decide +kernel)) ggL_isDelta_X5_deltaFrom
set_option maxRecDepth 20000 in
theorem ggL_isDelta_X5_deltaPieces : GoodIn wsL_isDelta wsX5_deltaPieces := goodIn_ca (goodIn_ca (goodIn_r _ [118, 41, 42, 43, 44, 8, 45, 21, 22, 46, 23, 24, 25, 26, 27, 47, 48, 49, 50, 51, 52, 53, 54, 55, 56, 57, 58, 59, 60, 61, 62, 63, 64, 65, 66, 67, 68, 69, 70, 71, 72, 73, 119, 120, 121, 77, 122, 79, 80, 81, 82, 83, 84, 85, 86, 87, 88, 89, 90, 91, 92, 93, 94, 95, 96, 97, 98, 99, 100, 101, 102, 14, 103, 32, 132, 133, 134, 135, 136, 137, 140, 141, 142, 143, 144, 145, 138, 139] (by decide +kernel) (by decide +kernel)) (goodIn_sub (fun _ h => List.mem_cons_of_mem _ (List.mem_append_left _ (List.mem_append_left _ (List.mem_append_right _ h)))) (by decide +kernel))) (goodIn_sub (fun _ h => List.mem_cons_of_mem _ (List.mem_append_left _ (List.mem_append_right _ h))) (by decide +kernel))
set_option maxRecDepth 20000 in
theorem gL_isDelta_X5_deltaPieces : GoodIn wsL_isDelta (wsV RL 170 RX5 yX5_deltaPieces wsX5_deltaPieces) := goodIn_app (goodIn_of _ (by decide +kernel)) ggL_isDelta_X5_deltaPieces
set_option maxRecDepth 20000 in
theorem ggL_isDelta_X5_draftHash : GoodIn wsL_isDelta wsX5_draftHash := goodIn_r _ [126, 10, 127, 128, 129, 14, 130, 16, 131, 101, 102, 103, 32, 71, 8, 72, 73, 132, 133, 134, 135, 136, 137, 138, 139] (by decide +kernel) (by decide +kernel)
set_option maxRecDepth 20000 in
theorem gL_isDelta_X5_draftHash : GoodIn wsL_isDelta (wsV RL 173 RX5 yX5_draftHash wsX5_draftHash) := goodIn_app (goodIn_of _ (by decide +kernel)) ggL_isDelta_X5_draftHash

theorem dL_switchOn_0 : decode cL_switchOn 0 = .ok (.aload_n 1, 1) := by decide +kernel
theorem dL_switchOn_1 : decode cL_switchOn 1 = .ok (.iconst 0, 1) := by decide +kernel
theorem dL_switchOn_2 : decode cL_switchOn 2 = .ok (.aload_n 0, 1) := by decide +kernel
theorem dL_switchOn_3 : decode cL_switchOn 3 = .ok (.invokevirtual 7, 3) := by decide +kernel
theorem dL_switchOn_6 : decode cL_switchOn 6 = .ok (.i2l, 1) := by decide +kernel
theorem dL_switchOn_7 : decode cL_switchOn 7 = .ok (.lastore, 1) := by decide +kernel
theorem dL_switchOn_8 : decode cL_switchOn 8 = .ok (.goto 6, 3) := by decide +kernel
theorem dL_switchOn_11 : decode cL_switchOn 11 = .ok (.astore_n 2, 1) := by decide +kernel
theorem dL_switchOn_12 : decode cL_switchOn 12 = .ok (.iconst 1, 1) := by decide +kernel
theorem dL_switchOn_13 : decode cL_switchOn 13 = .ok (.ireturn, 1) := by decide +kernel
theorem dL_switchOn_14 : decode cL_switchOn 14 = .ok (.iconst 0, 1) := by decide +kernel
theorem dL_switchOn_15 : decode cL_switchOn 15 = .ok (.ireturn, 1) := by decide +kernel
set_option maxRecDepth 20000 in
theorem ggL_switchOff_X5_switchOff : GoodIn wsL_switchOff wsX5_switchOff := goodIn_ca (goodIn_r _ [6, 7, 8, 9, 10, 5, 11, 12, 13, 14, 15, 16, 17, 18, 19, 20, 21, 22, 23, 24, 25, 26, 27, 28, 29, 30, 31, 32, 33, 34, 35, 36, 37, 38, 39, 40] (by decide +kernel) (by decide +kernel)) (goodIn_sub (fun _ h => List.mem_cons_of_mem _ (List.mem_append_right _ h)) (by decide +kernel))
set_option maxRecDepth 20000 in
theorem gL_switchOff_X5_switchOff : GoodIn wsL_switchOff (wsV RL 15 RX5 yX5_switchOff wsX5_switchOff) := goodIn_app (goodIn_of _ (by decide +kernel)) ggL_switchOff_X5_switchOff
theorem dL_switchOff_0 : decode cL_switchOff 0 = .ok (.aload_n 1, 1) := by decide +kernel
theorem dL_switchOff_1 : decode cL_switchOff 1 = .ok (.iconst 0, 1) := by decide +kernel
theorem dL_switchOff_2 : decode cL_switchOff 2 = .ok (.aload_n 0, 1) := by decide +kernel
theorem dL_switchOff_3 : decode cL_switchOff 3 = .ok (.invokevirtual 15, 3) := by decide +kernel
theorem dL_switchOff_6 : decode cL_switchOff 6 = .ok (.i2l, 1) := by decide +kernel
theorem dL_switchOff_7 : decode cL_switchOff 7 = .ok (.lastore, 1) := by decide +kernel
theorem dL_switchOff_8 : decode cL_switchOff 8 = .ok (.goto 6, 3) := by decide +kernel
theorem dL_switchOff_11 : decode cL_switchOff 11 = .ok (.astore_n 2, 1) := by decide +kernel
theorem dL_switchOff_12 : decode cL_switchOff 12 = .ok (.iconst 1, 1) := by decide +kernel
theorem dL_switchOff_13 : decode cL_switchOff 13 = .ok (.ireturn, 1) := by decide +kernel
theorem dL_switchOff_14 : decode cL_switchOff 14 = .ok (.iconst 0, 1) := by decide +kernel
theorem dL_switchOff_15 : decode cL_switchOff 15 = .ok (.ireturn, 1) := by decide +kernel
set_option maxRecDepth 20000 in
theorem ggL_failAfter_X5_failAfter : GoodIn wsL_failAfter wsX5_failAfter := goodIn_ca (goodIn_r _ [6, 7, 8, 9, 10, 5, 11, 12, 13, 14, 15, 16, 17, 18, 19, 20, 21, 22, 23, 24, 25, 26, 27, 28, 29] (by decide +kernel) (by decide +kernel)) (goodIn_sub (fun _ h => List.mem_cons_of_mem _ (List.mem_append_right _ h)) (by decide +kernel))
set_option maxRecDepth 20000 in
theorem gL_failAfter_X5_failAfter : GoodIn wsL_failAfter (wsV RL 18 RX5 yX5_failAfter wsX5_failAfter) := goodIn_app (goodIn_of _ (by decide +kernel)) ggL_failAfter_X5_failAfter
theorem dL_failAfter_0 : decode cL_failAfter 0 = .ok (.aload_n 0, 1) := by decide +kernel
theorem dL_failAfter_1 : decode cL_failAfter 1 = .ok (.iload_n 1, 1) := by decide +kernel
theorem dL_failAfter_2 : decode cL_failAfter 2 = .ok (.invokevirtual 18, 3) := by decide +kernel
theorem dL_failAfter_5 : decode cL_failAfter 5 = .ok (.goto 6, 3) := by decide +kernel
theorem dL_failAfter_8 : decode cL_failAfter 8 = .ok (.astore_n 2, 1) := by decide +kernel
theorem dL_failAfter_9 : decode cL_failAfter 9 = .ok (.iconst 1, 1) := by decide +kernel
theorem dL_failAfter_10 : decode cL_failAfter 10 = .ok (.ireturn, 1) := by decide +kernel
theorem dL_failAfter_11 : decode cL_failAfter 11 = .ok (.iconst 0, 1) := by decide +kernel
theorem dL_failAfter_12 : decode cL_failAfter 12 = .ok (.ireturn, 1) := by decide +kernel
set_option maxRecDepth 20000 in
theorem ggL_offer_X5_offer : GoodIn wsL_offer wsX5_offer := goodIn_ca (goodIn_ca (goodIn_r _ [7, 8, 9, 10, 11, 12, 13, 14, 15, 6, 16, 17, 18, 19, 20, 21, 22, 23, 24, 25, 26, 27, 28, 29, 30, 31, 32, 33, 34, 35, 36, 37, 38, 39, 40, 41, 42, 43, 44, 45, 46, 47, 48, 49, 50, 51, 52, 53, 54, 55, 56, 57, 58, 59, 60, 61, 62, 63, 64, 65, 66, 67, 68, 69, 70, 71, 72, 73, 74, 75, 76, 77, 78, 79, 80, 81, 82, 83, 84, 85, 86, 87, 88, 89, 90, 91, 92, 93, 94, 95, 96, 97, 98, 99, 100, 101, 102, 103, 104, 105, 106, 107, 108, 109, 110, 111, 112, 113, 114, 115, 116, 117, 118, 119, 120, 121, 122] (by decide +kernel) (by decide +kernel)) (goodIn_sub (fun _ h => List.mem_cons_of_mem _ (List.mem_append_left _ (List.mem_append_right _ h))) (by decide +kernel))) (goodIn_sub (fun _ h => List.mem_cons_of_mem _ (List.mem_append_right _ h)) (by decide +kernel))
set_option maxRecDepth 20000 in
theorem gL_offer_X5_offer : GoodIn wsL_offer (wsV RL 24 RX5 yX5_offer wsX5_offer) := goodIn_app (goodIn_of _ (by decide +kernel)) ggL_offer_X5_offer
theorem dL_offer_0 : decode cL_offer 0 = .ok (.aload 5, 2) := by decide +kernel
theorem dL_offer_2 : decode cL_offer 2 = .ok (.iconst 0, 1) := by decide +kernel
theorem dL_offer_3 : decode cL_offer 3 = .ok (.aload_n 0, 1) := by decide +kernel
theorem dL_offer_4 : decode cL_offer 4 = .ok (.iload_n 1, 1) := by decide +kernel
theorem dL_offer_5 : decode cL_offer 5 = .ok (.iload_n 2, 1) := by decide +kernel
theorem dL_offer_6 : decode cL_offer 6 = .ok (.iload_n 3, 1) := by decide +kernel
theorem dL_offer_7 : decode cL_offer 7 = .ok (.iload 4, 2) := by decide +kernel
theorem dL_offer_9 : decode cL_offer 9 = .ok (.invokevirtual 24, 3) := by decide +kernel
theorem dL_offer_12 : decode cL_offer 12 = .ok (.ifCond .eq 7, 3) := by decide +kernel
theorem dL_offer_15 : decode cL_offer 15 = .ok (.lconst 1, 1) := by decide +kernel
theorem dL_offer_16 : decode cL_offer 16 = .ok (.goto 4, 3) := by decide +kernel
theorem dL_offer_19 : decode cL_offer 19 = .ok (.lconst 0, 1) := by decide +kernel
theorem dL_offer_20 : decode cL_offer 20 = .ok (.lastore, 1) := by decide +kernel
theorem dL_offer_21 : decode cL_offer 21 = .ok (.goto 11, 3) := by decide +kernel
theorem dL_offer_24 : decode cL_offer 24 = .ok (.astore 6, 2) := by decide +kernel
theorem dL_offer_26 : decode cL_offer 26 = .ok (.iconst 1, 1) := by decide +kernel
theorem dL_offer_27 : decode cL_offer 27 = .ok (.ireturn, 1) := by decide +kernel
theorem dL_offer_28 : decode cL_offer 28 = .ok (.astore 6, 2) := by decide +kernel
theorem dL_offer_30 : decode cL_offer 30 = .ok (.iconst 2, 1) := by decide +kernel
theorem dL_offer_31 : decode cL_offer 31 = .ok (.ireturn, 1) := by decide +kernel
theorem dL_offer_32 : decode cL_offer 32 = .ok (.iconst 0, 1) := by decide +kernel
theorem dL_offer_33 : decode cL_offer 33 = .ok (.ireturn, 1) := by decide +kernel
set_option maxRecDepth 20000 in
theorem ggL_put_X5_put : GoodIn wsL_put wsX5_put := goodIn_ca (goodIn_ca (goodIn_r _ [7, 8, 9, 6, 10, 11, 12, 13, 14, 15, 16, 17, 18, 19, 20, 21, 22, 23, 24, 25, 26, 27, 28, 29, 30, 31, 32, 33, 34, 35, 36, 37, 38, 39, 40, 41, 42, 43, 44, 45, 46, 47, 48, 49, 50, 51, 52, 53, 54, 55, 56, 57, 58, 59, 60, 61, 62, 63, 64, 65, 66, 67, 68, 69, 70, 71, 72, 73, 74, 75, 76, 77, 78, 79, 80, 81, 82, 83, 84, 85, 86, 87, 88, 89, 90, 91] (by decide +kernel) (by decide +kernel)) (goodIn_sub (fun _ h => List.mem_cons_of_mem _ (List.mem_append_left _ (List.mem_append_right _ h))) (by decide +kernel))) (goodIn_sub (fun _ h => List.mem_cons_of_mem _ (List.mem_append_right _ h)) (by decide +kernel))
set_option maxRecDepth 20000 in
theorem gL_put_X5_put : GoodIn wsL_put (wsV RL 28 RX5 yX5_put wsX5_put) := goodIn_app (goodIn_of _ (by decide +kernel)) ggL_put_X5_put
theorem dL_put_0 : decode cL_put 0 = .ok (.aload_n 2, 1) := by decide +kernel
theorem dL_put_1 : decode cL_put 1 = .ok (.iconst 0, 1) := by decide +kernel
theorem dL_put_2 : decode cL_put 2 = .ok (.aload_n 0, 1) := by decide +kernel
theorem dL_put_3 : decode cL_put 3 = .ok (.iload_n 1, 1) := by decide +kernel
theorem dL_put_4 : decode cL_put 4 = .ok (.invokevirtual 28, 3) := by decide +kernel
theorem dL_put_7 : decode cL_put 7 = .ok (.ifCond .eq 7, 3) := by decide +kernel
theorem dL_put_10 : decode cL_put 10 = .ok (.lconst 1, 1) := by decide +kernel
theorem dL_put_11 : decode cL_put 11 = .ok (.goto 4, 3) := by decide +kernel
theorem dL_put_14 : decode cL_put 14 = .ok (.lconst 0, 1) := by decide +kernel
theorem dL_put_15 : decode cL_put 15 = .ok (.lastore, 1) := by decide +kernel
theorem dL_put_16 : decode cL_put 16 = .ok (.goto 9, 3) := by decide +kernel
theorem dL_put_19 : decode cL_put 19 = .ok (.astore_n 3, 1) := by decide +kernel
theorem dL_put_20 : decode cL_put 20 = .ok (.iconst 1, 1) := by decide +kernel
theorem dL_put_21 : decode cL_put 21 = .ok (.ireturn, 1) := by decide +kernel
theorem dL_put_22 : decode cL_put 22 = .ok (.astore_n 3, 1) := by decide +kernel
theorem dL_put_23 : decode cL_put 23 = .ok (.iconst 2, 1) := by decide +kernel
theorem dL_put_24 : decode cL_put 24 = .ok (.ireturn, 1) := by decide +kernel
theorem dL_put_25 : decode cL_put 25 = .ok (.iconst 0, 1) := by decide +kernel
theorem dL_put_26 : decode cL_put 26 = .ok (.ireturn, 1) := by decide +kernel
set_option maxRecDepth 20000 in
theorem ggL_copy_X5_copy : GoodIn wsL_copy wsX5_copy := goodIn_ca (goodIn_ca (goodIn_r _ [7, 8, 9, 10, 11, 12, 13, 6, 14, 15, 16, 17, 18, 19, 20, 21, 22, 23, 24, 25, 26, 27, 28, 29, 30, 31, 32, 33, 34, 35, 36, 37, 38, 39, 40, 41, 42, 43, 44, 45, 46, 47, 48, 49, 50, 51, 52, 53, 54, 55, 56, 57, 58, 59, 60, 61, 62, 63, 64, 65, 66, 67, 68, 69, 70, 71, 72, 73, 74, 75, 76, 77, 78, 79, 80, 81, 82, 83, 84, 85, 86, 87, 88, 89, 90, 91, 92, 93, 94, 95, 96, 97, 98, 99, 100, 101, 102, 103, 104] (by decide +kernel) (by decide +kernel)) (goodIn_sub (fun _ h => List.mem_cons_of_mem _ (List.mem_append_left _ (List.mem_append_right _ h))) (by decide +kernel))) (goodIn_sub (fun _ h => List.mem_cons_of_mem _ (List.mem_append_right _ h)) (by decide +kernel))
set_option maxRecDepth 20000 in
theorem gL_copy_X5_copy : GoodIn wsL_copy (wsV RL 32 RX5 yX5_copy wsX5_copy) := goodIn_app (goodIn_of _ (by decide +kernel)) ggL_copy_X5_copy
theorem dL_copy_0 : decode cL_copy 0 = .ok (.aload_n 3, 1) := by decide +kernel
theorem dL_copy_1 : decode cL_copy 1 = .ok (.iconst 0, 1) := by decide +kernel
theorem dL_copy_2 : decode cL_copy 2 = .ok (.aload_n 0, 1) := by decide +kernel
theorem dL_copy_3 : decode cL_copy 3 = .ok (.iload_n 1, 1) := by decide +kernel
theorem dL_copy_4 : decode cL_copy 4 = .ok (.iload_n 2, 1) := by decide +kernel
theorem dL_copy_5 : decode cL_copy 5 = .ok (.invokevirtual 32, 3) := by decide +kernel
theorem dL_copy_8 : decode cL_copy 8 = .ok (.i2l, 1) := by decide +kernel
theorem dL_copy_9 : decode cL_copy 9 = .ok (.lastore, 1) := by decide +kernel
theorem dL_copy_10 : decode cL_copy 10 = .ok (.goto 11, 3) := by decide +kernel
theorem dL_copy_13 : decode cL_copy 13 = .ok (.astore 4, 2) := by decide +kernel
theorem dL_copy_15 : decode cL_copy 15 = .ok (.iconst 1, 1) := by decide +kernel
theorem dL_copy_16 : decode cL_copy 16 = .ok (.ireturn, 1) := by decide +kernel
theorem dL_copy_17 : decode cL_copy 17 = .ok (.astore 4, 2) := by decide +kernel
theorem dL_copy_19 : decode cL_copy 19 = .ok (.iconst 2, 1) := by decide +kernel
theorem dL_copy_20 : decode cL_copy 20 = .ok (.ireturn, 1) := by decide +kernel
theorem dL_copy_21 : decode cL_copy 21 = .ok (.iconst 0, 1) := by decide +kernel
theorem dL_copy_22 : decode cL_copy 22 = .ok (.ireturn, 1) := by decide +kernel
set_option maxRecDepth 20000 in
theorem ggL_finish_X5_finish : GoodIn wsL_finish wsX5_finish := goodIn_ca (goodIn_ca (goodIn_r _ [7, 8, 9, 10, 11, 12, 6, 13, 14, 15, 16, 17, 18, 19, 20, 21, 22, 23, 24, 25, 26, 27, 28, 29, 30, 31, 32, 33, 34, 35, 36, 37, 38, 39, 40, 41, 42, 43, 44, 45, 46, 47, 48, 49, 50, 51, 52, 53, 54, 55, 56, 57, 58, 59, 60, 61, 62, 63, 64, 65, 66, 67, 68, 69, 70, 71, 72, 73, 74, 75, 76, 77, 78, 79, 80, 81, 82, 83, 84, 85, 86, 87, 88, 89, 90, 91, 92, 93, 94, 95, 96, 97, 98, 99, 100, 101, 102, 103, 104, 105, 106, 107, 108, 109, 110, 111, 112, 113, 114, 115, 116, 117, 118, 119, 120, 121, 122, 123, 124, 125, 126, 127, 128, 129, 130, 131, 132, 133, 134, 135, 136, 137, 138, 139, 140, 141, 142] (by decide +kernel) (by decide +kernel)) (goodIn_sub (fun _ h => List.mem_cons_of_mem _ (List.mem_append_left _ (List.mem_append_right _ h))) (by decide +kernel))) (goodIn_sub (fun _ h => List.mem_cons_of_mem _ (List.mem_append_right _ h)) (by decide +kernel))
set_option maxRecDepth 20000 in
theorem gL_finish_X5_finish : GoodIn wsL_finish (wsV RL 36 RX5 yX5_finish wsX5_finish) := goodIn_app (goodIn_of _ (by decide +kernel)) ggL_finish_X5_finish
theorem dL_finish_0 : decode cL_finish 0 = .ok (.aload_n 2, 1) := by decide +kernel
theorem dL_finish_1 : decode cL_finish 1 = .ok (.iconst 0, 1) := by decide +kernel
theorem dL_finish_2 : decode cL_finish 2 = .ok (.aload_n 0, 1) := by decide +kernel
theorem dL_finish_3 : decode cL_finish 3 = .ok (.iload_n 1, 1) := by decide +kernel
theorem dL_finish_4 : decode cL_finish 4 = .ok (.invokevirtual 36, 3) := by decide +kernel
theorem dL_finish_7 : decode cL_finish 7 = .ok (.ifCond .eq 7, 3) := by decide +kernel
theorem dL_finish_10 : decode cL_finish 10 = .ok (.lconst 1, 1) := by decide +kernel
theorem dL_finish_11 : decode cL_finish 11 = .ok (.goto 4, 3) := by decide +kernel
theorem dL_finish_14 : decode cL_finish 14 = .ok (.lconst 0, 1) := by decide +kernel
theorem dL_finish_15 : decode cL_finish 15 = .ok (.lastore, 1) := by decide +kernel
theorem dL_finish_16 : decode cL_finish 16 = .ok (.goto 9, 3) := by decide +kernel
theorem dL_finish_19 : decode cL_finish 19 = .ok (.astore_n 3, 1) := by decide +kernel
theorem dL_finish_20 : decode cL_finish 20 = .ok (.iconst 1, 1) := by decide +kernel
theorem dL_finish_21 : decode cL_finish 21 = .ok (.ireturn, 1) := by decide +kernel
theorem dL_finish_22 : decode cL_finish 22 = .ok (.astore_n 3, 1) := by decide +kernel
theorem dL_finish_23 : decode cL_finish 23 = .ok (.iconst 2, 1) := by decide +kernel
theorem dL_finish_24 : decode cL_finish 24 = .ok (.ireturn, 1) := by decide +kernel
theorem dL_finish_25 : decode cL_finish 25 = .ok (.iconst 0, 1) := by decide +kernel
theorem dL_finish_26 : decode cL_finish 26 = .ok (.ireturn, 1) := by decide +kernel
set_option maxRecDepth 20000 in
theorem ggL_confirm_X5_confirm : GoodIn wsL_confirm wsX5_confirm := goodIn_ca (goodIn_r _ [6, 7, 8, 9, 10, 11, 12, 13, 14, 15, 16, 17, 5, 18, 19, 20, 21, 22, 23, 24, 25, 26, 27, 28, 29, 30, 31, 32, 33, 34, 35, 36, 37, 38, 39, 40, 41, 42, 43, 44, 45, 46, 47, 48, 49, 50, 51, 52, 53, 54, 55, 56, 57, 58, 59, 60, 61, 62, 63, 64, 65, 66, 67, 68, 69, 70, 71, 72, 73, 74, 75, 76, 77, 78, 79, 80, 81, 82, 83, 84, 85, 86, 87, 88, 89, 90, 91, 92, 93, 94, 95, 96, 97, 98, 99, 100, 101, 102, 103, 104, 105, 106, 107, 108, 109, 110, 111, 112, 113, 114, 115, 116, 117] (by decide +kernel) (by decide +kernel)) (goodIn_sub (fun _ h => List.mem_cons_of_mem _ (List.mem_append_right _ h)) (by decide +kernel))
set_option maxRecDepth 20000 in
theorem gL_confirm_X5_confirm : GoodIn wsL_confirm (wsV RL 39 RX5 yX5_confirm wsX5_confirm) := goodIn_app (goodIn_of _ (by decide +kernel)) ggL_confirm_X5_confirm
theorem dL_confirm_0 : decode cL_confirm 0 = .ok (.aload_n 1, 1) := by decide +kernel
theorem dL_confirm_1 : decode cL_confirm 1 = .ok (.iconst 0, 1) := by decide +kernel
theorem dL_confirm_2 : decode cL_confirm 2 = .ok (.aload_n 0, 1) := by decide +kernel
theorem dL_confirm_3 : decode cL_confirm 3 = .ok (.invokevirtual 39, 3) := by decide +kernel
theorem dL_confirm_6 : decode cL_confirm 6 = .ok (.ifCond .eq 7, 3) := by decide +kernel
theorem dL_confirm_9 : decode cL_confirm 9 = .ok (.lconst 1, 1) := by decide +kernel
theorem dL_confirm_10 : decode cL_confirm 10 = .ok (.goto 4, 3) := by decide +kernel
theorem dL_confirm_13 : decode cL_confirm 13 = .ok (.lconst 0, 1) := by decide +kernel
theorem dL_confirm_14 : decode cL_confirm 14 = .ok (.lastore, 1) := by decide +kernel
theorem dL_confirm_15 : decode cL_confirm 15 = .ok (.goto 6, 3) := by decide +kernel
theorem dL_confirm_18 : decode cL_confirm 18 = .ok (.astore_n 2, 1) := by decide +kernel
theorem dL_confirm_19 : decode cL_confirm 19 = .ok (.iconst 1, 1) := by decide +kernel
theorem dL_confirm_20 : decode cL_confirm 20 = .ok (.ireturn, 1) := by decide +kernel
theorem dL_confirm_21 : decode cL_confirm 21 = .ok (.iconst 0, 1) := by decide +kernel
theorem dL_confirm_22 : decode cL_confirm 22 = .ok (.ireturn, 1) := by decide +kernel
set_option maxRecDepth 20000 in
theorem ggL_draft_X5_draft : GoodIn wsL_draft wsX5_draft := goodIn_ca (goodIn_ca (goodIn_r _ [7, 8, 9, 10, 11, 12, 6, 13, 14, 15, 16, 17, 18, 19, 20, 21, 22, 23, 24, 25, 26, 27, 28, 29, 30, 31, 32, 33, 34] (by decide +kernel) (by decide +kernel)) (goodIn_sub (fun _ h => List.mem_cons_of_mem _ (List.mem_append_left _ (List.mem_append_right _ h))) (by decide +kernel))) (goodIn_sub (fun _ h => List.mem_cons_of_mem _ (List.mem_append_right _ h)) (by decide +kernel))
set_option maxRecDepth 20000 in
theorem gL_draft_X5_draft : GoodIn wsL_draft (wsV RL 43 RX5 yX5_draft wsX5_draft) := goodIn_app (goodIn_of _ (by decide +kernel)) ggL_draft_X5_draft
theorem dL_draft_0 : decode cL_draft 0 = .ok (.aload_n 2, 1) := by decide +kernel
theorem dL_draft_1 : decode cL_draft 1 = .ok (.iconst 0, 1) := by decide +kernel
theorem dL_draft_2 : decode cL_draft 2 = .ok (.aload_n 0, 1) := by decide +kernel
theorem dL_draft_3 : decode cL_draft 3 = .ok (.iload_n 1, 1) := by decide +kernel
theorem dL_draft_4 : decode cL_draft 4 = .ok (.invokevirtual 43, 3) := by decide +kernel
theorem dL_draft_7 : decode cL_draft 7 = .ok (.i2l, 1) := by decide +kernel
theorem dL_draft_8 : decode cL_draft 8 = .ok (.lastore, 1) := by decide +kernel
theorem dL_draft_9 : decode cL_draft 9 = .ok (.goto 9, 3) := by decide +kernel
theorem dL_draft_12 : decode cL_draft 12 = .ok (.astore_n 3, 1) := by decide +kernel
theorem dL_draft_13 : decode cL_draft 13 = .ok (.iconst 1, 1) := by decide +kernel
theorem dL_draft_14 : decode cL_draft 14 = .ok (.ireturn, 1) := by decide +kernel
theorem dL_draft_15 : decode cL_draft 15 = .ok (.astore_n 3, 1) := by decide +kernel
theorem dL_draft_16 : decode cL_draft 16 = .ok (.iconst 2, 1) := by decide +kernel
theorem dL_draft_17 : decode cL_draft 17 = .ok (.ireturn, 1) := by decide +kernel
theorem dL_draft_18 : decode cL_draft 18 = .ok (.iconst 0, 1) := by decide +kernel
theorem dL_draft_19 : decode cL_draft 19 = .ok (.ireturn, 1) := by decide +kernel
set_option maxRecDepth 20000 in
theorem ggL_deltaPieces_X5_deltaPieces : GoodIn wsL_deltaPieces wsX5_deltaPieces := goodIn_ca (goodIn_ca (goodIn_r _ [7, 8, 9, 10, 11, 6, 12, 13, 14, 15, 16, 17, 18, 19, 20, 21, 22, 23, 24, 25, 26, 27, 28, 29, 30, 31, 32, 33, 34, 35, 36, 37, 38, 39, 40, 41, 42, 43, 44, 45, 46, 47, 48, 49, 50, 51, 52, 53, 54, 55, 56, 57, 58, 59, 60, 61, 62, 63, 64, 65, 66, 67, 68, 69, 70, 71, 72, 73, 74, 75, 76, 77, 78, 79, 80, 81, 82, 83, 84, 85, 86, 87, 88, 89, 90, 91, 92, 93] (by decide +kernel) (by decide +kernel)) (goodIn_sub (fun _ h => List.mem_cons_of_mem _ (List.mem_append_left _ (List.mem_append_right _ h))) (by decide +kernel))) (goodIn_sub (fun _ h => List.mem_cons_of_mem _ (List.mem_append_right _ h)) (by decide +kernel))
set_option maxRecDepth 20000 in
theorem gL_deltaPieces_X5_deltaPieces : GoodIn wsL_deltaPieces (wsV RL 47 RX5 yX5_deltaPieces wsX5_deltaPieces) := goodIn_app (goodIn_of _ (by decide +kernel)) ggL_deltaPieces_X5_deltaPieces
theorem dL_deltaPieces_0 : decode cL_deltaPieces 0 = .ok (.aload_n 2, 1) := by decide +kernel
theorem dL_deltaPieces_1 : decode cL_deltaPieces 1 = .ok (.iconst 0, 1) := by decide +kernel
theorem dL_deltaPieces_2 : decode cL_deltaPieces 2 = .ok (.aload_n 0, 1) := by decide +kernel
theorem dL_deltaPieces_3 : decode cL_deltaPieces 3 = .ok (.iload_n 1, 1) := by decide +kernel
theorem dL_deltaPieces_4 : decode cL_deltaPieces 4 = .ok (.invokevirtual 47, 3) := by decide +kernel
theorem dL_deltaPieces_7 : decode cL_deltaPieces 7 = .ok (.i2l, 1) := by decide +kernel
theorem dL_deltaPieces_8 : decode cL_deltaPieces 8 = .ok (.lastore, 1) := by decide +kernel
theorem dL_deltaPieces_9 : decode cL_deltaPieces 9 = .ok (.goto 9, 3) := by decide +kernel
theorem dL_deltaPieces_12 : decode cL_deltaPieces 12 = .ok (.astore_n 3, 1) := by decide +kernel
theorem dL_deltaPieces_13 : decode cL_deltaPieces 13 = .ok (.iconst 1, 1) := by decide +kernel
theorem dL_deltaPieces_14 : decode cL_deltaPieces 14 = .ok (.ireturn, 1) := by decide +kernel
theorem dL_deltaPieces_15 : decode cL_deltaPieces 15 = .ok (.astore_n 3, 1) := by decide +kernel
theorem dL_deltaPieces_16 : decode cL_deltaPieces 16 = .ok (.iconst 2, 1) := by decide +kernel
theorem dL_deltaPieces_17 : decode cL_deltaPieces 17 = .ok (.ireturn, 1) := by decide +kernel
theorem dL_deltaPieces_18 : decode cL_deltaPieces 18 = .ok (.iconst 0, 1) := by decide +kernel
theorem dL_deltaPieces_19 : decode cL_deltaPieces 19 = .ok (.ireturn, 1) := by decide +kernel
set_option maxRecDepth 20000 in
theorem ggL_deltaLength_X5_deltaLength : GoodIn wsL_deltaLength wsX5_deltaLength := goodIn_ca (goodIn_ca (goodIn_ca (goodIn_r _ [8, 9, 10, 11, 12, 7, 13, 14, 15, 16, 17, 18, 19, 20, 21, 22, 23, 24, 25, 26, 27, 28, 29, 30, 31, 32, 33, 34, 35, 36, 37, 38, 39, 40, 41, 42, 43, 44, 45, 46, 47, 48, 49, 50, 51, 52, 53, 54, 55, 56, 57, 58, 59, 60, 61, 62, 63, 64, 65, 66, 67, 68, 69, 70, 71, 72, 73, 74, 75, 76, 77, 78, 79, 80, 81, 82, 83, 84, 85, 86, 87, 88, 89, 90, 91, 92, 93, 94, 95, 96, 97, 98, 99, 100] (by decide +kernel) (by decide +kernel)) (goodIn_sub (fun _ h => List.mem_cons_of_mem _ (List.mem_append_left _ (List.mem_append_left _ (List.mem_append_right _ h)))) (by decide +kernel))) (goodIn_sub (fun _ h => List.mem_cons_of_mem _ (List.mem_append_left _ (List.mem_append_right _ h))) (by decide +kernel))) (goodIn_sub (fun _ h => List.mem_cons_of_mem _ (List.mem_append_right _ h)) (by decide +kernel))
set_option maxRecDepth 20000 in
theorem gL_deltaLength_X5_deltaLength : GoodIn wsL_deltaLength (wsV RL 50 RX5 yX5_deltaLength wsX5_deltaLength) := goodIn_app (goodIn_of _ (by decide +kernel)) ggL_deltaLength_X5_deltaLength
theorem dL_deltaLength_0 : decode cL_deltaLength 0 = .ok (.aload_n 3, 1) := by decide +kernel
theorem dL_deltaLength_1 : decode cL_deltaLength 1 = .ok (.iconst 0, 1) := by decide +kernel
theorem dL_deltaLength_2 : decode cL_deltaLength 2 = .ok (.aload_n 0, 1) := by decide +kernel
theorem dL_deltaLength_3 : decode cL_deltaLength 3 = .ok (.iload_n 1, 1) := by decide +kernel
theorem dL_deltaLength_4 : decode cL_deltaLength 4 = .ok (.iload_n 2, 1) := by decide +kernel
theorem dL_deltaLength_5 : decode cL_deltaLength 5 = .ok (.invokevirtual 50, 3) := by decide +kernel
theorem dL_deltaLength_8 : decode cL_deltaLength 8 = .ok (.i2l, 1) := by decide +kernel
theorem dL_deltaLength_9 : decode cL_deltaLength 9 = .ok (.lastore, 1) := by decide +kernel
theorem dL_deltaLength_10 : decode cL_deltaLength 10 = .ok (.goto 15, 3) := by decide +kernel
theorem dL_deltaLength_13 : decode cL_deltaLength 13 = .ok (.astore 4, 2) := by decide +kernel
theorem dL_deltaLength_15 : decode cL_deltaLength 15 = .ok (.iconst 1, 1) := by decide +kernel
theorem dL_deltaLength_16 : decode cL_deltaLength 16 = .ok (.ireturn, 1) := by decide +kernel
theorem dL_deltaLength_17 : decode cL_deltaLength 17 = .ok (.astore 4, 2) := by decide +kernel
theorem dL_deltaLength_19 : decode cL_deltaLength 19 = .ok (.iconst 2, 1) := by decide +kernel
theorem dL_deltaLength_20 : decode cL_deltaLength 20 = .ok (.ireturn, 1) := by decide +kernel
theorem dL_deltaLength_21 : decode cL_deltaLength 21 = .ok (.astore 4, 2) := by decide +kernel
theorem dL_deltaLength_23 : decode cL_deltaLength 23 = .ok (.iconst 3, 1) := by decide +kernel
theorem dL_deltaLength_24 : decode cL_deltaLength 24 = .ok (.ireturn, 1) := by decide +kernel
theorem dL_deltaLength_25 : decode cL_deltaLength 25 = .ok (.iconst 0, 1) := by decide +kernel
theorem dL_deltaLength_26 : decode cL_deltaLength 26 = .ok (.ireturn, 1) := by decide +kernel
set_option maxRecDepth 20000 in
theorem ggL_deltaFrom_X5_deltaFrom : GoodIn wsL_deltaFrom wsX5_deltaFrom := goodIn_ca (goodIn_ca (goodIn_ca (goodIn_r _ [8, 9, 10, 11, 12, 7, 13, 14, 15, 16, 17, 18, 19, 20, 21, 22, 23, 24, 25, 26, 27, 28, 29, 30, 31, 32, 33, 34, 35, 36, 37, 38, 39, 40, 41, 42, 43, 44, 45, 46, 47, 48, 49, 50, 51, 52, 53, 54, 55, 56, 57, 58, 59, 60, 61, 62, 63, 64, 65, 66, 67, 68, 69, 70, 71, 72, 73, 74, 75, 76, 77, 78, 79, 80, 81, 82, 83, 84, 85, 86, 87, 88, 89, 90, 91, 92, 93, 94, 95, 96, 97, 98, 99, 100] (by decide +kernel) (by decide +kernel)) (goodIn_sub (fun _ h => List.mem_cons_of_mem _ (List.mem_append_left _ (List.mem_append_left _ (List.mem_append_right _ h)))) (by decide +kernel))) (goodIn_sub (fun _ h => List.mem_cons_of_mem _ (List.mem_append_left _ (List.mem_append_right _ h))) (by decide +kernel))) (goodIn_sub (fun _ h => List.mem_cons_of_mem _ (List.mem_append_right _ h)) (by decide +kernel))
set_option maxRecDepth 20000 in
theorem gL_deltaFrom_X5_deltaFrom : GoodIn wsL_deltaFrom (wsV RL 55 RX5 yX5_deltaFrom wsX5_deltaFrom) := goodIn_app (goodIn_of _ (by decide +kernel)) ggL_deltaFrom_X5_deltaFrom
theorem dL_deltaFrom_0 : decode cL_deltaFrom 0 = .ok (.aload_n 3, 1) := by decide +kernel
theorem dL_deltaFrom_1 : decode cL_deltaFrom 1 = .ok (.iconst 0, 1) := by decide +kernel
theorem dL_deltaFrom_2 : decode cL_deltaFrom 2 = .ok (.aload_n 0, 1) := by decide +kernel
theorem dL_deltaFrom_3 : decode cL_deltaFrom 3 = .ok (.iload_n 1, 1) := by decide +kernel
theorem dL_deltaFrom_4 : decode cL_deltaFrom 4 = .ok (.iload_n 2, 1) := by decide +kernel
theorem dL_deltaFrom_5 : decode cL_deltaFrom 5 = .ok (.invokevirtual 55, 3) := by decide +kernel
theorem dL_deltaFrom_8 : decode cL_deltaFrom 8 = .ok (.i2l, 1) := by decide +kernel
theorem dL_deltaFrom_9 : decode cL_deltaFrom 9 = .ok (.lastore, 1) := by decide +kernel
theorem dL_deltaFrom_10 : decode cL_deltaFrom 10 = .ok (.goto 15, 3) := by decide +kernel
theorem dL_deltaFrom_13 : decode cL_deltaFrom 13 = .ok (.astore 4, 2) := by decide +kernel
theorem dL_deltaFrom_15 : decode cL_deltaFrom 15 = .ok (.iconst 1, 1) := by decide +kernel
theorem dL_deltaFrom_16 : decode cL_deltaFrom 16 = .ok (.ireturn, 1) := by decide +kernel
theorem dL_deltaFrom_17 : decode cL_deltaFrom 17 = .ok (.astore 4, 2) := by decide +kernel
theorem dL_deltaFrom_19 : decode cL_deltaFrom 19 = .ok (.iconst 2, 1) := by decide +kernel
theorem dL_deltaFrom_20 : decode cL_deltaFrom 20 = .ok (.ireturn, 1) := by decide +kernel
theorem dL_deltaFrom_21 : decode cL_deltaFrom 21 = .ok (.astore 4, 2) := by decide +kernel
theorem dL_deltaFrom_23 : decode cL_deltaFrom 23 = .ok (.iconst 3, 1) := by decide +kernel
theorem dL_deltaFrom_24 : decode cL_deltaFrom 24 = .ok (.ireturn, 1) := by decide +kernel
theorem dL_deltaFrom_25 : decode cL_deltaFrom 25 = .ok (.iconst 0, 1) := by decide +kernel
theorem dL_deltaFrom_26 : decode cL_deltaFrom 26 = .ok (.ireturn, 1) := by decide +kernel
set_option maxRecDepth 20000 in
theorem ggL_isStartable_X5_isStartable : GoodIn wsL_isStartable wsX5_isStartable := goodIn_ca (goodIn_r _ [6, 7, 8, 9, 5, 10, 11, 12, 13, 14, 15, 16, 17, 18, 19, 20, 21, 22, 23, 24, 25, 26, 27, 28, 29, 30, 31, 32, 33, 34, 35, 36, 37, 38, 39, 40, 41, 42, 43, 44, 45, 46, 47, 48, 49] (by decide +kernel) (by decide +kernel)) (goodIn_sub (fun _ h => List.mem_cons_of_mem _ (List.mem_append_right _ h)) (by decide +kernel))
set_option maxRecDepth 20000 in
theorem gL_isStartable_X5_isStartable : GoodIn wsL_isStartable (wsV RL 58 RX5 yX5_isStartable wsX5_isStartable) := goodIn_app (goodIn_of _ (by decide +kernel)) ggL_isStartable_X5_isStartable
theorem dL_isStartable_0 : decode cL_isStartable 0 = .ok (.aload_n 2, 1) := by decide +kernel
theorem dL_isStartable_1 : decode cL_isStartable 1 = .ok (.iconst 0, 1) := by decide +kernel
theorem dL_isStartable_2 : decode cL_isStartable 2 = .ok (.aload_n 0, 1) := by decide +kernel
theorem dL_isStartable_3 : decode cL_isStartable 3 = .ok (.iload_n 1, 1) := by decide +kernel
theorem dL_isStartable_4 : decode cL_isStartable 4 = .ok (.invokevirtual 58, 3) := by decide +kernel
theorem dL_isStartable_7 : decode cL_isStartable 7 = .ok (.ifCond .eq 7, 3) := by decide +kernel
theorem dL_isStartable_10 : decode cL_isStartable 10 = .ok (.lconst 1, 1) := by decide +kernel
theorem dL_isStartable_11 : decode cL_isStartable 11 = .ok (.goto 4, 3) := by decide +kernel
theorem dL_isStartable_14 : decode cL_isStartable 14 = .ok (.lconst 0, 1) := by decide +kernel
theorem dL_isStartable_15 : decode cL_isStartable 15 = .ok (.lastore, 1) := by decide +kernel
theorem dL_isStartable_16 : decode cL_isStartable 16 = .ok (.goto 6, 3) := by decide +kernel
theorem dL_isStartable_19 : decode cL_isStartable 19 = .ok (.astore_n 3, 1) := by decide +kernel
theorem dL_isStartable_20 : decode cL_isStartable 20 = .ok (.iconst 1, 1) := by decide +kernel
theorem dL_isStartable_21 : decode cL_isStartable 21 = .ok (.ireturn, 1) := by decide +kernel
theorem dL_isStartable_22 : decode cL_isStartable 22 = .ok (.iconst 0, 1) := by decide +kernel
theorem dL_isStartable_23 : decode cL_isStartable 23 = .ok (.ireturn, 1) := by decide +kernel
set_option maxRecDepth 20000 in
theorem ggL_version_X5_version : GoodIn wsL_version wsX5_version := goodIn_ca (goodIn_r _ [6, 7, 8, 9, 5, 10, 11, 12, 13, 14, 15, 16, 17, 18, 19, 20, 21, 22, 23, 24, 25, 26, 27, 28, 29, 30, 31, 32, 33, 34] (by decide +kernel) (by decide +kernel)) (goodIn_sub (fun _ h => List.mem_cons_of_mem _ (List.mem_append_right _ h)) (by decide +kernel))
set_option maxRecDepth 20000 in
theorem gL_version_X5_version : GoodIn wsL_version (wsV RL 61 RX5 yX5_version wsX5_version) := goodIn_app (goodIn_of _ (by decide +kernel)) ggL_version_X5_version
theorem dL_version_0 : decode cL_version 0 = .ok (.aload_n 2, 1) := by decide +kernel
theorem dL_version_1 : decode cL_version 1 = .ok (.iconst 0, 1) := by decide +kernel
theorem dL_version_2 : decode cL_version 2 = .ok (.aload_n 0, 1) := by decide +kernel
theorem dL_version_3 : decode cL_version 3 = .ok (.iload_n 1, 1) := by decide +kernel
theorem dL_version_4 : decode cL_version 4 = .ok (.invokevirtual 61, 3) := by decide +kernel
theorem dL_version_7 : decode cL_version 7 = .ok (.i2l, 1) := by decide +kernel
theorem dL_version_8 : decode cL_version 8 = .ok (.lastore, 1) := by decide +kernel
theorem dL_version_9 : decode cL_version 9 = .ok (.goto 6, 3) := by decide +kernel
theorem dL_version_12 : decode cL_version 12 = .ok (.astore_n 3, 1) := by decide +kernel
theorem dL_version_13 : decode cL_version 13 = .ok (.iconst 1, 1) := by decide +kernel
theorem dL_version_14 : decode cL_version 14 = .ok (.ireturn, 1) := by decide +kernel
theorem dL_version_15 : decode cL_version 15 = .ok (.iconst 0, 1) := by decide +kernel
theorem dL_version_16 : decode cL_version 16 = .ok (.ireturn, 1) := by decide +kernel
set_option maxRecDepth 20000 in
theorem ggL_imageByte_X5_imageByte : GoodIn wsL_imageByte wsX5_imageByte := goodIn_ca (goodIn_ca (goodIn_r _ [7, 8, 9, 10, 11, 12, 6, 13, 14, 15, 16, 17, 18, 19, 20, 21, 22, 23, 24, 25, 26, 27, 28, 29, 30, 31, 32, 33, 34, 35, 36, 37] (by decide +kernel) (by decide +kernel)) (goodIn_sub (fun _ h => List.mem_cons_of_mem _ (List.mem_append_left _ (List.mem_append_right _ h))) (by decide +kernel))) (goodIn_sub (fun _ h => List.mem_cons_of_mem _ (List.mem_append_right _ h)) (by decide +kernel))
set_option maxRecDepth 20000 in
theorem gL_imageByte_X5_imageByte : GoodIn wsL_imageByte (wsV RL 64 RX5 yX5_imageByte wsX5_imageByte) := goodIn_app (goodIn_of _ (by decide +kernel)) ggL_imageByte_X5_imageByte
theorem dL_imageByte_0 : decode cL_imageByte 0 = .ok (.aload_n 3, 1) := by decide +kernel
theorem dL_imageByte_1 : decode cL_imageByte 1 = .ok (.iconst 0, 1) := by decide +kernel
theorem dL_imageByte_2 : decode cL_imageByte 2 = .ok (.aload_n 0, 1) := by decide +kernel
theorem dL_imageByte_3 : decode cL_imageByte 3 = .ok (.iload_n 1, 1) := by decide +kernel
theorem dL_imageByte_4 : decode cL_imageByte 4 = .ok (.iload_n 2, 1) := by decide +kernel
theorem dL_imageByte_5 : decode cL_imageByte 5 = .ok (.invokevirtual 64, 3) := by decide +kernel
theorem dL_imageByte_8 : decode cL_imageByte 8 = .ok (.i2l, 1) := by decide +kernel
theorem dL_imageByte_9 : decode cL_imageByte 9 = .ok (.lastore, 1) := by decide +kernel
theorem dL_imageByte_10 : decode cL_imageByte 10 = .ok (.goto 11, 3) := by decide +kernel
theorem dL_imageByte_13 : decode cL_imageByte 13 = .ok (.astore 4, 2) := by decide +kernel
theorem dL_imageByte_15 : decode cL_imageByte 15 = .ok (.iconst 1, 1) := by decide +kernel
theorem dL_imageByte_16 : decode cL_imageByte 16 = .ok (.ireturn, 1) := by decide +kernel
theorem dL_imageByte_17 : decode cL_imageByte 17 = .ok (.astore 4, 2) := by decide +kernel
theorem dL_imageByte_19 : decode cL_imageByte 19 = .ok (.iconst 2, 1) := by decide +kernel
theorem dL_imageByte_20 : decode cL_imageByte 20 = .ok (.ireturn, 1) := by decide +kernel
theorem dL_imageByte_21 : decode cL_imageByte 21 = .ok (.iconst 0, 1) := by decide +kernel
theorem dL_imageByte_22 : decode cL_imageByte 22 = .ok (.ireturn, 1) := by decide +kernel
set_option maxRecDepth 20000 in
theorem ggL_isValid_X5_isValid : GoodIn wsL_isValid wsX5_isValid := goodIn_ca (goodIn_r _ [6, 7, 8, 9, 5, 10, 11, 12, 13, 14, 15, 16, 17, 18, 19, 20, 21, 22, 23, 24, 25, 26, 27, 28, 29, 30, 31, 32, 33, 34, 35, 36, 37, 38, 39, 40, 41] (by decide +kernel) (by decide +kernel)) (goodIn_sub (fun _ h => List.mem_cons_of_mem _ (List.mem_append_right _ h)) (by decide +kernel))
set_option maxRecDepth 20000 in
theorem gL_isValid_X5_isValid : GoodIn wsL_isValid (wsV RL 67 RX5 yX5_isValid wsX5_isValid) := goodIn_app (goodIn_of _ (by decide +kernel)) ggL_isValid_X5_isValid
theorem dL_isValid_0 : decode cL_isValid 0 = .ok (.aload_n 2, 1) := by decide +kernel
theorem dL_isValid_1 : decode cL_isValid 1 = .ok (.iconst 0, 1) := by decide +kernel
theorem dL_isValid_2 : decode cL_isValid 2 = .ok (.aload_n 0, 1) := by decide +kernel
theorem dL_isValid_3 : decode cL_isValid 3 = .ok (.iload_n 1, 1) := by decide +kernel
theorem dL_isValid_4 : decode cL_isValid 4 = .ok (.invokevirtual 67, 3) := by decide +kernel
theorem dL_isValid_7 : decode cL_isValid 7 = .ok (.ifCond .eq 7, 3) := by decide +kernel
theorem dL_isValid_10 : decode cL_isValid 10 = .ok (.lconst 1, 1) := by decide +kernel
theorem dL_isValid_11 : decode cL_isValid 11 = .ok (.goto 4, 3) := by decide +kernel
theorem dL_isValid_14 : decode cL_isValid 14 = .ok (.lconst 0, 1) := by decide +kernel
theorem dL_isValid_15 : decode cL_isValid 15 = .ok (.lastore, 1) := by decide +kernel
theorem dL_isValid_16 : decode cL_isValid 16 = .ok (.goto 6, 3) := by decide +kernel
theorem dL_isValid_19 : decode cL_isValid 19 = .ok (.astore_n 3, 1) := by decide +kernel
theorem dL_isValid_20 : decode cL_isValid 20 = .ok (.iconst 1, 1) := by decide +kernel
theorem dL_isValid_21 : decode cL_isValid 21 = .ok (.ireturn, 1) := by decide +kernel
theorem dL_isValid_22 : decode cL_isValid 22 = .ok (.iconst 0, 1) := by decide +kernel
theorem dL_isValid_23 : decode cL_isValid 23 = .ok (.ireturn, 1) := by decide +kernel
set_option maxRecDepth 20000 in
theorem ggL_safeFinish_X5_safeFinish : GoodIn wsL_safeFinish wsX5_safeFinish := goodIn_ca (goodIn_ca (goodIn_r _ [7, 8, 9, 10, 11, 12, 13, 14, 6, 15, 16, 17, 18, 19, 20, 21, 22, 23, 24, 25, 26, 27, 28, 29, 30, 31, 32, 33, 34, 35, 36, 37, 38, 39, 40, 41, 42, 43, 44, 45, 46, 47, 48, 49, 50, 51, 52, 53, 54, 55, 56, 57, 58, 59, 60, 61, 62, 63, 64, 65, 66, 67, 68, 69, 70, 71, 72, 73, 74, 75, 76, 77, 78, 79, 80, 81, 82, 83, 84, 85, 86, 87, 88, 89, 90, 91, 92, 93, 94, 95, 96, 97, 98, 99, 100, 101, 102, 103, 104, 105, 106, 107, 108, 109, 110, 111, 112, 113, 114, 115, 116, 117, 118, 119, 120, 121, 122, 123, 124, 125, 126, 127, 128, 129, 130, 131, 132, 133, 134, 135, 136, 137, 138, 139, 140, 141, 142, 143, 144, 145, 146, 147, 148, 149, 150, 151, 152, 153, 154, 155, 156, 157, 158, 159, 160, 161, 162, 163, 164] (by decide +kernel) (by decide +kernel)) (goodIn_sub (fun _ h => List.mem_cons_of_mem _ (List.mem_append_left _ (List.mem_append_right _ h))) (by decide +kernel))) (goodIn_sub (fun _ h => List.mem_cons_of_mem _ (List.mem_append_right _ h)) (by decide +kernel))
set_option maxRecDepth 20000 in
theorem gL_safeFinish_X5_safeFinish : GoodIn wsL_safeFinish (wsV RL 70 RX5 yX5_safeFinish wsX5_safeFinish) := goodIn_app (goodIn_of _ (by decide +kernel)) ggL_safeFinish_X5_safeFinish
theorem dL_safeFinish_0 : decode cL_safeFinish 0 = .ok (.aload_n 2, 1) := by decide +kernel
theorem dL_safeFinish_1 : decode cL_safeFinish 1 = .ok (.iconst 0, 1) := by decide +kernel
theorem dL_safeFinish_2 : decode cL_safeFinish 2 = .ok (.aload_n 0, 1) := by decide +kernel
theorem dL_safeFinish_3 : decode cL_safeFinish 3 = .ok (.iload_n 1, 1) := by decide +kernel
theorem dL_safeFinish_4 : decode cL_safeFinish 4 = .ok (.invokevirtual 70, 3) := by decide +kernel
theorem dL_safeFinish_7 : decode cL_safeFinish 7 = .ok (.i2l, 1) := by decide +kernel
theorem dL_safeFinish_8 : decode cL_safeFinish 8 = .ok (.lastore, 1) := by decide +kernel
theorem dL_safeFinish_9 : decode cL_safeFinish 9 = .ok (.goto 9, 3) := by decide +kernel
theorem dL_safeFinish_12 : decode cL_safeFinish 12 = .ok (.astore_n 3, 1) := by decide +kernel
theorem dL_safeFinish_13 : decode cL_safeFinish 13 = .ok (.iconst 1, 1) := by decide +kernel
theorem dL_safeFinish_14 : decode cL_safeFinish 14 = .ok (.ireturn, 1) := by decide +kernel
theorem dL_safeFinish_15 : decode cL_safeFinish 15 = .ok (.astore_n 3, 1) := by decide +kernel
theorem dL_safeFinish_16 : decode cL_safeFinish 16 = .ok (.iconst 2, 1) := by decide +kernel
theorem dL_safeFinish_17 : decode cL_safeFinish 17 = .ok (.ireturn, 1) := by decide +kernel
theorem dL_safeFinish_18 : decode cL_safeFinish 18 = .ok (.iconst 0, 1) := by decide +kernel
theorem dL_safeFinish_19 : decode cL_safeFinish 19 = .ok (.ireturn, 1) := by decide +kernel
set_option maxRecDepth 20000 in
theorem ggL_law_X5_init : GoodIn wsL_law wsX5_init := goodIn_r _ [9, 10, 11, 12, 13, 14, 15, 16, 17, 18, 19, 20, 21, 22, 23, 24, 25, 26, 27, 28, 29, 30, 31, 32, 33, 34, 35, 36, 37, 38, 39, 40, 41, 42, 43, 44, 45, 46, 47, 48, 49, 50, 51, 52, 53, 54, 55, 56, 57, 58, 59, 60, 61, 62, 2, 63, 64, 65, 66, 67, 68, 69, 70, 71, 72, 73, 74, 75, 76, 77, 78, 79, 80, 81, 82, 83, 84, 85, 86, 87, 767, 747, 748, 749, 750, 751, 752, 768, 769, 770, 771, 772, 773, 774, 775, 776, 777, 778, 779, 780] (by decide +kernel) (by decide +kernel)
set_option maxRecDepth 20000 in
theorem gL_law_X5_init : GoodIn wsL_law (wsX5_init) := ggL_law_X5_init
set_option maxRecDepth 20000 in
theorem ggL_law_X6_init : GoodIn wsL_law wsX6_init := goodIn_r _ [90, 91, 11, 12, 42, 92, 93, 94, 95, 96, 97, 98, 99, 100, 5, 101, 102, 103, 104, 105, 106, 107, 108, 109, 753, 754, 755, 756, 757, 758, 759, 760, 761, 762, 763, 764, 765, 766] (by decide +kernel) (by decide +kernel)
set_option maxRecDepth 20000 in
theorem gL_law_X6_init : GoodIn wsL_law (wsX6_init) := ggL_law_X6_init
set_option maxRecDepth 20000 in
theorem ggL_law_L_switchOn : GoodIn wsL_law wsL_switchOn := goodIn_ca (goodIn_r _ [113, 114, 115, 116, 117, 2, 118, 119, 120, 16, 30, 121, 122, 123, 124, 125, 126, 127, 15, 128, 129, 130, 131, 132, 133, 134, 135, 136, 137, 138, 139, 140, 141, 142, 143, 144, 38, 58, 59, 60, 37, 61, 43, 65, 66, 67, 145, 146, 147, 148, 149, 150, 151, 152, 153, 154, 155, 156, 157, 158, 159, 160, 161, 50, 51, 52, 53, 54, 55, 56, 57, 62, 63, 64, 162, 163, 164, 165, 166, 167, 168, 169, 170, 171, 172, 173, 174, 175, 176, 177, 178, 179, 180, 181, 182, 183, 184, 185, 186, 187, 188, 189, 190, 191, 192, 193, 194, 195, 44, 45, 196, 197, 47, 48, 49, 747, 748, 749, 750, 751, 752, 767, 778, 779, 780] (by decide +kernel) (by decide +kernel)) (goodIn_sub (fun _ h => List.mem_append_left _ (List.mem_append_left _ (List.mem_append_right _ h))) (by decide +kernel))
set_option maxRecDepth 20000 in
theorem gL_law_L_switchOn : GoodIn wsL_law (va_wsS RL 77 yL_switchOn wsL_switchOn) := goodIn_app (goodIn_of _ (by decide +kernel)) ggL_law_L_switchOn
set_option maxRecDepth 20000 in
theorem ggL_law_X6_switchOn : GoodIn wsL_law wsX6_switchOn := goodIn_r _ [201, 202, 203, 94, 204, 205, 206, 5, 207, 208, 209, 210, 211, 92, 212, 213, 214, 215, 216, 217, 218, 219, 106, 107, 108, 109, 220, 221, 222, 223, 224, 225, 226, 227, 228, 229, 230, 231, 232, 233, 234, 235, 236, 237, 238, 98, 99, 100, 101, 102, 103, 104, 105, 239, 240, 241, 242, 243, 244, 245, 246, 247, 95, 248, 249, 250, 251, 96, 753, 754, 755, 756, 757, 758, 759, 760, 761, 762, 763, 764, 765, 766] (by decide +kernel) (by decide +kernel)
set_option maxRecDepth 20000 in
theorem gL_law_X6_switchOn : GoodIn wsL_law (wsV RL 82 RX6 yX6_switchOn wsX6_switchOn) := goodIn_app (goodIn_of _ (by decide +kernel)) ggL_law_X6_switchOn
set_option maxRecDepth 20000 in
theorem ggL_law_X6_thrown : GoodIn wsL_law wsX6_thrown := goodIn_r _ [255, 203, 753, 754, 755, 756, 757, 758, 759, 760, 761, 762, 763, 764, 765, 766] (by decide +kernel) (by decide +kernel)
set_option maxRecDepth 20000 in
theorem gL_law_X6_thrown : GoodIn wsL_law (wsV RL 83 RX6 yX6_thrown wsX6_thrown) := goodIn_app (goodIn_of _ (by decide +kernel)) ggL_law_X6_thrown
set_option maxRecDepth 20000 in
theorem ggL_law_L_switchOff : GoodIn wsL_law wsL_switchOff := goodIn_ca (goodIn_r _ [258, 114, 259, 260, 261, 2, 262, 30, 263, 264, 265, 266, 119, 120, 121, 122, 123, 124, 267, 268, 269, 270, 21, 271, 272, 273, 20, 274, 76, 747, 748, 749, 750, 751, 752, 768, 769, 770, 771, 772, 773] (by decide +kernel) (by decide +kernel)) (goodIn_sub (fun _ h => List.mem_append_left _ (List.mem_append_left _ (List.mem_append_right _ h))) (by decide +kernel))
set_option maxRecDepth 20000 in
theorem gL_law_L_switchOff : GoodIn wsL_law (va_wsS RL 86 yL_switchOff wsL_switchOff) := goodIn_app (goodIn_of _ (by decide +kernel)) ggL_law_L_switchOff
set_option maxRecDepth 20000 in
theorem ggL_law_X6_switchOff : GoodIn wsL_law wsX6_switchOff := goodIn_r _ [278, 202, 203, 94, 248, 249, 250, 5, 251, 96, 753, 754, 755, 756, 757, 758, 759, 760, 761, 762, 763, 764, 765, 766] (by decide +kernel) (by decide +kernel)
set_option maxRecDepth 20000 in
theorem gL_law_X6_switchOff : GoodIn wsL_law (wsV RL 88 RX6 yX6_switchOff wsX6_switchOff) := goodIn_app (goodIn_of _ (by decide +kernel)) ggL_law_X6_switchOff
set_option maxRecDepth 20000 in
theorem ggL_law_L_failAfter : GoodIn wsL_law wsL_failAfter := goodIn_ca (goodIn_r _ [281, 282, 283, 284, 285, 2, 286, 16, 287, 288, 289, 290, 291, 292, 293, 294, 295, 37, 296, 45, 747, 748, 749, 750, 751, 752, 767, 778, 779, 780] (by decide +kernel) (by decide +kernel)) (goodIn_sub (fun _ h => List.mem_append_left _ (List.mem_append_right _ h)) (by decide +kernel))
set_option maxRecDepth 20000 in
theorem gL_law_L_failAfter : GoodIn wsL_law (va_wsS RL 89 yL_failAfter wsL_failAfter) := goodIn_app (goodIn_of _ (by decide +kernel)) ggL_law_L_failAfter
set_option maxRecDepth 20000 in
theorem ggL_law_X6_failAfter : GoodIn wsL_law wsX6_failAfter := goodIn_r _ [300, 203, 95, 236, 237, 5, 238, 753, 754, 755, 756, 757, 758, 759, 760, 761, 762, 763, 764, 765, 766] (by decide +kernel) (by decide +kernel)
set_option maxRecDepth 20000 in
theorem gL_law_X6_failAfter : GoodIn wsL_law (wsV RL 92 RX6 yX6_failAfter wsX6_failAfter) := goodIn_app (goodIn_of _ (by decide +kernel)) ggL_law_X6_failAfter
set_option maxRecDepth 20000 in
theorem ggL_law_X5_isOn : GoodIn wsL_law wsX5_isOn := goodIn_r _ [124, 30, 747, 748, 749, 750, 751, 752] (by decide +kernel) (by decide +kernel)
set_option maxRecDepth 20000 in
theorem gL_law_X5_isOn : GoodIn wsL_law (wsV RL 93 RX5 yX5_isOn wsX5_isOn) := goodIn_app (goodIn_of _ (by decide +kernel)) ggL_law_X5_isOn
set_option maxRecDepth 20000 in
theorem ggL_law_X6_isOn : GoodIn wsL_law wsX6_isOn := goodIn_r _ [305, 203, 202, 753, 754, 755, 756, 757, 758, 759, 760, 761, 762, 763, 764, 765, 766] (by decide +kernel) (by decide +kernel)
set_option maxRecDepth 20000 in
theorem gL_law_X6_isOn : GoodIn wsL_law (wsV RL 96 RX6 yX6_isOn wsX6_isOn) := goodIn_app (goodIn_of _ (by decide +kernel)) ggL_law_X6_isOn
set_option maxRecDepth 20000 in
theorem ggL_law_X5_running : GoodIn wsL_law wsX5_running := goodIn_r _ [309, 30, 747, 748, 749, 750, 751, 752] (by decide +kernel) (by decide +kernel)
set_option maxRecDepth 20000 in
theorem gL_law_X5_running : GoodIn wsL_law (wsV RL 97 RX5 yX5_running wsX5_running) := goodIn_app (goodIn_of _ (by decide +kernel)) ggL_law_X5_running
set_option maxRecDepth 20000 in
theorem ggL_law_X6_running : GoodIn wsL_law wsX6_running := goodIn_r _ [313, 203, 94, 753, 754, 755, 756, 757, 758, 759, 760, 761, 762, 763, 764, 765, 766] (by decide +kernel) (by decide +kernel)
set_option maxRecDepth 20000 in
theorem gL_law_X6_running : GoodIn wsL_law (wsV RL 100 RX6 yX6_running wsX6_running) := goodIn_app (goodIn_of _ (by decide +kernel)) ggL_law_X6_running
set_option maxRecDepth 20000 in
theorem ggL_law_X5_isOnTrial : GoodIn wsL_law wsX5_isOnTrial := goodIn_r _ [317, 30, 16, 121, 122, 123, 2, 124, 318, 167, 168, 15, 169, 133, 134, 135, 136, 137, 138, 139, 140, 141, 142, 143, 144, 38, 58, 59, 60, 37, 61, 43, 65, 66, 67, 145, 146, 147, 747, 748, 749, 750, 751, 752, 767, 778, 779, 780] (by decide +kernel) (by decide +kernel)
set_option maxRecDepth 20000 in
theorem gL_law_X5_isOnTrial : GoodIn wsL_law (wsV RL 101 RX5 yX5_isOnTrial wsX5_isOnTrial) := goodIn_app (goodIn_of _ (by decide +kernel)) ggL_law_X5_isOnTrial
set_option maxRecDepth 20000 in
theorem ggL_law_X6_isOnTrial : GoodIn wsL_law wsX6_isOnTrial := goodIn_r _ [322, 203, 323, 324, 325, 5, 326, 202, 94, 204, 205, 206, 207, 208, 209, 210, 211, 92, 212, 213, 214, 215, 216, 217, 218, 219, 106, 107, 108, 109, 753, 754, 755, 756, 757, 758, 759, 760, 761, 762, 763, 764, 765, 766] (by decide +kernel) (by decide +kernel)
set_option maxRecDepth 20000 in
theorem gL_law_X6_isOnTrial : GoodIn wsL_law (wsV RL 104 RX6 yX6_isOnTrial wsX6_isOnTrial) := goodIn_app (goodIn_of _ (by decide +kernel)) ggL_law_X6_isOnTrial
set_option maxRecDepth 20000 in
theorem ggL_law_X5_writes : GoodIn wsL_law wsX5_writes := goodIn_r _ [330, 16, 287, 331, 332, 333, 37, 334, 44, 747, 748, 749, 750, 751, 752, 767, 778, 779, 780] (by decide +kernel) (by decide +kernel)
set_option maxRecDepth 20000 in
theorem gL_law_X5_writes : GoodIn wsL_law (wsV RL 105 RX5 yX5_writes wsX5_writes) := goodIn_app (goodIn_of _ (by decide +kernel)) ggL_law_X5_writes
set_option maxRecDepth 20000 in
theorem ggL_law_X6_writes : GoodIn wsL_law wsX6_writes := goodIn_r _ [338, 203, 247, 753, 754, 755, 756, 757, 758, 759, 760, 761, 762, 763, 764, 765, 766] (by decide +kernel) (by decide +kernel)
set_option maxRecDepth 20000 in
theorem gL_law_X6_writes : GoodIn wsL_law (wsV RL 108 RX6 yX6_writes wsX6_writes) := goodIn_app (goodIn_of _ (by decide +kernel)) ggL_law_X6_writes
set_option maxRecDepth 20000 in
theorem ggL_law_L_offer : GoodIn wsL_law wsL_offer := goodIn_ca (goodIn_ca (goodIn_r _ [341, 282, 114, 342, 343, 344, 2, 345, 119, 120, 346, 16, 30, 21, 288, 289, 290, 291, 292, 263, 264, 265, 266, 121, 122, 123, 124, 347, 163, 164, 15, 165, 133, 134, 135, 136, 137, 138, 139, 140, 141, 142, 143, 144, 38, 58, 59, 60, 37, 61, 43, 65, 66, 67, 151, 152, 153, 348, 159, 160, 161, 349, 181, 182, 183, 350, 351, 352, 20, 353, 71, 72, 73, 74, 75, 76, 354, 355, 356, 357, 358, 359, 360, 361, 192, 193, 194, 195, 44, 45, 196, 197, 47, 48, 49, 362, 363, 364, 365, 267, 268, 269, 270, 271, 272, 273, 274, 747, 748, 749, 750, 751, 752, 767, 778, 779, 780, 768, 769, 770, 771, 772, 773] (by decide +kernel) (by decide +kernel)) (goodIn_sub (fun _ h => List.mem_append_left _ (List.mem_append_left _ (List.mem_append_right _ h))) (by decide +kernel))) (goodIn_sub (fun _ h => List.mem_append_left _ (List.mem_append_right _ h)) (by decide +kernel))
set_option maxRecDepth 20000 in
theorem gL_law_L_offer : GoodIn wsL_law (va_wsS RL 109 yL_offer wsL_offer) := goodIn_app (goodIn_of _ (by decide +kernel)) ggL_law_L_offer
set_option maxRecDepth 20000 in
theorem ggL_law_X6_offer : GoodIn wsL_law wsX6_offer := goodIn_r _ [369, 370, 202, 92, 94, 96, 371, 372, 373, 374, 236, 237, 5, 238, 224, 225, 226, 227, 208, 209, 210, 211, 212, 213, 214, 215, 216, 217, 218, 219, 106, 107, 108, 109, 375, 376, 377, 378, 203, 243, 244, 245, 246, 247, 95, 248, 249, 250, 251, 753, 754, 755, 756, 757, 758, 759, 760, 761, 762, 763, 764, 765, 766] (by decide +kernel) (by decide +kernel)
set_option maxRecDepth 20000 in
theorem gL_law_X6_offer : GoodIn wsL_law (wsV RL 112 RX6 yX6_offer wsX6_offer) := goodIn_app (goodIn_of _ (by decide +kernel)) ggL_law_X6_offer
set_option maxRecDepth 20000 in
theorem ggL_law_L_put : GoodIn wsL_law wsL_put := goodIn_ca (goodIn_ca (goodIn_r _ [381, 282, 114, 382, 383, 384, 2, 385, 288, 289, 290, 291, 292, 386, 387, 388, 389, 119, 120, 21, 390, 391, 392, 20, 393, 76, 72, 75, 394, 395, 396, 397, 16, 354, 355, 356, 357, 30, 398, 399, 400, 401, 402, 403, 404, 15, 405, 38, 192, 193, 194, 37, 195, 44, 45, 196, 59, 60, 61, 43, 197, 47, 48, 49, 362, 363, 364, 365, 267, 268, 269, 270, 271, 272, 273, 274, 747, 748, 749, 750, 751, 752, 768, 769, 770, 771, 772, 773, 767, 778, 779, 780] (by decide +kernel) (by decide +kernel)) (goodIn_sub (fun _ h => List.mem_append_left _ (List.mem_append_right _ h)) (by decide +kernel))) (goodIn_sub (fun _ h => List.mem_append_left _ (List.mem_append_left _ (List.mem_append_right _ h))) (by decide +kernel))
set_option maxRecDepth 20000 in
theorem gL_law_L_put : GoodIn wsL_law (va_wsS RL 113 yL_put wsL_put) := goodIn_app (goodIn_of _ (by decide +kernel)) ggL_law_L_put
set_option maxRecDepth 20000 in
theorem ggL_law_X6_put : GoodIn wsL_law wsX6_put := goodIn_r _ [409, 96, 372, 236, 237, 5, 238, 375, 376, 377, 378, 203, 410, 411, 412, 413, 94, 243, 244, 245, 246, 247, 95, 92, 248, 249, 250, 251, 202, 753, 754, 755, 756, 757, 758, 759, 760, 761, 762, 763, 764, 765, 766] (by decide +kernel) (by decide +kernel)
set_option maxRecDepth 20000 in
theorem gL_law_X6_put : GoodIn wsL_law (wsV RL 116 RX6 yX6_put wsX6_put) := goodIn_app (goodIn_of _ (by decide +kernel)) ggL_law_X6_put
set_option maxRecDepth 20000 in
theorem ggL_law_L_copy : GoodIn wsL_law wsL_copy := goodIn_ca (goodIn_ca (goodIn_r _ [416, 282, 114, 417, 418, 419, 2, 420, 291, 292, 16, 30, 288, 289, 290, 121, 122, 123, 124, 348, 159, 160, 15, 161, 38, 58, 59, 60, 37, 61, 43, 386, 387, 388, 389, 119, 120, 21, 390, 391, 392, 20, 393, 76, 72, 75, 421, 55, 56, 57, 394, 395, 396, 397, 354, 355, 356, 357, 398, 399, 400, 401, 402, 403, 404, 405, 192, 193, 194, 195, 44, 45, 196, 197, 47, 48, 49, 362, 363, 364, 365, 267, 268, 269, 270, 271, 272, 273, 274, 747, 748, 749, 750, 751, 752, 767, 778, 779, 780, 768, 769, 770, 771, 772, 773] (by decide +kernel) (by decide +kernel)) (goodIn_sub (fun _ h => List.mem_append_left _ (List.mem_append_right _ h)) (by decide +kernel))) (goodIn_sub (fun _ h => List.mem_append_left _ (List.mem_append_left _ (List.mem_append_right _ h))) (by decide +kernel))
set_option maxRecDepth 20000 in
theorem gL_law_L_copy : GoodIn wsL_law (va_wsS RL 117 yL_copy wsL_copy) := goodIn_app (goodIn_of _ (by decide +kernel)) ggL_law_L_copy
set_option maxRecDepth 20000 in
theorem ggL_law_X6_copy : GoodIn wsL_law wsX6_copy := goodIn_r _ [425, 202, 92, 94, 96, 372, 236, 237, 5, 238, 375, 376, 377, 378, 203, 410, 411, 412, 413, 243, 244, 245, 246, 247, 95, 248, 249, 250, 251, 753, 754, 755, 756, 757, 758, 759, 760, 761, 762, 763, 764, 765, 766] (by decide +kernel) (by decide +kernel)
set_option maxRecDepth 20000 in
theorem gL_law_X6_copy : GoodIn wsL_law (wsV RL 120 RX6 yX6_copy wsX6_copy) := goodIn_app (goodIn_of _ (by decide +kernel)) ggL_law_X6_copy
set_option maxRecDepth 20000 in
theorem ggL_law_L_finish : GoodIn wsL_law wsL_finish := goodIn_ca (goodIn_ca (goodIn_r _ [428, 282, 114, 429, 430, 431, 2, 432, 16, 21, 433, 434, 435, 436, 119, 120, 437, 438, 288, 289, 290, 291, 292, 390, 391, 392, 20, 393, 76, 72, 75, 354, 355, 356, 357, 30, 439, 51, 52, 15, 53, 54, 55, 56, 57, 38, 58, 59, 60, 37, 61, 43, 62, 63, 64, 440, 441, 442, 443, 444, 445, 446, 447, 448, 359, 360, 361, 192, 193, 194, 195, 44, 45, 196, 197, 47, 48, 49, 166, 167, 168, 169, 133, 134, 135, 136, 137, 138, 139, 140, 141, 142, 143, 144, 65, 66, 67, 145, 146, 147, 177, 178, 179, 180, 181, 182, 183, 184, 185, 186, 187, 188, 189, 190, 191, 271, 272, 273, 274, 362, 363, 364, 365, 267, 268, 269, 270, 747, 748, 749, 750, 751, 752, 768, 769, 770, 771, 772, 773, 767, 778, 779, 780] (by decide +kernel) (by decide +kernel)) (goodIn_sub (fun _ h => List.mem_append_left _ (List.mem_append_left _ (List.mem_append_right _ h))) (by decide +kernel))) (goodIn_sub (fun _ h => List.mem_append_left _ (List.mem_append_right _ h)) (by decide +kernel))
set_option maxRecDepth 20000 in
theorem gL_law_L_finish : GoodIn wsL_law (va_wsS RL 121 yL_finish wsL_finish) := goodIn_app (goodIn_of _ (by decide +kernel)) ggL_law_L_finish
set_option maxRecDepth 20000 in
theorem ggL_law_X6_finish : GoodIn wsL_law wsX6_finish := goodIn_r _ [452, 96, 236, 237, 5, 238, 453, 454, 455, 456, 372, 94, 373, 98, 99, 100, 101, 92, 102, 103, 104, 105, 375, 376, 377, 378, 203, 457, 458, 459, 460, 371, 374, 243, 244, 245, 246, 247, 95, 248, 249, 250, 251, 202, 204, 205, 206, 207, 208, 209, 210, 211, 212, 213, 214, 215, 216, 217, 218, 219, 106, 107, 108, 109, 239, 240, 241, 242, 753, 754, 755, 756, 757, 758, 759, 760, 761, 762, 763, 764, 765, 766] (by decide +kernel) (by decide +kernel)
set_option maxRecDepth 20000 in
theorem gL_law_X6_finish : GoodIn wsL_law (wsV RL 123 RX6 yX6_finish wsX6_finish) := goodIn_app (goodIn_of _ (by decide +kernel)) ggL_law_X6_finish
set_option maxRecDepth 20000 in
theorem ggL_law_L_confirm : GoodIn wsL_law wsL_confirm := goodIn_ca (goodIn_r _ [463, 114, 464, 465, 466, 2, 467, 119, 120, 16, 30, 468, 469, 470, 471, 263, 264, 265, 266, 121, 122, 123, 124, 472, 315, 316, 317, 318, 167, 168, 15, 169, 133, 134, 135, 136, 137, 138, 139, 140, 141, 142, 143, 144, 38, 58, 59, 60, 37, 61, 43, 65, 66, 67, 145, 146, 147, 349, 181, 182, 183, 348, 159, 160, 161, 473, 171, 172, 474, 185, 186, 187, 188, 189, 190, 191, 192, 193, 194, 195, 44, 45, 196, 197, 47, 48, 49, 362, 363, 364, 365, 267, 268, 269, 270, 21, 271, 272, 273, 20, 274, 76, 747, 748, 749, 750, 751, 752, 767, 778, 779, 780, 768, 769, 770, 771, 772, 773] (by decide +kernel) (by decide +kernel)) (goodIn_sub (fun _ h => List.mem_append_left _ (List.mem_append_left _ (List.mem_append_right _ h))) (by decide +kernel))
set_option maxRecDepth 20000 in
theorem gL_law_L_confirm : GoodIn wsL_law (va_wsS RL 124 yL_confirm wsL_confirm) := goodIn_app (goodIn_of _ (by decide +kernel)) ggL_law_L_confirm
set_option maxRecDepth 20000 in
theorem ggL_law_X6_confirm : GoodIn wsL_law wsX6_confirm := goodIn_r _ [478, 203, 92, 94, 323, 324, 325, 5, 326, 202, 204, 205, 206, 207, 208, 209, 210, 211, 212, 213, 214, 215, 216, 217, 218, 219, 106, 107, 108, 109, 239, 240, 241, 242, 243, 244, 245, 246, 247, 95, 248, 249, 250, 251, 96, 753, 754, 755, 756, 757, 758, 759, 760, 761, 762, 763, 764, 765, 766] (by decide +kernel) (by decide +kernel)
set_option maxRecDepth 20000 in
theorem gL_law_X6_confirm : GoodIn wsL_law (wsV RL 126 RX6 yX6_confirm wsX6_confirm) := goodIn_app (goodIn_of _ (by decide +kernel)) ggL_law_X6_confirm
set_option maxRecDepth 20000 in
theorem ggL_law_X5_toCome : GoodIn wsL_law wsX5_toCome := goodIn_r _ [482, 21, 390, 391, 392, 20, 393, 76, 72, 75, 747, 748, 749, 750, 751, 752, 768, 769, 770, 771, 772, 773] (by decide +kernel) (by decide +kernel)
set_option maxRecDepth 20000 in
theorem gL_law_X5_toCome : GoodIn wsL_law (wsV RL 127 RX5 yX5_toCome wsX5_toCome) := goodIn_app (goodIn_of _ (by decide +kernel)) ggL_law_X5_toCome
set_option maxRecDepth 20000 in
theorem ggL_law_X6_toCome : GoodIn wsL_law wsX6_toCome := goodIn_r _ [486, 203, 96, 372, 753, 754, 755, 756, 757, 758, 759, 760, 761, 762, 763, 764, 765, 766] (by decide +kernel) (by decide +kernel)
set_option maxRecDepth 20000 in
theorem gL_law_X6_toCome : GoodIn wsL_law (wsV RL 130 RX6 yX6_toCome wsX6_toCome) := goodIn_app (goodIn_of _ (by decide +kernel)) ggL_law_X6_toCome
set_option maxRecDepth 20000 in
theorem ggL_law_L_draft : GoodIn wsL_law wsL_draft := goodIn_ca (goodIn_ca (goodIn_r _ [489, 282, 114, 490, 491, 492, 2, 493, 119, 120, 25, 288, 289, 290, 291, 292, 494, 495, 496, 24, 497, 80, 81, 498, 499, 500, 501, 747, 748, 749, 750, 751, 752, 774, 775] (by decide +kernel) (by decide +kernel)) (goodIn_sub (fun _ h => List.mem_append_left _ (List.mem_append_left _ (List.mem_append_right _ h))) (by decide +kernel))) (goodIn_sub (fun _ h => List.mem_append_left _ (List.mem_append_right _ h)) (by decide +kernel))
set_option maxRecDepth 20000 in
theorem gL_law_L_draft : GoodIn wsL_law (va_wsS RL 131 yL_draft wsL_draft) := goodIn_app (goodIn_of _ (by decide +kernel)) ggL_law_L_draft
set_option maxRecDepth 20000 in
theorem ggL_law_X6_draft : GoodIn wsL_law wsX6_draft := goodIn_r _ [505, 506, 97, 236, 237, 5, 238, 375, 376, 377, 378, 203, 753, 754, 755, 756, 757, 758, 759, 760, 761, 762, 763, 764, 765, 766] (by decide +kernel) (by decide +kernel)
set_option maxRecDepth 20000 in
theorem gL_law_X6_draft : GoodIn wsL_law (wsV RL 133 RX6 yX6_draft wsX6_draft) := goodIn_app (goodIn_of _ (by decide +kernel)) ggL_law_X6_draft
set_option maxRecDepth 20000 in
theorem ggL_law_X5_clearDraft : GoodIn wsL_law wsX5_clearDraft := goodIn_r _ [510, 25, 511, 512, 513, 24, 514, 80, 747, 748, 749, 750, 751, 752, 774, 775] (by decide +kernel) (by decide +kernel)
set_option maxRecDepth 20000 in
theorem gL_law_X5_clearDraft : GoodIn wsL_law (wsV RL 134 RX5 yX5_clearDraft wsX5_clearDraft) := goodIn_app (goodIn_of _ (by decide +kernel)) ggL_law_X5_clearDraft
set_option maxRecDepth 20000 in
theorem ggL_law_X6_clearDraft : GoodIn wsL_law wsX6_clearDraft := goodIn_r _ [518, 203, 506, 753, 754, 755, 756, 757, 758, 759, 760, 761, 762, 763, 764, 765, 766] (by decide +kernel) (by decide +kernel)
set_option maxRecDepth 20000 in
theorem gL_law_X6_clearDraft : GoodIn wsL_law (wsV RL 137 RX6 yX6_clearDraft wsX6_clearDraft) := goodIn_app (goodIn_of _ (by decide +kernel)) ggL_law_X6_clearDraft
set_option maxRecDepth 20000 in
theorem ggL_law_X5_draftHash : GoodIn wsL_law wsX5_draftHash := goodIn_r _ [522, 25, 523, 524, 525, 24, 526, 80, 527, 528, 529, 530, 81, 62, 2, 63, 64, 747, 748, 749, 750, 751, 752, 774, 775] (by decide +kernel) (by decide +kernel)
set_option maxRecDepth 20000 in
theorem gL_law_X5_draftHash : GoodIn wsL_law (wsV RL 138 RX5 yX5_draftHash wsX5_draftHash) := goodIn_app (goodIn_of _ (by decide +kernel)) ggL_law_X5_draftHash
set_option maxRecDepth 20000 in
theorem ggL_law_X6_draftHash : GoodIn wsL_law wsX6_draftHash := goodIn_r _ [534, 203, 506, 97, 102, 103, 5, 104, 105, 753, 754, 755, 756, 757, 758, 759, 760, 761, 762, 763, 764, 765, 766] (by decide +kernel) (by decide +kernel)
set_option maxRecDepth 20000 in
theorem gL_law_X6_draftHash : GoodIn wsL_law (wsV RL 141 RX6 yX6_draftHash wsX6_draftHash) := goodIn_app (goodIn_of _ (by decide +kernel)) ggL_law_X6_draftHash
set_option maxRecDepth 20000 in
theorem ggL_law_L_deltaPieces : GoodIn wsL_law wsL_deltaPieces := goodIn_ca (goodIn_ca (goodIn_r _ [537, 282, 114, 538, 539, 540, 2, 541, 29, 542, 543, 544, 545, 119, 120, 16, 288, 289, 290, 291, 292, 546, 155, 156, 15, 157, 158, 159, 160, 161, 38, 58, 59, 60, 37, 61, 43, 50, 51, 52, 53, 54, 55, 56, 57, 62, 63, 64, 547, 548, 549, 28, 550, 86, 551, 552, 553, 554, 555, 556, 557, 558, 559, 87, 560, 561, 562, 563, 564, 565, 566, 470, 567, 568, 569, 528, 529, 24, 530, 81, 747, 748, 749, 750, 751, 752, 767, 778, 779, 780, 776, 777, 774, 775] (by decide +kernel) (by decide +kernel)) (goodIn_sub (fun _ h => List.mem_append_left _ (List.mem_append_left _ (List.mem_append_right _ h))) (by decide +kernel))) (goodIn_sub (fun _ h => List.mem_append_left _ (List.mem_append_right _ h)) (by decide +kernel))
set_option maxRecDepth 20000 in
theorem gL_law_L_deltaPieces : GoodIn wsL_law (va_wsS RL 142 yL_deltaPieces wsL_deltaPieces) := goodIn_app (goodIn_of _ (by decide +kernel)) ggL_law_L_deltaPieces
set_option maxRecDepth 20000 in
theorem ggL_law_X6_deltaPieces : GoodIn wsL_law wsX6_deltaPieces := goodIn_r _ [573, 574, 575, 576, 5, 577, 236, 237, 238, 232, 233, 234, 235, 92, 98, 99, 100, 101, 102, 103, 104, 105, 375, 376, 377, 378, 203, 578, 579, 580, 581, 506, 582, 583, 584, 585, 586, 587, 588, 589, 590, 591, 592, 593, 97, 753, 754, 755, 756, 757, 758, 759, 760, 761, 762, 763, 764, 765, 766] (by decide +kernel) (by decide +kernel)
set_option maxRecDepth 20000 in
theorem gL_law_X6_deltaPieces : GoodIn wsL_law (wsV RL 144 RX6 yX6_deltaPieces wsX6_deltaPieces) := goodIn_app (goodIn_of _ (by decide +kernel)) ggL_law_X6_deltaPieces
set_option maxRecDepth 20000 in
theorem ggL_law_L_deltaLength : GoodIn wsL_law wsL_deltaLength := goodIn_ca (goodIn_ca (goodIn_ca (goodIn_r _ [596, 282, 114, 597, 598, 599, 600, 2, 601, 29, 542, 543, 544, 545, 119, 120, 16, 288, 289, 290, 291, 292, 546, 155, 156, 15, 157, 158, 159, 160, 161, 38, 58, 59, 60, 37, 61, 43, 50, 51, 52, 53, 54, 55, 56, 57, 62, 63, 64, 602, 603, 604, 28, 605, 86, 551, 552, 553, 554, 555, 556, 557, 558, 559, 87, 560, 561, 562, 563, 564, 565, 566, 470, 567, 568, 569, 528, 529, 24, 530, 81, 606, 607, 608, 609, 610, 611, 747, 748, 749, 750, 751, 752, 767, 778, 779, 780, 776, 777, 774, 775] (by decide +kernel) (by decide +kernel)) (goodIn_sub (fun _ h => List.mem_append_left _ (List.mem_append_left _ (List.mem_append_right _ h))) (by decide +kernel))) (goodIn_sub (fun _ h => List.mem_append_left _ (List.mem_append_right _ h)) (by decide +kernel))) (goodIn_sub (fun _ h => List.mem_append_right _ h) (by decide +kernel))
set_option maxRecDepth 20000 in
theorem gL_law_L_deltaLength : GoodIn wsL_law (va_wsS RL 145 yL_deltaLength wsL_deltaLength) := goodIn_app (goodIn_of _ (by decide +kernel)) ggL_law_L_deltaLength
set_option maxRecDepth 20000 in
theorem ggL_law_X6_deltaLength : GoodIn wsL_law wsX6_deltaLength := goodIn_r _ [615, 616, 617, 618, 5, 619, 203, 574, 575, 576, 577, 236, 237, 238, 232, 233, 234, 235, 92, 98, 99, 100, 101, 102, 103, 104, 105, 375, 376, 377, 378, 578, 579, 580, 581, 506, 582, 583, 584, 585, 586, 587, 588, 589, 590, 591, 592, 593, 97, 620, 621, 622, 623, 753, 754, 755, 756, 757, 758, 759, 760, 761, 762, 763, 764, 765, 766] (by decide +kernel) (by decide +kernel)
set_option maxRecDepth 20000 in
theorem gL_law_X6_deltaLength : GoodIn wsL_law (wsV RL 147 RX6 yX6_deltaLength wsX6_deltaLength) := goodIn_app (goodIn_of _ (by decide +kernel)) ggL_law_X6_deltaLength
set_option maxRecDepth 20000 in
theorem ggL_law_L_deltaFrom : GoodIn wsL_law wsL_deltaFrom := goodIn_ca (goodIn_ca (goodIn_ca (goodIn_r _ [626, 282, 114, 597, 627, 628, 629, 2, 630, 29, 542, 543, 544, 545, 119, 120, 16, 288, 289, 290, 291, 292, 546, 155, 156, 15, 157, 158, 159, 160, 161, 38, 58, 59, 60, 37, 61, 43, 50, 51, 52, 53, 54, 55, 56, 57, 62, 63, 64, 602, 603, 604, 28, 605, 86, 551, 552, 553, 554, 555, 556, 557, 558, 559, 87, 560, 561, 562, 563, 564, 565, 566, 470, 567, 568, 569, 528, 529, 24, 530, 81, 606, 607, 608, 609, 610, 631, 747, 748, 749, 750, 751, 752, 767, 778, 779, 780, 776, 777, 774, 775] (by decide +kernel) (by decide +kernel)) (goodIn_sub (fun _ h => List.mem_append_left _ (List.mem_append_left _ (List.mem_append_right _ h))) (by decide +kernel))) (goodIn_sub (fun _ h => List.mem_append_left _ (List.mem_append_right _ h)) (by decide +kernel))) (goodIn_sub (fun _ h => List.mem_append_right _ h) (by decide +kernel))
set_option maxRecDepth 20000 in
theorem gL_law_L_deltaFrom : GoodIn wsL_law (va_wsS RL 148 yL_deltaFrom wsL_deltaFrom) := goodIn_app (goodIn_of _ (by decide +kernel)) ggL_law_L_deltaFrom
set_option maxRecDepth 20000 in
theorem ggL_law_X6_deltaFrom : GoodIn wsL_law wsX6_deltaFrom := goodIn_r _ [635, 616, 617, 618, 5, 619, 203, 574, 575, 576, 577, 236, 237, 238, 232, 233, 234, 235, 92, 98, 99, 100, 101, 102, 103, 104, 105, 375, 376, 377, 378, 578, 579, 580, 581, 506, 582, 583, 584, 585, 586, 587, 588, 589, 590, 591, 592, 593, 97, 620, 621, 622, 623, 753, 754, 755, 756, 757, 758, 759, 760, 761, 762, 763, 764, 765, 766] (by decide +kernel) (by decide +kernel)
set_option maxRecDepth 20000 in
theorem gL_law_X6_deltaFrom : GoodIn wsL_law (wsV RL 150 RX6 yX6_deltaFrom wsX6_deltaFrom) := goodIn_app (goodIn_of _ (by decide +kernel)) ggL_law_X6_deltaFrom
set_option maxRecDepth 20000 in
theorem ggL_law_L_isStartable : GoodIn wsL_law wsL_isStartable := goodIn_ca (goodIn_r _ [638, 282, 639, 640, 641, 2, 642, 16, 288, 289, 290, 291, 292, 546, 155, 156, 15, 157, 158, 159, 160, 161, 38, 58, 59, 60, 37, 61, 43, 50, 51, 52, 53, 54, 55, 56, 57, 62, 63, 64, 747, 748, 749, 750, 751, 752, 767, 778, 779, 780] (by decide +kernel) (by decide +kernel)) (goodIn_sub (fun _ h => List.mem_append_left _ (List.mem_append_right _ h)) (by decide +kernel))
set_option maxRecDepth 20000 in
theorem gL_law_L_isStartable : GoodIn wsL_law (va_wsS RL 151 yL_isStartable wsL_isStartable) := goodIn_app (goodIn_of _ (by decide +kernel)) ggL_law_L_isStartable
set_option maxRecDepth 20000 in
theorem ggL_law_X6_isStartable : GoodIn wsL_law wsX6_isStartable := goodIn_r _ [646, 574, 575, 576, 5, 577, 236, 237, 238, 375, 376, 377, 378, 203, 232, 233, 234, 235, 92, 98, 99, 100, 101, 102, 103, 104, 105, 753, 754, 755, 756, 757, 758, 759, 760, 761, 762, 763, 764, 765, 766] (by decide +kernel) (by decide +kernel)
set_option maxRecDepth 20000 in
theorem gL_law_X6_isStartable : GoodIn wsL_law (wsV RL 153 RX6 yX6_isStartable wsX6_isStartable) := goodIn_app (goodIn_of _ (by decide +kernel)) ggL_law_X6_isStartable
set_option maxRecDepth 20000 in
theorem ggL_law_L_version : GoodIn wsL_law wsL_version := goodIn_ca (goodIn_r _ [649, 282, 650, 651, 652, 2, 653, 16, 288, 289, 290, 291, 292, 348, 159, 160, 15, 161, 38, 58, 59, 60, 37, 61, 43, 747, 748, 749, 750, 751, 752, 767, 778, 779, 780] (by decide +kernel) (by decide +kernel)) (goodIn_sub (fun _ h => List.mem_append_left _ (List.mem_append_right _ h)) (by decide +kernel))
set_option maxRecDepth 20000 in
theorem gL_law_L_version : GoodIn wsL_law (va_wsS RL 154 yL_version wsL_version) := goodIn_app (goodIn_of _ (by decide +kernel)) ggL_law_L_version
set_option maxRecDepth 20000 in
theorem ggL_law_X6_version : GoodIn wsL_law wsX6_version := goodIn_r _ [657, 92, 574, 575, 576, 5, 577, 236, 237, 238, 375, 376, 377, 378, 203, 753, 754, 755, 756, 757, 758, 759, 760, 761, 762, 763, 764, 765, 766] (by decide +kernel) (by decide +kernel)
set_option maxRecDepth 20000 in
theorem gL_law_X6_version : GoodIn wsL_law (wsV RL 156 RX6 yX6_version wsX6_version) := goodIn_app (goodIn_of _ (by decide +kernel)) ggL_law_X6_version
set_option maxRecDepth 20000 in
theorem ggL_law_L_imageByte : GoodIn wsL_law wsL_imageByte := goodIn_ca (goodIn_ca (goodIn_r _ [660, 282, 597, 661, 662, 663, 2, 664, 609, 610, 16, 288, 289, 290, 291, 292, 421, 55, 56, 15, 57, 38, 58, 59, 60, 37, 61, 43, 747, 748, 749, 750, 751, 752, 767, 778, 779, 780] (by decide +kernel) (by decide +kernel)) (goodIn_sub (fun _ h => List.mem_append_right _ h) (by decide +kernel))) (goodIn_sub (fun _ h => List.mem_append_left _ (List.mem_append_right _ h)) (by decide +kernel))
set_option maxRecDepth 20000 in
theorem gL_law_L_imageByte : GoodIn wsL_law (va_wsS RL 157 yL_imageByte wsL_imageByte) := goodIn_app (goodIn_of _ (by decide +kernel)) ggL_law_L_imageByte
set_option maxRecDepth 20000 in
theorem ggL_law_X6_imageByte : GoodIn wsL_law wsX6_imageByte := goodIn_r _ [668, 92, 574, 575, 576, 5, 577, 236, 237, 238, 375, 376, 377, 378, 203, 753, 754, 755, 756, 757, 758, 759, 760, 761, 762, 763, 764, 765, 766] (by decide +kernel) (by decide +kernel)
set_option maxRecDepth 20000 in
theorem gL_law_X6_imageByte : GoodIn wsL_law (wsV RL 159 RX6 yX6_imageByte wsX6_imageByte) := goodIn_app (goodIn_of _ (by decide +kernel)) ggL_law_X6_imageByte
set_option maxRecDepth 20000 in
theorem ggL_law_X5_record : GoodIn wsL_law wsX5_record := goodIn_r _ [672, 16, 673, 134, 135, 15, 136, 137, 138, 139, 140, 141, 142, 143, 144, 38, 58, 59, 60, 37, 61, 43, 65, 66, 67, 747, 748, 749, 750, 751, 752, 767, 778, 779, 780] (by decide +kernel) (by decide +kernel)
set_option maxRecDepth 20000 in
theorem gL_law_X5_record : GoodIn wsL_law (wsV RL 160 RX5 yX5_record wsX5_record) := goodIn_app (goodIn_of _ (by decide +kernel)) ggL_law_X5_record
set_option maxRecDepth 20000 in
theorem ggL_law_X6_record : GoodIn wsL_law wsX6_record := goodIn_r _ [677, 203, 212, 213, 214, 5, 215, 92, 216, 217, 218, 219, 106, 107, 108, 109, 753, 754, 755, 756, 757, 758, 759, 760, 761, 762, 763, 764, 765, 766] (by decide +kernel) (by decide +kernel)
set_option maxRecDepth 20000 in
theorem gL_law_X6_record : GoodIn wsL_law (wsV RL 163 RX6 yX6_record wsX6_record) := goodIn_app (goodIn_of _ (by decide +kernel)) ggL_law_X6_record
set_option maxRecDepth 20000 in
theorem ggL_law_L_isValid : GoodIn wsL_law wsL_isValid := goodIn_ca (goodIn_r _ [680, 282, 681, 682, 683, 2, 684, 16, 288, 289, 290, 291, 292, 685, 138, 139, 15, 140, 141, 142, 143, 144, 38, 58, 59, 60, 37, 61, 43, 65, 66, 67, 747, 748, 749, 750, 751, 752, 767, 778, 779, 780] (by decide +kernel) (by decide +kernel)) (goodIn_sub (fun _ h => List.mem_append_left _ (List.mem_append_right _ h)) (by decide +kernel))
set_option maxRecDepth 20000 in
theorem gL_law_L_isValid : GoodIn wsL_law (va_wsS RL 164 yL_isValid wsL_isValid) := goodIn_app (goodIn_of _ (by decide +kernel)) ggL_law_L_isValid
set_option maxRecDepth 20000 in
theorem ggL_law_X6_isValid : GoodIn wsL_law wsX6_isValid := goodIn_r _ [689, 236, 237, 5, 238, 375, 376, 377, 378, 203, 216, 217, 218, 219, 92, 106, 107, 108, 109, 753, 754, 755, 756, 757, 758, 759, 760, 761, 762, 763, 764, 765, 766] (by decide +kernel) (by decide +kernel)
set_option maxRecDepth 20000 in
theorem gL_law_X6_isValid : GoodIn wsL_law (wsV RL 166 RX6 yX6_isValid wsX6_isValid) := goodIn_app (goodIn_of _ (by decide +kernel)) ggL_law_X6_isValid
set_option maxRecDepth 20000 in
theorem ggL_law_X5_confirmed : GoodIn wsL_law wsX5_confirmed := goodIn_r _ [693, 16, 318, 167, 168, 15, 169, 133, 134, 135, 136, 137, 138, 139, 140, 141, 142, 143, 144, 38, 58, 59, 60, 37, 61, 43, 65, 66, 67, 145, 146, 147, 747, 748, 749, 750, 751, 752, 767, 778, 779, 780] (by decide +kernel) (by decide +kernel)
set_option maxRecDepth 20000 in
theorem gL_law_X5_confirmed : GoodIn wsL_law (wsV RL 167 RX5 yX5_confirmed wsX5_confirmed) := goodIn_app (goodIn_of _ (by decide +kernel)) ggL_law_X5_confirmed
set_option maxRecDepth 20000 in
theorem ggL_law_X6_confirmed : GoodIn wsL_law wsX6_confirmed := goodIn_r _ [697, 203, 204, 205, 206, 5, 207, 208, 209, 210, 211, 92, 212, 213, 214, 215, 216, 217, 218, 219, 106, 107, 108, 109, 753, 754, 755, 756, 757, 758, 759, 760, 761, 762, 763, 764, 765, 766] (by decide +kernel) (by decide +kernel)
set_option maxRecDepth 20000 in
theorem gL_law_X6_confirmed : GoodIn wsL_law (wsV RL 170 RX6 yX6_confirmed wsX6_confirmed) := goodIn_app (goodIn_of _ (by decide +kernel)) ggL_law_X6_confirmed
set_option maxRecDepth 20000 in
theorem ggL_law_X5_tries : GoodIn wsL_law wsX5_tries := goodIn_r _ [701, 16, 702, 174, 175, 15, 176, 133, 134, 135, 136, 137, 138, 139, 140, 141, 142, 143, 144, 38, 58, 59, 60, 37, 61, 43, 65, 66, 67, 148, 149, 150, 151, 152, 153, 747, 748, 749, 750, 751, 752, 767, 778, 779, 780] (by decide +kernel) (by decide +kernel)
set_option maxRecDepth 20000 in
theorem gL_law_X5_tries : GoodIn wsL_law (wsV RL 171 RX5 yX5_tries wsX5_tries) := goodIn_app (goodIn_of _ (by decide +kernel)) ggL_law_X5_tries
set_option maxRecDepth 20000 in
theorem ggL_law_X6_tries : GoodIn wsL_law wsX6_tries := goodIn_r _ [706, 203, 228, 229, 230, 5, 231, 224, 225, 226, 227, 208, 209, 210, 211, 92, 212, 213, 214, 215, 216, 217, 218, 219, 106, 107, 108, 109, 753, 754, 755, 756, 757, 758, 759, 760, 761, 762, 763, 764, 765, 766] (by decide +kernel) (by decide +kernel)
set_option maxRecDepth 20000 in
theorem gL_law_X6_tries : GoodIn wsL_law (wsV RL 174 RX6 yX6_tries wsX6_tries) := goodIn_app (goodIn_of _ (by decide +kernel)) ggL_law_X6_tries
set_option maxRecDepth 20000 in
theorem ggL_law_X5_counter : GoodIn wsL_law wsX5_counter := goodIn_r _ [710, 16, 349, 181, 182, 15, 183, 133, 134, 135, 136, 137, 138, 139, 140, 141, 142, 143, 144, 38, 58, 59, 60, 37, 61, 43, 65, 66, 67, 747, 748, 749, 750, 751, 752, 767, 778, 779, 780] (by decide +kernel) (by decide +kernel)
set_option maxRecDepth 20000 in
theorem gL_law_X5_counter : GoodIn wsL_law (wsV RL 175 RX5 yX5_counter wsX5_counter) := goodIn_app (goodIn_of _ (by decide +kernel)) ggL_law_X5_counter
set_option maxRecDepth 20000 in
theorem ggL_law_X6_counter : GoodIn wsL_law wsX6_counter := goodIn_r _ [714, 203, 208, 209, 210, 5, 211, 92, 212, 213, 214, 215, 216, 217, 218, 219, 106, 107, 108, 109, 753, 754, 755, 756, 757, 758, 759, 760, 761, 762, 763, 764, 765, 766] (by decide +kernel) (by decide +kernel)
set_option maxRecDepth 20000 in
theorem gL_law_X6_counter : GoodIn wsL_law (wsV RL 178 RX6 yX6_counter wsX6_counter) := goodIn_app (goodIn_of _ (by decide +kernel)) ggL_law_X6_counter
set_option maxRecDepth 20000 in
theorem ggL_law_L_safeFinish : GoodIn wsL_law wsL_safeFinish := goodIn_ca (goodIn_ca (goodIn_r _ [717, 282, 114, 718, 719, 720, 2, 721, 17, 16, 287, 21, 433, 434, 435, 436, 119, 120, 437, 438, 288, 289, 290, 291, 292, 390, 391, 392, 20, 393, 76, 72, 75, 354, 355, 356, 357, 30, 439, 51, 52, 15, 53, 54, 55, 56, 57, 38, 58, 59, 60, 37, 61, 43, 62, 63, 64, 722, 723, 724, 725, 726, 727, 728, 729, 196, 293, 294, 295, 296, 45, 440, 441, 442, 443, 444, 445, 446, 447, 448, 359, 360, 361, 192, 193, 194, 195, 44, 197, 47, 48, 49, 166, 167, 168, 169, 133, 134, 135, 136, 137, 138, 139, 140, 141, 142, 143, 144, 65, 66, 67, 145, 146, 147, 177, 178, 179, 180, 181, 182, 183, 184, 185, 186, 187, 188, 189, 190, 191, 730, 130, 131, 132, 148, 149, 150, 151, 152, 153, 154, 155, 156, 157, 158, 159, 160, 161, 50, 546, 747, 748, 749, 750, 751, 752, 767, 768, 769, 770, 771, 772, 773, 778, 779, 780] (by decide +kernel) (by decide +kernel)) (goodIn_sub (fun _ h => List.mem_append_left _ (List.mem_append_left _ (List.mem_append_right _ h))) (by decide +kernel))) (goodIn_sub (fun _ h => List.mem_append_left _ (List.mem_append_right _ h)) (by decide +kernel))
set_option maxRecDepth 20000 in
theorem gL_law_L_safeFinish : GoodIn wsL_law (va_wsS RL 179 yL_safeFinish wsL_safeFinish) := goodIn_app (goodIn_of _ (by decide +kernel)) ggL_law_L_safeFinish
set_option maxRecDepth 20000 in
theorem ggL_law_X6_safeFinish : GoodIn wsL_law wsX6_safeFinish := goodIn_r _ [734, 93, 92, 94, 95, 247, 96, 202, 236, 237, 5, 238, 453, 454, 455, 456, 372, 373, 98, 99, 100, 101, 102, 103, 104, 105, 375, 376, 377, 378, 203, 457, 458, 459, 460, 371, 374, 243, 244, 245, 246, 248, 249, 250, 251, 204, 205, 206, 207, 208, 209, 210, 211, 212, 213, 214, 215, 216, 217, 218, 219, 106, 107, 108, 109, 239, 240, 241, 242, 735, 736, 737, 738, 220, 221, 222, 223, 224, 225, 226, 227, 228, 229, 230, 231, 232, 233, 234, 235, 753, 754, 755, 756, 757, 758, 759, 760, 761, 762, 763, 764, 765, 766] (by decide +kernel) (by decide +kernel)
set_option maxRecDepth 20000 in
theorem gL_law_X6_safeFinish : GoodIn wsL_law (wsV RL 181 RX6 yX6_safeFinish wsX6_safeFinish) := goodIn_app (goodIn_of _ (by decide +kernel)) ggL_law_X6_safeFinish
set_option maxRecDepth 20000 in
theorem ggL_law_X5_wouldStart : GoodIn wsL_law wsX5_wouldStart := goodIn_r _ [742, 16, 730, 130, 131, 15, 132, 133, 134, 135, 136, 137, 138, 139, 140, 141, 142, 143, 144, 38, 58, 59, 60, 37, 61, 43, 65, 66, 67, 145, 146, 147, 148, 149, 150, 151, 152, 153, 154, 155, 156, 157, 158, 159, 160, 161, 50, 51, 52, 53, 54, 55, 56, 57, 62, 2, 63, 64, 747, 748, 749, 750, 751, 752, 767, 778, 779, 780] (by decide +kernel) (by decide +kernel)
set_option maxRecDepth 20000 in
theorem gL_law_X5_wouldStart : GoodIn wsL_law (wsV RL 182 RX5 yX5_wouldStart wsX5_wouldStart) := goodIn_app (goodIn_of _ (by decide +kernel)) ggL_law_X5_wouldStart
set_option maxRecDepth 20000 in
theorem ggL_law_X6_wouldStart : GoodIn wsL_law wsX6_wouldStart := goodIn_r _ [746, 203, 735, 736, 737, 5, 738, 204, 205, 206, 207, 208, 209, 210, 211, 92, 212, 213, 214, 215, 216, 217, 218, 219, 106, 107, 108, 109, 220, 221, 222, 223, 224, 225, 226, 227, 228, 229, 230, 231, 232, 233, 234, 235, 236, 237, 238, 98, 99, 100, 101, 102, 103, 104, 105, 753, 754, 755, 756, 757, 758, 759, 760, 761, 762, 763, 764, 765, 766] (by decide +kernel) (by decide +kernel)
set_option maxRecDepth 20000 in
theorem gL_law_X6_wouldStart : GoodIn wsL_law (wsV RL 185 RX6 yX6_wouldStart wsX6_wouldStart) := goodIn_app (goodIn_of _ (by decide +kernel)) ggL_law_X6_wouldStart

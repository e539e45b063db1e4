theorem dX5_imageByte_30 : decode cX5_imageByte 30 = .ok (.iload_n 1, 1) := by decide +kernel
theorem dX5_imageByte_31 : decode cX5_imageByte 31 = .ok (.iload_n 2, 1) := by decide +kernel
theorem dX5_imageByte_32 : decode cX5_imageByte 32 = .ok (.invokevirtual 129, 3) := by decide +kernel
theorem dX5_imageByte_35 : decode cX5_imageByte 35 = .ok (.ireturn, 1) := by decide +kernel
set_option maxRecDepth 20000 in
theorem ggX5_record_X3_recordInForce : GoodIn wsX5_record wsX3_recordInForce := goodIn_r _ [6, 7, 8, 9, 5, 10, 11, 12, 13, 14, 15, 16, 17, 18, 19, 20, 21, 22, 23, 24, 31, 32, 33, 34] (by decide +kernel) (by decide +kernel)
set_option maxRecDepth 20000 in
theorem gX5_record_X3_recordInForce : GoodIn wsX5_record (wsV RX5 202 RX3 yX3_recordInForce wsX3_recordInForce) := goodIn_app (goodIn_of _ (by decide +kernel)) ggX5_record_X3_recordInForce
theorem dX5_record_0 : decode cX5_record 0 = .ok (.aload_n 0, 1) := by decide +kernel
theorem dX5_record_1 : decode cX5_record 1 = .ok (.getfield 10, 3) := by decide +kernel
theorem dX5_record_4 : decode cX5_record 4 = .ok (.invokevirtual 202, 3) := by decide +kernel
theorem dX5_record_7 : decode cX5_record 7 = .ok (.ireturn, 1) := by decide +kernel
set_option maxRecDepth 20000 in
theorem ggX5_isValid_X5_requireWithin : GoodIn wsX5_isValid wsX5_requireWithin := goodIn_ca (goodIn_r _ [5, 6, 7] (by decide +kernel) (by decide +kernel)) (goodIn_sub (fun _ h => List.mem_cons_of_mem _ (List.mem_append_right _ h)) (by decide +kernel))
set_option maxRecDepth 20000 in
theorem gX5_isValid_X5_requireWithin : GoodIn wsX5_isValid (va_wsS RX5 67 yX5_requireWithin wsX5_requireWithin) := goodIn_app (goodIn_of _ (by decide +kernel)) ggX5_isValid_X5_requireWithin
set_option maxRecDepth 20000 in
theorem ggX5_isValid_X3_isRecordValid : GoodIn wsX5_isValid wsX3_isRecordValid := goodIn_r _ [12, 13, 14, 15, 11, 16, 17, 18, 19, 20, 21, 22, 23, 24, 25, 26, 33, 34, 35, 36] (by decide +kernel) (by decide +kernel)
set_option maxRecDepth 20000 in
theorem gX5_isValid_X3_isRecordValid : GoodIn wsX5_isValid (wsV RX5 205 RX3 yX3_isRecordValid wsX3_isRecordValid) := goodIn_app (goodIn_of _ (by decide +kernel)) ggX5_isValid_X3_isRecordValid
theorem dX5_isValid_0 : decode cX5_isValid 0 = .ok (.iload_n 1, 1) := by decide +kernel
theorem dX5_isValid_1 : decode cX5_isValid 1 = .ok (.iconst 0, 1) := by decide +kernel
theorem dX5_isValid_2 : decode cX5_isValid 2 = .ok (.iconst 1, 1) := by decide +kernel
theorem dX5_isValid_3 : decode cX5_isValid 3 = .ok (.invokestatic 67, 3) := by decide +kernel
theorem dX5_isValid_6 : decode cX5_isValid 6 = .ok (.aload_n 0, 1) := by decide +kernel
theorem dX5_isValid_7 : decode cX5_isValid 7 = .ok (.getfield 10, 3) := by decide +kernel
theorem dX5_isValid_10 : decode cX5_isValid 10 = .ok (.iload_n 1, 1) := by decide +kernel
theorem dX5_isValid_11 : decode cX5_isValid 11 = .ok (.invokevirtual 205, 3) := by decide +kernel
theorem dX5_isValid_14 : decode cX5_isValid 14 = .ok (.ireturn, 1) := by decide +kernel
set_option maxRecDepth 20000 in
theorem ggX5_confirmed_X3_confirmedSlot : GoodIn wsX5_confirmed wsX3_confirmedSlot := goodIn_r _ [6, 7, 8, 9, 5, 10, 11, 12, 13, 14, 15, 16, 17, 18, 19, 20, 21, 22, 23, 24, 25, 26, 27, 28, 29, 30, 31, 38, 39, 40, 41] (by decide +kernel) (by decide +kernel)
set_option maxRecDepth 20000 in
theorem gX5_confirmed_X3_confirmedSlot : GoodIn wsX5_confirmed (wsV RX5 81 RX3 yX3_confirmedSlot wsX3_confirmedSlot) := goodIn_app (goodIn_of _ (by decide +kernel)) ggX5_confirmed_X3_confirmedSlot
theorem dX5_confirmed_0 : decode cX5_confirmed 0 = .ok (.aload_n 0, 1) := by decide +kernel
theorem dX5_confirmed_1 : decode cX5_confirmed 1 = .ok (.getfield 10, 3) := by decide +kernel
theorem dX5_confirmed_4 : decode cX5_confirmed 4 = .ok (.invokevirtual 81, 3) := by decide +kernel
theorem dX5_confirmed_7 : decode cX5_confirmed 7 = .ok (.ireturn, 1) := by decide +kernel
set_option maxRecDepth 20000 in
theorem ggX5_tries_X3_triesLeft : GoodIn wsX5_tries wsX3_triesLeft := goodIn_r _ [6, 7, 8, 9, 5, 10, 11, 12, 13, 14, 15, 16, 17, 18, 19, 20, 21, 22, 23, 24, 25, 26, 27, 28, 29, 30, 31, 32, 33, 34, 41, 42, 43, 44] (by decide +kernel) (by decide +kernel)
set_option maxRecDepth 20000 in
theorem gX5_tries_X3_triesLeft : GoodIn wsX5_tries (wsV RX5 208 RX3 yX3_triesLeft wsX3_triesLeft) := goodIn_app (goodIn_of _ (by decide +kernel)) ggX5_tries_X3_triesLeft
theorem dX5_tries_0 : decode cX5_tries 0 = .ok (.aload_n 0, 1) := by decide +kernel
theorem dX5_tries_1 : decode cX5_tries 1 = .ok (.getfield 10, 3) := by decide +kernel
theorem dX5_tries_4 : decode cX5_tries 4 = .ok (.invokevirtual 208, 3) := by decide +kernel
theorem dX5_tries_7 : decode cX5_tries 7 = .ok (.ireturn, 1) := by decide +kernel
set_option maxRecDepth 20000 in
theorem ggX5_counter_X3_recordCounter : GoodIn wsX5_counter wsX3_recordCounter := goodIn_r _ [6, 7, 8, 9, 5, 10, 11, 12, 13, 14, 15, 16, 17, 18, 19, 20, 21, 22, 23, 24, 25, 26, 27, 28, 35, 36, 37, 38] (by decide +kernel) (by decide +kernel)
set_option maxRecDepth 20000 in
theorem gX5_counter_X3_recordCounter : GoodIn wsX5_counter (wsV RX5 97 RX3 yX3_recordCounter wsX3_recordCounter) := goodIn_app (goodIn_of _ (by decide +kernel)) ggX5_counter_X3_recordCounter
theorem dX5_counter_0 : decode cX5_counter 0 = .ok (.aload_n 0, 1) := by decide +kernel
theorem dX5_counter_1 : decode cX5_counter 1 = .ok (.getfield 10, 3) := by decide +kernel
theorem dX5_counter_4 : decode cX5_counter 4 = .ok (.invokevirtual 97, 3) := by decide +kernel
theorem dX5_counter_7 : decode cX5_counter 7 = .ok (.ireturn, 1) := by decide +kernel
set_option maxRecDepth 20000 in
theorem ggX5_safeFinish_X5_requireFinishable : GoodIn wsX5_safeFinish wsX5_requireFinishable := goodIn_ca (goodIn_ca (goodIn_r _ [9, 10, 11, 4, 2, 12, 13, 14, 15, 8, 16, 17, 18, 19, 20, 21, 22, 23, 24, 25, 26, 27, 28, 29, 30, 31, 32, 33, 34, 35, 36, 37, 38, 39, 40, 41, 42, 43, 44, 45, 46, 47, 48, 49, 50, 143, 144, 145, 146, 147, 148, 150, 151, 152, 153, 154, 155, 149, 156, 157, 158] (by decide +kernel) (by decide +kernel)) (goodIn_sub (fun _ h => List.mem_cons_of_mem _ (List.mem_append_left _ (List.mem_append_right _ h))) (by decide +kernel))) (goodIn_sub (fun _ h => List.mem_cons_of_mem _ (List.mem_append_right _ h)) (by decide +kernel))
set_option maxRecDepth 20000 in
theorem gX5_safeFinish_X5_requireFinishable : GoodIn wsX5_safeFinish (wsV RX5 132 RX5 yX5_requireFinishable wsX5_requireFinishable) := goodIn_app (goodIn_of _ (by decide +kernel)) ggX5_safeFinish_X5_requireFinishable
set_option maxRecDepth 20000 in
theorem ggX5_safeFinish_X3_mirror : GoodIn wsX5_safeFinish wsX3_mirror := goodIn_r _ [54, 41, 55, 56, 57, 45, 58, 47, 59, 43, 44, 46, 149, 156, 157, 158] (by decide +kernel) (by decide +kernel)
set_option maxRecDepth 20000 in
theorem gX5_safeFinish_X3_mirror : GoodIn wsX5_safeFinish (wsV RX5 211 RX3 yX3_mirror wsX3_mirror) := goodIn_app (goodIn_of _ (by decide +kernel)) ggX5_safeFinish_X3_mirror
set_option maxRecDepth 20000 in
theorem ggX5_safeFinish_X2_chooseFailure : GoodIn wsX5_safeFinish wsX2_chooseFailure := goodIn_r _ [63, 64, 156, 157, 158] (by decide +kernel) (by decide +kernel)
set_option maxRecDepth 20000 in
theorem gX5_safeFinish_X2_chooseFailure : GoodIn wsX5_safeFinish (wsV RX5 75 RX2 yX2_chooseFailure wsX2_chooseFailure) := goodIn_app (goodIn_of _ (by decide +kernel)) ggX5_safeFinish_X2_chooseFailure
set_option maxRecDepth 20000 in
theorem ggX5_safeFinish_X5_idleSlot : GoodIn wsX5_safeFinish wsX5_idleSlot := goodIn_r _ [30, 31, 143, 144, 145, 146, 147, 148] (by decide +kernel) (by decide +kernel)
set_option maxRecDepth 20000 in
theorem gX5_safeFinish_X5_idleSlot : GoodIn wsX5_safeFinish (wsV RX5 106 RX5 yX5_idleSlot wsX5_idleSlot) := goodIn_app (goodIn_of _ (by decide +kernel)) ggX5_safeFinish_X5_idleSlot
set_option maxRecDepth 20000 in
theorem ggX5_safeFinish_X3_writeUpdate : GoodIn wsX5_safeFinish wsX3_writeUpdate := goodIn_r _ [68, 69, 70, 71, 72, 73, 74, 75, 35, 76, 41, 77, 78, 79, 45, 80, 81, 64, 59, 43, 44, 46, 47, 82, 83, 84, 85, 86, 87, 88, 89, 90, 91, 92, 93, 94, 95, 96, 97, 98, 99, 100, 101, 42, 102, 103, 104, 105, 106, 107, 108, 109, 110, 111, 112, 113, 114, 115, 116, 117, 118, 119, 120, 121, 122, 150, 151, 152, 153, 154, 155, 149, 156, 157, 158] (by decide +kernel) (by decide +kernel)
set_option maxRecDepth 20000 in
theorem gX5_safeFinish_X3_writeUpdate : GoodIn wsX5_safeFinish (wsV RX5 135 RX3 yX3_writeUpdate wsX3_writeUpdate) := goodIn_app (goodIn_of _ (by decide +kernel)) ggX5_safeFinish_X3_writeUpdate
set_option maxRecDepth 20000 in
theorem ggX5_safeFinish_X3_slotToStart : GoodIn wsX5_safeFinish wsX3_slotToStart := goodIn_r _ [126, 90, 91, 92, 35, 93, 94, 95, 96, 97, 98, 99, 100, 101, 41, 42, 43, 44, 45, 46, 47, 102, 103, 104, 105, 106, 107, 127, 128, 129, 130, 131, 132, 133, 134, 135, 136, 137, 138, 139, 140, 141, 33, 34, 36, 37, 38, 39, 40, 48, 8, 49, 50, 149, 156, 157, 158] (by decide +kernel) (by decide +kernel)
set_option maxRecDepth 20000 in
theorem gX5_safeFinish_X3_slotToStart : GoodIn wsX5_safeFinish (wsV RX5 215 RX3 yX3_slotToStart wsX3_slotToStart) := goodIn_app (goodIn_of _ (by decide +kernel)) ggX5_safeFinish_X3_slotToStart
set_option maxRecDepth 20000 in
theorem ggX5_safeFinish_X3_canStart : GoodIn wsX5_safeFinish wsX3_canStart := goodIn_r _ [136, 137, 138, 139, 35, 140, 41, 42, 43, 44, 45, 46, 47, 141, 33, 34, 36, 37, 38, 39, 40, 48, 8, 49, 50, 149, 156, 157, 158] (by decide +kernel) (by decide +kernel)
set_option maxRecDepth 20000 in
theorem gX5_safeFinish_X3_canStart : GoodIn wsX5_safeFinish (wsV RX5 194 RX3 yX3_canStart wsX3_canStart) := goodIn_app (goodIn_of _ (by decide +kernel)) ggX5_safeFinish_X3_canStart
theorem dX5_safeFinish_0 : decode cX5_safeFinish 0 = .ok (.aload_n 0, 1) := by decide +kernel
theorem dX5_safeFinish_1 : decode cX5_safeFinish 1 = .ok (.iload_n 1, 1) := by decide +kernel
theorem dX5_safeFinish_2 : decode cX5_safeFinish 2 = .ok (.invokevirtual 132, 3) := by decide +kernel
theorem dX5_safeFinish_5 : decode cX5_safeFinish 5 = .ok (.iconst 0, 1) := by decide +kernel
theorem dX5_safeFinish_6 : decode cX5_safeFinish 6 = .ok (.istore_n 2, 1) := by decide +kernel
theorem dX5_safeFinish_7 : decode cX5_safeFinish 7 = .ok (.iconst 0, 1) := by decide +kernel
theorem dX5_safeFinish_8 : decode cX5_safeFinish 8 = .ok (.istore_n 3, 1) := by decide +kernel
theorem dX5_safeFinish_9 : decode cX5_safeFinish 9 = .ok (.iload_n 3, 1) := by decide +kernel
theorem dX5_safeFinish_10 : decode cX5_safeFinish 10 = .ok (.bipush 10, 2) := by decide +kernel
theorem dX5_safeFinish_12 : decode cX5_safeFinish 12 = .ok (.if_icmp .ge 68, 3) := by decide +kernel
theorem dX5_safeFinish_15 : decode cX5_safeFinish 15 = .ok (.aload_n 0, 1) := by decide +kernel
theorem dX5_safeFinish_16 : decode cX5_safeFinish 16 = .ok (.getfield 16, 3) := by decide +kernel
theorem dX5_safeFinish_19 : decode cX5_safeFinish 19 = .ok (.aload_n 0, 1) := by decide +kernel
theorem dX5_safeFinish_20 : decode cX5_safeFinish 20 = .ok (.getfield 10, 3) := by decide +kernel
theorem dX5_safeFinish_23 : decode cX5_safeFinish 23 = .ok (.invokevirtual 211, 3) := by decide +kernel
theorem dX5_safeFinish_26 : decode cX5_safeFinish 26 = .ok (.aload_n 0, 1) := by decide +kernel
theorem dX5_safeFinish_27 : decode cX5_safeFinish 27 = .ok (.getfield 16, 3) := by decide +kernel
theorem dX5_safeFinish_30 : decode cX5_safeFinish 30 = .ok (.getfield 71, 3) := by decide +kernel
theorem dX5_safeFinish_33 : decode cX5_safeFinish 33 = .ok (.iload_n 3, 1) := by decide +kernel
theorem dX5_safeFinish_34 : decode cX5_safeFinish 34 = .ok (.invokevirtual 75, 3) := by decide +kernel
theorem dX5_safeFinish_37 : decode cX5_safeFinish 37 = .ok (.aload_n 0, 1) := by decide +kernel
theorem dX5_safeFinish_38 : decode cX5_safeFinish 38 = .ok (.getfield 16, 3) := by decide +kernel
theorem dX5_safeFinish_41 : decode cX5_safeFinish 41 = .ok (.aload_n 0, 1) := by decide +kernel
theorem dX5_safeFinish_42 : decode cX5_safeFinish 42 = .ok (.invokevirtual 106, 3) := by decide +kernel
theorem dX5_safeFinish_45 : decode cX5_safeFinish 45 = .ok (.aload_n 0, 1) := by decide +kernel
theorem dX5_safeFinish_46 : decode cX5_safeFinish 46 = .ok (.getfield 22, 3) := by decide +kernel
theorem dX5_safeFinish_49 : decode cX5_safeFinish 49 = .ok (.iload_n 1, 1) := by decide +kernel
theorem dX5_safeFinish_50 : decode cX5_safeFinish 50 = .ok (.invokevirtual 135, 3) := by decide +kernel
theorem dX5_safeFinish_53 : decode cX5_safeFinish 53 = .ok (.pop, 1) := by decide +kernel
theorem dX5_safeFinish_54 : decode cX5_safeFinish 54 = .ok (.aload_n 0, 1) := by decide +kernel
theorem dX5_safeFinish_55 : decode cX5_safeFinish 55 = .ok (.getfield 16, 3) := by decide +kernel
theorem dX5_safeFinish_58 : decode cX5_safeFinish 58 = .ok (.aload_n 0, 1) := by decide +kernel
theorem dX5_safeFinish_59 : decode cX5_safeFinish 59 = .ok (.getfield 16, 3) := by decide +kernel
theorem dX5_safeFinish_62 : decode cX5_safeFinish 62 = .ok (.invokevirtual 215, 3) := by decide +kernel
theorem dX5_safeFinish_65 : decode cX5_safeFinish 65 = .ok (.invokevirtual 194, 3) := by decide +kernel
theorem dX5_safeFinish_68 : decode cX5_safeFinish 68 = .ok (.ifCond .eq 6, 3) := by decide +kernel
theorem dX5_safeFinish_71 : decode cX5_safeFinish 71 = .ok (.iinc 2 1, 3) := by decide +kernel
theorem dX5_safeFinish_74 : decode cX5_safeFinish 74 = .ok (.iinc 3 1, 3) := by decide +kernel
theorem dX5_safeFinish_77 : decode cX5_safeFinish 77 = .ok (.goto (-68), 3) := by decide +kernel
theorem dX5_safeFinish_80 : decode cX5_safeFinish 80 = .ok (.iload_n 2, 1) := by decide +kernel
theorem dX5_safeFinish_81 : decode cX5_safeFinish 81 = .ok (.ireturn, 1) := by decide +kernel
set_option maxRecDepth 20000 in
theorem ggX5_wouldStart_X3_slotToStart : GoodIn wsX5_wouldStart wsX3_slotToStart := goodIn_r _ [6, 7, 8, 9, 5, 10, 11, 12, 13, 14, 15, 16, 17, 18, 19, 20, 21, 22, 23, 24, 25, 26, 27, 28, 29, 30, 31, 32, 33, 34, 35, 36, 37, 38, 39, 40, 41, 42, 43, 44, 45, 46, 47, 48, 49, 50, 51, 52, 53, 54, 55, 56, 57, 64, 65, 66, 67] (by decide +kernel) (by decide +kernel)
set_option maxRecDepth 20000 in
theorem gX5_wouldStart_X3_slotToStart : GoodIn wsX5_wouldStart (wsV RX5 215 RX3 yX3_slotToStart wsX3_slotToStart) := goodIn_app (goodIn_of _ (by decide +kernel)) ggX5_wouldStart_X3_slotToStart
theorem dX5_wouldStart_0 : decode cX5_wouldStart 0 = .ok (.aload_n 0, 1) := by decide +kernel
theorem dX5_wouldStart_1 : decode cX5_wouldStart 1 = .ok (.getfield 10, 3) := by decide +kernel
theorem dX5_wouldStart_4 : decode cX5_wouldStart 4 = .ok (.invokevirtual 215, 3) := by decide +kernel
theorem dX5_wouldStart_7 : decode cX5_wouldStart 7 = .ok (.ireturn, 1) := by decide +kernel
theorem dX5_requireWithin_0 : decode cX5_requireWithin 0 = .ok (.iload_n 0, 1) := by decide +kernel
theorem dX5_requireWithin_1 : decode cX5_requireWithin 1 = .ok (.iload_n 1, 1) := by decide +kernel
theorem dX5_requireWithin_2 : decode cX5_requireWithin 2 = .ok (.if_icmp .lt 8, 3) := by decide +kernel
theorem dX5_requireWithin_5 : decode cX5_requireWithin 5 = .ok (.iload_n 0, 1) := by decide +kernel
theorem dX5_requireWithin_6 : decode cX5_requireWithin 6 = .ok (.iload_n 2, 1) := by decide +kernel
theorem dX5_requireWithin_7 : decode cX5_requireWithin 7 = .ok (.if_icmp .le 13, 3) := by decide +kernel
theorem dX5_requireWithin_10 : decode cX5_requireWithin 10 = .ok (.new 124, 3) := by decide +kernel
theorem dX5_requireWithin_13 : decode cX5_requireWithin 13 = .ok (.dup, 1) := by decide +kernel
theorem dX5_requireWithin_14 : decode cX5_requireWithin 14 = .ok (.ldc 218, 2) := by decide +kernel
theorem dX5_requireWithin_16 : decode cX5_requireWithin 16 = .ok (.invokespecial 128, 3) := by decide +kernel
theorem dX5_requireWithin_19 : decode cX5_requireWithin 19 = .ok (.athrow, 1) := by decide +kernel
theorem dX5_requireWithin_20 : decode cX5_requireWithin 20 = .ok (.return_, 1) := by decide +kernel
set_option maxRecDepth 20000 in
theorem ggX5_requireOn_X5_isOn : GoodIn wsX5_requireOn wsX5_isOn := goodIn_r _ [7, 8, 9, 10, 11, 12, 13, 14] (by decide +kernel) (by decide +kernel)
set_option maxRecDepth 20000 in
theorem gX5_requireOn_X5_isOn : GoodIn wsX5_requireOn (wsV RX5 46 RX5 yX5_isOn wsX5_isOn) := goodIn_app (goodIn_of _ (by decide +kernel)) ggX5_requireOn_X5_isOn
theorem dX5_requireOn_0 : decode cX5_requireOn 0 = .ok (.aload_n 0, 1) := by decide +kernel
theorem dX5_requireOn_1 : decode cX5_requireOn 1 = .ok (.invokevirtual 46, 3) := by decide +kernel
theorem dX5_requireOn_4 : decode cX5_requireOn 4 = .ok (.ifCond .ne 13, 3) := by decide +kernel
theorem dX5_requireOn_7 : decode cX5_requireOn 7 = .ok (.new 50, 3) := by decide +kernel
theorem dX5_requireOn_10 : decode cX5_requireOn 10 = .ok (.dup, 1) := by decide +kernel
theorem dX5_requireOn_11 : decode cX5_requireOn 11 = .ok (.ldc 220, 2) := by decide +kernel
theorem dX5_requireOn_13 : decode cX5_requireOn 13 = .ok (.invokespecial 54, 3) := by decide +kernel
theorem dX5_requireOn_16 : decode cX5_requireOn 16 = .ok (.athrow, 1) := by decide +kernel
theorem dX5_requireOn_17 : decode cX5_requireOn 17 = .ok (.return_, 1) := by decide +kernel
set_option maxRecDepth 20000 in
theorem ggX5_requireToCome_X4_bytesToCome : GoodIn wsX5_requireToCome wsX4_bytesToCome := goodIn_r _ [8, 9, 10, 11, 18, 19, 20, 21, 22, 23] (by decide +kernel) (by decide +kernel)
set_option maxRecDepth 20000 in
theorem gX5_requireToCome_X4_bytesToCome : GoodIn wsX5_requireToCome (wsV RX5 160 RX4 yX4_bytesToCome wsX4_bytesToCome) := goodIn_app (goodIn_of _ (by decide +kernel)) ggX5_requireToCome_X4_bytesToCome
theorem dX5_requireToCome_0 : decode cX5_requireToCome 0 = .ok (.aload_n 0, 1) := by decide +kernel
theorem dX5_requireToCome_1 : decode cX5_requireToCome 1 = .ok (.getfield 22, 3) := by decide +kernel
theorem dX5_requireToCome_4 : decode cX5_requireToCome 4 = .ok (.invokevirtual 160, 3) := by decide +kernel
theorem dX5_requireToCome_7 : decode cX5_requireToCome 7 = .ok (.iload_n 1, 1) := by decide +kernel
theorem dX5_requireToCome_8 : decode cX5_requireToCome 8 = .ok (.if_icmp .ge 13, 3) := by decide +kernel
theorem dX5_requireToCome_11 : decode cX5_requireToCome 11 = .ok (.new 50, 3) := by decide +kernel
theorem dX5_requireToCome_14 : decode cX5_requireToCome 14 = .ok (.dup, 1) := by decide +kernel
theorem dX5_requireToCome_15 : decode cX5_requireToCome 15 = .ok (.ldc 222, 2) := by decide +kernel
theorem dX5_requireToCome_17 : decode cX5_requireToCome 17 = .ok (.invokespecial 54, 3) := by decide +kernel
theorem dX5_requireToCome_20 : decode cX5_requireToCome 20 = .ok (.athrow, 1) := by decide +kernel
theorem dX5_requireToCome_21 : decode cX5_requireToCome 21 = .ok (.return_, 1) := by decide +kernel
set_option maxRecDepth 20000 in
theorem ggX5_requireFinishable_X5_requireWithin : GoodIn wsX5_requireFinishable wsX5_requireWithin := goodIn_ca (goodIn_r _ [10, 11, 12] (by decide +kernel) (by decide +kernel)) (goodIn_sub (fun _ h => List.mem_cons_of_mem _ (List.mem_append_right _ h)) (by decide +kernel))
set_option maxRecDepth 20000 in
theorem gX5_requireFinishable_X5_requireWithin : GoodIn wsX5_requireFinishable (va_wsS RX5 67 yX5_requireWithin wsX5_requireWithin) := goodIn_app (goodIn_of _ (by decide +kernel)) ggX5_requireFinishable_X5_requireWithin
set_option maxRecDepth 20000 in
theorem ggX5_requireFinishable_X4_bytesToCome : GoodIn wsX5_requireFinishable wsX4_bytesToCome := goodIn_r _ [17, 18, 19, 20, 51, 52, 53, 54, 55, 56] (by decide +kernel) (by decide +kernel)
set_option maxRecDepth 20000 in
theorem gX5_requireFinishable_X4_bytesToCome : GoodIn wsX5_requireFinishable (wsV RX5 160 RX4 yX4_bytesToCome wsX4_bytesToCome) := goodIn_app (goodIn_of _ (by decide +kernel)) ggX5_requireFinishable_X4_bytesToCome
set_option maxRecDepth 20000 in
theorem ggX5_requireFinishable_X5_idleSlot : GoodIn wsX5_requireFinishable wsX5_idleSlot := goodIn_r _ [24, 25, 45, 46, 47, 48, 49, 50] (by decide +kernel) (by decide +kernel)
set_option maxRecDepth 20000 in
theorem gX5_requireFinishable_X5_idleSlot : GoodIn wsX5_requireFinishable (wsV RX5 106 RX5 yX5_idleSlot wsX5_idleSlot) := goodIn_app (goodIn_of _ (by decide +kernel)) ggX5_requireFinishable_X5_idleSlot
set_option maxRecDepth 20000 in
theorem ggX5_requireFinishable_X3_imageHash : GoodIn wsX5_requireFinishable wsX3_imageHash := goodIn_r _ [30, 31, 32, 33, 29, 34, 35, 36, 37, 38, 39, 40, 41, 42, 9, 43, 44, 57, 58, 59, 60] (by decide +kernel) (by decide +kernel)
set_option maxRecDepth 20000 in
theorem gX5_requireFinishable_X3_imageHash : GoodIn wsX5_requireFinishable (wsV RX5 229 RX3 yX3_imageHash wsX3_imageHash) := goodIn_app (goodIn_of _ (by decide +kernel)) ggX5_requireFinishable_X3_imageHash
theorem dX5_requireFinishable_0 : decode cX5_requireFinishable 0 = .ok (.iload_n 1, 1) := by decide +kernel
theorem dX5_requireFinishable_1 : decode cX5_requireFinishable 1 = .ok (.iconst 1, 1) := by decide +kernel
theorem dX5_requireFinishable_2 : decode cX5_requireFinishable 2 = .ok (.iconst 3, 1) := by decide +kernel
theorem dX5_requireFinishable_3 : decode cX5_requireFinishable 3 = .ok (.invokestatic 67, 3) := by decide +kernel
theorem dX5_requireFinishable_6 : decode cX5_requireFinishable 6 = .ok (.aload_n 0, 1) := by decide +kernel
theorem dX5_requireFinishable_7 : decode cX5_requireFinishable 7 = .ok (.getfield 22, 3) := by decide +kernel
theorem dX5_requireFinishable_10 : decode cX5_requireFinishable 10 = .ok (.invokevirtual 160, 3) := by decide +kernel
theorem dX5_requireFinishable_13 : decode cX5_requireFinishable 13 = .ok (.ifCond .eq 13, 3) := by decide +kernel
theorem dX5_requireFinishable_16 : decode cX5_requireFinishable 16 = .ok (.new 50, 3) := by decide +kernel
theorem dX5_requireFinishable_19 : decode cX5_requireFinishable 19 = .ok (.dup, 1) := by decide +kernel
theorem dX5_requireFinishable_20 : decode cX5_requireFinishable 20 = .ok (.ldc 224, 2) := by decide +kernel
theorem dX5_requireFinishable_22 : decode cX5_requireFinishable 22 = .ok (.invokespecial 54, 3) := by decide +kernel
theorem dX5_requireFinishable_25 : decode cX5_requireFinishable 25 = .ok (.athrow, 1) := by decide +kernel
theorem dX5_requireFinishable_26 : decode cX5_requireFinishable 26 = .ok (.aload_n 0, 1) := by decide +kernel
theorem dX5_requireFinishable_27 : decode cX5_requireFinishable 27 = .ok (.getfield 10, 3) := by decide +kernel
theorem dX5_requireFinishable_30 : decode cX5_requireFinishable 30 = .ok (.aload_n 0, 1) := by decide +kernel
theorem dX5_requireFinishable_31 : decode cX5_requireFinishable 31 = .ok (.invokevirtual 106, 3) := by decide +kernel
theorem dX5_requireFinishable_34 : decode cX5_requireFinishable 34 = .ok (.aload_n 0, 1) := by decide +kernel
theorem dX5_requireFinishable_35 : decode cX5_requireFinishable 35 = .ok (.getfield 22, 3) := by decide +kernel
theorem dX5_requireFinishable_38 : decode cX5_requireFinishable 38 = .ok (.getfield 226, 3) := by decide +kernel
theorem dX5_requireFinishable_41 : decode cX5_requireFinishable 41 = .ok (.invokevirtual 229, 3) := by decide +kernel
theorem dX5_requireFinishable_44 : decode cX5_requireFinishable 44 = .ok (.aload_n 0, 1) := by decide +kernel
theorem dX5_requireFinishable_45 : decode cX5_requireFinishable 45 = .ok (.getfield 22, 3) := by decide +kernel
theorem dX5_requireFinishable_48 : decode cX5_requireFinishable 48 = .ok (.getfield 232, 3) := by decide +kernel
theorem dX5_requireFinishable_51 : decode cX5_requireFinishable 51 = .ok (.if_icmp .eq 13, 3) := by decide +kernel
theorem dX5_requireFinishable_54 : decode cX5_requireFinishable 54 = .ok (.new 50, 3) := by decide +kernel
theorem dX5_requireFinishable_57 : decode cX5_requireFinishable 57 = .ok (.dup, 1) := by decide +kernel
theorem dX5_requireFinishable_58 : decode cX5_requireFinishable 58 = .ok (.ldc 234, 2) := by decide +kernel
theorem dX5_requireFinishable_60 : decode cX5_requireFinishable 60 = .ok (.invokespecial 54, 3) := by decide +kernel
theorem dX5_requireFinishable_63 : decode cX5_requireFinishable 63 = .ok (.athrow, 1) := by decide +kernel
theorem dX5_requireFinishable_64 : decode cX5_requireFinishable 64 = .ok (.return_, 1) := by decide +kernel
set_option maxRecDepth 20000 in
theorem ggX5_requireStartable_X5_requireWithin : GoodIn wsX5_requireStartable wsX5_requireWithin := goodIn_ca (goodIn_r _ [7, 8, 9] (by decide +kernel) (by decide +kernel)) (goodIn_sub (fun _ h => List.mem_cons_of_mem _ (List.mem_append_right _ h)) (by decide +kernel))
set_option maxRecDepth 20000 in
theorem gX5_requireStartable_X5_requireWithin : GoodIn wsX5_requireStartable (va_wsS RX5 67 yX5_requireWithin wsX5_requireWithin) := goodIn_app (goodIn_of _ (by decide +kernel)) ggX5_requireStartable_X5_requireWithin
set_option maxRecDepth 20000 in
theorem ggX5_requireStartable_X3_canStart : GoodIn wsX5_requireStartable wsX3_canStart := goodIn_r _ [14, 15, 16, 17, 13, 18, 19, 20, 21, 22, 23, 24, 25, 26, 27, 28, 29, 30, 31, 32, 33, 34, 6, 35, 36, 43, 44, 45, 46] (by decide +kernel) (by decide +kernel)
set_option maxRecDepth 20000 in
theorem gX5_requireStartable_X3_canStart : GoodIn wsX5_requireStartable (wsV RX5 194 RX3 yX3_canStart wsX3_canStart) := goodIn_app (goodIn_of _ (by decide +kernel)) ggX5_requireStartable_X3_canStart
theorem dX5_requireStartable_0 : decode cX5_requireStartable 0 = .ok (.iload_n 1, 1) := by decide +kernel
theorem dX5_requireStartable_1 : decode cX5_requireStartable 1 = .ok (.iconst 0, 1) := by decide +kernel
theorem dX5_requireStartable_2 : decode cX5_requireStartable 2 = .ok (.iconst 1, 1) := by decide +kernel
theorem dX5_requireStartable_3 : decode cX5_requireStartable 3 = .ok (.invokestatic 67, 3) := by decide +kernel
theorem dX5_requireStartable_6 : decode cX5_requireStartable 6 = .ok (.aload_n 0, 1) := by decide +kernel
theorem dX5_requireStartable_7 : decode cX5_requireStartable 7 = .ok (.getfield 10, 3) := by decide +kernel
theorem dX5_requireStartable_10 : decode cX5_requireStartable 10 = .ok (.iload_n 1, 1) := by decide +kernel
theorem dX5_requireStartable_11 : decode cX5_requireStartable 11 = .ok (.invokevirtual 194, 3) := by decide +kernel
theorem dX5_requireStartable_14 : decode cX5_requireStartable 14 = .ok (.ifCond .ne 13, 3) := by decide +kernel
theorem dX5_requireStartable_17 : decode cX5_requireStartable 17 = .ok (.new 50, 3) := by decide +kernel
theorem dX5_requireStartable_20 : decode cX5_requireStartable 20 = .ok (.dup, 1) := by decide +kernel
theorem dX5_requireStartable_21 : decode cX5_requireStartable 21 = .ok (.ldc 236, 2) := by decide +kernel
theorem dX5_requireStartable_23 : decode cX5_requireStartable 23 = .ok (.invokespecial 54, 3) := by decide +kernel
theorem dX5_requireStartable_26 : decode cX5_requireStartable 26 = .ok (.athrow, 1) := by decide +kernel
theorem dX5_requireStartable_27 : decode cX5_requireStartable 27 = .ok (.return_, 1) := by decide +kernel
theorem dX5_requirePiece_0 : decode cX5_requirePiece 0 = .ok (.iload_n 0, 1) := by decide +kernel
theorem dX5_requirePiece_1 : decode cX5_requirePiece 1 = .ok (.iconst (-1), 1) := by decide +kernel
theorem dX5_requirePiece_2 : decode cX5_requirePiece 2 = .ok (.if_icmp .ne 13, 3) := by decide +kernel
theorem dX5_requirePiece_5 : decode cX5_requirePiece 5 = .ok (.new 197, 3) := by decide +kernel
theorem dX5_requirePiece_8 : decode cX5_requirePiece 8 = .ok (.dup, 1) := by decide +kernel
theorem dX5_requirePiece_9 : decode cX5_requirePiece 9 = .ok (.ldc 238, 2) := by decide +kernel
theorem dX5_requirePiece_11 : decode cX5_requirePiece 11 = .ok (.invokespecial 201, 3) := by decide +kernel
theorem dX5_requirePiece_14 : decode cX5_requirePiece 14 = .ok (.athrow, 1) := by decide +kernel
theorem dX5_requirePiece_15 : decode cX5_requirePiece 15 = .ok (.return_, 1) := by decide +kernel
theorem dX5_idleSlot_0 : decode cX5_idleSlot 0 = .ok (.iconst 1, 1) := by decide +kernel
theorem dX5_idleSlot_1 : decode cX5_idleSlot 1 = .ok (.aload_n 0, 1) := by decide +kernel
theorem dX5_idleSlot_2 : decode cX5_idleSlot 2 = .ok (.getfield 42, 3) := by decide +kernel
theorem dX5_idleSlot_5 : decode cX5_idleSlot 5 = .ok (.isub, 1) := by decide +kernel
theorem dX5_idleSlot_6 : decode cX5_idleSlot 6 = .ok (.ireturn, 1) := by decide +kernel
set_option maxRecDepth 20000 in
theorem ggX5_append_X5_idleSlot : GoodIn wsX5_append wsX5_idleSlot := goodIn_r _ [7, 8, 50, 51, 52, 53, 54, 55] (by decide +kernel) (by decide +kernel)
set_option maxRecDepth 20000 in
theorem gX5_append_X5_idleSlot : GoodIn wsX5_append (wsV RX5 106 RX5 yX5_idleSlot wsX5_idleSlot) := goodIn_app (goodIn_of _ (by decide +kernel)) ggX5_append_X5_idleSlot
set_option maxRecDepth 20000 in
theorem ggX5_append_X4_nextPlace : GoodIn wsX5_append wsX4_nextPlace := goodIn_r _ [13, 14, 56, 57, 58, 59, 60, 61] (by decide +kernel) (by decide +kernel)
set_option maxRecDepth 20000 in
theorem gX5_append_X4_nextPlace : GoodIn wsX5_append (wsV RX5 240 RX4 yX4_nextPlace wsX4_nextPlace) := goodIn_app (goodIn_of _ (by decide +kernel)) ggX5_append_X4_nextPlace
set_option maxRecDepth 20000 in
theorem ggX5_append_X3_writeImageWord : GoodIn wsX5_append wsX3_writeImageWord := goodIn_r _ [19, 20, 21, 22, 23, 24, 25, 26, 27, 28, 29, 30, 31, 32, 33, 34, 35, 36, 62, 63, 64, 65] (by decide +kernel) (by decide +kernel)
set_option maxRecDepth 20000 in
theorem gX5_append_X3_writeImageWord : GoodIn wsX5_append (wsV RX5 243 RX3 yX3_writeImageWord wsX3_writeImageWord) := goodIn_app (goodIn_of _ (by decide +kernel)) ggX5_append_X3_writeImageWord
set_option maxRecDepth 20000 in
theorem ggX5_append_X5_stayOn : GoodIn wsX5_append wsX5_stayOn := goodIn_r _ [40, 41, 42, 43, 6, 44, 8, 2, 45, 46, 47, 12, 48, 49, 50, 51, 52, 53, 54, 55, 56, 57, 58, 59, 60, 61] (by decide +kernel) (by decide +kernel)
set_option maxRecDepth 20000 in
theorem gX5_append_X5_stayOn : GoodIn wsX5_append (wsV RX5 113 RX5 yX5_stayOn wsX5_stayOn) := goodIn_app (goodIn_of _ (by decide +kernel)) ggX5_append_X5_stayOn
theorem dX5_append_0 : decode cX5_append 0 = .ok (.aload_n 0, 1) := by decide +kernel
theorem dX5_append_1 : decode cX5_append 1 = .ok (.aload_n 0, 1) := by decide +kernel
theorem dX5_append_2 : decode cX5_append 2 = .ok (.getfield 10, 3) := by decide +kernel
theorem dX5_append_5 : decode cX5_append 5 = .ok (.aload_n 0, 1) := by decide +kernel
theorem dX5_append_6 : decode cX5_append 6 = .ok (.invokevirtual 106, 3) := by decide +kernel
theorem dX5_append_9 : decode cX5_append 9 = .ok (.aload_n 0, 1) := by decide +kernel
theorem dX5_append_10 : decode cX5_append 10 = .ok (.getfield 22, 3) := by decide +kernel
theorem dX5_append_13 : decode cX5_append 13 = .ok (.invokevirtual 240, 3) := by decide +kernel
theorem dX5_append_16 : decode cX5_append 16 = .ok (.iload_n 1, 1) := by decide +kernel
theorem dX5_append_17 : decode cX5_append 17 = .ok (.invokevirtual 243, 3) := by decide +kernel
theorem dX5_append_20 : decode cX5_append 20 = .ok (.invokevirtual 113, 3) := by decide +kernel
theorem dX5_append_23 : decode cX5_append 23 = .ok (.ireturn, 1) := by decide +kernel
set_option maxRecDepth 20000 in
theorem ggX5_stayOn_X5_losePower : GoodIn wsX5_stayOn wsX5_losePower := goodIn_r _ [5, 6, 7, 8, 9, 10, 11, 12, 13, 14, 15, 16, 17, 18, 19, 20, 21, 22, 23, 24, 25] (by decide +kernel) (by decide +kernel)
set_option maxRecDepth 20000 in
theorem gX5_stayOn_X5_losePower : GoodIn wsX5_stayOn (wsV RX5 64 RX5 yX5_losePower wsX5_losePower) := goodIn_app (goodIn_of _ (by decide +kernel)) ggX5_stayOn_X5_losePower
theorem dX5_stayOn_0 : decode cX5_stayOn 0 = .ok (.iload_n 1, 1) := by decide +kernel
theorem dX5_stayOn_1 : decode cX5_stayOn 1 = .ok (.ifCond .ne 7, 3) := by decide +kernel
theorem dX5_stayOn_4 : decode cX5_stayOn 4 = .ok (.aload_n 0, 1) := by decide +kernel
theorem dX5_stayOn_5 : decode cX5_stayOn 5 = .ok (.invokevirtual 64, 3) := by decide +kernel
theorem dX5_stayOn_8 : decode cX5_stayOn 8 = .ok (.iload_n 1, 1) := by decide +kernel
theorem dX5_stayOn_9 : decode cX5_stayOn 9 = .ok (.ireturn, 1) := by decide +kernel
set_option maxRecDepth 20000 in
theorem ggX5_losePower_X4_end : GoodIn wsX5_losePower wsX4_end := goodIn_r _ [7, 8, 15, 16, 17, 18, 19, 20] (by decide +kernel) (by decide +kernel)
set_option maxRecDepth 20000 in
theorem gX5_losePower_X4_end : GoodIn wsX5_losePower (wsV RX5 139 RX4 yX4_end wsX4_end) := goodIn_app (goodIn_of _ (by decide +kernel)) ggX5_losePower_X4_end
theorem dX5_losePower_0 : decode cX5_losePower 0 = .ok (.aload_n 0, 1) := by decide +kernel
theorem dX5_losePower_1 : decode cX5_losePower 1 = .ok (.iconst (-1), 1) := by decide +kernel
theorem dX5_losePower_2 : decode cX5_losePower 2 = .ok (.putfield 42, 3) := by decide +kernel
theorem dX5_losePower_5 : decode cX5_losePower 5 = .ok (.aload_n 0, 1) := by decide +kernel
theorem dX5_losePower_6 : decode cX5_losePower 6 = .ok (.getfield 22, 3) := by decide +kernel
theorem dX5_losePower_9 : decode cX5_losePower 9 = .ok (.invokevirtual 139, 3) := by decide +kernel
theorem dX5_losePower_12 : decode cX5_losePower 12 = .ok (.return_, 1) := by decide +kernel
theorem dX5_hashWith_0 : decode cX5_hashWith 0 = .ok (.iload_n 0, 1) := by decide +kernel
theorem dX5_hashWith_1 : decode cX5_hashWith 1 = .ok (.bipush 31, 2) := by decide +kernel
theorem dX5_hashWith_3 : decode cX5_hashWith 3 = .ok (.imul, 1) := by decide +kernel
theorem dX5_hashWith_4 : decode cX5_hashWith 4 = .ok (.iload_n 1, 1) := by decide +kernel
theorem dX5_hashWith_5 : decode cX5_hashWith 5 = .ok (.iadd, 1) := by decide +kernel
theorem dX5_hashWith_6 : decode cX5_hashWith 6 = .ok (.iconst 1, 1) := by decide +kernel
theorem dX5_hashWith_7 : decode cX5_hashWith 7 = .ok (.iadd, 1) := by decide +kernel
theorem dX5_hashWith_8 : decode cX5_hashWith 8 = .ok (.ldc 246, 2) := by decide +kernel
theorem dX5_hashWith_10 : decode cX5_hashWith 10 = .ok (.irem, 1) := by decide +kernel
theorem dX5_hashWith_11 : decode cX5_hashWith 11 = .ok (.ireturn, 1) := by decide +kernel

theorem dX5_copy_39 : decode cX5_copy 39 = .ok (.new 124, 3) := by decide +kernel
theorem dX5_copy_42 : decode cX5_copy 42 = .ok (.dup, 1) := by decide +kernel
theorem dX5_copy_43 : decode cX5_copy 43 = .ok (.ldc 126, 2) := by decide +kernel
theorem dX5_copy_45 : decode cX5_copy 45 = .ok (.invokespecial 128, 3) := by decide +kernel
theorem dX5_copy_48 : decode cX5_copy 48 = .ok (.athrow, 1) := by decide +kernel
theorem dX5_copy_49 : decode cX5_copy 49 = .ok (.aload_n 0, 1) := by decide +kernel
theorem dX5_copy_50 : decode cX5_copy 50 = .ok (.iload_n 2, 1) := by decide +kernel
theorem dX5_copy_51 : decode cX5_copy 51 = .ok (.invokevirtual 117, 3) := by decide +kernel
theorem dX5_copy_54 : decode cX5_copy 54 = .ok (.aload_n 0, 1) := by decide +kernel
theorem dX5_copy_55 : decode cX5_copy 55 = .ok (.getfield 42, 3) := by decide +kernel
theorem dX5_copy_58 : decode cX5_copy 58 = .ok (.istore_n 3, 1) := by decide +kernel
theorem dX5_copy_59 : decode cX5_copy 59 = .ok (.iconst 0, 1) := by decide +kernel
theorem dX5_copy_60 : decode cX5_copy 60 = .ok (.istore 4, 2) := by decide +kernel
theorem dX5_copy_62 : decode cX5_copy 62 = .ok (.iload 4, 2) := by decide +kernel
theorem dX5_copy_64 : decode cX5_copy 64 = .ok (.iload_n 2, 1) := by decide +kernel
theorem dX5_copy_65 : decode cX5_copy 65 = .ok (.if_icmp .ge 28, 3) := by decide +kernel
theorem dX5_copy_68 : decode cX5_copy 68 = .ok (.aload_n 0, 1) := by decide +kernel
theorem dX5_copy_69 : decode cX5_copy 69 = .ok (.aload_n 0, 1) := by decide +kernel
theorem dX5_copy_70 : decode cX5_copy 70 = .ok (.getfield 10, 3) := by decide +kernel
theorem dX5_copy_73 : decode cX5_copy 73 = .ok (.iload_n 3, 1) := by decide +kernel
theorem dX5_copy_74 : decode cX5_copy 74 = .ok (.iload_n 1, 1) := by decide +kernel
theorem dX5_copy_75 : decode cX5_copy 75 = .ok (.iload 4, 2) := by decide +kernel
theorem dX5_copy_77 : decode cX5_copy 77 = .ok (.iadd, 1) := by decide +kernel
theorem dX5_copy_78 : decode cX5_copy 78 = .ok (.invokevirtual 129, 3) := by decide +kernel
theorem dX5_copy_81 : decode cX5_copy 81 = .ok (.invokevirtual 120, 3) := by decide +kernel
theorem dX5_copy_84 : decode cX5_copy 84 = .ok (.ifCond .eq 9, 3) := by decide +kernel
theorem dX5_copy_87 : decode cX5_copy 87 = .ok (.iinc 4 1, 3) := by decide +kernel
theorem dX5_copy_90 : decode cX5_copy 90 = .ok (.goto (-28), 3) := by decide +kernel
theorem dX5_copy_93 : decode cX5_copy 93 = .ok (.iload 4, 2) := by decide +kernel
theorem dX5_copy_95 : decode cX5_copy 95 = .ok (.ireturn, 1) := by decide +kernel
set_option maxRecDepth 20000 in
theorem ggX5_finish_X5_requireFinishable : GoodIn wsX5_finish wsX5_requireFinishable := goodIn_ca (goodIn_ca (goodIn_r _ [7, 8, 9, 2, 1, 10, 11, 12, 13, 6, 14, 15, 16, 17, 18, 19, 20, 21, 22, 23, 24, 25, 26, 27, 28, 29, 30, 31, 32, 33, 34, 35, 36, 37, 38, 39, 40, 41, 42, 43, 44, 45, 46, 47, 48, 121, 122, 123, 124, 125, 126, 127, 128, 129, 130, 131, 132, 133, 134, 135, 136] (by decide +kernel) (by decide +kernel)) (goodIn_sub (fun _ h => List.mem_cons_of_mem _ (List.mem_append_left _ (List.mem_append_right _ h))) (by decide +kernel))) (goodIn_sub (fun _ h => List.mem_cons_of_mem _ (List.mem_append_right _ h)) (by decide +kernel))
set_option maxRecDepth 20000 in
theorem gX5_finish_X5_requireFinishable : GoodIn wsX5_finish (wsV RX5 132 RX5 yX5_requireFinishable wsX5_requireFinishable) := goodIn_app (goodIn_of _ (by decide +kernel)) ggX5_finish_X5_requireFinishable
set_option maxRecDepth 20000 in
theorem ggX5_finish_X5_idleSlot : GoodIn wsX5_finish wsX5_idleSlot := goodIn_r _ [28, 29, 121, 122, 123, 124, 125, 126] (by decide +kernel) (by decide +kernel)
set_option maxRecDepth 20000 in
theorem gX5_finish_X5_idleSlot : GoodIn wsX5_finish (wsV RX5 106 RX5 yX5_idleSlot wsX5_idleSlot) := goodIn_app (goodIn_of _ (by decide +kernel)) ggX5_finish_X5_idleSlot
set_option maxRecDepth 20000 in
theorem ggX5_finish_X3_writeUpdate : GoodIn wsX5_finish wsX3_writeUpdate := goodIn_r _ [52, 53, 54, 55, 56, 57, 58, 59, 33, 60, 39, 61, 62, 63, 43, 64, 65, 66, 67, 41, 42, 44, 45, 68, 69, 70, 71, 72, 73, 74, 75, 76, 77, 78, 79, 80, 81, 82, 83, 84, 85, 86, 87, 40, 88, 89, 90, 91, 92, 93, 94, 95, 96, 97, 98, 99, 100, 101, 102, 103, 104, 105, 106, 107, 108, 127, 128, 129, 130, 131, 132, 133, 134, 135, 136] (by decide +kernel) (by decide +kernel)
set_option maxRecDepth 20000 in
theorem gX5_finish_X3_writeUpdate : GoodIn wsX5_finish (wsV RX5 135 RX3 yX3_writeUpdate wsX3_writeUpdate) := goodIn_app (goodIn_of _ (by decide +kernel)) ggX5_finish_X3_writeUpdate
set_option maxRecDepth 20000 in
theorem ggX5_finish_X4_end : GoodIn wsX5_finish wsX4_end := goodIn_r _ [112, 22, 127, 128, 129, 130, 131, 132] (by decide +kernel) (by decide +kernel)
set_option maxRecDepth 20000 in
theorem gX5_finish_X4_end : GoodIn wsX5_finish (wsV RX5 139 RX4 yX4_end wsX4_end) := goodIn_app (goodIn_of _ (by decide +kernel)) ggX5_finish_X4_end
set_option maxRecDepth 20000 in
theorem ggX5_finish_X5_stayOn : GoodIn wsX5_finish wsX5_stayOn := goodIn_r _ [116, 117, 118, 119, 6, 120, 29, 2, 109, 110, 111, 20, 112, 22, 121, 122, 123, 124, 125, 126, 127, 128, 129, 130, 131, 132] (by decide +kernel) (by decide +kernel)
set_option maxRecDepth 20000 in
theorem gX5_finish_X5_stayOn : GoodIn wsX5_finish (wsV RX5 113 RX5 yX5_stayOn wsX5_stayOn) := goodIn_app (goodIn_of _ (by decide +kernel)) ggX5_finish_X5_stayOn
theorem dX5_finish_0 : decode cX5_finish 0 = .ok (.aload_n 0, 1) := by decide +kernel
theorem dX5_finish_1 : decode cX5_finish 1 = .ok (.iload_n 1, 1) := by decide +kernel
theorem dX5_finish_2 : decode cX5_finish 2 = .ok (.invokevirtual 132, 3) := by decide +kernel
theorem dX5_finish_5 : decode cX5_finish 5 = .ok (.aload_n 0, 1) := by decide +kernel
theorem dX5_finish_6 : decode cX5_finish 6 = .ok (.getfield 10, 3) := by decide +kernel
theorem dX5_finish_9 : decode cX5_finish 9 = .ok (.aload_n 0, 1) := by decide +kernel
theorem dX5_finish_10 : decode cX5_finish 10 = .ok (.invokevirtual 106, 3) := by decide +kernel
theorem dX5_finish_13 : decode cX5_finish 13 = .ok (.aload_n 0, 1) := by decide +kernel
theorem dX5_finish_14 : decode cX5_finish 14 = .ok (.getfield 22, 3) := by decide +kernel
theorem dX5_finish_17 : decode cX5_finish 17 = .ok (.iload_n 1, 1) := by decide +kernel
theorem dX5_finish_18 : decode cX5_finish 18 = .ok (.invokevirtual 135, 3) := by decide +kernel
theorem dX5_finish_21 : decode cX5_finish 21 = .ok (.istore_n 2, 1) := by decide +kernel
theorem dX5_finish_22 : decode cX5_finish 22 = .ok (.aload_n 0, 1) := by decide +kernel
theorem dX5_finish_23 : decode cX5_finish 23 = .ok (.getfield 22, 3) := by decide +kernel
theorem dX5_finish_26 : decode cX5_finish 26 = .ok (.invokevirtual 139, 3) := by decide +kernel
theorem dX5_finish_29 : decode cX5_finish 29 = .ok (.aload_n 0, 1) := by decide +kernel
theorem dX5_finish_30 : decode cX5_finish 30 = .ok (.iload_n 2, 1) := by decide +kernel
theorem dX5_finish_31 : decode cX5_finish 31 = .ok (.invokevirtual 113, 3) := by decide +kernel
theorem dX5_finish_34 : decode cX5_finish 34 = .ok (.ireturn, 1) := by decide +kernel
set_option maxRecDepth 20000 in
theorem ggX5_confirm_X5_requireOn : GoodIn wsX5_confirm wsX5_requireOn := goodIn_ca (goodIn_r _ [13, 1, 2, 14, 15, 16, 12, 17, 4, 97, 98, 99, 100, 101, 102] (by decide +kernel) (by decide +kernel)) (goodIn_sub (fun _ h => List.mem_cons_of_mem _ (List.mem_append_right _ h)) (by decide +kernel))
set_option maxRecDepth 20000 in
theorem gX5_confirm_X5_requireOn : GoodIn wsX5_confirm (wsV RX5 61 RX5 yX5_requireOn wsX5_requireOn) := goodIn_app (goodIn_of _ (by decide +kernel)) ggX5_confirm_X5_requireOn
set_option maxRecDepth 20000 in
theorem ggX5_confirm_X5_isOnTrial : GoodIn wsX5_confirm wsX5_isOnTrial := goodIn_r _ [21, 4, 3, 14, 15, 16, 12, 17, 22, 23, 24, 25, 26, 27, 28, 29, 30, 31, 32, 33, 34, 35, 36, 37, 38, 39, 40, 41, 42, 43, 44, 45, 46, 47, 48, 49, 50, 51, 97, 98, 99, 100, 101, 102, 103, 104, 105, 106] (by decide +kernel) (by decide +kernel)
set_option maxRecDepth 20000 in
theorem gX5_confirm_X5_isOnTrial : GoodIn wsX5_confirm (wsV RX5 142 RX5 yX5_isOnTrial wsX5_isOnTrial) := goodIn_app (goodIn_of _ (by decide +kernel)) ggX5_confirm_X5_isOnTrial
set_option maxRecDepth 20000 in
theorem ggX5_confirm_X3_recordCounter : GoodIn wsX5_confirm wsX3_recordCounter := goodIn_r _ [55, 27, 28, 29, 25, 30, 31, 32, 33, 34, 35, 36, 37, 38, 39, 40, 41, 42, 43, 44, 45, 46, 47, 48, 103, 104, 105, 106] (by decide +kernel) (by decide +kernel)
set_option maxRecDepth 20000 in
theorem gX5_confirm_X3_recordCounter : GoodIn wsX5_confirm (wsV RX5 97 RX3 yX3_recordCounter wsX3_recordCounter) := goodIn_app (goodIn_of _ (by decide +kernel)) ggX5_confirm_X3_recordCounter
set_option maxRecDepth 20000 in
theorem ggX5_confirm_X3_slotWord : GoodIn wsX5_confirm wsX3_slotWord := goodIn_r _ [59, 39, 40, 41, 42, 43, 44, 45, 103, 104, 105, 106] (by decide +kernel) (by decide +kernel)
set_option maxRecDepth 20000 in
theorem gX5_confirm_X3_slotWord : GoodIn wsX5_confirm (wsV RX5 93 RX3 yX3_slotWord wsX3_slotWord) := goodIn_app (goodIn_of _ (by decide +kernel)) ggX5_confirm_X3_slotWord
set_option maxRecDepth 20000 in
theorem ggX5_confirm_X3_settledState : GoodIn wsX5_confirm wsX3_settledState := goodIn_r _ [62] (by decide +kernel) (by decide +kernel)
set_option maxRecDepth 20000 in
theorem gX5_confirm_X3_settledState : GoodIn wsX5_confirm (va_wsS RX5 152 yX3_settledState wsX3_settledState) := goodIn_app (goodIn_of _ (by decide +kernel)) ggX5_confirm_X3_settledState
set_option maxRecDepth 20000 in
theorem ggX5_confirm_X3_writeRecord : GoodIn wsX5_confirm wsX3_writeRecord := goodIn_r _ [66, 27, 28, 29, 25, 30, 31, 32, 33, 34, 35, 36, 37, 38, 39, 40, 41, 42, 43, 44, 45, 46, 47, 48, 67, 68, 69, 70, 71, 72, 73, 74, 75, 76, 77, 78, 79, 80, 81, 103, 104, 105, 106] (by decide +kernel) (by decide +kernel)
set_option maxRecDepth 20000 in
theorem gX5_confirm_X3_writeRecord : GoodIn wsX5_confirm (wsV RX5 156 RX3 yX3_writeRecord wsX3_writeRecord) := goodIn_app (goodIn_of _ (by decide +kernel)) ggX5_confirm_X3_writeRecord
set_option maxRecDepth 20000 in
theorem ggX5_confirm_X5_stayOn : GoodIn wsX5_confirm wsX5_stayOn := goodIn_r _ [85, 86, 87, 88, 12, 89, 4, 90, 91, 92, 93, 94, 95, 96, 97, 98, 99, 100, 101, 102, 107, 108, 109, 110, 111, 112] (by decide +kernel) (by decide +kernel)
set_option maxRecDepth 20000 in
theorem gX5_confirm_X5_stayOn : GoodIn wsX5_confirm (wsV RX5 113 RX5 yX5_stayOn wsX5_stayOn) := goodIn_app (goodIn_of _ (by decide +kernel)) ggX5_confirm_X5_stayOn
theorem dX5_confirm_0 : decode cX5_confirm 0 = .ok (.aload_n 0, 1) := by decide +kernel
theorem dX5_confirm_1 : decode cX5_confirm 1 = .ok (.invokevirtual 61, 3) := by decide +kernel
theorem dX5_confirm_4 : decode cX5_confirm 4 = .ok (.aload_n 0, 1) := by decide +kernel
theorem dX5_confirm_5 : decode cX5_confirm 5 = .ok (.invokevirtual 142, 3) := by decide +kernel
theorem dX5_confirm_8 : decode cX5_confirm 8 = .ok (.ifCond .ne 13, 3) := by decide +kernel
theorem dX5_confirm_11 : decode cX5_confirm 11 = .ok (.new 50, 3) := by decide +kernel
theorem dX5_confirm_14 : decode cX5_confirm 14 = .ok (.dup, 1) := by decide +kernel
theorem dX5_confirm_15 : decode cX5_confirm 15 = .ok (.ldc 145, 2) := by decide +kernel
theorem dX5_confirm_17 : decode cX5_confirm 17 = .ok (.invokespecial 54, 3) := by decide +kernel
theorem dX5_confirm_20 : decode cX5_confirm 20 = .ok (.athrow, 1) := by decide +kernel
theorem dX5_confirm_21 : decode cX5_confirm 21 = .ok (.aload_n 0, 1) := by decide +kernel
theorem dX5_confirm_22 : decode cX5_confirm 22 = .ok (.getfield 10, 3) := by decide +kernel
theorem dX5_confirm_25 : decode cX5_confirm 25 = .ok (.invokevirtual 97, 3) := by decide +kernel
theorem dX5_confirm_28 : decode cX5_confirm 28 = .ok (.aload_n 0, 1) := by decide +kernel
theorem dX5_confirm_29 : decode cX5_confirm 29 = .ok (.getfield 10, 3) := by decide +kernel
theorem dX5_confirm_32 : decode cX5_confirm 32 = .ok (.aload_n 0, 1) := by decide +kernel
theorem dX5_confirm_33 : decode cX5_confirm 33 = .ok (.getfield 42, 3) := by decide +kernel
theorem dX5_confirm_36 : decode cX5_confirm 36 = .ok (.iconst 4, 1) := by decide +kernel
theorem dX5_confirm_37 : decode cX5_confirm 37 = .ok (.invokevirtual 93, 3) := by decide +kernel
theorem dX5_confirm_40 : decode cX5_confirm 40 = .ok (.invokestatic 147, 3) := by decide +kernel
theorem dX5_confirm_43 : decode cX5_confirm 43 = .ok (.istore_n 1, 1) := by decide +kernel
theorem dX5_confirm_44 : decode cX5_confirm 44 = .ok (.aload_n 0, 1) := by decide +kernel
theorem dX5_confirm_45 : decode cX5_confirm 45 = .ok (.aload_n 0, 1) := by decide +kernel
theorem dX5_confirm_46 : decode cX5_confirm 46 = .ok (.getfield 10, 3) := by decide +kernel
theorem dX5_confirm_49 : decode cX5_confirm 49 = .ok (.aload_n 0, 1) := by decide +kernel
theorem dX5_confirm_50 : decode cX5_confirm 50 = .ok (.getfield 42, 3) := by decide +kernel
theorem dX5_confirm_53 : decode cX5_confirm 53 = .ok (.invokestatic 152, 3) := by decide +kernel
theorem dX5_confirm_56 : decode cX5_confirm 56 = .ok (.iload_n 1, 1) := by decide +kernel
theorem dX5_confirm_57 : decode cX5_confirm 57 = .ok (.invokevirtual 156, 3) := by decide +kernel
theorem dX5_confirm_60 : decode cX5_confirm 60 = .ok (.invokevirtual 113, 3) := by decide +kernel
theorem dX5_confirm_63 : decode cX5_confirm 63 = .ok (.ireturn, 1) := by decide +kernel
set_option maxRecDepth 20000 in
theorem ggX5_toCome_X4_bytesToCome : GoodIn wsX5_toCome wsX4_bytesToCome := goodIn_r _ [6, 7, 8, 9, 16, 17, 18, 19, 20, 21] (by decide +kernel) (by decide +kernel)
set_option maxRecDepth 20000 in
theorem gX5_toCome_X4_bytesToCome : GoodIn wsX5_toCome (wsV RX5 160 RX4 yX4_bytesToCome wsX4_bytesToCome) := goodIn_app (goodIn_of _ (by decide +kernel)) ggX5_toCome_X4_bytesToCome
theorem dX5_toCome_0 : decode cX5_toCome 0 = .ok (.aload_n 0, 1) := by decide +kernel
theorem dX5_toCome_1 : decode cX5_toCome 1 = .ok (.getfield 22, 3) := by decide +kernel
theorem dX5_toCome_4 : decode cX5_toCome 4 = .ok (.invokevirtual 160, 3) := by decide +kernel
theorem dX5_toCome_7 : decode cX5_toCome 7 = .ok (.ireturn, 1) := by decide +kernel
set_option maxRecDepth 20000 in
theorem ggX5_draft_X5_requireWithin : GoodIn wsX5_draft wsX5_requireWithin := goodIn_ca (goodIn_r _ [7, 8, 9] (by decide +kernel) (by decide +kernel)) (goodIn_sub (fun _ h => List.mem_cons_of_mem _ (List.mem_append_right _ h)) (by decide +kernel))
set_option maxRecDepth 20000 in
theorem gX5_draft_X5_requireWithin : GoodIn wsX5_draft (va_wsS RX5 67 yX5_requireWithin wsX5_requireWithin) := goodIn_app (goodIn_of _ (by decide +kernel)) ggX5_draft_X5_requireWithin
set_option maxRecDepth 20000 in
theorem ggX5_draft_X1_isFull : GoodIn wsX5_draft wsX1_isFull := goodIn_r _ [14, 15, 16, 27, 28] (by decide +kernel) (by decide +kernel)
set_option maxRecDepth 20000 in
theorem gX5_draft_X1_isFull : GoodIn wsX5_draft (wsV RX5 163 RX1 yX1_isFull wsX1_isFull) := goodIn_app (goodIn_of _ (by decide +kernel)) ggX5_draft_X1_isFull
set_option maxRecDepth 20000 in
theorem ggX5_draft_X1_append : GoodIn wsX5_draft wsX1_append := goodIn_r _ [20, 15, 16, 27, 28] (by decide +kernel) (by decide +kernel)
set_option maxRecDepth 20000 in
theorem gX5_draft_X1_append : GoodIn wsX5_draft (wsV RX5 168 RX1 yX1_append wsX1_append) := goodIn_app (goodIn_of _ (by decide +kernel)) ggX5_draft_X1_append
theorem dX5_draft_0 : decode cX5_draft 0 = .ok (.iload_n 1, 1) := by decide +kernel
theorem dX5_draft_1 : decode cX5_draft 1 = .ok (.iconst 0, 1) := by decide +kernel
theorem dX5_draft_2 : decode cX5_draft 2 = .ok (.sipush 255, 3) := by decide +kernel
theorem dX5_draft_5 : decode cX5_draft 5 = .ok (.invokestatic 67, 3) := by decide +kernel
theorem dX5_draft_8 : decode cX5_draft 8 = .ok (.aload_n 0, 1) := by decide +kernel
theorem dX5_draft_9 : decode cX5_draft 9 = .ok (.getfield 29, 3) := by decide +kernel
theorem dX5_draft_12 : decode cX5_draft 12 = .ok (.invokevirtual 163, 3) := by decide +kernel
theorem dX5_draft_15 : decode cX5_draft 15 = .ok (.ifCond .eq 13, 3) := by decide +kernel
theorem dX5_draft_18 : decode cX5_draft 18 = .ok (.new 50, 3) := by decide +kernel
theorem dX5_draft_21 : decode cX5_draft 21 = .ok (.dup, 1) := by decide +kernel
theorem dX5_draft_22 : decode cX5_draft 22 = .ok (.ldc 166, 2) := by decide +kernel
theorem dX5_draft_24 : decode cX5_draft 24 = .ok (.invokespecial 54, 3) := by decide +kernel
theorem dX5_draft_27 : decode cX5_draft 27 = .ok (.athrow, 1) := by decide +kernel
theorem dX5_draft_28 : decode cX5_draft 28 = .ok (.aload_n 0, 1) := by decide +kernel
theorem dX5_draft_29 : decode cX5_draft 29 = .ok (.getfield 29, 3) := by decide +kernel
theorem dX5_draft_32 : decode cX5_draft 32 = .ok (.iload_n 1, 1) := by decide +kernel
theorem dX5_draft_33 : decode cX5_draft 33 = .ok (.invokevirtual 168, 3) := by decide +kernel
theorem dX5_draft_36 : decode cX5_draft 36 = .ok (.ireturn, 1) := by decide +kernel
set_option maxRecDepth 20000 in
theorem ggX5_clearDraft_X1_clear : GoodIn wsX5_clearDraft wsX1_clear := goodIn_r _ [6, 7, 14, 15] (by decide +kernel) (by decide +kernel)
set_option maxRecDepth 20000 in
theorem gX5_clearDraft_X1_clear : GoodIn wsX5_clearDraft (wsV RX5 170 RX1 yX1_clear wsX1_clear) := goodIn_app (goodIn_of _ (by decide +kernel)) ggX5_clearDraft_X1_clear
theorem dX5_clearDraft_0 : decode cX5_clearDraft 0 = .ok (.aload_n 0, 1) := by decide +kernel
theorem dX5_clearDraft_1 : decode cX5_clearDraft 1 = .ok (.getfield 29, 3) := by decide +kernel
theorem dX5_clearDraft_4 : decode cX5_clearDraft 4 = .ok (.invokevirtual 170, 3) := by decide +kernel
theorem dX5_clearDraft_7 : decode cX5_clearDraft 7 = .ok (.ireturn, 1) := by decide +kernel
set_option maxRecDepth 20000 in
theorem ggX5_draftHash_X1_hash : GoodIn wsX5_draftHash wsX1_hash := goodIn_r _ [6, 7, 8, 9, 10, 5, 11, 12, 13, 14, 15, 16, 23, 24] (by decide +kernel) (by decide +kernel)
set_option maxRecDepth 20000 in
theorem gX5_draftHash_X1_hash : GoodIn wsX5_draftHash (wsV RX5 173 RX1 yX1_hash wsX1_hash) := goodIn_app (goodIn_of _ (by decide +kernel)) ggX5_draftHash_X1_hash
theorem dX5_draftHash_0 : decode cX5_draftHash 0 = .ok (.aload_n 0, 1) := by decide +kernel
theorem dX5_draftHash_1 : decode cX5_draftHash 1 = .ok (.getfield 29, 3) := by decide +kernel
theorem dX5_draftHash_4 : decode cX5_draftHash 4 = .ok (.invokevirtual 173, 3) := by decide +kernel
theorem dX5_draftHash_7 : decode cX5_draftHash 7 = .ok (.ireturn, 1) := by decide +kernel
set_option maxRecDepth 20000 in
theorem ggX5_deltaPieces_X5_requireStartable : GoodIn wsX5_deltaPieces wsX5_requireStartable := goodIn_ca (goodIn_ca (goodIn_r _ [6, 7, 8, 9, 10, 11, 5, 12, 13, 14, 15, 16, 17, 18, 19, 20, 21, 22, 23, 24, 25, 26, 27, 28, 29, 30, 31, 32, 33, 34, 35, 36, 37, 38, 39, 40, 41, 74, 75, 76, 77, 78, 79, 80, 81, 82, 83] (by decide +kernel) (by decide +kernel)) (goodIn_sub (fun _ h => List.mem_cons_of_mem _ (List.mem_append_left _ (List.mem_append_right _ h))) (by decide +kernel))) (goodIn_sub (fun _ h => List.mem_cons_of_mem _ (List.mem_append_right _ h)) (by decide +kernel))
set_option maxRecDepth 20000 in
theorem gX5_deltaPieces_X5_requireStartable : GoodIn wsX5_deltaPieces (wsV RX5 176 RX5 yX5_requireStartable wsX5_requireStartable) := goodIn_app (goodIn_of _ (by decide +kernel)) ggX5_deltaPieces_X5_requireStartable
set_option maxRecDepth 20000 in
theorem ggX5_deltaPieces_X0_pieceCount : GoodIn wsX5_deltaPieces wsX0_pieceCount := goodIn_r _ [46, 47, 48, 49, 50, 51, 45, 52, 53, 54, 55, 56, 57, 58, 21, 22, 18, 23, 24, 25, 26, 27, 28, 29, 30, 59, 60, 61, 62, 63, 64, 65, 66, 67, 36, 37, 38, 68, 69, 70, 71, 72, 73, 84, 85, 86, 87, 80, 81, 82, 83] (by decide +kernel) (by decide +kernel)
set_option maxRecDepth 20000 in
theorem gX5_deltaPieces_X0_pieceCount : GoodIn wsX5_deltaPieces (wsV RX5 179 RX0 yX0_pieceCount wsX0_pieceCount) := goodIn_app (goodIn_of _ (by decide +kernel)) ggX5_deltaPieces_X0_pieceCount
theorem dX5_deltaPieces_0 : decode cX5_deltaPieces 0 = .ok (.aload_n 0, 1) := by decide +kernel
theorem dX5_deltaPieces_1 : decode cX5_deltaPieces 1 = .ok (.iload_n 1, 1) := by decide +kernel
theorem dX5_deltaPieces_2 : decode cX5_deltaPieces 2 = .ok (.invokevirtual 176, 3) := by decide +kernel
theorem dX5_deltaPieces_5 : decode cX5_deltaPieces 5 = .ok (.aload_n 0, 1) := by decide +kernel
theorem dX5_deltaPieces_6 : decode cX5_deltaPieces 6 = .ok (.getfield 38, 3) := by decide +kernel
theorem dX5_deltaPieces_9 : decode cX5_deltaPieces 9 = .ok (.iload_n 1, 1) := by decide +kernel
theorem dX5_deltaPieces_10 : decode cX5_deltaPieces 10 = .ok (.invokevirtual 179, 3) := by decide +kernel
theorem dX5_deltaPieces_13 : decode cX5_deltaPieces 13 = .ok (.ireturn, 1) := by decide +kernel
set_option maxRecDepth 20000 in
theorem ggX5_deltaLength_X5_requireStartable : GoodIn wsX5_deltaLength wsX5_requireStartable := goodIn_ca (goodIn_ca (goodIn_r _ [6, 7, 8, 9, 10, 11, 5, 12, 13, 14, 15, 16, 17, 18, 19, 20, 21, 22, 23, 24, 25, 26, 27, 28, 29, 30, 31, 32, 33, 34, 35, 36, 37, 38, 39, 40, 41, 80, 81, 82, 83, 84, 85, 86, 87, 88, 89] (by decide +kernel) (by decide +kernel)) (goodIn_sub (fun _ h => List.mem_cons_of_mem _ (List.mem_append_left _ (List.mem_append_left _ (List.mem_append_right _ h)))) (by decide +kernel))) (goodIn_sub (fun _ h => List.mem_cons_of_mem _ (List.mem_append_left _ (List.mem_append_right _ h))) (by decide +kernel))
set_option maxRecDepth 20000 in
theorem gX5_deltaLength_X5_requireStartable : GoodIn wsX5_deltaLength (wsV RX5 176 RX5 yX5_requireStartable wsX5_requireStartable) := goodIn_app (goodIn_of _ (by decide +kernel)) ggX5_deltaLength_X5_requireStartable
set_option maxRecDepth 20000 in
theorem ggX5_deltaLength_X0_pieceStart : GoodIn wsX5_deltaLength wsX0_pieceStart := goodIn_r _ [46, 47, 48, 49, 50, 51, 45, 52, 53, 54, 55, 56, 57, 58, 21, 22, 18, 23, 24, 25, 26, 27, 28, 29, 30, 59, 60, 61, 62, 63, 64, 65, 66, 67, 36, 37, 38, 68, 69, 70, 71, 72, 73, 90, 91, 92, 93, 86, 87, 88, 89] (by decide +kernel) (by decide +kernel)
set_option maxRecDepth 20000 in
theorem gX5_deltaLength_X0_pieceStart : GoodIn wsX5_deltaLength (wsV RX5 182 RX0 yX0_pieceStart wsX0_pieceStart) := goodIn_app (goodIn_of _ (by decide +kernel)) ggX5_deltaLength_X0_pieceStart
set_option maxRecDepth 20000 in
theorem ggX5_deltaLength_X5_requirePiece : GoodIn wsX5_deltaLength wsX5_requirePiece := goodIn_ca (goodIn_r _ [76, 77, 78] (by decide +kernel) (by decide +kernel)) (goodIn_sub (fun _ h => List.mem_cons_of_mem _ (List.mem_append_right _ h)) (by decide +kernel))
set_option maxRecDepth 20000 in
theorem gX5_deltaLength_X5_requirePiece : GoodIn wsX5_deltaLength (va_wsS RX5 185 yX5_requirePiece wsX5_requirePiece) := goodIn_app (goodIn_of _ (by decide +kernel)) ggX5_deltaLength_X5_requirePiece
set_option maxRecDepth 20000 in
theorem ggX5_deltaLength_X0_pieceLength : GoodIn wsX5_deltaLength wsX0_pieceLength := goodIn_r _ [52, 53, 54, 55, 45, 56, 57, 58, 21, 22, 18, 23, 24, 25, 26, 27, 28, 29, 30, 59, 60, 61, 62, 47, 48, 63, 64, 65, 66, 67, 36, 37, 38, 68, 69, 70, 71, 72, 73, 90, 91, 86, 87, 88, 89, 92, 93] (by decide +kernel) (by decide +kernel)
set_option maxRecDepth 20000 in
theorem gX5_deltaLength_X0_pieceLength : GoodIn wsX5_deltaLength (wsV RX5 188 RX0 yX0_pieceLength wsX0_pieceLength) := goodIn_app (goodIn_of _ (by decide +kernel)) ggX5_deltaLength_X0_pieceLength
theorem dX5_deltaLength_0 : decode cX5_deltaLength 0 = .ok (.aload_n 0, 1) := by decide +kernel
theorem dX5_deltaLength_1 : decode cX5_deltaLength 1 = .ok (.iload_n 1, 1) := by decide +kernel
theorem dX5_deltaLength_2 : decode cX5_deltaLength 2 = .ok (.invokevirtual 176, 3) := by decide +kernel
theorem dX5_deltaLength_5 : decode cX5_deltaLength 5 = .ok (.aload_n 0, 1) := by decide +kernel
theorem dX5_deltaLength_6 : decode cX5_deltaLength 6 = .ok (.getfield 38, 3) := by decide +kernel
theorem dX5_deltaLength_9 : decode cX5_deltaLength 9 = .ok (.iload_n 1, 1) := by decide +kernel
theorem dX5_deltaLength_10 : decode cX5_deltaLength 10 = .ok (.iload_n 2, 1) := by decide +kernel
theorem dX5_deltaLength_11 : decode cX5_deltaLength 11 = .ok (.invokevirtual 182, 3) := by decide +kernel
theorem dX5_deltaLength_14 : decode cX5_deltaLength 14 = .ok (.istore_n 3, 1) := by decide +kernel
theorem dX5_deltaLength_15 : decode cX5_deltaLength 15 = .ok (.iload_n 3, 1) := by decide +kernel
theorem dX5_deltaLength_16 : decode cX5_deltaLength 16 = .ok (.invokestatic 185, 3) := by decide +kernel
theorem dX5_deltaLength_19 : decode cX5_deltaLength 19 = .ok (.aload_n 0, 1) := by decide +kernel
theorem dX5_deltaLength_20 : decode cX5_deltaLength 20 = .ok (.getfield 38, 3) := by decide +kernel
theorem dX5_deltaLength_23 : decode cX5_deltaLength 23 = .ok (.iload_n 1, 1) := by decide +kernel
theorem dX5_deltaLength_24 : decode cX5_deltaLength 24 = .ok (.iload_n 3, 1) := by decide +kernel
theorem dX5_deltaLength_25 : decode cX5_deltaLength 25 = .ok (.invokevirtual 188, 3) := by decide +kernel
theorem dX5_deltaLength_28 : decode cX5_deltaLength 28 = .ok (.ireturn, 1) := by decide +kernel
set_option maxRecDepth 20000 in
theorem ggX5_deltaFrom_X5_requireStartable : GoodIn wsX5_deltaFrom wsX5_requireStartable := goodIn_ca (goodIn_ca (goodIn_r _ [6, 7, 8, 9, 10, 11, 5, 12, 13, 14, 15, 16, 17, 18, 19, 20, 21, 22, 23, 24, 25, 26, 27, 28, 29, 30, 31, 32, 33, 34, 35, 36, 37, 38, 39, 40, 41, 80, 81, 82, 83, 84, 85, 86, 87, 88, 89] (by decide +kernel) (by decide +kernel)) (goodIn_sub (fun _ h => List.mem_cons_of_mem _ (List.mem_append_left _ (List.mem_append_left _ (List.mem_append_right _ h)))) (by decide +kernel))) (goodIn_sub (fun _ h => List.mem_cons_of_mem _ (List.mem_append_left _ (List.mem_append_right _ h))) (by decide +kernel))
set_option maxRecDepth 20000 in
theorem gX5_deltaFrom_X5_requireStartable : GoodIn wsX5_deltaFrom (wsV RX5 176 RX5 yX5_requireStartable wsX5_requireStartable) := goodIn_app (goodIn_of _ (by decide +kernel)) ggX5_deltaFrom_X5_requireStartable
set_option maxRecDepth 20000 in
theorem ggX5_deltaFrom_X0_pieceStart : GoodIn wsX5_deltaFrom wsX0_pieceStart := goodIn_r _ [46, 47, 48, 49, 50, 51, 45, 52, 53, 54, 55, 56, 57, 58, 21, 22, 18, 23, 24, 25, 26, 27, 28, 29, 30, 59, 60, 61, 62, 63, 64, 65, 66, 67, 36, 37, 38, 68, 69, 70, 71, 72, 73, 90, 91, 92, 93, 86, 87, 88, 89] (by decide +kernel) (by decide +kernel)
set_option maxRecDepth 20000 in
theorem gX5_deltaFrom_X0_pieceStart : GoodIn wsX5_deltaFrom (wsV RX5 182 RX0 yX0_pieceStart wsX0_pieceStart) := goodIn_app (goodIn_of _ (by decide +kernel)) ggX5_deltaFrom_X0_pieceStart
set_option maxRecDepth 20000 in
theorem ggX5_deltaFrom_X5_requirePiece : GoodIn wsX5_deltaFrom wsX5_requirePiece := goodIn_ca (goodIn_r _ [76, 77, 78] (by decide +kernel) (by decide +kernel)) (goodIn_sub (fun _ h => List.mem_cons_of_mem _ (List.mem_append_right _ h)) (by decide +kernel))
set_option maxRecDepth 20000 in
theorem gX5_deltaFrom_X5_requirePiece : GoodIn wsX5_deltaFrom (va_wsS RX5 185 yX5_requirePiece wsX5_requirePiece) := goodIn_app (goodIn_of _ (by decide +kernel)) ggX5_deltaFrom_X5_requirePiece
set_option maxRecDepth 20000 in
theorem ggX5_deltaFrom_X0_runFrom : GoodIn wsX5_deltaFrom wsX0_runFrom := goodIn_r _ [56, 57, 58, 21, 22, 18, 23, 24, 25, 26, 27, 28, 29, 30, 59, 60, 61, 45, 62, 47, 48, 63, 64, 65, 66, 67, 36, 37, 38, 68, 69, 70, 71, 72, 73, 90, 91, 86, 87, 88, 89, 92, 93] (by decide +kernel) (by decide +kernel)
set_option maxRecDepth 20000 in
theorem gX5_deltaFrom_X0_runFrom : GoodIn wsX5_deltaFrom (wsV RX5 191 RX0 yX0_runFrom wsX0_runFrom) := goodIn_app (goodIn_of _ (by decide +kernel)) ggX5_deltaFrom_X0_runFrom
theorem dX5_deltaFrom_0 : decode cX5_deltaFrom 0 = .ok (.aload_n 0, 1) := by decide +kernel
theorem dX5_deltaFrom_1 : decode cX5_deltaFrom 1 = .ok (.iload_n 1, 1) := by decide +kernel
theorem dX5_deltaFrom_2 : decode cX5_deltaFrom 2 = .ok (.invokevirtual 176, 3) := by decide +kernel
theorem dX5_deltaFrom_5 : decode cX5_deltaFrom 5 = .ok (.aload_n 0, 1) := by decide +kernel
theorem dX5_deltaFrom_6 : decode cX5_deltaFrom 6 = .ok (.getfield 38, 3) := by decide +kernel
theorem dX5_deltaFrom_9 : decode cX5_deltaFrom 9 = .ok (.iload_n 1, 1) := by decide +kernel
theorem dX5_deltaFrom_10 : decode cX5_deltaFrom 10 = .ok (.iload_n 2, 1) := by decide +kernel
theorem dX5_deltaFrom_11 : decode cX5_deltaFrom 11 = .ok (.invokevirtual 182, 3) := by decide +kernel
theorem dX5_deltaFrom_14 : decode cX5_deltaFrom 14 = .ok (.istore_n 3, 1) := by decide +kernel
theorem dX5_deltaFrom_15 : decode cX5_deltaFrom 15 = .ok (.iload_n 3, 1) := by decide +kernel
theorem dX5_deltaFrom_16 : decode cX5_deltaFrom 16 = .ok (.invokestatic 185, 3) := by decide +kernel
theorem dX5_deltaFrom_19 : decode cX5_deltaFrom 19 = .ok (.aload_n 0, 1) := by decide +kernel
theorem dX5_deltaFrom_20 : decode cX5_deltaFrom 20 = .ok (.getfield 38, 3) := by decide +kernel
theorem dX5_deltaFrom_23 : decode cX5_deltaFrom 23 = .ok (.iload_n 1, 1) := by decide +kernel
theorem dX5_deltaFrom_24 : decode cX5_deltaFrom 24 = .ok (.iload_n 3, 1) := by decide +kernel
theorem dX5_deltaFrom_25 : decode cX5_deltaFrom 25 = .ok (.invokevirtual 191, 3) := by decide +kernel
theorem dX5_deltaFrom_28 : decode cX5_deltaFrom 28 = .ok (.ireturn, 1) := by decide +kernel
set_option maxRecDepth 20000 in
theorem ggX5_isStartable_X5_requireWithin : GoodIn wsX5_isStartable wsX5_requireWithin := goodIn_ca (goodIn_r _ [5, 6, 7] (by decide +kernel) (by decide +kernel)) (goodIn_sub (fun _ h => List.mem_cons_of_mem _ (List.mem_append_right _ h)) (by decide +kernel))
set_option maxRecDepth 20000 in
theorem gX5_isStartable_X5_requireWithin : GoodIn wsX5_isStartable (va_wsS RX5 67 yX5_requireWithin wsX5_requireWithin) := goodIn_app (goodIn_of _ (by decide +kernel)) ggX5_isStartable_X5_requireWithin
set_option maxRecDepth 20000 in
theorem ggX5_isStartable_X3_canStart : GoodIn wsX5_isStartable wsX3_canStart := goodIn_r _ [12, 13, 14, 15, 11, 16, 17, 18, 19, 20, 21, 22, 23, 24, 25, 26, 27, 28, 29, 30, 31, 32, 4, 33, 34, 41, 42, 43, 44] (by decide +kernel) (by decide +kernel)
set_option maxRecDepth 20000 in
theorem gX5_isStartable_X3_canStart : GoodIn wsX5_isStartable (wsV RX5 194 RX3 yX3_canStart wsX3_canStart) := goodIn_app (goodIn_of _ (by decide +kernel)) ggX5_isStartable_X3_canStart
theorem dX5_isStartable_0 : decode cX5_isStartable 0 = .ok (.iload_n 1, 1) := by decide +kernel
theorem dX5_isStartable_1 : decode cX5_isStartable 1 = .ok (.iconst 0, 1) := by decide +kernel
theorem dX5_isStartable_2 : decode cX5_isStartable 2 = .ok (.iconst 1, 1) := by decide +kernel
theorem dX5_isStartable_3 : decode cX5_isStartable 3 = .ok (.invokestatic 67, 3) := by decide +kernel
theorem dX5_isStartable_6 : decode cX5_isStartable 6 = .ok (.aload_n 0, 1) := by decide +kernel
theorem dX5_isStartable_7 : decode cX5_isStartable 7 = .ok (.getfield 10, 3) := by decide +kernel
theorem dX5_isStartable_10 : decode cX5_isStartable 10 = .ok (.iload_n 1, 1) := by decide +kernel
theorem dX5_isStartable_11 : decode cX5_isStartable 11 = .ok (.invokevirtual 194, 3) := by decide +kernel
theorem dX5_isStartable_14 : decode cX5_isStartable 14 = .ok (.ireturn, 1) := by decide +kernel
set_option maxRecDepth 20000 in
theorem ggX5_version_X5_requireWithin : GoodIn wsX5_version wsX5_requireWithin := goodIn_ca (goodIn_r _ [5, 6, 7] (by decide +kernel) (by decide +kernel)) (goodIn_sub (fun _ h => List.mem_cons_of_mem _ (List.mem_append_right _ h)) (by decide +kernel))
set_option maxRecDepth 20000 in
theorem gX5_version_X5_requireWithin : GoodIn wsX5_version (va_wsS RX5 67 yX5_requireWithin wsX5_requireWithin) := goodIn_app (goodIn_of _ (by decide +kernel)) ggX5_version_X5_requireWithin
set_option maxRecDepth 20000 in
theorem ggX5_version_X3_slotWord : GoodIn wsX5_version wsX3_slotWord := goodIn_r _ [12, 13, 14, 15, 16, 17, 18, 19, 26, 27, 28, 29] (by decide +kernel) (by decide +kernel)
set_option maxRecDepth 20000 in
theorem gX5_version_X3_slotWord : GoodIn wsX5_version (wsV RX5 93 RX3 yX3_slotWord wsX3_slotWord) := goodIn_app (goodIn_of _ (by decide +kernel)) ggX5_version_X3_slotWord
theorem dX5_version_0 : decode cX5_version 0 = .ok (.iload_n 1, 1) := by decide +kernel
theorem dX5_version_1 : decode cX5_version 1 = .ok (.iconst 0, 1) := by decide +kernel
theorem dX5_version_2 : decode cX5_version 2 = .ok (.iconst 1, 1) := by decide +kernel
theorem dX5_version_3 : decode cX5_version 3 = .ok (.invokestatic 67, 3) := by decide +kernel
theorem dX5_version_6 : decode cX5_version 6 = .ok (.aload_n 0, 1) := by decide +kernel
theorem dX5_version_7 : decode cX5_version 7 = .ok (.getfield 10, 3) := by decide +kernel
theorem dX5_version_10 : decode cX5_version 10 = .ok (.iload_n 1, 1) := by decide +kernel
theorem dX5_version_11 : decode cX5_version 11 = .ok (.iconst 1, 1) := by decide +kernel
theorem dX5_version_12 : decode cX5_version 12 = .ok (.invokevirtual 93, 3) := by decide +kernel
theorem dX5_version_15 : decode cX5_version 15 = .ok (.ireturn, 1) := by decide +kernel
set_option maxRecDepth 20000 in
theorem ggX5_imageByte_X5_requireWithin : GoodIn wsX5_imageByte wsX5_requireWithin := goodIn_ca (goodIn_r _ [7, 8, 9] (by decide +kernel) (by decide +kernel)) (goodIn_sub (fun _ h => List.mem_cons_of_mem _ (List.mem_append_right _ h)) (by decide +kernel))
set_option maxRecDepth 20000 in
theorem gX5_imageByte_X5_requireWithin : GoodIn wsX5_imageByte (va_wsS RX5 67 yX5_requireWithin wsX5_requireWithin) := goodIn_app (goodIn_of _ (by decide +kernel)) ggX5_imageByte_X5_requireWithin
set_option maxRecDepth 20000 in
theorem ggX5_imageByte_X3_imageWord : GoodIn wsX5_imageByte wsX3_imageWord := goodIn_r _ [14, 15, 16, 17, 18, 19, 20, 21, 28, 29, 30, 31] (by decide +kernel) (by decide +kernel)
set_option maxRecDepth 20000 in
theorem gX5_imageByte_X3_imageWord : GoodIn wsX5_imageByte (wsV RX5 129 RX3 yX3_imageWord wsX3_imageWord) := goodIn_app (goodIn_of _ (by decide +kernel)) ggX5_imageByte_X3_imageWord
theorem dX5_imageByte_0 : decode cX5_imageByte 0 = .ok (.iload_n 1, 1) := by decide +kernel
theorem dX5_imageByte_1 : decode cX5_imageByte 1 = .ok (.iconst 0, 1) := by decide +kernel
theorem dX5_imageByte_2 : decode cX5_imageByte 2 = .ok (.iconst 1, 1) := by decide +kernel
theorem dX5_imageByte_3 : decode cX5_imageByte 3 = .ok (.invokestatic 67, 3) := by decide +kernel
theorem dX5_imageByte_6 : decode cX5_imageByte 6 = .ok (.iload_n 2, 1) := by decide +kernel
theorem dX5_imageByte_7 : decode cX5_imageByte 7 = .ok (.ifCond .lt 9, 3) := by decide +kernel
theorem dX5_imageByte_10 : decode cX5_imageByte 10 = .ok (.iload_n 2, 1) := by decide +kernel
theorem dX5_imageByte_11 : decode cX5_imageByte 11 = .ok (.bipush 24, 2) := by decide +kernel
theorem dX5_imageByte_13 : decode cX5_imageByte 13 = .ok (.if_icmp .lt 13, 3) := by decide +kernel
theorem dX5_imageByte_16 : decode cX5_imageByte 16 = .ok (.new 197, 3) := by decide +kernel
theorem dX5_imageByte_19 : decode cX5_imageByte 19 = .ok (.dup, 1) := by decide +kernel
theorem dX5_imageByte_20 : decode cX5_imageByte 20 = .ok (.ldc 199, 2) := by decide +kernel
theorem dX5_imageByte_22 : decode cX5_imageByte 22 = .ok (.invokespecial 201, 3) := by decide +kernel
theorem dX5_imageByte_25 : decode cX5_imageByte 25 = .ok (.athrow, 1) := by decide +kernel
theorem dX5_imageByte_26 : decode cX5_imageByte 26 = .ok (.aload_n 0, 1) := by decide +kernel
theorem dX5_imageByte_27 : decode cX5_imageByte 27 = .ok (.getfield 10, 3) := by decide +kernel

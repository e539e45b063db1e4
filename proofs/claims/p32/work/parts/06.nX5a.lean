set_option maxRecDepth 20000 in
theorem ggX5_init_X3_init : GoodIn wsX5_init wsX3_init := goodIn_r _ [24, 25, 2, 3, 26, 27, 28, 29, 30, 31, 32, 33, 34, 35, 36, 37, 38, 39, 40, 41, 42, 43, 6, 44, 45, 46, 47, 48, 49, 50, 51, 52, 53, 54, 55, 56, 57, 58, 59, 97, 98, 99, 80] (by decide +kernel) (by decide +kernel)
set_option maxRecDepth 20000 in
theorem gX5_init_X3_init : GoodIn wsX5_init (wsX3_init) := ggX5_init_X3_init
set_option maxRecDepth 20000 in
theorem ggX5_init_X4_init : GoodIn wsX5_init wsX4_init := goodIn_r _ [61, 62, 2, 3, 63, 64, 65, 66, 67, 68, 87, 88, 89, 90, 91, 92] (by decide +kernel) (by decide +kernel)
set_option maxRecDepth 20000 in
theorem gX5_init_X4_init_n21 : GoodIn wsX5_init (wsX4_init) := ggX5_init_X4_init
set_option maxRecDepth 20000 in
theorem ggX5_init_X1_init : GoodIn wsX5_init wsX1_init := goodIn_r _ [70, 71, 2, 3, 72, 33, 73, 93, 94] (by decide +kernel) (by decide +kernel)
set_option maxRecDepth 20000 in
theorem gX5_init_X1_init_n28 : GoodIn wsX5_init (wsX1_init) := ggX5_init_X1_init
set_option maxRecDepth 20000 in
theorem ggX5_init_X0_init : GoodIn wsX5_init wsX0_init := goodIn_r _ [76, 77, 2, 3, 78, 79, 95, 96] (by decide +kernel) (by decide +kernel)
set_option maxRecDepth 20000 in
theorem gX5_init_X0_init : GoodIn wsX5_init (wsX0_init) := ggX5_init_X0_init
theorem dX5_init_0 : decode cX5_init 0 = .ok (.aload_n 0, 1) := by decide +kernel
theorem dX5_init_1 : decode cX5_init 1 = .ok (.invokespecial 1, 3) := by decide +kernel
theorem dX5_init_4 : decode cX5_init 4 = .ok (.aload_n 0, 1) := by decide +kernel
theorem dX5_init_5 : decode cX5_init 5 = .ok (.new 7, 3) := by decide +kernel
theorem dX5_init_8 : decode cX5_init 8 = .ok (.dup, 1) := by decide +kernel
theorem dX5_init_9 : decode cX5_init 9 = .ok (.invokespecial 9, 3) := by decide +kernel
theorem dX5_init_12 : decode cX5_init 12 = .ok (.putfield 10, 3) := by decide +kernel
theorem dX5_init_15 : decode cX5_init 15 = .ok (.aload_n 0, 1) := by decide +kernel
theorem dX5_init_16 : decode cX5_init 16 = .ok (.new 7, 3) := by decide +kernel
theorem dX5_init_19 : decode cX5_init 19 = .ok (.dup, 1) := by decide +kernel
theorem dX5_init_20 : decode cX5_init 20 = .ok (.invokespecial 9, 3) := by decide +kernel
theorem dX5_init_23 : decode cX5_init 23 = .ok (.putfield 16, 3) := by decide +kernel
theorem dX5_init_26 : decode cX5_init 26 = .ok (.aload_n 0, 1) := by decide +kernel
theorem dX5_init_27 : decode cX5_init 27 = .ok (.new 19, 3) := by decide +kernel
theorem dX5_init_30 : decode cX5_init 30 = .ok (.dup, 1) := by decide +kernel
theorem dX5_init_31 : decode cX5_init 31 = .ok (.invokespecial 21, 3) := by decide +kernel
theorem dX5_init_34 : decode cX5_init 34 = .ok (.putfield 22, 3) := by decide +kernel
theorem dX5_init_37 : decode cX5_init 37 = .ok (.aload_n 0, 1) := by decide +kernel
theorem dX5_init_38 : decode cX5_init 38 = .ok (.new 26, 3) := by decide +kernel
theorem dX5_init_41 : decode cX5_init 41 = .ok (.dup, 1) := by decide +kernel
theorem dX5_init_42 : decode cX5_init 42 = .ok (.invokespecial 28, 3) := by decide +kernel
theorem dX5_init_45 : decode cX5_init 45 = .ok (.putfield 29, 3) := by decide +kernel
theorem dX5_init_48 : decode cX5_init 48 = .ok (.aload_n 0, 1) := by decide +kernel
theorem dX5_init_49 : decode cX5_init 49 = .ok (.new 33, 3) := by decide +kernel
theorem dX5_init_52 : decode cX5_init 52 = .ok (.dup, 1) := by decide +kernel
theorem dX5_init_53 : decode cX5_init 53 = .ok (.aload_n 0, 1) := by decide +kernel
theorem dX5_init_54 : decode cX5_init 54 = .ok (.getfield 29, 3) := by decide +kernel
theorem dX5_init_57 : decode cX5_init 57 = .ok (.aload_n 0, 1) := by decide +kernel
theorem dX5_init_58 : decode cX5_init 58 = .ok (.getfield 10, 3) := by decide +kernel
theorem dX5_init_61 : decode cX5_init 61 = .ok (.invokespecial 35, 3) := by decide +kernel
theorem dX5_init_64 : decode cX5_init 64 = .ok (.putfield 38, 3) := by decide +kernel
theorem dX5_init_67 : decode cX5_init 67 = .ok (.aload_n 0, 1) := by decide +kernel
theorem dX5_init_68 : decode cX5_init 68 = .ok (.iconst (-1), 1) := by decide +kernel
theorem dX5_init_69 : decode cX5_init 69 = .ok (.putfield 42, 3) := by decide +kernel
theorem dX5_init_72 : decode cX5_init 72 = .ok (.return_, 1) := by decide +kernel
set_option maxRecDepth 20000 in
theorem ggX5_switchOn_X5_isOn : GoodIn wsX5_switchOn wsX5_isOn := goodIn_r _ [9, 4, 110, 111, 112, 113, 114, 115] (by decide +kernel) (by decide +kernel)
set_option maxRecDepth 20000 in
theorem gX5_switchOn_X5_isOn : GoodIn wsX5_switchOn (wsV RX5 46 RX5 yX5_isOn wsX5_isOn) := goodIn_app (goodIn_of _ (by decide +kernel)) ggX5_switchOn_X5_isOn
set_option maxRecDepth 20000 in
theorem ggX5_switchOn_X3_start : GoodIn wsX5_switchOn wsX3_start := goodIn_r _ [14, 15, 16, 17, 13, 18, 19, 20, 21, 22, 23, 24, 25, 26, 27, 28, 29, 30, 31, 32, 33, 34, 35, 36, 37, 38, 39, 40, 41, 42, 43, 44, 45, 46, 47, 48, 49, 50, 51, 52, 53, 54, 55, 56, 57, 58, 59, 60, 61, 62, 63, 64, 65, 66, 8, 67, 68, 69, 70, 71, 72, 73, 74, 75, 76, 77, 78, 79, 80, 81, 82, 83, 84, 85, 86, 87, 88, 89, 90, 91, 92, 93, 94, 95, 96, 97, 98, 99, 100, 101, 102, 103, 104, 105, 106, 107, 108, 109, 116, 117, 118, 119] (by decide +kernel) (by decide +kernel)
set_option maxRecDepth 20000 in
theorem gX5_switchOn_X3_start : GoodIn wsX5_switchOn (wsV RX5 57 RX3 yX3_start wsX3_start) := goodIn_app (goodIn_of _ (by decide +kernel)) ggX5_switchOn_X3_start
theorem dX5_switchOn_0 : decode cX5_switchOn 0 = .ok (.aload_n 0, 1) := by decide +kernel
theorem dX5_switchOn_1 : decode cX5_switchOn 1 = .ok (.invokevirtual 46, 3) := by decide +kernel
theorem dX5_switchOn_4 : decode cX5_switchOn 4 = .ok (.ifCond .eq 13, 3) := by decide +kernel
theorem dX5_switchOn_7 : decode cX5_switchOn 7 = .ok (.new 50, 3) := by decide +kernel
theorem dX5_switchOn_10 : decode cX5_switchOn 10 = .ok (.dup, 1) := by decide +kernel
theorem dX5_switchOn_11 : decode cX5_switchOn 11 = .ok (.ldc 52, 2) := by decide +kernel
theorem dX5_switchOn_13 : decode cX5_switchOn 13 = .ok (.invokespecial 54, 3) := by decide +kernel
theorem dX5_switchOn_16 : decode cX5_switchOn 16 = .ok (.athrow, 1) := by decide +kernel
theorem dX5_switchOn_17 : decode cX5_switchOn 17 = .ok (.aload_n 0, 1) := by decide +kernel
theorem dX5_switchOn_18 : decode cX5_switchOn 18 = .ok (.aload_n 0, 1) := by decide +kernel
theorem dX5_switchOn_19 : decode cX5_switchOn 19 = .ok (.getfield 10, 3) := by decide +kernel
theorem dX5_switchOn_22 : decode cX5_switchOn 22 = .ok (.invokevirtual 57, 3) := by decide +kernel
theorem dX5_switchOn_25 : decode cX5_switchOn 25 = .ok (.putfield 42, 3) := by decide +kernel
theorem dX5_switchOn_28 : decode cX5_switchOn 28 = .ok (.aload_n 0, 1) := by decide +kernel
theorem dX5_switchOn_29 : decode cX5_switchOn 29 = .ok (.getfield 42, 3) := by decide +kernel
theorem dX5_switchOn_32 : decode cX5_switchOn 32 = .ok (.ireturn, 1) := by decide +kernel
set_option maxRecDepth 20000 in
theorem ggX5_switchOff_X5_requireOn : GoodIn wsX5_switchOff wsX5_requireOn := goodIn_ca (goodIn_r _ [6, 7, 8, 9, 10, 11, 5, 12, 1, 24, 25, 26, 27, 28, 29] (by decide +kernel) (by decide +kernel)) (goodIn_sub (fun _ h => List.mem_cons_of_mem _ (List.mem_append_right _ h)) (by decide +kernel))
set_option maxRecDepth 20000 in
theorem gX5_switchOff_X5_requireOn : GoodIn wsX5_switchOff (wsV RX5 61 RX5 yX5_requireOn wsX5_requireOn) := goodIn_app (goodIn_of _ (by decide +kernel)) ggX5_switchOff_X5_requireOn
set_option maxRecDepth 20000 in
theorem ggX5_switchOff_X5_losePower : GoodIn wsX5_switchOff wsX5_losePower := goodIn_r _ [16, 1, 17, 18, 19, 20, 21, 22, 23, 24, 25, 26, 27, 28, 29, 30, 31, 32, 33, 34, 35] (by decide +kernel) (by decide +kernel)
set_option maxRecDepth 20000 in
theorem gX5_switchOff_X5_losePower : GoodIn wsX5_switchOff (wsV RX5 64 RX5 yX5_losePower wsX5_losePower) := goodIn_app (goodIn_of _ (by decide +kernel)) ggX5_switchOff_X5_losePower
theorem dX5_switchOff_0 : decode cX5_switchOff 0 = .ok (.aload_n 0, 1) := by decide +kernel
theorem dX5_switchOff_1 : decode cX5_switchOff 1 = .ok (.invokevirtual 61, 3) := by decide +kernel
theorem dX5_switchOff_4 : decode cX5_switchOff 4 = .ok (.aload_n 0, 1) := by decide +kernel
theorem dX5_switchOff_5 : decode cX5_switchOff 5 = .ok (.getfield 42, 3) := by decide +kernel
theorem dX5_switchOff_8 : decode cX5_switchOff 8 = .ok (.istore_n 1, 1) := by decide +kernel
theorem dX5_switchOff_9 : decode cX5_switchOff 9 = .ok (.aload_n 0, 1) := by decide +kernel
theorem dX5_switchOff_10 : decode cX5_switchOff 10 = .ok (.invokevirtual 64, 3) := by decide +kernel
theorem dX5_switchOff_13 : decode cX5_switchOff 13 = .ok (.iload_n 1, 1) := by decide +kernel
theorem dX5_switchOff_14 : decode cX5_switchOff 14 = .ok (.ireturn, 1) := by decide +kernel
set_option maxRecDepth 20000 in
theorem ggX5_failAfter_X5_requireWithin : GoodIn wsX5_failAfter wsX5_requireWithin := goodIn_ca (goodIn_r _ [6, 7, 8] (by decide +kernel) (by decide +kernel)) (goodIn_sub (fun _ h => List.mem_cons_of_mem _ (List.mem_append_right _ h)) (by decide +kernel))
set_option maxRecDepth 20000 in
theorem gX5_failAfter_X5_requireWithin : GoodIn wsX5_failAfter (va_wsS RX5 67 yX5_requireWithin wsX5_requireWithin) := goodIn_app (goodIn_of _ (by decide +kernel)) ggX5_failAfter_X5_requireWithin
set_option maxRecDepth 20000 in
theorem ggX5_failAfter_X2_chooseFailure : GoodIn wsX5_failAfter wsX2_chooseFailure := goodIn_r _ [13, 14, 22, 23, 24] (by decide +kernel) (by decide +kernel)
set_option maxRecDepth 20000 in
theorem gX5_failAfter_X2_chooseFailure : GoodIn wsX5_failAfter (wsV RX5 75 RX2 yX2_chooseFailure wsX2_chooseFailure) := goodIn_app (goodIn_of _ (by decide +kernel)) ggX5_failAfter_X2_chooseFailure
theorem dX5_failAfter_0 : decode cX5_failAfter 0 = .ok (.iload_n 1, 1) := by decide +kernel
theorem dX5_failAfter_1 : decode cX5_failAfter 1 = .ok (.iconst (-1), 1) := by decide +kernel
theorem dX5_failAfter_2 : decode cX5_failAfter 2 = .ok (.sipush 1000, 3) := by decide +kernel
theorem dX5_failAfter_5 : decode cX5_failAfter 5 = .ok (.invokestatic 67, 3) := by decide +kernel
theorem dX5_failAfter_8 : decode cX5_failAfter 8 = .ok (.aload_n 0, 1) := by decide +kernel
theorem dX5_failAfter_9 : decode cX5_failAfter 9 = .ok (.getfield 10, 3) := by decide +kernel
theorem dX5_failAfter_12 : decode cX5_failAfter 12 = .ok (.getfield 71, 3) := by decide +kernel
theorem dX5_failAfter_15 : decode cX5_failAfter 15 = .ok (.iload_n 1, 1) := by decide +kernel
theorem dX5_failAfter_16 : decode cX5_failAfter 16 = .ok (.invokevirtual 75, 3) := by decide +kernel
theorem dX5_failAfter_19 : decode cX5_failAfter 19 = .ok (.return_, 1) := by decide +kernel
theorem dX5_isOn_0 : decode cX5_isOn 0 = .ok (.aload_n 0, 1) := by decide +kernel
theorem dX5_isOn_1 : decode cX5_isOn 1 = .ok (.getfield 42, 3) := by decide +kernel
theorem dX5_isOn_4 : decode cX5_isOn 4 = .ok (.iconst (-1), 1) := by decide +kernel
theorem dX5_isOn_5 : decode cX5_isOn 5 = .ok (.if_icmp .eq 7, 3) := by decide +kernel
theorem dX5_isOn_8 : decode cX5_isOn 8 = .ok (.iconst 1, 1) := by decide +kernel
theorem dX5_isOn_9 : decode cX5_isOn 9 = .ok (.goto 4, 3) := by decide +kernel
theorem dX5_isOn_12 : decode cX5_isOn 12 = .ok (.iconst 0, 1) := by decide +kernel
theorem dX5_isOn_13 : decode cX5_isOn 13 = .ok (.ireturn, 1) := by decide +kernel
theorem dX5_running_0 : decode cX5_running 0 = .ok (.aload_n 0, 1) := by decide +kernel
theorem dX5_running_1 : decode cX5_running 1 = .ok (.getfield 42, 3) := by decide +kernel
theorem dX5_running_4 : decode cX5_running 4 = .ok (.ireturn, 1) := by decide +kernel
set_option maxRecDepth 20000 in
theorem ggX5_isOnTrial_X5_isOn : GoodIn wsX5_isOnTrial wsX5_isOn := goodIn_r _ [7, 1, 38, 39, 40, 41, 42, 43] (by decide +kernel) (by decide +kernel)
set_option maxRecDepth 20000 in
theorem gX5_isOnTrial_X5_isOn : GoodIn wsX5_isOnTrial (wsV RX5 46 RX5 yX5_isOn wsX5_isOn) := goodIn_app (goodIn_of _ (by decide +kernel)) ggX5_isOnTrial_X5_isOn
set_option maxRecDepth 20000 in
theorem ggX5_isOnTrial_X3_confirmedSlot : GoodIn wsX5_isOnTrial wsX3_confirmedSlot := goodIn_r _ [12, 13, 14, 15, 11, 16, 17, 18, 19, 20, 21, 22, 23, 24, 25, 26, 27, 28, 29, 30, 31, 32, 33, 34, 35, 36, 37, 44, 45, 46, 47] (by decide +kernel) (by decide +kernel)
set_option maxRecDepth 20000 in
theorem gX5_isOnTrial_X3_confirmedSlot : GoodIn wsX5_isOnTrial (wsV RX5 81 RX3 yX3_confirmedSlot wsX3_confirmedSlot) := goodIn_app (goodIn_of _ (by decide +kernel)) ggX5_isOnTrial_X3_confirmedSlot
theorem dX5_isOnTrial_0 : decode cX5_isOnTrial 0 = .ok (.aload_n 0, 1) := by decide +kernel
theorem dX5_isOnTrial_1 : decode cX5_isOnTrial 1 = .ok (.invokevirtual 46, 3) := by decide +kernel
theorem dX5_isOnTrial_4 : decode cX5_isOnTrial 4 = .ok (.ifCond .eq 21, 3) := by decide +kernel
theorem dX5_isOnTrial_7 : decode cX5_isOnTrial 7 = .ok (.aload_n 0, 1) := by decide +kernel
theorem dX5_isOnTrial_8 : decode cX5_isOnTrial 8 = .ok (.getfield 42, 3) := by decide +kernel
theorem dX5_isOnTrial_11 : decode cX5_isOnTrial 11 = .ok (.aload_n 0, 1) := by decide +kernel
theorem dX5_isOnTrial_12 : decode cX5_isOnTrial 12 = .ok (.getfield 10, 3) := by decide +kernel
theorem dX5_isOnTrial_15 : decode cX5_isOnTrial 15 = .ok (.invokevirtual 81, 3) := by decide +kernel
theorem dX5_isOnTrial_18 : decode cX5_isOnTrial 18 = .ok (.if_icmp .eq 7, 3) := by decide +kernel
theorem dX5_isOnTrial_21 : decode cX5_isOnTrial 21 = .ok (.iconst 1, 1) := by decide +kernel
theorem dX5_isOnTrial_22 : decode cX5_isOnTrial 22 = .ok (.goto 4, 3) := by decide +kernel
theorem dX5_isOnTrial_25 : decode cX5_isOnTrial 25 = .ok (.iconst 0, 1) := by decide +kernel
theorem dX5_isOnTrial_26 : decode cX5_isOnTrial 26 = .ok (.ireturn, 1) := by decide +kernel
set_option maxRecDepth 20000 in
theorem ggX5_writes_X2_begunWrites : GoodIn wsX5_writes wsX2_begunWrites := goodIn_r _ [7, 8, 16, 17, 18] (by decide +kernel) (by decide +kernel)
set_option maxRecDepth 20000 in
theorem gX5_writes_X2_begunWrites : GoodIn wsX5_writes (wsV RX5 84 RX2 yX2_begunWrites wsX2_begunWrites) := goodIn_app (goodIn_of _ (by decide +kernel)) ggX5_writes_X2_begunWrites
theorem dX5_writes_0 : decode cX5_writes 0 = .ok (.aload_n 0, 1) := by decide +kernel
theorem dX5_writes_1 : decode cX5_writes 1 = .ok (.getfield 10, 3) := by decide +kernel
theorem dX5_writes_4 : decode cX5_writes 4 = .ok (.getfield 71, 3) := by decide +kernel
theorem dX5_writes_7 : decode cX5_writes 7 = .ok (.invokevirtual 84, 3) := by decide +kernel
theorem dX5_writes_10 : decode cX5_writes 10 = .ok (.ireturn, 1) := by decide +kernel
set_option maxRecDepth 20000 in
theorem ggX5_offer_X5_requireWithin : GoodIn wsX5_offer wsX5_requireWithin := goodIn_ca (goodIn_r _ [10, 11, 12] (by decide +kernel) (by decide +kernel)) (goodIn_sub (fun _ h => List.mem_cons_of_mem _ (List.mem_append_right _ h)) (by decide +kernel))
set_option maxRecDepth 20000 in
theorem gX5_offer_X5_requireWithin : GoodIn wsX5_offer (va_wsS RX5 67 yX5_requireWithin wsX5_requireWithin) := goodIn_app (goodIn_of _ (by decide +kernel)) ggX5_offer_X5_requireWithin
set_option maxRecDepth 20000 in
theorem ggX5_offer_X5_requireOn : GoodIn wsX5_offer wsX5_requireOn := goodIn_ca (goodIn_r _ [16, 1, 2, 17, 18, 19, 9, 20, 5, 101, 102, 103, 104, 105, 106] (by decide +kernel) (by decide +kernel)) (goodIn_sub (fun _ h => List.mem_cons_of_mem _ (List.mem_append_left _ (List.mem_append_right _ h))) (by decide +kernel))
set_option maxRecDepth 20000 in
theorem gX5_offer_X5_requireOn : GoodIn wsX5_offer (wsV RX5 61 RX5 yX5_requireOn wsX5_requireOn) := goodIn_app (goodIn_of _ (by decide +kernel)) ggX5_offer_X5_requireOn
set_option maxRecDepth 20000 in
theorem ggX5_offer_X3_isTrialDue : GoodIn wsX5_offer wsX3_isTrialDue := goodIn_r _ [25, 26, 27, 28, 24, 29, 30, 31, 32, 33, 34, 35, 36, 37, 38, 39, 40, 41, 42, 43, 44, 45, 46, 47, 48, 49, 50, 107, 108, 109, 110] (by decide +kernel) (by decide +kernel)
set_option maxRecDepth 20000 in
theorem gX5_offer_X3_isTrialDue : GoodIn wsX5_offer (wsV RX5 88 RX3 yX3_isTrialDue wsX3_isTrialDue) := goodIn_app (goodIn_of _ (by decide +kernel)) ggX5_offer_X3_isTrialDue
set_option maxRecDepth 20000 in
theorem ggX5_offer_X3_slotWord : GoodIn wsX5_offer wsX3_slotWord := goodIn_r _ [54, 38, 39, 40, 41, 42, 43, 44, 107, 108, 109, 110] (by decide +kernel) (by decide +kernel)
set_option maxRecDepth 20000 in
theorem gX5_offer_X3_slotWord : GoodIn wsX5_offer (wsV RX5 93 RX3 yX3_slotWord wsX3_slotWord) := goodIn_app (goodIn_of _ (by decide +kernel)) ggX5_offer_X3_slotWord
set_option maxRecDepth 20000 in
theorem ggX5_offer_X3_recordCounter : GoodIn wsX5_offer wsX3_recordCounter := goodIn_r _ [58, 26, 27, 28, 24, 29, 30, 31, 32, 33, 34, 35, 36, 37, 38, 39, 40, 41, 42, 43, 44, 45, 46, 47, 107, 108, 109, 110] (by decide +kernel) (by decide +kernel)
set_option maxRecDepth 20000 in
theorem gX5_offer_X3_recordCounter : GoodIn wsX5_offer (wsV RX5 97 RX3 yX3_recordCounter wsX3_recordCounter) := goodIn_app (goodIn_of _ (by decide +kernel)) ggX5_offer_X3_recordCounter
set_option maxRecDepth 20000 in
theorem ggX5_offer_X4_begin : GoodIn wsX5_offer wsX4_begin := goodIn_r _ [63, 64, 65, 66, 67, 68, 69, 111, 112, 113, 114, 115, 116] (by decide +kernel) (by decide +kernel)
set_option maxRecDepth 20000 in
theorem gX5_offer_X4_begin : GoodIn wsX5_offer (wsV RX5 102 RX4 yX4_begin wsX4_begin) := goodIn_app (goodIn_of _ (by decide +kernel)) ggX5_offer_X4_begin
set_option maxRecDepth 20000 in
theorem ggX5_offer_X5_idleSlot : GoodIn wsX5_offer wsX5_idleSlot := goodIn_r _ [73, 5, 101, 102, 103, 104, 105, 106] (by decide +kernel) (by decide +kernel)
set_option maxRecDepth 20000 in
theorem gX5_offer_X5_idleSlot : GoodIn wsX5_offer (wsV RX5 106 RX5 yX5_idleSlot wsX5_idleSlot) := goodIn_app (goodIn_of _ (by decide +kernel)) ggX5_offer_X5_idleSlot
set_option maxRecDepth 20000 in
theorem ggX5_offer_X3_writeSlotWord : GoodIn wsX5_offer wsX3_writeSlotWord := goodIn_r _ [77, 38, 78, 79, 80, 42, 81, 82, 83, 84, 40, 41, 43, 44, 85, 86, 87, 88, 107, 108, 109, 110] (by decide +kernel) (by decide +kernel)
set_option maxRecDepth 20000 in
theorem gX5_offer_X3_writeSlotWord : GoodIn wsX5_offer (wsV RX5 109 RX3 yX3_writeSlotWord wsX3_writeSlotWord) := goodIn_app (goodIn_of _ (by decide +kernel)) ggX5_offer_X3_writeSlotWord
set_option maxRecDepth 20000 in
theorem ggX5_offer_X5_stayOn : GoodIn wsX5_offer wsX5_stayOn := goodIn_r _ [92, 93, 94, 95, 9, 96, 5, 6, 97, 98, 99, 62, 100, 69, 101, 102, 103, 104, 105, 106, 111, 112, 113, 114, 115, 116] (by decide +kernel) (by decide +kernel)
set_option maxRecDepth 20000 in
theorem gX5_offer_X5_stayOn : GoodIn wsX5_offer (wsV RX5 113 RX5 yX5_stayOn wsX5_stayOn) := goodIn_app (goodIn_of _ (by decide +kernel)) ggX5_offer_X5_stayOn
theorem dX5_offer_0 : decode cX5_offer 0 = .ok (.iload_n 1, 1) := by decide +kernel
theorem dX5_offer_1 : decode cX5_offer 1 = .ok (.iconst 1, 1) := by decide +kernel
theorem dX5_offer_2 : decode cX5_offer 2 = .ok (.sipush 9999, 3) := by decide +kernel
theorem dX5_offer_5 : decode cX5_offer 5 = .ok (.invokestatic 67, 3) := by decide +kernel
theorem dX5_offer_8 : decode cX5_offer 8 = .ok (.iload_n 2, 1) := by decide +kernel
theorem dX5_offer_9 : decode cX5_offer 9 = .ok (.iconst 1, 1) := by decide +kernel
theorem dX5_offer_10 : decode cX5_offer 10 = .ok (.bipush 24, 2) := by decide +kernel
theorem dX5_offer_12 : decode cX5_offer 12 = .ok (.invokestatic 67, 3) := by decide +kernel
theorem dX5_offer_15 : decode cX5_offer 15 = .ok (.iload_n 3, 1) := by decide +kernel
theorem dX5_offer_16 : decode cX5_offer 16 = .ok (.iconst 0, 1) := by decide +kernel
theorem dX5_offer_17 : decode cX5_offer 17 = .ok (.ldc 87, 2) := by decide +kernel
theorem dX5_offer_19 : decode cX5_offer 19 = .ok (.invokestatic 67, 3) := by decide +kernel
theorem dX5_offer_22 : decode cX5_offer 22 = .ok (.iload 4, 2) := by decide +kernel
theorem dX5_offer_24 : decode cX5_offer 24 = .ok (.iconst 0, 1) := by decide +kernel
theorem dX5_offer_25 : decode cX5_offer 25 = .ok (.sipush 9999, 3) := by decide +kernel
theorem dX5_offer_28 : decode cX5_offer 28 = .ok (.invokestatic 67, 3) := by decide +kernel
theorem dX5_offer_31 : decode cX5_offer 31 = .ok (.aload_n 0, 1) := by decide +kernel
theorem dX5_offer_32 : decode cX5_offer 32 = .ok (.invokevirtual 61, 3) := by decide +kernel
theorem dX5_offer_35 : decode cX5_offer 35 = .ok (.aload_n 0, 1) := by decide +kernel
theorem dX5_offer_36 : decode cX5_offer 36 = .ok (.getfield 10, 3) := by decide +kernel
theorem dX5_offer_39 : decode cX5_offer 39 = .ok (.invokevirtual 88, 3) := by decide +kernel
theorem dX5_offer_42 : decode cX5_offer 42 = .ok (.ifCond .eq 13, 3) := by decide +kernel
theorem dX5_offer_45 : decode cX5_offer 45 = .ok (.new 50, 3) := by decide +kernel
theorem dX5_offer_48 : decode cX5_offer 48 = .ok (.dup, 1) := by decide +kernel
theorem dX5_offer_49 : decode cX5_offer 49 = .ok (.ldc 91, 2) := by decide +kernel
theorem dX5_offer_51 : decode cX5_offer 51 = .ok (.invokespecial 54, 3) := by decide +kernel
theorem dX5_offer_54 : decode cX5_offer 54 = .ok (.athrow, 1) := by decide +kernel
theorem dX5_offer_55 : decode cX5_offer 55 = .ok (.iload_n 1, 1) := by decide +kernel
theorem dX5_offer_56 : decode cX5_offer 56 = .ok (.aload_n 0, 1) := by decide +kernel
theorem dX5_offer_57 : decode cX5_offer 57 = .ok (.getfield 10, 3) := by decide +kernel
theorem dX5_offer_60 : decode cX5_offer 60 = .ok (.aload_n 0, 1) := by decide +kernel
theorem dX5_offer_61 : decode cX5_offer 61 = .ok (.getfield 42, 3) := by decide +kernel
theorem dX5_offer_64 : decode cX5_offer 64 = .ok (.iconst 1, 1) := by decide +kernel
theorem dX5_offer_65 : decode cX5_offer 65 = .ok (.invokevirtual 93, 3) := by decide +kernel
theorem dX5_offer_68 : decode cX5_offer 68 = .ok (.if_icmp .le 15, 3) := by decide +kernel
theorem dX5_offer_71 : decode cX5_offer 71 = .ok (.iload 4, 2) := by decide +kernel
theorem dX5_offer_73 : decode cX5_offer 73 = .ok (.aload_n 0, 1) := by decide +kernel
theorem dX5_offer_74 : decode cX5_offer 74 = .ok (.getfield 10, 3) := by decide +kernel
theorem dX5_offer_77 : decode cX5_offer 77 = .ok (.invokevirtual 97, 3) := by decide +kernel
theorem dX5_offer_80 : decode cX5_offer 80 = .ok (.if_icmp .ge 13, 3) := by decide +kernel
theorem dX5_offer_83 : decode cX5_offer 83 = .ok (.new 50, 3) := by decide +kernel
theorem dX5_offer_86 : decode cX5_offer 86 = .ok (.dup, 1) := by decide +kernel
theorem dX5_offer_87 : decode cX5_offer 87 = .ok (.ldc 100, 2) := by decide +kernel
theorem dX5_offer_89 : decode cX5_offer 89 = .ok (.invokespecial 54, 3) := by decide +kernel
theorem dX5_offer_92 : decode cX5_offer 92 = .ok (.athrow, 1) := by decide +kernel
theorem dX5_offer_93 : decode cX5_offer 93 = .ok (.aload_n 0, 1) := by decide +kernel
theorem dX5_offer_94 : decode cX5_offer 94 = .ok (.getfield 22, 3) := by decide +kernel
theorem dX5_offer_97 : decode cX5_offer 97 = .ok (.iload_n 1, 1) := by decide +kernel
theorem dX5_offer_98 : decode cX5_offer 98 = .ok (.iload_n 2, 1) := by decide +kernel
theorem dX5_offer_99 : decode cX5_offer 99 = .ok (.iload_n 3, 1) := by decide +kernel
theorem dX5_offer_100 : decode cX5_offer 100 = .ok (.iload 4, 2) := by decide +kernel
theorem dX5_offer_102 : decode cX5_offer 102 = .ok (.invokevirtual 102, 3) := by decide +kernel
theorem dX5_offer_105 : decode cX5_offer 105 = .ok (.aload_n 0, 1) := by decide +kernel
theorem dX5_offer_106 : decode cX5_offer 106 = .ok (.aload_n 0, 1) := by decide +kernel
theorem dX5_offer_107 : decode cX5_offer 107 = .ok (.getfield 10, 3) := by decide +kernel
theorem dX5_offer_110 : decode cX5_offer 110 = .ok (.aload_n 0, 1) := by decide +kernel
theorem dX5_offer_111 : decode cX5_offer 111 = .ok (.invokevirtual 106, 3) := by decide +kernel
theorem dX5_offer_114 : decode cX5_offer 114 = .ok (.iconst 0, 1) := by decide +kernel
theorem dX5_offer_115 : decode cX5_offer 115 = .ok (.iconst 0, 1) := by decide +kernel
theorem dX5_offer_116 : decode cX5_offer 116 = .ok (.invokevirtual 109, 3) := by decide +kernel
theorem dX5_offer_119 : decode cX5_offer 119 = .ok (.invokevirtual 113, 3) := by decide +kernel
theorem dX5_offer_122 : decode cX5_offer 122 = .ok (.ireturn, 1) := by decide +kernel
set_option maxRecDepth 20000 in
theorem ggX5_put_X5_requireWithin : GoodIn wsX5_put wsX5_requireWithin := goodIn_ca (goodIn_r _ [4, 5, 6] (by decide +kernel) (by decide +kernel)) (goodIn_sub (fun _ h => List.mem_cons_of_mem _ (List.mem_append_left _ (List.mem_append_right _ h))) (by decide +kernel))
set_option maxRecDepth 20000 in
theorem gX5_put_X5_requireWithin : GoodIn wsX5_put (va_wsS RX5 67 yX5_requireWithin wsX5_requireWithin) := goodIn_app (goodIn_of _ (by decide +kernel)) ggX5_put_X5_requireWithin
set_option maxRecDepth 20000 in
theorem ggX5_put_X5_requireToCome : GoodIn wsX5_put wsX5_requireToCome := goodIn_ca (goodIn_r _ [10, 11, 12, 13, 14, 15, 16, 17, 18, 19, 20, 21, 70, 71, 72, 73, 74, 75, 76, 77, 78, 79, 80, 81] (by decide +kernel) (by decide +kernel)) (goodIn_sub (fun _ h => List.mem_cons_of_mem _ (List.mem_append_right _ h)) (by decide +kernel))
set_option maxRecDepth 20000 in
theorem gX5_put_X5_requireToCome : GoodIn wsX5_put (wsV RX5 117 RX5 yX5_requireToCome wsX5_requireToCome) := goodIn_app (goodIn_of _ (by decide +kernel)) ggX5_put_X5_requireToCome
set_option maxRecDepth 20000 in
theorem ggX5_put_X5_append : GoodIn wsX5_put wsX5_append := goodIn_r _ [25, 26, 13, 27, 28, 29, 3, 30, 31, 32, 33, 34, 17, 35, 21, 36, 37, 38, 39, 40, 41, 42, 43, 44, 45, 46, 47, 48, 49, 50, 51, 52, 53, 54, 55, 56, 57, 58, 59, 60, 61, 62, 63, 64, 65, 66, 67, 68, 69, 19, 70, 71, 72, 73, 74, 75, 76, 77, 78, 79, 80, 81, 82, 83, 84, 85] (by decide +kernel) (by decide +kernel)
set_option maxRecDepth 20000 in
theorem gX5_put_X5_append : GoodIn wsX5_put (wsV RX5 120 RX5 yX5_append wsX5_append) := goodIn_app (goodIn_of _ (by decide +kernel)) ggX5_put_X5_append
theorem dX5_put_0 : decode cX5_put 0 = .ok (.iload_n 1, 1) := by decide +kernel
theorem dX5_put_1 : decode cX5_put 1 = .ok (.iconst 0, 1) := by decide +kernel
theorem dX5_put_2 : decode cX5_put 2 = .ok (.sipush 255, 3) := by decide +kernel
theorem dX5_put_5 : decode cX5_put 5 = .ok (.invokestatic 67, 3) := by decide +kernel
theorem dX5_put_8 : decode cX5_put 8 = .ok (.aload_n 0, 1) := by decide +kernel
theorem dX5_put_9 : decode cX5_put 9 = .ok (.iconst 1, 1) := by decide +kernel
theorem dX5_put_10 : decode cX5_put 10 = .ok (.invokevirtual 117, 3) := by decide +kernel
theorem dX5_put_13 : decode cX5_put 13 = .ok (.aload_n 0, 1) := by decide +kernel
theorem dX5_put_14 : decode cX5_put 14 = .ok (.iload_n 1, 1) := by decide +kernel
theorem dX5_put_15 : decode cX5_put 15 = .ok (.invokevirtual 120, 3) := by decide +kernel
theorem dX5_put_18 : decode cX5_put 18 = .ok (.ireturn, 1) := by decide +kernel
set_option maxRecDepth 20000 in
theorem ggX5_copy_X5_requireWithin : GoodIn wsX5_copy wsX5_requireWithin := goodIn_ca (goodIn_r _ [8, 1, 2] (by decide +kernel) (by decide +kernel)) (goodIn_sub (fun _ h => List.mem_cons_of_mem _ (List.mem_append_left _ (List.mem_append_right _ h))) (by decide +kernel))
set_option maxRecDepth 20000 in
theorem gX5_copy_X5_requireWithin : GoodIn wsX5_copy (va_wsS RX5 67 yX5_requireWithin wsX5_requireWithin) := goodIn_app (goodIn_of _ (by decide +kernel)) ggX5_copy_X5_requireWithin
set_option maxRecDepth 20000 in
theorem ggX5_copy_X5_isOn : GoodIn wsX5_copy wsX5_isOn := goodIn_r _ [12, 4, 83, 84, 85, 86, 87, 88] (by decide +kernel) (by decide +kernel)
set_option maxRecDepth 20000 in
theorem gX5_copy_X5_isOn : GoodIn wsX5_copy (wsV RX5 46 RX5 yX5_isOn wsX5_isOn) := goodIn_app (goodIn_of _ (by decide +kernel)) ggX5_copy_X5_isOn
set_option maxRecDepth 20000 in
theorem ggX5_copy_X3_slotWord : GoodIn wsX5_copy wsX3_slotWord := goodIn_r _ [17, 18, 19, 20, 21, 22, 23, 24, 89, 90, 91, 92] (by decide +kernel) (by decide +kernel)
set_option maxRecDepth 20000 in
theorem gX5_copy_X3_slotWord : GoodIn wsX5_copy (wsV RX5 93 RX3 yX3_slotWord wsX3_slotWord) := goodIn_app (goodIn_of _ (by decide +kernel)) ggX5_copy_X3_slotWord
set_option maxRecDepth 20000 in
theorem ggX5_copy_X5_requireToCome : GoodIn wsX5_copy wsX5_requireToCome := goodIn_ca (goodIn_r _ [28, 29, 30, 31, 32, 33, 34, 35, 36, 37, 38, 39, 83, 84, 85, 86, 87, 88, 93, 94, 95, 96, 97, 98] (by decide +kernel) (by decide +kernel)) (goodIn_sub (fun _ h => List.mem_cons_of_mem _ (List.mem_append_right _ h)) (by decide +kernel))
set_option maxRecDepth 20000 in
theorem gX5_copy_X5_requireToCome : GoodIn wsX5_copy (wsV RX5 117 RX5 yX5_requireToCome wsX5_requireToCome) := goodIn_app (goodIn_of _ (by decide +kernel)) ggX5_copy_X5_requireToCome
set_option maxRecDepth 20000 in
theorem ggX5_copy_X3_imageWord : GoodIn wsX5_copy wsX3_imageWord := goodIn_r _ [43, 18, 19, 20, 21, 22, 23, 24, 89, 90, 91, 92] (by decide +kernel) (by decide +kernel)
set_option maxRecDepth 20000 in
theorem gX5_copy_X3_imageWord : GoodIn wsX5_copy (wsV RX5 129 RX3 yX3_imageWord wsX3_imageWord) := goodIn_app (goodIn_of _ (by decide +kernel)) ggX5_copy_X3_imageWord
set_option maxRecDepth 20000 in
theorem ggX5_copy_X5_append : GoodIn wsX5_copy wsX5_append := goodIn_r _ [47, 3, 31, 48, 49, 50, 7, 51, 4, 52, 53, 54, 35, 55, 39, 56, 57, 58, 16, 59, 18, 60, 61, 62, 22, 63, 64, 65, 66, 20, 21, 23, 24, 67, 68, 69, 70, 71, 72, 73, 74, 75, 76, 77, 78, 79, 80, 81, 82, 37, 83, 84, 85, 86, 87, 88, 93, 94, 95, 96, 97, 98, 89, 90, 91, 92] (by decide +kernel) (by decide +kernel)
set_option maxRecDepth 20000 in
theorem gX5_copy_X5_append : GoodIn wsX5_copy (wsV RX5 120 RX5 yX5_append wsX5_append) := goodIn_app (goodIn_of _ (by decide +kernel)) ggX5_copy_X5_append
theorem dX5_copy_0 : decode cX5_copy 0 = .ok (.iload_n 1, 1) := by decide +kernel
theorem dX5_copy_1 : decode cX5_copy 1 = .ok (.iconst 0, 1) := by decide +kernel
theorem dX5_copy_2 : decode cX5_copy 2 = .ok (.bipush 23, 2) := by decide +kernel
theorem dX5_copy_4 : decode cX5_copy 4 = .ok (.invokestatic 67, 3) := by decide +kernel
theorem dX5_copy_7 : decode cX5_copy 7 = .ok (.iload_n 2, 1) := by decide +kernel
theorem dX5_copy_8 : decode cX5_copy 8 = .ok (.iconst 1, 1) := by decide +kernel
theorem dX5_copy_9 : decode cX5_copy 9 = .ok (.bipush 24, 2) := by decide +kernel
theorem dX5_copy_11 : decode cX5_copy 11 = .ok (.invokestatic 67, 3) := by decide +kernel
theorem dX5_copy_14 : decode cX5_copy 14 = .ok (.aload_n 0, 1) := by decide +kernel
theorem dX5_copy_15 : decode cX5_copy 15 = .ok (.invokevirtual 46, 3) := by decide +kernel
theorem dX5_copy_18 : decode cX5_copy 18 = .ok (.ifCond .eq 31, 3) := by decide +kernel
theorem dX5_copy_21 : decode cX5_copy 21 = .ok (.iload_n 1, 1) := by decide +kernel
theorem dX5_copy_22 : decode cX5_copy 22 = .ok (.iload_n 2, 1) := by decide +kernel
theorem dX5_copy_23 : decode cX5_copy 23 = .ok (.iadd, 1) := by decide +kernel
theorem dX5_copy_24 : decode cX5_copy 24 = .ok (.aload_n 0, 1) := by decide +kernel
theorem dX5_copy_25 : decode cX5_copy 25 = .ok (.getfield 10, 3) := by decide +kernel
theorem dX5_copy_28 : decode cX5_copy 28 = .ok (.aload_n 0, 1) := by decide +kernel
theorem dX5_copy_29 : decode cX5_copy 29 = .ok (.getfield 42, 3) := by decide +kernel
theorem dX5_copy_32 : decode cX5_copy 32 = .ok (.iconst 2, 1) := by decide +kernel
theorem dX5_copy_33 : decode cX5_copy 33 = .ok (.invokevirtual 93, 3) := by decide +kernel
theorem dX5_copy_36 : decode cX5_copy 36 = .ok (.if_icmp .le 13, 3) := by decide +kernel

set_option maxRecDepth 20000 in
theorem ggX3_init_X2_init : GoodIn wsX3_init wsX2_init := goodIn_r _ [9, 10, 2, 3, 11, 12, 13, 14, 39, 40, 41] (by decide +kernel) (by decide +kernel)
set_option maxRecDepth 20000 in
theorem gX3_init_X2_init_n13 : GoodIn wsX3_init (wsX2_init) := ggX3_init_X2_init
set_option maxRecDepth 20000 in
theorem ggX3_init_X2_preset : GoodIn wsX3_init wsX2_preset := goodIn_r _ [18, 12, 39, 40, 41] (by decide +kernel) (by decide +kernel)
set_option maxRecDepth 20000 in
theorem gX3_init_X2_preset : GoodIn wsX3_init (wsV RX3 18 RX2 yX2_preset wsX2_preset) := goodIn_app (goodIn_of _ (by decide +kernel)) ggX3_init_X2_preset
set_option maxRecDepth 20000 in
theorem ggX3_init_X3_imageHash : GoodIn wsX3_init wsX3_imageHash := goodIn_r _ [23, 24, 25, 26, 22, 27, 7, 28, 29, 30, 6, 31, 12, 32, 33, 34, 35, 42, 39, 40, 41] (by decide +kernel) (by decide +kernel)
set_option maxRecDepth 20000 in
theorem gX3_init_X3_imageHash : GoodIn wsX3_init (wsV RX3 22 RX3 yX3_imageHash wsX3_imageHash) := goodIn_app (goodIn_of _ (by decide +kernel)) ggX3_init_X3_imageHash
set_option maxRecDepth 20000 in
theorem ggX3_init_X3_checkOf : GoodIn wsX3_init wsX3_checkOf := goodIn_r _ [38] (by decide +kernel) (by decide +kernel)
set_option maxRecDepth 20000 in
theorem gX3_init_X3_checkOf : GoodIn wsX3_init (va_wsS RX3 26 yX3_checkOf wsX3_checkOf) := goodIn_app (goodIn_of _ (by decide +kernel)) ggX3_init_X3_checkOf
theorem dX3_init_0 : decode cX3_init 0 = .ok (.aload_n 0, 1) := by decide +kernel
theorem dX3_init_1 : decode cX3_init 1 = .ok (.invokespecial 5, 3) := by decide +kernel
theorem dX3_init_4 : decode cX3_init 4 = .ok (.aload_n 0, 1) := by decide +kernel
theorem dX3_init_5 : decode cX3_init 5 = .ok (.new 11, 3) := by decide +kernel
theorem dX3_init_8 : decode cX3_init 8 = .ok (.dup, 1) := by decide +kernel
theorem dX3_init_9 : decode cX3_init 9 = .ok (.invokespecial 13, 3) := by decide +kernel
theorem dX3_init_12 : decode cX3_init 12 = .ok (.putfield 14, 3) := by decide +kernel
theorem dX3_init_15 : decode cX3_init 15 = .ok (.iconst 0, 1) := by decide +kernel
theorem dX3_init_16 : decode cX3_init 16 = .ok (.istore_n 1, 1) := by decide +kernel
theorem dX3_init_17 : decode cX3_init 17 = .ok (.iload_n 1, 1) := by decide +kernel
theorem dX3_init_18 : decode cX3_init 18 = .ok (.bipush 8, 2) := by decide +kernel
theorem dX3_init_20 : decode cX3_init 20 = .ok (.if_icmp .ge 22, 3) := by decide +kernel
theorem dX3_init_23 : decode cX3_init 23 = .ok (.aload_n 0, 1) := by decide +kernel
theorem dX3_init_24 : decode cX3_init 24 = .ok (.getfield 14, 3) := by decide +kernel
theorem dX3_init_27 : decode cX3_init 27 = .ok (.iconst 5, 1) := by decide +kernel
theorem dX3_init_28 : decode cX3_init 28 = .ok (.iload_n 1, 1) := by decide +kernel
theorem dX3_init_29 : decode cX3_init 29 = .ok (.iadd, 1) := by decide +kernel
theorem dX3_init_30 : decode cX3_init 30 = .ok (.iload_n 1, 1) := by decide +kernel
theorem dX3_init_31 : decode cX3_init 31 = .ok (.iconst 1, 1) := by decide +kernel
theorem dX3_init_32 : decode cX3_init 32 = .ok (.iadd, 1) := by decide +kernel
theorem dX3_init_33 : decode cX3_init 33 = .ok (.invokevirtual 18, 3) := by decide +kernel
theorem dX3_init_36 : decode cX3_init 36 = .ok (.iinc 1 1, 3) := by decide +kernel
theorem dX3_init_39 : decode cX3_init 39 = .ok (.goto (-22), 3) := by decide +kernel
theorem dX3_init_42 : decode cX3_init 42 = .ok (.aload_n 0, 1) := by decide +kernel
theorem dX3_init_43 : decode cX3_init 43 = .ok (.getfield 14, 3) := by decide +kernel
theorem dX3_init_46 : decode cX3_init 46 = .ok (.iconst 0, 1) := by decide +kernel
theorem dX3_init_47 : decode cX3_init 47 = .ok (.iconst 1, 1) := by decide +kernel
theorem dX3_init_48 : decode cX3_init 48 = .ok (.invokevirtual 18, 3) := by decide +kernel
theorem dX3_init_51 : decode cX3_init 51 = .ok (.aload_n 0, 1) := by decide +kernel
theorem dX3_init_52 : decode cX3_init 52 = .ok (.getfield 14, 3) := by decide +kernel
theorem dX3_init_55 : decode cX3_init 55 = .ok (.iconst 1, 1) := by decide +kernel
theorem dX3_init_56 : decode cX3_init 56 = .ok (.iconst 1, 1) := by decide +kernel
theorem dX3_init_57 : decode cX3_init 57 = .ok (.invokevirtual 18, 3) := by decide +kernel
theorem dX3_init_60 : decode cX3_init 60 = .ok (.aload_n 0, 1) := by decide +kernel
theorem dX3_init_61 : decode cX3_init 61 = .ok (.getfield 14, 3) := by decide +kernel
theorem dX3_init_64 : decode cX3_init 64 = .ok (.iconst 2, 1) := by decide +kernel
theorem dX3_init_65 : decode cX3_init 65 = .ok (.bipush 8, 2) := by decide +kernel
theorem dX3_init_67 : decode cX3_init 67 = .ok (.invokevirtual 18, 3) := by decide +kernel
theorem dX3_init_70 : decode cX3_init 70 = .ok (.aload_n 0, 1) := by decide +kernel
theorem dX3_init_71 : decode cX3_init 71 = .ok (.getfield 14, 3) := by decide +kernel
theorem dX3_init_74 : decode cX3_init 74 = .ok (.iconst 3, 1) := by decide +kernel
theorem dX3_init_75 : decode cX3_init 75 = .ok (.aload_n 0, 1) := by decide +kernel
theorem dX3_init_76 : decode cX3_init 76 = .ok (.iconst 0, 1) := by decide +kernel
theorem dX3_init_77 : decode cX3_init 77 = .ok (.bipush 8, 2) := by decide +kernel
theorem dX3_init_79 : decode cX3_init 79 = .ok (.invokevirtual 22, 3) := by decide +kernel
theorem dX3_init_82 : decode cX3_init 82 = .ok (.invokevirtual 18, 3) := by decide +kernel
theorem dX3_init_85 : decode cX3_init 85 = .ok (.aload_n 0, 1) := by decide +kernel
theorem dX3_init_86 : decode cX3_init 86 = .ok (.getfield 14, 3) := by decide +kernel
theorem dX3_init_89 : decode cX3_init 89 = .ok (.bipush 59, 2) := by decide +kernel
theorem dX3_init_91 : decode cX3_init 91 = .ok (.iconst 1, 1) := by decide +kernel
theorem dX3_init_92 : decode cX3_init 92 = .ok (.invokevirtual 18, 3) := by decide +kernel
theorem dX3_init_95 : decode cX3_init 95 = .ok (.aload_n 0, 1) := by decide +kernel
theorem dX3_init_96 : decode cX3_init 96 = .ok (.getfield 14, 3) := by decide +kernel
theorem dX3_init_99 : decode cX3_init 99 = .ok (.bipush 58, 2) := by decide +kernel
theorem dX3_init_101 : decode cX3_init 101 = .ok (.iconst 1, 1) := by decide +kernel
theorem dX3_init_102 : decode cX3_init 102 = .ok (.iconst 0, 1) := by decide +kernel
theorem dX3_init_103 : decode cX3_init 103 = .ok (.iconst 0, 1) := by decide +kernel
theorem dX3_init_104 : decode cX3_init 104 = .ok (.invokestatic 26, 3) := by decide +kernel
theorem dX3_init_107 : decode cX3_init 107 = .ok (.invokevirtual 18, 3) := by decide +kernel
theorem dX3_init_110 : decode cX3_init 110 = .ok (.return_, 1) := by decide +kernel
set_option maxRecDepth 20000 in
theorem ggX3_mirror_X2_mirror : GoodIn wsX3_mirror wsX2_mirror := goodIn_r _ [6, 7, 8, 9, 10, 5, 11, 13, 14, 15] (by decide +kernel) (by decide +kernel)
set_option maxRecDepth 20000 in
theorem gX3_mirror_X2_mirror : GoodIn wsX3_mirror (wsV RX3 30 RX2 yX2_mirror wsX2_mirror) := goodIn_app (goodIn_of _ (by decide +kernel)) ggX3_mirror_X2_mirror
theorem dX3_mirror_0 : decode cX3_mirror 0 = .ok (.aload_n 0, 1) := by decide +kernel
theorem dX3_mirror_1 : decode cX3_mirror 1 = .ok (.getfield 14, 3) := by decide +kernel
theorem dX3_mirror_4 : decode cX3_mirror 4 = .ok (.aload_n 1, 1) := by decide +kernel
theorem dX3_mirror_5 : decode cX3_mirror 5 = .ok (.getfield 14, 3) := by decide +kernel
theorem dX3_mirror_8 : decode cX3_mirror 8 = .ok (.invokevirtual 30, 3) := by decide +kernel
theorem dX3_mirror_11 : decode cX3_mirror 11 = .ok (.return_, 1) := by decide +kernel
set_option maxRecDepth 20000 in
theorem ggX3_slotWord_X2_read : GoodIn wsX3_slotWord wsX2_read := goodIn_r _ [6, 7, 9, 10, 11] (by decide +kernel) (by decide +kernel)
set_option maxRecDepth 20000 in
theorem gX3_slotWord_X2_read : GoodIn wsX3_slotWord (wsV RX3 34 RX2 yX2_read wsX2_read) := goodIn_app (goodIn_of _ (by decide +kernel)) ggX3_slotWord_X2_read
theorem dX3_slotWord_0 : decode cX3_slotWord 0 = .ok (.aload_n 0, 1) := by decide +kernel
theorem dX3_slotWord_1 : decode cX3_slotWord 1 = .ok (.getfield 14, 3) := by decide +kernel
theorem dX3_slotWord_4 : decode cX3_slotWord 4 = .ok (.iload_n 1, 1) := by decide +kernel
theorem dX3_slotWord_5 : decode cX3_slotWord 5 = .ok (.bipush 29, 2) := by decide +kernel
theorem dX3_slotWord_7 : decode cX3_slotWord 7 = .ok (.imul, 1) := by decide +kernel
theorem dX3_slotWord_8 : decode cX3_slotWord 8 = .ok (.iload_n 2, 1) := by decide +kernel
theorem dX3_slotWord_9 : decode cX3_slotWord 9 = .ok (.iadd, 1) := by decide +kernel
theorem dX3_slotWord_10 : decode cX3_slotWord 10 = .ok (.invokevirtual 34, 3) := by decide +kernel
theorem dX3_slotWord_13 : decode cX3_slotWord 13 = .ok (.ireturn, 1) := by decide +kernel
set_option maxRecDepth 20000 in
theorem ggX3_writeSlotWord_X2_write : GoodIn wsX3_writeSlotWord wsX2_write := goodIn_r _ [6, 7, 8, 9, 10, 11, 5, 12, 13, 14, 15, 16, 17, 19, 20, 21] (by decide +kernel) (by decide +kernel)
set_option maxRecDepth 20000 in
theorem gX3_writeSlotWord_X2_write : GoodIn wsX3_writeSlotWord (wsV RX3 38 RX2 yX2_write wsX2_write) := goodIn_app (goodIn_of _ (by decide +kernel)) ggX3_writeSlotWord_X2_write
theorem dX3_writeSlotWord_0 : decode cX3_writeSlotWord 0 = .ok (.aload_n 0, 1) := by decide +kernel
theorem dX3_writeSlotWord_1 : decode cX3_writeSlotWord 1 = .ok (.getfield 14, 3) := by decide +kernel
theorem dX3_writeSlotWord_4 : decode cX3_writeSlotWord 4 = .ok (.iload_n 1, 1) := by decide +kernel
theorem dX3_writeSlotWord_5 : decode cX3_writeSlotWord 5 = .ok (.bipush 29, 2) := by decide +kernel
theorem dX3_writeSlotWord_7 : decode cX3_writeSlotWord 7 = .ok (.imul, 1) := by decide +kernel
theorem dX3_writeSlotWord_8 : decode cX3_writeSlotWord 8 = .ok (.iload_n 2, 1) := by decide +kernel
theorem dX3_writeSlotWord_9 : decode cX3_writeSlotWord 9 = .ok (.iadd, 1) := by decide +kernel
theorem dX3_writeSlotWord_10 : decode cX3_writeSlotWord 10 = .ok (.iload_n 3, 1) := by decide +kernel
theorem dX3_writeSlotWord_11 : decode cX3_writeSlotWord 11 = .ok (.invokevirtual 38, 3) := by decide +kernel
theorem dX3_writeSlotWord_14 : decode cX3_writeSlotWord 14 = .ok (.ireturn, 1) := by decide +kernel
set_option maxRecDepth 20000 in
theorem ggX3_imageWord_X2_read : GoodIn wsX3_imageWord wsX2_read := goodIn_r _ [6, 7, 9, 10, 11] (by decide +kernel) (by decide +kernel)
set_option maxRecDepth 20000 in
theorem gX3_imageWord_X2_read : GoodIn wsX3_imageWord (wsV RX3 34 RX2 yX2_read wsX2_read) := goodIn_app (goodIn_of _ (by decide +kernel)) ggX3_imageWord_X2_read
theorem dX3_imageWord_0 : decode cX3_imageWord 0 = .ok (.aload_n 0, 1) := by decide +kernel
theorem dX3_imageWord_1 : decode cX3_imageWord 1 = .ok (.getfield 14, 3) := by decide +kernel
theorem dX3_imageWord_4 : decode cX3_imageWord 4 = .ok (.iload_n 1, 1) := by decide +kernel
theorem dX3_imageWord_5 : decode cX3_imageWord 5 = .ok (.bipush 29, 2) := by decide +kernel
theorem dX3_imageWord_7 : decode cX3_imageWord 7 = .ok (.imul, 1) := by decide +kernel
theorem dX3_imageWord_8 : decode cX3_imageWord 8 = .ok (.iconst 5, 1) := by decide +kernel
theorem dX3_imageWord_9 : decode cX3_imageWord 9 = .ok (.iadd, 1) := by decide +kernel
theorem dX3_imageWord_10 : decode cX3_imageWord 10 = .ok (.iload_n 2, 1) := by decide +kernel
theorem dX3_imageWord_11 : decode cX3_imageWord 11 = .ok (.iadd, 1) := by decide +kernel
theorem dX3_imageWord_12 : decode cX3_imageWord 12 = .ok (.invokevirtual 34, 3) := by decide +kernel
theorem dX3_imageWord_15 : decode cX3_imageWord 15 = .ok (.ireturn, 1) := by decide +kernel
set_option maxRecDepth 20000 in
theorem ggX3_writeImageWord_X2_write : GoodIn wsX3_writeImageWord wsX2_write := goodIn_r _ [6, 7, 8, 9, 10, 11, 5, 12, 13, 14, 15, 16, 17, 19, 20, 21] (by decide +kernel) (by decide +kernel)
set_option maxRecDepth 20000 in
theorem gX3_writeImageWord_X2_write : GoodIn wsX3_writeImageWord (wsV RX3 38 RX2 yX2_write wsX2_write) := goodIn_app (goodIn_of _ (by decide +kernel)) ggX3_writeImageWord_X2_write
theorem dX3_writeImageWord_0 : decode cX3_writeImageWord 0 = .ok (.aload_n 0, 1) := by decide +kernel
theorem dX3_writeImageWord_1 : decode cX3_writeImageWord 1 = .ok (.getfield 14, 3) := by decide +kernel
theorem dX3_writeImageWord_4 : decode cX3_writeImageWord 4 = .ok (.iload_n 1, 1) := by decide +kernel
theorem dX3_writeImageWord_5 : decode cX3_writeImageWord 5 = .ok (.bipush 29, 2) := by decide +kernel
theorem dX3_writeImageWord_7 : decode cX3_writeImageWord 7 = .ok (.imul, 1) := by decide +kernel
theorem dX3_writeImageWord_8 : decode cX3_writeImageWord 8 = .ok (.iconst 5, 1) := by decide +kernel
theorem dX3_writeImageWord_9 : decode cX3_writeImageWord 9 = .ok (.iadd, 1) := by decide +kernel
theorem dX3_writeImageWord_10 : decode cX3_writeImageWord 10 = .ok (.iload_n 2, 1) := by decide +kernel
theorem dX3_writeImageWord_11 : decode cX3_writeImageWord 11 = .ok (.iadd, 1) := by decide +kernel
theorem dX3_writeImageWord_12 : decode cX3_writeImageWord 12 = .ok (.iload_n 3, 1) := by decide +kernel
theorem dX3_writeImageWord_13 : decode cX3_writeImageWord 13 = .ok (.invokevirtual 38, 3) := by decide +kernel
theorem dX3_writeImageWord_16 : decode cX3_writeImageWord 16 = .ok (.ireturn, 1) := by decide +kernel
set_option maxRecDepth 20000 in
theorem ggX3_imageHash_X3_imageWord : GoodIn wsX3_imageHash wsX3_imageWord := goodIn_r _ [5, 6, 7, 8, 9, 10, 11, 12, 17, 18, 19, 20] (by decide +kernel) (by decide +kernel)
set_option maxRecDepth 20000 in
theorem gX3_imageHash_X3_imageWord : GoodIn wsX3_imageHash (wsV RX3 42 RX3 yX3_imageWord wsX3_imageWord) := goodIn_app (goodIn_of _ (by decide +kernel)) ggX3_imageHash_X3_imageWord
set_option maxRecDepth 20000 in
theorem ggX3_imageHash_X5_hashWith : GoodIn wsX3_imageHash wsX5_hashWith := goodIn_r _ [15, 16] (by decide +kernel) (by decide +kernel)
set_option maxRecDepth 20000 in
theorem gX3_imageHash_X5_hashWith_n45 : GoodIn wsX3_imageHash (wsX5_hashWith) := ggX3_imageHash_X5_hashWith
theorem dX3_imageHash_0 : decode cX3_imageHash 0 = .ok (.bipush 17, 2) := by decide +kernel
theorem dX3_imageHash_2 : decode cX3_imageHash 2 = .ok (.istore_n 3, 1) := by decide +kernel
theorem dX3_imageHash_3 : decode cX3_imageHash 3 = .ok (.iconst 0, 1) := by decide +kernel
theorem dX3_imageHash_4 : decode cX3_imageHash 4 = .ok (.istore 4, 2) := by decide +kernel
theorem dX3_imageHash_6 : decode cX3_imageHash 6 = .ok (.iload 4, 2) := by decide +kernel
theorem dX3_imageHash_8 : decode cX3_imageHash 8 = .ok (.iload_n 2, 1) := by decide +kernel
theorem dX3_imageHash_9 : decode cX3_imageHash 9 = .ok (.if_icmp .ge 28, 3) := by decide +kernel
theorem dX3_imageHash_12 : decode cX3_imageHash 12 = .ok (.iload 4, 2) := by decide +kernel
theorem dX3_imageHash_14 : decode cX3_imageHash 14 = .ok (.bipush 24, 2) := by decide +kernel
theorem dX3_imageHash_16 : decode cX3_imageHash 16 = .ok (.if_icmp .ge 21, 3) := by decide +kernel
theorem dX3_imageHash_19 : decode cX3_imageHash 19 = .ok (.iload_n 3, 1) := by decide +kernel
theorem dX3_imageHash_20 : decode cX3_imageHash 20 = .ok (.aload_n 0, 1) := by decide +kernel
theorem dX3_imageHash_21 : decode cX3_imageHash 21 = .ok (.iload_n 1, 1) := by decide +kernel
theorem dX3_imageHash_22 : decode cX3_imageHash 22 = .ok (.iload 4, 2) := by decide +kernel
theorem dX3_imageHash_24 : decode cX3_imageHash 24 = .ok (.invokevirtual 42, 3) := by decide +kernel
theorem dX3_imageHash_27 : decode cX3_imageHash 27 = .ok (.invokestatic 45, 3) := by decide +kernel
theorem dX3_imageHash_30 : decode cX3_imageHash 30 = .ok (.istore_n 3, 1) := by decide +kernel
theorem dX3_imageHash_31 : decode cX3_imageHash 31 = .ok (.iinc 4 1, 3) := by decide +kernel
theorem dX3_imageHash_34 : decode cX3_imageHash 34 = .ok (.goto (-28), 3) := by decide +kernel
theorem dX3_imageHash_37 : decode cX3_imageHash 37 = .ok (.iload_n 3, 1) := by decide +kernel
theorem dX3_imageHash_38 : decode cX3_imageHash 38 = .ok (.ireturn, 1) := by decide +kernel
set_option maxRecDepth 20000 in
theorem ggX3_canStart_X3_slotWord : GoodIn wsX3_canStart wsX3_slotWord := goodIn_r _ [5, 6, 7, 8, 9, 10, 11, 12, 25, 26, 27, 28] (by decide +kernel) (by decide +kernel)
set_option maxRecDepth 20000 in
theorem gX3_canStart_X3_slotWord : GoodIn wsX3_canStart (wsV RX3 48 RX3 yX3_slotWord wsX3_slotWord) := goodIn_app (goodIn_of _ (by decide +kernel)) ggX3_canStart_X3_slotWord
set_option maxRecDepth 20000 in
theorem ggX3_canStart_X3_imageHash : GoodIn wsX3_canStart wsX3_imageHash := goodIn_r _ [16, 17, 18, 19, 4, 20, 6, 7, 8, 9, 10, 11, 12, 21, 22, 23, 24, 25, 26, 27, 28] (by decide +kernel) (by decide +kernel)
set_option maxRecDepth 20000 in
theorem gX3_canStart_X3_imageHash : GoodIn wsX3_canStart (wsV RX3 22 RX3 yX3_imageHash wsX3_imageHash) := goodIn_app (goodIn_of _ (by decide +kernel)) ggX3_canStart_X3_imageHash
theorem dX3_canStart_0 : decode cX3_canStart 0 = .ok (.aload_n 0, 1) := by decide +kernel
theorem dX3_canStart_1 : decode cX3_canStart 1 = .ok (.iload_n 1, 1) := by decide +kernel
theorem dX3_canStart_2 : decode cX3_canStart 2 = .ok (.iconst 2, 1) := by decide +kernel
theorem dX3_canStart_3 : decode cX3_canStart 3 = .ok (.invokevirtual 48, 3) := by decide +kernel
theorem dX3_canStart_6 : decode cX3_canStart 6 = .ok (.istore_n 2, 1) := by decide +kernel
theorem dX3_canStart_7 : decode cX3_canStart 7 = .ok (.aload_n 0, 1) := by decide +kernel
theorem dX3_canStart_8 : decode cX3_canStart 8 = .ok (.iload_n 1, 1) := by decide +kernel
theorem dX3_canStart_9 : decode cX3_canStart 9 = .ok (.iconst 0, 1) := by decide +kernel
theorem dX3_canStart_10 : decode cX3_canStart 10 = .ok (.invokevirtual 48, 3) := by decide +kernel
theorem dX3_canStart_13 : decode cX3_canStart 13 = .ok (.iconst 1, 1) := by decide +kernel
theorem dX3_canStart_14 : decode cX3_canStart 14 = .ok (.if_icmp .ne 33, 3) := by decide +kernel
theorem dX3_canStart_17 : decode cX3_canStart 17 = .ok (.iload_n 2, 1) := by decide +kernel
theorem dX3_canStart_18 : decode cX3_canStart 18 = .ok (.iconst 1, 1) := by decide +kernel
theorem dX3_canStart_19 : decode cX3_canStart 19 = .ok (.if_icmp .lt 28, 3) := by decide +kernel
theorem dX3_canStart_22 : decode cX3_canStart 22 = .ok (.iload_n 2, 1) := by decide +kernel
theorem dX3_canStart_23 : decode cX3_canStart 23 = .ok (.bipush 24, 2) := by decide +kernel
theorem dX3_canStart_25 : decode cX3_canStart 25 = .ok (.if_icmp .gt 22, 3) := by decide +kernel
theorem dX3_canStart_28 : decode cX3_canStart 28 = .ok (.aload_n 0, 1) := by decide +kernel
theorem dX3_canStart_29 : decode cX3_canStart 29 = .ok (.iload_n 1, 1) := by decide +kernel
theorem dX3_canStart_30 : decode cX3_canStart 30 = .ok (.iconst 3, 1) := by decide +kernel
theorem dX3_canStart_31 : decode cX3_canStart 31 = .ok (.invokevirtual 48, 3) := by decide +kernel
theorem dX3_canStart_34 : decode cX3_canStart 34 = .ok (.aload_n 0, 1) := by decide +kernel
theorem dX3_canStart_35 : decode cX3_canStart 35 = .ok (.iload_n 1, 1) := by decide +kernel
theorem dX3_canStart_36 : decode cX3_canStart 36 = .ok (.iload_n 2, 1) := by decide +kernel
theorem dX3_canStart_37 : decode cX3_canStart 37 = .ok (.invokevirtual 22, 3) := by decide +kernel
theorem dX3_canStart_40 : decode cX3_canStart 40 = .ok (.if_icmp .ne 7, 3) := by decide +kernel
theorem dX3_canStart_43 : decode cX3_canStart 43 = .ok (.iconst 1, 1) := by decide +kernel
theorem dX3_canStart_44 : decode cX3_canStart 44 = .ok (.goto 4, 3) := by decide +kernel
theorem dX3_canStart_47 : decode cX3_canStart 47 = .ok (.iconst 0, 1) := by decide +kernel
theorem dX3_canStart_48 : decode cX3_canStart 48 = .ok (.ireturn, 1) := by decide +kernel
theorem dX3_checkOf_0 : decode cX3_checkOf 0 = .ok (.iconst 1, 1) := by decide +kernel
theorem dX3_checkOf_1 : decode cX3_checkOf 1 = .ok (.bipush 7, 2) := by decide +kernel
theorem dX3_checkOf_3 : decode cX3_checkOf 3 = .ok (.iload_n 0, 1) := by decide +kernel
theorem dX3_checkOf_4 : decode cX3_checkOf 4 = .ok (.imul, 1) := by decide +kernel
theorem dX3_checkOf_5 : decode cX3_checkOf 5 = .ok (.bipush 13, 2) := by decide +kernel
theorem dX3_checkOf_7 : decode cX3_checkOf 7 = .ok (.iload_n 1, 1) := by decide +kernel
theorem dX3_checkOf_8 : decode cX3_checkOf 8 = .ok (.imul, 1) := by decide +kernel
theorem dX3_checkOf_9 : decode cX3_checkOf 9 = .ok (.iadd, 1) := by decide +kernel
theorem dX3_checkOf_10 : decode cX3_checkOf 10 = .ok (.bipush 29, 2) := by decide +kernel
theorem dX3_checkOf_12 : decode cX3_checkOf 12 = .ok (.iload_n 2, 1) := by decide +kernel
theorem dX3_checkOf_13 : decode cX3_checkOf 13 = .ok (.imul, 1) := by decide +kernel
theorem dX3_checkOf_14 : decode cX3_checkOf 14 = .ok (.iadd, 1) := by decide +kernel
theorem dX3_checkOf_15 : decode cX3_checkOf 15 = .ok (.sipush 250, 3) := by decide +kernel
theorem dX3_checkOf_18 : decode cX3_checkOf 18 = .ok (.irem, 1) := by decide +kernel
theorem dX3_checkOf_19 : decode cX3_checkOf 19 = .ok (.iadd, 1) := by decide +kernel
theorem dX3_checkOf_20 : decode cX3_checkOf 20 = .ok (.ireturn, 1) := by decide +kernel
set_option maxRecDepth 20000 in
theorem ggX3_recordWord_X2_read : GoodIn wsX3_recordWord wsX2_read := goodIn_r _ [6, 7, 9, 10, 11] (by decide +kernel) (by decide +kernel)
set_option maxRecDepth 20000 in
theorem gX3_recordWord_X2_read : GoodIn wsX3_recordWord (wsV RX3 34 RX2 yX2_read wsX2_read) := goodIn_app (goodIn_of _ (by decide +kernel)) ggX3_recordWord_X2_read
theorem dX3_recordWord_0 : decode cX3_recordWord 0 = .ok (.aload_n 0, 1) := by decide +kernel
theorem dX3_recordWord_1 : decode cX3_recordWord 1 = .ok (.getfield 14, 3) := by decide +kernel
theorem dX3_recordWord_4 : decode cX3_recordWord 4 = .ok (.bipush 58, 2) := by decide +kernel
theorem dX3_recordWord_6 : decode cX3_recordWord 6 = .ok (.iload_n 1, 1) := by decide +kernel
theorem dX3_recordWord_7 : decode cX3_recordWord 7 = .ok (.iconst 4, 1) := by decide +kernel
theorem dX3_recordWord_8 : decode cX3_recordWord 8 = .ok (.imul, 1) := by decide +kernel
theorem dX3_recordWord_9 : decode cX3_recordWord 9 = .ok (.iadd, 1) := by decide +kernel
theorem dX3_recordWord_10 : decode cX3_recordWord 10 = .ok (.iload_n 2, 1) := by decide +kernel
theorem dX3_recordWord_11 : decode cX3_recordWord 11 = .ok (.iadd, 1) := by decide +kernel
theorem dX3_recordWord_12 : decode cX3_recordWord 12 = .ok (.invokevirtual 34, 3) := by decide +kernel
theorem dX3_recordWord_15 : decode cX3_recordWord 15 = .ok (.ireturn, 1) := by decide +kernel
set_option maxRecDepth 20000 in
theorem ggX3_writeRecordWord_X2_write : GoodIn wsX3_writeRecordWord wsX2_write := goodIn_r _ [6, 7, 8, 9, 10, 11, 5, 12, 13, 14, 15, 16, 17, 19, 20, 21] (by decide +kernel) (by decide +kernel)
set_option maxRecDepth 20000 in
theorem gX3_writeRecordWord_X2_write : GoodIn wsX3_writeRecordWord (wsV RX3 38 RX2 yX2_write wsX2_write) := goodIn_app (goodIn_of _ (by decide +kernel)) ggX3_writeRecordWord_X2_write
theorem dX3_writeRecordWord_0 : decode cX3_writeRecordWord 0 = .ok (.aload_n 0, 1) := by decide +kernel
theorem dX3_writeRecordWord_1 : decode cX3_writeRecordWord 1 = .ok (.getfield 14, 3) := by decide +kernel
theorem dX3_writeRecordWord_4 : decode cX3_writeRecordWord 4 = .ok (.bipush 58, 2) := by decide +kernel
theorem dX3_writeRecordWord_6 : decode cX3_writeRecordWord 6 = .ok (.iload_n 1, 1) := by decide +kernel
theorem dX3_writeRecordWord_7 : decode cX3_writeRecordWord 7 = .ok (.iconst 4, 1) := by decide +kernel
theorem dX3_writeRecordWord_8 : decode cX3_writeRecordWord 8 = .ok (.imul, 1) := by decide +kernel
theorem dX3_writeRecordWord_9 : decode cX3_writeRecordWord 9 = .ok (.iadd, 1) := by decide +kernel
theorem dX3_writeRecordWord_10 : decode cX3_writeRecordWord 10 = .ok (.iload_n 2, 1) := by decide +kernel
theorem dX3_writeRecordWord_11 : decode cX3_writeRecordWord 11 = .ok (.iadd, 1) := by decide +kernel
theorem dX3_writeRecordWord_12 : decode cX3_writeRecordWord 12 = .ok (.iload_n 3, 1) := by decide +kernel
theorem dX3_writeRecordWord_13 : decode cX3_writeRecordWord 13 = .ok (.invokevirtual 38, 3) := by decide +kernel
theorem dX3_writeRecordWord_16 : decode cX3_writeRecordWord 16 = .ok (.ireturn, 1) := by decide +kernel
set_option maxRecDepth 20000 in
theorem ggX3_isRecordValid_X3_recordWord : GoodIn wsX3_isRecordValid wsX3_recordWord := goodIn_r _ [5, 6, 7, 8, 9, 10, 11, 12, 16, 17, 18, 19] (by decide +kernel) (by decide +kernel)
set_option maxRecDepth 20000 in
theorem gX3_isRecordValid_X3_recordWord : GoodIn wsX3_isRecordValid (wsV RX3 51 RX3 yX3_recordWord wsX3_recordWord) := goodIn_app (goodIn_of _ (by decide +kernel)) ggX3_isRecordValid_X3_recordWord
set_option maxRecDepth 20000 in
theorem ggX3_isRecordValid_X3_checkOf : GoodIn wsX3_isRecordValid wsX3_checkOf := goodIn_r _ [15] (by decide +kernel) (by decide +kernel)
set_option maxRecDepth 20000 in
theorem gX3_isRecordValid_X3_checkOf : GoodIn wsX3_isRecordValid (va_wsS RX3 26 yX3_checkOf wsX3_checkOf) := goodIn_app (goodIn_of _ (by decide +kernel)) ggX3_isRecordValid_X3_checkOf
theorem dX3_isRecordValid_0 : decode cX3_isRecordValid 0 = .ok (.aload_n 0, 1) := by decide +kernel
theorem dX3_isRecordValid_1 : decode cX3_isRecordValid 1 = .ok (.iload_n 1, 1) := by decide +kernel
theorem dX3_isRecordValid_2 : decode cX3_isRecordValid 2 = .ok (.iconst 0, 1) := by decide +kernel
theorem dX3_isRecordValid_3 : decode cX3_isRecordValid 3 = .ok (.invokevirtual 51, 3) := by decide +kernel
theorem dX3_isRecordValid_6 : decode cX3_isRecordValid 6 = .ok (.aload_n 0, 1) := by decide +kernel
theorem dX3_isRecordValid_7 : decode cX3_isRecordValid 7 = .ok (.iload_n 1, 1) := by decide +kernel
theorem dX3_isRecordValid_8 : decode cX3_isRecordValid 8 = .ok (.iconst 1, 1) := by decide +kernel
theorem dX3_isRecordValid_9 : decode cX3_isRecordValid 9 = .ok (.invokevirtual 51, 3) := by decide +kernel
theorem dX3_isRecordValid_12 : decode cX3_isRecordValid 12 = .ok (.aload_n 0, 1) := by decide +kernel
theorem dX3_isRecordValid_13 : decode cX3_isRecordValid 13 = .ok (.iload_n 1, 1) := by decide +kernel
theorem dX3_isRecordValid_14 : decode cX3_isRecordValid 14 = .ok (.iconst 2, 1) := by decide +kernel
theorem dX3_isRecordValid_15 : decode cX3_isRecordValid 15 = .ok (.invokevirtual 51, 3) := by decide +kernel
theorem dX3_isRecordValid_18 : decode cX3_isRecordValid 18 = .ok (.aload_n 0, 1) := by decide +kernel
theorem dX3_isRecordValid_19 : decode cX3_isRecordValid 19 = .ok (.iload_n 1, 1) := by decide +kernel
theorem dX3_isRecordValid_20 : decode cX3_isRecordValid 20 = .ok (.iconst 3, 1) := by decide +kernel
theorem dX3_isRecordValid_21 : decode cX3_isRecordValid 21 = .ok (.invokevirtual 51, 3) := by decide +kernel
theorem dX3_isRecordValid_24 : decode cX3_isRecordValid 24 = .ok (.invokestatic 26, 3) := by decide +kernel
theorem dX3_isRecordValid_27 : decode cX3_isRecordValid 27 = .ok (.if_icmp .ne 7, 3) := by decide +kernel
theorem dX3_isRecordValid_30 : decode cX3_isRecordValid 30 = .ok (.iconst 1, 1) := by decide +kernel
theorem dX3_isRecordValid_31 : decode cX3_isRecordValid 31 = .ok (.goto 4, 3) := by decide +kernel
theorem dX3_isRecordValid_34 : decode cX3_isRecordValid 34 = .ok (.iconst 0, 1) := by decide +kernel
theorem dX3_isRecordValid_35 : decode cX3_isRecordValid 35 = .ok (.ireturn, 1) := by decide +kernel
set_option maxRecDepth 20000 in
theorem ggX3_recordInForce_X3_isRecordValid : GoodIn wsX3_recordInForce wsX3_isRecordValid := goodIn_r _ [5, 6, 7, 8, 4, 9, 10, 11, 12, 13, 14, 15, 16, 17, 18, 19, 20, 21, 22, 23] (by decide +kernel) (by decide +kernel)
set_option maxRecDepth 20000 in
theorem gX3_recordInForce_X3_isRecordValid : GoodIn wsX3_recordInForce (wsV RX3 54 RX3 yX3_isRecordValid wsX3_isRecordValid) := goodIn_app (goodIn_of _ (by decide +kernel)) ggX3_recordInForce_X3_isRecordValid
set_option maxRecDepth 20000 in
theorem ggX3_recordInForce_X3_recordWord : GoodIn wsX3_recordInForce wsX3_recordWord := goodIn_r _ [9, 10, 11, 12, 13, 14, 15, 16, 20, 21, 22, 23] (by decide +kernel) (by decide +kernel)
set_option maxRecDepth 20000 in
theorem gX3_recordInForce_X3_recordWord : GoodIn wsX3_recordInForce (wsV RX3 51 RX3 yX3_recordWord wsX3_recordWord) := goodIn_app (goodIn_of _ (by decide +kernel)) ggX3_recordInForce_X3_recordWord
theorem dX3_recordInForce_0 : decode cX3_recordInForce 0 = .ok (.aload_n 0, 1) := by decide +kernel
theorem dX3_recordInForce_1 : decode cX3_recordInForce 1 = .ok (.iconst 1, 1) := by decide +kernel
theorem dX3_recordInForce_2 : decode cX3_recordInForce 2 = .ok (.invokevirtual 54, 3) := by decide +kernel
theorem dX3_recordInForce_5 : decode cX3_recordInForce 5 = .ok (.ifCond .ne 5, 3) := by decide +kernel
theorem dX3_recordInForce_8 : decode cX3_recordInForce 8 = .ok (.iconst 0, 1) := by decide +kernel
theorem dX3_recordInForce_9 : decode cX3_recordInForce 9 = .ok (.ireturn, 1) := by decide +kernel
theorem dX3_recordInForce_10 : decode cX3_recordInForce 10 = .ok (.aload_n 0, 1) := by decide +kernel
theorem dX3_recordInForce_11 : decode cX3_recordInForce 11 = .ok (.iconst 0, 1) := by decide +kernel
theorem dX3_recordInForce_12 : decode cX3_recordInForce 12 = .ok (.invokevirtual 54, 3) := by decide +kernel
theorem dX3_recordInForce_15 : decode cX3_recordInForce 15 = .ok (.ifCond .ne 5, 3) := by decide +kernel
theorem dX3_recordInForce_18 : decode cX3_recordInForce 18 = .ok (.iconst 1, 1) := by decide +kernel
theorem dX3_recordInForce_19 : decode cX3_recordInForce 19 = .ok (.ireturn, 1) := by decide +kernel
theorem dX3_recordInForce_20 : decode cX3_recordInForce 20 = .ok (.aload_n 0, 1) := by decide +kernel
theorem dX3_recordInForce_21 : decode cX3_recordInForce 21 = .ok (.iconst 1, 1) := by decide +kernel
theorem dX3_recordInForce_22 : decode cX3_recordInForce 22 = .ok (.iconst 1, 1) := by decide +kernel
theorem dX3_recordInForce_23 : decode cX3_recordInForce 23 = .ok (.invokevirtual 51, 3) := by decide +kernel
theorem dX3_recordInForce_26 : decode cX3_recordInForce 26 = .ok (.aload_n 0, 1) := by decide +kernel
theorem dX3_recordInForce_27 : decode cX3_recordInForce 27 = .ok (.iconst 0, 1) := by decide +kernel
theorem dX3_recordInForce_28 : decode cX3_recordInForce 28 = .ok (.iconst 1, 1) := by decide +kernel
theorem dX3_recordInForce_29 : decode cX3_recordInForce 29 = .ok (.invokevirtual 51, 3) := by decide +kernel
theorem dX3_recordInForce_32 : decode cX3_recordInForce 32 = .ok (.if_icmp .le 7, 3) := by decide +kernel
theorem dX3_recordInForce_35 : decode cX3_recordInForce 35 = .ok (.iconst 1, 1) := by decide +kernel
theorem dX3_recordInForce_36 : decode cX3_recordInForce 36 = .ok (.goto 4, 3) := by decide +kernel
theorem dX3_recordInForce_39 : decode cX3_recordInForce 39 = .ok (.iconst 0, 1) := by decide +kernel
theorem dX3_recordInForce_40 : decode cX3_recordInForce 40 = .ok (.ireturn, 1) := by decide +kernel
set_option maxRecDepth 20000 in
theorem ggX3_recordCounter_X3_recordInForce : GoodIn wsX3_recordCounter wsX3_recordInForce := goodIn_r _ [5, 6, 7, 8, 4, 9, 10, 11, 12, 13, 14, 15, 16, 17, 18, 19, 20, 21, 22, 23, 24, 25, 26, 27] (by decide +kernel) (by decide +kernel)
set_option maxRecDepth 20000 in
theorem gX3_recordCounter_X3_recordInForce : GoodIn wsX3_recordCounter (wsV RX3 58 RX3 yX3_recordInForce wsX3_recordInForce) := goodIn_app (goodIn_of _ (by decide +kernel)) ggX3_recordCounter_X3_recordInForce
set_option maxRecDepth 20000 in
theorem ggX3_recordCounter_X3_recordWord : GoodIn wsX3_recordCounter wsX3_recordWord := goodIn_r _ [13, 14, 15, 16, 17, 18, 19, 20, 24, 25, 26, 27] (by decide +kernel) (by decide +kernel)
set_option maxRecDepth 20000 in
theorem gX3_recordCounter_X3_recordWord : GoodIn wsX3_recordCounter (wsV RX3 51 RX3 yX3_recordWord wsX3_recordWord) := goodIn_app (goodIn_of _ (by decide +kernel)) ggX3_recordCounter_X3_recordWord
theorem dX3_recordCounter_0 : decode cX3_recordCounter 0 = .ok (.aload_n 0, 1) := by decide +kernel
theorem dX3_recordCounter_1 : decode cX3_recordCounter 1 = .ok (.aload_n 0, 1) := by decide +kernel
theorem dX3_recordCounter_2 : decode cX3_recordCounter 2 = .ok (.invokevirtual 58, 3) := by decide +kernel
theorem dX3_recordCounter_5 : decode cX3_recordCounter 5 = .ok (.iconst 3, 1) := by decide +kernel
theorem dX3_recordCounter_6 : decode cX3_recordCounter 6 = .ok (.invokevirtual 51, 3) := by decide +kernel
theorem dX3_recordCounter_9 : decode cX3_recordCounter 9 = .ok (.ireturn, 1) := by decide +kernel
set_option maxRecDepth 20000 in
theorem ggX3_confirmedSlot_X3_recordInForce : GoodIn wsX3_confirmedSlot wsX3_recordInForce := goodIn_r _ [5, 6, 7, 8, 4, 9, 10, 11, 12, 13, 14, 15, 16, 17, 18, 19, 20, 21, 22, 23, 27, 28, 29, 30] (by decide +kernel) (by decide +kernel)
set_option maxRecDepth 20000 in
theorem gX3_confirmedSlot_X3_recordInForce : GoodIn wsX3_confirmedSlot (wsV RX3 58 RX3 yX3_recordInForce wsX3_recordInForce) := goodIn_app (goodIn_of _ (by decide +kernel)) ggX3_confirmedSlot_X3_recordInForce
set_option maxRecDepth 20000 in
theorem ggX3_confirmedSlot_X3_recordWord : GoodIn wsX3_confirmedSlot wsX3_recordWord := goodIn_r _ [13, 14, 15, 16, 17, 18, 19, 20, 27, 28, 29, 30] (by decide +kernel) (by decide +kernel)
set_option maxRecDepth 20000 in
theorem gX3_confirmedSlot_X3_recordWord : GoodIn wsX3_confirmedSlot (wsV RX3 51 RX3 yX3_recordWord wsX3_recordWord) := goodIn_app (goodIn_of _ (by decide +kernel)) ggX3_confirmedSlot_X3_recordWord
set_option maxRecDepth 20000 in
theorem ggX3_confirmedSlot_X3_confirmedIn : GoodIn wsX3_confirmedSlot wsX3_confirmedIn := goodIn_r _ [26] (by decide +kernel) (by decide +kernel)
set_option maxRecDepth 20000 in
theorem gX3_confirmedSlot_X3_confirmedIn : GoodIn wsX3_confirmedSlot (va_wsS RX3 62 yX3_confirmedIn wsX3_confirmedIn) := goodIn_app (goodIn_of _ (by decide +kernel)) ggX3_confirmedSlot_X3_confirmedIn
theorem dX3_confirmedSlot_0 : decode cX3_confirmedSlot 0 = .ok (.aload_n 0, 1) := by decide +kernel
theorem dX3_confirmedSlot_1 : decode cX3_confirmedSlot 1 = .ok (.aload_n 0, 1) := by decide +kernel
theorem dX3_confirmedSlot_2 : decode cX3_confirmedSlot 2 = .ok (.invokevirtual 58, 3) := by decide +kernel
theorem dX3_confirmedSlot_5 : decode cX3_confirmedSlot 5 = .ok (.iconst 2, 1) := by decide +kernel
theorem dX3_confirmedSlot_6 : decode cX3_confirmedSlot 6 = .ok (.invokevirtual 51, 3) := by decide +kernel
theorem dX3_confirmedSlot_9 : decode cX3_confirmedSlot 9 = .ok (.invokestatic 62, 3) := by decide +kernel
theorem dX3_confirmedSlot_12 : decode cX3_confirmedSlot 12 = .ok (.ireturn, 1) := by decide +kernel
set_option maxRecDepth 20000 in
theorem ggX3_isTrialDue_X3_recordInForce : GoodIn wsX3_isTrialDue wsX3_recordInForce := goodIn_r _ [5, 6, 7, 8, 4, 9, 10, 11, 12, 13, 14, 15, 16, 17, 18, 19, 20, 21, 22, 23, 27, 28, 29, 30] (by decide +kernel) (by decide +kernel)
set_option maxRecDepth 20000 in
theorem gX3_isTrialDue_X3_recordInForce : GoodIn wsX3_isTrialDue (wsV RX3 58 RX3 yX3_recordInForce wsX3_recordInForce) := goodIn_app (goodIn_of _ (by decide +kernel)) ggX3_isTrialDue_X3_recordInForce
set_option maxRecDepth 20000 in
theorem ggX3_isTrialDue_X3_recordWord : GoodIn wsX3_isTrialDue wsX3_recordWord := goodIn_r _ [13, 14, 15, 16, 17, 18, 19, 20, 27, 28, 29, 30] (by decide +kernel) (by decide +kernel)
set_option maxRecDepth 20000 in
theorem gX3_isTrialDue_X3_recordWord : GoodIn wsX3_isTrialDue (wsV RX3 51 RX3 yX3_recordWord wsX3_recordWord) := goodIn_app (goodIn_of _ (by decide +kernel)) ggX3_isTrialDue_X3_recordWord
set_option maxRecDepth 20000 in
theorem ggX3_isTrialDue_X3_isTrialIn : GoodIn wsX3_isTrialDue wsX3_isTrialIn := goodIn_r _ [26] (by decide +kernel) (by decide +kernel)
set_option maxRecDepth 20000 in
theorem gX3_isTrialDue_X3_isTrialIn : GoodIn wsX3_isTrialDue (va_wsS RX3 65 yX3_isTrialIn wsX3_isTrialIn) := goodIn_app (goodIn_of _ (by decide +kernel)) ggX3_isTrialDue_X3_isTrialIn
theorem dX3_isTrialDue_0 : decode cX3_isTrialDue 0 = .ok (.aload_n 0, 1) := by decide +kernel
theorem dX3_isTrialDue_1 : decode cX3_isTrialDue 1 = .ok (.aload_n 0, 1) := by decide +kernel
theorem dX3_isTrialDue_2 : decode cX3_isTrialDue 2 = .ok (.invokevirtual 58, 3) := by decide +kernel
theorem dX3_isTrialDue_5 : decode cX3_isTrialDue 5 = .ok (.iconst 2, 1) := by decide +kernel
theorem dX3_isTrialDue_6 : decode cX3_isTrialDue 6 = .ok (.invokevirtual 51, 3) := by decide +kernel
theorem dX3_isTrialDue_9 : decode cX3_isTrialDue 9 = .ok (.invokestatic 65, 3) := by decide +kernel
theorem dX3_isTrialDue_12 : decode cX3_isTrialDue 12 = .ok (.ireturn, 1) := by decide +kernel
set_option maxRecDepth 20000 in
theorem ggX3_triesLeft_X3_recordInForce : GoodIn wsX3_triesLeft wsX3_recordInForce := goodIn_r _ [5, 6, 7, 8, 4, 9, 10, 11, 12, 13, 14, 15, 16, 17, 18, 19, 20, 21, 22, 23, 30, 31, 32, 33] (by decide +kernel) (by decide +kernel)
set_option maxRecDepth 20000 in
theorem gX3_triesLeft_X3_recordInForce : GoodIn wsX3_triesLeft (wsV RX3 58 RX3 yX3_recordInForce wsX3_recordInForce) := goodIn_app (goodIn_of _ (by decide +kernel)) ggX3_triesLeft_X3_recordInForce
set_option maxRecDepth 20000 in
theorem ggX3_triesLeft_X3_recordWord : GoodIn wsX3_triesLeft wsX3_recordWord := goodIn_r _ [13, 14, 15, 16, 17, 18, 19, 20, 30, 31, 32, 33] (by decide +kernel) (by decide +kernel)
set_option maxRecDepth 20000 in
theorem gX3_triesLeft_X3_recordWord : GoodIn wsX3_triesLeft (wsV RX3 51 RX3 yX3_recordWord wsX3_recordWord) := goodIn_app (goodIn_of _ (by decide +kernel)) ggX3_triesLeft_X3_recordWord
set_option maxRecDepth 20000 in
theorem ggX3_triesLeft_X3_triesIn : GoodIn wsX3_triesLeft wsX3_triesIn := goodIn_r _ [26, 27, 28, 4, 29] (by decide +kernel) (by decide +kernel)
set_option maxRecDepth 20000 in
theorem gX3_triesLeft_X3_triesIn : GoodIn wsX3_triesLeft (va_wsS RX3 68 yX3_triesIn wsX3_triesIn) := goodIn_app (goodIn_of _ (by decide +kernel)) ggX3_triesLeft_X3_triesIn
theorem dX3_triesLeft_0 : decode cX3_triesLeft 0 = .ok (.aload_n 0, 1) := by decide +kernel
theorem dX3_triesLeft_1 : decode cX3_triesLeft 1 = .ok (.aload_n 0, 1) := by decide +kernel
theorem dX3_triesLeft_2 : decode cX3_triesLeft 2 = .ok (.invokevirtual 58, 3) := by decide +kernel
theorem dX3_triesLeft_5 : decode cX3_triesLeft 5 = .ok (.iconst 2, 1) := by decide +kernel
theorem dX3_triesLeft_6 : decode cX3_triesLeft 6 = .ok (.invokevirtual 51, 3) := by decide +kernel
theorem dX3_triesLeft_9 : decode cX3_triesLeft 9 = .ok (.invokestatic 68, 3) := by decide +kernel
theorem dX3_triesLeft_12 : decode cX3_triesLeft 12 = .ok (.ireturn, 1) := by decide +kernel
theorem dX3_confirmedIn_0 : decode cX3_confirmedIn 0 = .ok (.iload_n 0, 1) := by decide +kernel
theorem dX3_confirmedIn_1 : decode cX3_confirmedIn 1 = .ok (.iconst 1, 1) := by decide +kernel
theorem dX3_confirmedIn_2 : decode cX3_confirmedIn 2 = .ok (.iand, 1) := by decide +kernel
theorem dX3_confirmedIn_3 : decode cX3_confirmedIn 3 = .ok (.ireturn, 1) := by decide +kernel
theorem dX3_isTrialIn_0 : decode cX3_isTrialIn 0 = .ok (.iload_n 0, 1) := by decide +kernel
theorem dX3_isTrialIn_1 : decode cX3_isTrialIn 1 = .ok (.iconst 2, 1) := by decide +kernel
theorem dX3_isTrialIn_2 : decode cX3_isTrialIn 2 = .ok (.iand, 1) := by decide +kernel
theorem dX3_isTrialIn_3 : decode cX3_isTrialIn 3 = .ok (.ifCond .eq 7, 3) := by decide +kernel
theorem dX3_isTrialIn_6 : decode cX3_isTrialIn 6 = .ok (.iconst 1, 1) := by decide +kernel
theorem dX3_isTrialIn_7 : decode cX3_isTrialIn 7 = .ok (.goto 4, 3) := by decide +kernel
theorem dX3_isTrialIn_10 : decode cX3_isTrialIn 10 = .ok (.iconst 0, 1) := by decide +kernel
theorem dX3_isTrialIn_11 : decode cX3_isTrialIn 11 = .ok (.ireturn, 1) := by decide +kernel
set_option maxRecDepth 20000 in
theorem ggX3_triesIn_X3_isTrialIn : GoodIn wsX3_triesIn wsX3_isTrialIn := goodIn_r _ [4] (by decide +kernel) (by decide +kernel)
set_option maxRecDepth 20000 in
theorem gX3_triesIn_X3_isTrialIn : GoodIn wsX3_triesIn (va_wsS RX3 65 yX3_isTrialIn wsX3_isTrialIn) := goodIn_app (goodIn_of _ (by decide +kernel)) ggX3_triesIn_X3_isTrialIn
theorem dX3_triesIn_0 : decode cX3_triesIn 0 = .ok (.iload_n 0, 1) := by decide +kernel
theorem dX3_triesIn_1 : decode cX3_triesIn 1 = .ok (.invokestatic 65, 3) := by decide +kernel
theorem dX3_triesIn_4 : decode cX3_triesIn 4 = .ok (.ifCond .eq 9, 3) := by decide +kernel
theorem dX3_triesIn_7 : decode cX3_triesIn 7 = .ok (.iload_n 0, 1) := by decide +kernel
theorem dX3_triesIn_8 : decode cX3_triesIn 8 = .ok (.iconst 2, 1) := by decide +kernel
theorem dX3_triesIn_9 : decode cX3_triesIn 9 = .ok (.ishr, 1) := by decide +kernel
theorem dX3_triesIn_10 : decode cX3_triesIn 10 = .ok (.goto 4, 3) := by decide +kernel
theorem dX3_triesIn_13 : decode cX3_triesIn 13 = .ok (.iconst 0, 1) := by decide +kernel
theorem dX3_triesIn_14 : decode cX3_triesIn 14 = .ok (.ireturn, 1) := by decide +kernel
theorem dX3_settledState_0 : decode cX3_settledState 0 = .ok (.iload_n 0, 1) := by decide +kernel
theorem dX3_settledState_1 : decode cX3_settledState 1 = .ok (.ireturn, 1) := by decide +kernel
theorem dX3_trialState_0 : decode cX3_trialState 0 = .ok (.iload_n 0, 1) := by decide +kernel
theorem dX3_trialState_1 : decode cX3_trialState 1 = .ok (.iconst 2, 1) := by decide +kernel
theorem dX3_trialState_2 : decode cX3_trialState 2 = .ok (.iadd, 1) := by decide +kernel
theorem dX3_trialState_3 : decode cX3_trialState 3 = .ok (.iconst 4, 1) := by decide +kernel
theorem dX3_trialState_4 : decode cX3_trialState 4 = .ok (.iload_n 1, 1) := by decide +kernel
theorem dX3_trialState_5 : decode cX3_trialState 5 = .ok (.imul, 1) := by decide +kernel
theorem dX3_trialState_6 : decode cX3_trialState 6 = .ok (.iadd, 1) := by decide +kernel
theorem dX3_trialState_7 : decode cX3_trialState 7 = .ok (.ireturn, 1) := by decide +kernel
set_option maxRecDepth 20000 in
theorem ggX3_writeRecord_X3_recordInForce : GoodIn wsX3_writeRecord wsX3_recordInForce := goodIn_r _ [5, 6, 7, 8, 4, 9, 10, 11, 12, 13, 14, 15, 16, 17, 18, 19, 20, 21, 22, 23, 39, 40, 41, 42] (by decide +kernel) (by decide +kernel)
set_option maxRecDepth 20000 in
theorem gX3_writeRecord_X3_recordInForce : GoodIn wsX3_writeRecord (wsV RX3 58 RX3 yX3_recordInForce wsX3_recordInForce) := goodIn_app (goodIn_of _ (by decide +kernel)) ggX3_writeRecord_X3_recordInForce
set_option maxRecDepth 20000 in
theorem ggX3_writeRecord_X3_recordWord : GoodIn wsX3_writeRecord wsX3_recordWord := goodIn_r _ [13, 14, 15, 16, 17, 18, 19, 20, 39, 40, 41, 42] (by decide +kernel) (by decide +kernel)
set_option maxRecDepth 20000 in
theorem gX3_writeRecord_X3_recordWord : GoodIn wsX3_writeRecord (wsV RX3 51 RX3 yX3_recordWord wsX3_recordWord) := goodIn_app (goodIn_of _ (by decide +kernel)) ggX3_writeRecord_X3_recordWord
set_option maxRecDepth 20000 in
theorem ggX3_writeRecord_X3_writeRecordWord : GoodIn wsX3_writeRecord wsX3_writeRecordWord := goodIn_r _ [27, 14, 28, 29, 30, 18, 31, 32, 33, 34, 16, 17, 19, 20, 35, 36, 37, 38, 39, 40, 41, 42] (by decide +kernel) (by decide +kernel)
set_option maxRecDepth 20000 in
theorem gX3_writeRecord_X3_writeRecordWord : GoodIn wsX3_writeRecord (wsV RX3 71 RX3 yX3_writeRecordWord wsX3_writeRecordWord) := goodIn_app (goodIn_of _ (by decide +kernel)) ggX3_writeRecord_X3_writeRecordWord
set_option maxRecDepth 20000 in
theorem ggX3_writeRecord_X3_checkOf : GoodIn wsX3_writeRecord wsX3_checkOf := goodIn_r _ [23] (by decide +kernel) (by decide +kernel)
set_option maxRecDepth 20000 in
theorem gX3_writeRecord_X3_checkOf : GoodIn wsX3_writeRecord (va_wsS RX3 26 yX3_checkOf wsX3_checkOf) := goodIn_app (goodIn_of _ (by decide +kernel)) ggX3_writeRecord_X3_checkOf
theorem dX3_writeRecord_0 : decode cX3_writeRecord 0 = .ok (.aload_n 0, 1) := by decide +kernel
theorem dX3_writeRecord_1 : decode cX3_writeRecord 1 = .ok (.invokevirtual 58, 3) := by decide +kernel
theorem dX3_writeRecord_4 : decode cX3_writeRecord 4 = .ok (.istore_n 3, 1) := by decide +kernel
theorem dX3_writeRecord_5 : decode cX3_writeRecord 5 = .ok (.iconst 1, 1) := by decide +kernel
theorem dX3_writeRecord_6 : decode cX3_writeRecord 6 = .ok (.iload_n 3, 1) := by decide +kernel
theorem dX3_writeRecord_7 : decode cX3_writeRecord 7 = .ok (.isub, 1) := by decide +kernel
theorem dX3_writeRecord_8 : decode cX3_writeRecord 8 = .ok (.istore 4, 2) := by decide +kernel
theorem dX3_writeRecord_10 : decode cX3_writeRecord 10 = .ok (.aload_n 0, 1) := by decide +kernel
theorem dX3_writeRecord_11 : decode cX3_writeRecord 11 = .ok (.iload_n 3, 1) := by decide +kernel
theorem dX3_writeRecord_12 : decode cX3_writeRecord 12 = .ok (.iconst 1, 1) := by decide +kernel
theorem dX3_writeRecord_13 : decode cX3_writeRecord 13 = .ok (.invokevirtual 51, 3) := by decide +kernel
theorem dX3_writeRecord_16 : decode cX3_writeRecord 16 = .ok (.iconst 1, 1) := by decide +kernel
theorem dX3_writeRecord_17 : decode cX3_writeRecord 17 = .ok (.iadd, 1) := by decide +kernel
theorem dX3_writeRecord_18 : decode cX3_writeRecord 18 = .ok (.istore 5, 2) := by decide +kernel
theorem dX3_writeRecord_20 : decode cX3_writeRecord 20 = .ok (.aload_n 0, 1) := by decide +kernel
theorem dX3_writeRecord_21 : decode cX3_writeRecord 21 = .ok (.iload 4, 2) := by decide +kernel
theorem dX3_writeRecord_23 : decode cX3_writeRecord 23 = .ok (.iconst 0, 1) := by decide +kernel
theorem dX3_writeRecord_24 : decode cX3_writeRecord 24 = .ok (.iconst 0, 1) := by decide +kernel
theorem dX3_writeRecord_25 : decode cX3_writeRecord 25 = .ok (.invokevirtual 71, 3) := by decide +kernel
theorem dX3_writeRecord_28 : decode cX3_writeRecord 28 = .ok (.ifCond .eq 58, 3) := by decide +kernel
theorem dX3_writeRecord_31 : decode cX3_writeRecord 31 = .ok (.aload_n 0, 1) := by decide +kernel
theorem dX3_writeRecord_32 : decode cX3_writeRecord 32 = .ok (.iload 4, 2) := by decide +kernel
theorem dX3_writeRecord_34 : decode cX3_writeRecord 34 = .ok (.iconst 1, 1) := by decide +kernel
theorem dX3_writeRecord_35 : decode cX3_writeRecord 35 = .ok (.iload 5, 2) := by decide +kernel
theorem dX3_writeRecord_37 : decode cX3_writeRecord 37 = .ok (.invokevirtual 71, 3) := by decide +kernel
theorem dX3_writeRecord_40 : decode cX3_writeRecord 40 = .ok (.ifCond .eq 46, 3) := by decide +kernel
theorem dX3_writeRecord_43 : decode cX3_writeRecord 43 = .ok (.aload_n 0, 1) := by decide +kernel
theorem dX3_writeRecord_44 : decode cX3_writeRecord 44 = .ok (.iload 4, 2) := by decide +kernel
theorem dX3_writeRecord_46 : decode cX3_writeRecord 46 = .ok (.iconst 2, 1) := by decide +kernel
theorem dX3_writeRecord_47 : decode cX3_writeRecord 47 = .ok (.iload_n 1, 1) := by decide +kernel
theorem dX3_writeRecord_48 : decode cX3_writeRecord 48 = .ok (.invokevirtual 71, 3) := by decide +kernel
theorem dX3_writeRecord_51 : decode cX3_writeRecord 51 = .ok (.ifCond .eq 35, 3) := by decide +kernel
theorem dX3_writeRecord_54 : decode cX3_writeRecord 54 = .ok (.aload_n 0, 1) := by decide +kernel
theorem dX3_writeRecord_55 : decode cX3_writeRecord 55 = .ok (.iload 4, 2) := by decide +kernel
theorem dX3_writeRecord_57 : decode cX3_writeRecord 57 = .ok (.iconst 3, 1) := by decide +kernel
theorem dX3_writeRecord_58 : decode cX3_writeRecord 58 = .ok (.iload_n 2, 1) := by decide +kernel
theorem dX3_writeRecord_59 : decode cX3_writeRecord 59 = .ok (.invokevirtual 71, 3) := by decide +kernel
theorem dX3_writeRecord_62 : decode cX3_writeRecord 62 = .ok (.ifCond .eq 24, 3) := by decide +kernel
theorem dX3_writeRecord_65 : decode cX3_writeRecord 65 = .ok (.aload_n 0, 1) := by decide +kernel
theorem dX3_writeRecord_66 : decode cX3_writeRecord 66 = .ok (.iload 4, 2) := by decide +kernel
theorem dX3_writeRecord_68 : decode cX3_writeRecord 68 = .ok (.iconst 0, 1) := by decide +kernel
theorem dX3_writeRecord_69 : decode cX3_writeRecord 69 = .ok (.iload 5, 2) := by decide +kernel
theorem dX3_writeRecord_71 : decode cX3_writeRecord 71 = .ok (.iload_n 1, 1) := by decide +kernel
theorem dX3_writeRecord_72 : decode cX3_writeRecord 72 = .ok (.iload_n 2, 1) := by decide +kernel
theorem dX3_writeRecord_73 : decode cX3_writeRecord 73 = .ok (.invokestatic 26, 3) := by decide +kernel
theorem dX3_writeRecord_76 : decode cX3_writeRecord 76 = .ok (.invokevirtual 71, 3) := by decide +kernel
theorem dX3_writeRecord_79 : decode cX3_writeRecord 79 = .ok (.ifCond .eq 7, 3) := by decide +kernel
theorem dX3_writeRecord_82 : decode cX3_writeRecord 82 = .ok (.iconst 1, 1) := by decide +kernel
theorem dX3_writeRecord_83 : decode cX3_writeRecord 83 = .ok (.goto 4, 3) := by decide +kernel
theorem dX3_writeRecord_86 : decode cX3_writeRecord 86 = .ok (.iconst 0, 1) := by decide +kernel
theorem dX3_writeRecord_87 : decode cX3_writeRecord 87 = .ok (.ireturn, 1) := by decide +kernel
set_option maxRecDepth 20000 in
theorem ggX3_slotToStart_X3_recordInForce : GoodIn wsX3_slotToStart wsX3_recordInForce := goodIn_r _ [5, 6, 7, 8, 4, 9, 10, 11, 12, 13, 14, 15, 16, 17, 18, 19, 20, 21, 22, 23, 53, 54, 55, 56] (by decide +kernel) (by decide +kernel)
set_option maxRecDepth 20000 in
theorem gX3_slotToStart_X3_recordInForce : GoodIn wsX3_slotToStart (wsV RX3 58 RX3 yX3_recordInForce wsX3_recordInForce) := goodIn_app (goodIn_of _ (by decide +kernel)) ggX3_slotToStart_X3_recordInForce
set_option maxRecDepth 20000 in
theorem ggX3_slotToStart_X3_recordWord : GoodIn wsX3_slotToStart wsX3_recordWord := goodIn_r _ [13, 14, 15, 16, 17, 18, 19, 20, 53, 54, 55, 56] (by decide +kernel) (by decide +kernel)
set_option maxRecDepth 20000 in
theorem gX3_slotToStart_X3_recordWord : GoodIn wsX3_slotToStart (wsV RX3 51 RX3 yX3_recordWord wsX3_recordWord) := goodIn_app (goodIn_of _ (by decide +kernel)) ggX3_slotToStart_X3_recordWord
set_option maxRecDepth 20000 in
theorem ggX3_slotToStart_X3_confirmedIn : GoodIn wsX3_slotToStart wsX3_confirmedIn := goodIn_r _ [26] (by decide +kernel) (by decide +kernel)
set_option maxRecDepth 20000 in
theorem gX3_slotToStart_X3_confirmedIn : GoodIn wsX3_slotToStart (va_wsS RX3 62 yX3_confirmedIn wsX3_confirmedIn) := goodIn_app (goodIn_of _ (by decide +kernel)) ggX3_slotToStart_X3_confirmedIn
set_option maxRecDepth 20000 in
theorem ggX3_slotToStart_X3_triesIn : GoodIn wsX3_slotToStart wsX3_triesIn := goodIn_r _ [29, 30, 31, 4, 32] (by decide +kernel) (by decide +kernel)
set_option maxRecDepth 20000 in
theorem gX3_slotToStart_X3_triesIn : GoodIn wsX3_slotToStart (va_wsS RX3 68 yX3_triesIn wsX3_triesIn) := goodIn_app (goodIn_of _ (by decide +kernel)) ggX3_slotToStart_X3_triesIn
set_option maxRecDepth 20000 in
theorem ggX3_slotToStart_X3_canStart : GoodIn wsX3_slotToStart wsX3_canStart := goodIn_r _ [36, 37, 38, 39, 4, 40, 14, 15, 16, 17, 18, 19, 20, 41, 42, 43, 44, 45, 46, 47, 48, 49, 50, 51, 52, 53, 54, 55, 56] (by decide +kernel) (by decide +kernel)
set_option maxRecDepth 20000 in
theorem gX3_slotToStart_X3_canStart : GoodIn wsX3_slotToStart (wsV RX3 75 RX3 yX3_canStart wsX3_canStart) := goodIn_app (goodIn_of _ (by decide +kernel)) ggX3_slotToStart_X3_canStart
set_option maxRecDepth 20000 in
theorem ggX3_slotToStart_X3_slotWord : GoodIn wsX3_slotToStart wsX3_slotWord := goodIn_r _ [40, 14, 15, 16, 17, 18, 19, 20, 53, 54, 55, 56] (by decide +kernel) (by decide +kernel)
set_option maxRecDepth 20000 in
theorem gX3_slotToStart_X3_slotWord : GoodIn wsX3_slotToStart (wsV RX3 48 RX3 yX3_slotWord wsX3_slotWord) := goodIn_app (goodIn_of _ (by decide +kernel)) ggX3_slotToStart_X3_slotWord
theorem dX3_slotToStart_0 : decode cX3_slotToStart 0 = .ok (.aload_n 0, 1) := by decide +kernel
theorem dX3_slotToStart_1 : decode cX3_slotToStart 1 = .ok (.invokevirtual 58, 3) := by decide +kernel
theorem dX3_slotToStart_4 : decode cX3_slotToStart 4 = .ok (.istore_n 1, 1) := by decide +kernel
theorem dX3_slotToStart_5 : decode cX3_slotToStart 5 = .ok (.aload_n 0, 1) := by decide +kernel
theorem dX3_slotToStart_6 : decode cX3_slotToStart 6 = .ok (.iload_n 1, 1) := by decide +kernel
theorem dX3_slotToStart_7 : decode cX3_slotToStart 7 = .ok (.iconst 2, 1) := by decide +kernel
theorem dX3_slotToStart_8 : decode cX3_slotToStart 8 = .ok (.invokevirtual 51, 3) := by decide +kernel
theorem dX3_slotToStart_11 : decode cX3_slotToStart 11 = .ok (.istore_n 2, 1) := by decide +kernel
theorem dX3_slotToStart_12 : decode cX3_slotToStart 12 = .ok (.iload_n 2, 1) := by decide +kernel
theorem dX3_slotToStart_13 : decode cX3_slotToStart 13 = .ok (.invokestatic 62, 3) := by decide +kernel
theorem dX3_slotToStart_16 : decode cX3_slotToStart 16 = .ok (.istore_n 3, 1) := by decide +kernel
theorem dX3_slotToStart_17 : decode cX3_slotToStart 17 = .ok (.iconst 1, 1) := by decide +kernel
theorem dX3_slotToStart_18 : decode cX3_slotToStart 18 = .ok (.iload_n 3, 1) := by decide +kernel
theorem dX3_slotToStart_19 : decode cX3_slotToStart 19 = .ok (.isub, 1) := by decide +kernel
theorem dX3_slotToStart_20 : decode cX3_slotToStart 20 = .ok (.istore 4, 2) := by decide +kernel
theorem dX3_slotToStart_22 : decode cX3_slotToStart 22 = .ok (.iload_n 2, 1) := by decide +kernel
theorem dX3_slotToStart_23 : decode cX3_slotToStart 23 = .ok (.invokestatic 68, 3) := by decide +kernel
theorem dX3_slotToStart_26 : decode cX3_slotToStart 26 = .ok (.ifCond .le 32, 3) := by decide +kernel
theorem dX3_slotToStart_29 : decode cX3_slotToStart 29 = .ok (.aload_n 0, 1) := by decide +kernel
theorem dX3_slotToStart_30 : decode cX3_slotToStart 30 = .ok (.iload 4, 2) := by decide +kernel
theorem dX3_slotToStart_32 : decode cX3_slotToStart 32 = .ok (.invokevirtual 75, 3) := by decide +kernel
theorem dX3_slotToStart_35 : decode cX3_slotToStart 35 = .ok (.ifCond .eq 23, 3) := by decide +kernel
theorem dX3_slotToStart_38 : decode cX3_slotToStart 38 = .ok (.aload_n 0, 1) := by decide +kernel
theorem dX3_slotToStart_39 : decode cX3_slotToStart 39 = .ok (.iload 4, 2) := by decide +kernel
theorem dX3_slotToStart_41 : decode cX3_slotToStart 41 = .ok (.iconst 4, 1) := by decide +kernel
theorem dX3_slotToStart_42 : decode cX3_slotToStart 42 = .ok (.invokevirtual 48, 3) := by decide +kernel
theorem dX3_slotToStart_45 : decode cX3_slotToStart 45 = .ok (.aload_n 0, 1) := by decide +kernel
theorem dX3_slotToStart_46 : decode cX3_slotToStart 46 = .ok (.iload_n 1, 1) := by decide +kernel
theorem dX3_slotToStart_47 : decode cX3_slotToStart 47 = .ok (.iconst 3, 1) := by decide +kernel
theorem dX3_slotToStart_48 : decode cX3_slotToStart 48 = .ok (.invokevirtual 51, 3) := by decide +kernel
theorem dX3_slotToStart_51 : decode cX3_slotToStart 51 = .ok (.if_icmp .lt 7, 3) := by decide +kernel
theorem dX3_slotToStart_54 : decode cX3_slotToStart 54 = .ok (.iconst 1, 1) := by decide +kernel
theorem dX3_slotToStart_55 : decode cX3_slotToStart 55 = .ok (.goto 4, 3) := by decide +kernel
theorem dX3_slotToStart_58 : decode cX3_slotToStart 58 = .ok (.iconst 0, 1) := by decide +kernel
theorem dX3_slotToStart_59 : decode cX3_slotToStart 59 = .ok (.istore 5, 2) := by decide +kernel
theorem dX3_slotToStart_61 : decode cX3_slotToStart 61 = .ok (.iload 5, 2) := by decide +kernel
theorem dX3_slotToStart_63 : decode cX3_slotToStart 63 = .ok (.ifCond .eq 8, 3) := by decide +kernel
theorem dX3_slotToStart_66 : decode cX3_slotToStart 66 = .ok (.iload 4, 2) := by decide +kernel
theorem dX3_slotToStart_68 : decode cX3_slotToStart 68 = .ok (.goto 4, 3) := by decide +kernel
theorem dX3_slotToStart_71 : decode cX3_slotToStart 71 = .ok (.iload_n 3, 1) := by decide +kernel
theorem dX3_slotToStart_72 : decode cX3_slotToStart 72 = .ok (.ireturn, 1) := by decide +kernel
set_option maxRecDepth 20000 in
theorem ggX3_start_X3_slotToStart : GoodIn wsX3_start wsX3_slotToStart := goodIn_r _ [5, 6, 7, 8, 4, 9, 10, 11, 12, 13, 14, 15, 16, 17, 18, 19, 20, 21, 22, 23, 24, 25, 26, 27, 28, 29, 30, 31, 32, 33, 34, 35, 36, 37, 38, 39, 40, 41, 42, 43, 44, 45, 46, 47, 48, 49, 50, 51, 52, 53, 54, 55, 56, 98, 99, 100, 101] (by decide +kernel) (by decide +kernel)
set_option maxRecDepth 20000 in
theorem gX3_start_X3_slotToStart : GoodIn wsX3_start (wsV RX3 78 RX3 yX3_slotToStart wsX3_slotToStart) := goodIn_app (goodIn_of _ (by decide +kernel)) ggX3_start_X3_slotToStart
set_option maxRecDepth 20000 in
theorem ggX3_start_X3_isTrialDue : GoodIn wsX3_start wsX3_isTrialDue := goodIn_r _ [60, 6, 7, 8, 4, 9, 10, 11, 12, 13, 14, 15, 16, 17, 18, 19, 20, 21, 22, 23, 24, 25, 26, 27, 34, 35, 36, 98, 99, 100, 101] (by decide +kernel) (by decide +kernel)
set_option maxRecDepth 20000 in
theorem gX3_start_X3_isTrialDue : GoodIn wsX3_start (wsV RX3 81 RX3 yX3_isTrialDue wsX3_isTrialDue) := goodIn_app (goodIn_of _ (by decide +kernel)) ggX3_start_X3_isTrialDue
set_option maxRecDepth 20000 in
theorem ggX3_start_X3_confirmedSlot : GoodIn wsX3_start wsX3_confirmedSlot := goodIn_r _ [64, 6, 7, 8, 4, 9, 10, 11, 12, 13, 14, 15, 16, 17, 18, 19, 20, 21, 22, 23, 24, 25, 26, 27, 28, 29, 30, 98, 99, 100, 101] (by decide +kernel) (by decide +kernel)
set_option maxRecDepth 20000 in
theorem gX3_start_X3_confirmedSlot : GoodIn wsX3_start (wsV RX3 85 RX3 yX3_confirmedSlot wsX3_confirmedSlot) := goodIn_app (goodIn_of _ (by decide +kernel)) ggX3_start_X3_confirmedSlot
set_option maxRecDepth 20000 in
theorem ggX3_start_X3_settledState : GoodIn wsX3_start wsX3_settledState := goodIn_r _ [67] (by decide +kernel) (by decide +kernel)
set_option maxRecDepth 20000 in
theorem gX3_start_X3_settledState : GoodIn wsX3_start (va_wsS RX3 88 yX3_settledState wsX3_settledState) := goodIn_app (goodIn_of _ (by decide +kernel)) ggX3_start_X3_settledState
set_option maxRecDepth 20000 in
theorem ggX3_start_X3_triesLeft : GoodIn wsX3_start wsX3_triesLeft := goodIn_r _ [71, 6, 7, 8, 4, 9, 10, 11, 12, 13, 14, 15, 16, 17, 18, 19, 20, 21, 22, 23, 24, 25, 26, 27, 31, 32, 33, 34, 35, 36, 98, 99, 100, 101] (by decide +kernel) (by decide +kernel)
set_option maxRecDepth 20000 in
theorem gX3_start_X3_triesLeft : GoodIn wsX3_start (wsV RX3 91 RX3 yX3_triesLeft wsX3_triesLeft) := goodIn_app (goodIn_of _ (by decide +kernel)) ggX3_start_X3_triesLeft
set_option maxRecDepth 20000 in
theorem ggX3_start_X3_trialState : GoodIn wsX3_start wsX3_trialState := goodIn_r _ [74] (by decide +kernel) (by decide +kernel)
set_option maxRecDepth 20000 in
theorem gX3_start_X3_trialState : GoodIn wsX3_start (va_wsS RX3 94 yX3_trialState wsX3_trialState) := goodIn_app (goodIn_of _ (by decide +kernel)) ggX3_start_X3_trialState
set_option maxRecDepth 20000 in
theorem ggX3_start_X3_recordCounter : GoodIn wsX3_start wsX3_recordCounter := goodIn_r _ [78, 6, 7, 8, 4, 9, 10, 11, 12, 13, 14, 15, 16, 17, 18, 19, 20, 21, 22, 23, 24, 25, 26, 27, 98, 99, 100, 101] (by decide +kernel) (by decide +kernel)
set_option maxRecDepth 20000 in
theorem gX3_start_X3_recordCounter : GoodIn wsX3_start (wsV RX3 97 RX3 yX3_recordCounter wsX3_recordCounter) := goodIn_app (goodIn_of _ (by decide +kernel)) ggX3_start_X3_recordCounter
set_option maxRecDepth 20000 in
theorem ggX3_start_X3_writeRecord : GoodIn wsX3_start wsX3_writeRecord := goodIn_r _ [82, 6, 7, 8, 4, 9, 10, 11, 12, 13, 14, 15, 16, 17, 18, 19, 20, 21, 22, 23, 24, 25, 26, 27, 83, 84, 85, 86, 87, 88, 89, 90, 91, 92, 93, 94, 95, 96, 97, 98, 99, 100, 101] (by decide +kernel) (by decide +kernel)
set_option maxRecDepth 20000 in
theorem gX3_start_X3_writeRecord : GoodIn wsX3_start (wsV RX3 100 RX3 yX3_writeRecord wsX3_writeRecord) := goodIn_app (goodIn_of _ (by decide +kernel)) ggX3_start_X3_writeRecord
theorem dX3_start_0 : decode cX3_start 0 = .ok (.aload_n 0, 1) := by decide +kernel
theorem dX3_start_1 : decode cX3_start 1 = .ok (.invokevirtual 78, 3) := by decide +kernel
theorem dX3_start_4 : decode cX3_start 4 = .ok (.istore_n 1, 1) := by decide +kernel
theorem dX3_start_5 : decode cX3_start 5 = .ok (.aload_n 0, 1) := by decide +kernel
theorem dX3_start_6 : decode cX3_start 6 = .ok (.invokevirtual 81, 3) := by decide +kernel
theorem dX3_start_9 : decode cX3_start 9 = .ok (.ifCond .ne 5, 3) := by decide +kernel
theorem dX3_start_12 : decode cX3_start 12 = .ok (.iload_n 1, 1) := by decide +kernel
theorem dX3_start_13 : decode cX3_start 13 = .ok (.ireturn, 1) := by decide +kernel
theorem dX3_start_14 : decode cX3_start 14 = .ok (.aload_n 0, 1) := by decide +kernel
theorem dX3_start_15 : decode cX3_start 15 = .ok (.invokevirtual 85, 3) := by decide +kernel
theorem dX3_start_18 : decode cX3_start 18 = .ok (.istore_n 2, 1) := by decide +kernel
theorem dX3_start_19 : decode cX3_start 19 = .ok (.iload_n 1, 1) := by decide +kernel
theorem dX3_start_20 : decode cX3_start 20 = .ok (.iload_n 2, 1) := by decide +kernel
theorem dX3_start_21 : decode cX3_start 21 = .ok (.if_icmp .ne 10, 3) := by decide +kernel
theorem dX3_start_24 : decode cX3_start 24 = .ok (.iload_n 2, 1) := by decide +kernel
theorem dX3_start_25 : decode cX3_start 25 = .ok (.invokestatic 88, 3) := by decide +kernel
theorem dX3_start_28 : decode cX3_start 28 = .ok (.goto 13, 3) := by decide +kernel
theorem dX3_start_31 : decode cX3_start 31 = .ok (.iload_n 2, 1) := by decide +kernel
theorem dX3_start_32 : decode cX3_start 32 = .ok (.aload_n 0, 1) := by decide +kernel
theorem dX3_start_33 : decode cX3_start 33 = .ok (.invokevirtual 91, 3) := by decide +kernel
theorem dX3_start_36 : decode cX3_start 36 = .ok (.iconst 1, 1) := by decide +kernel
theorem dX3_start_37 : decode cX3_start 37 = .ok (.isub, 1) := by decide +kernel
theorem dX3_start_38 : decode cX3_start 38 = .ok (.invokestatic 94, 3) := by decide +kernel
theorem dX3_start_41 : decode cX3_start 41 = .ok (.istore_n 3, 1) := by decide +kernel
theorem dX3_start_42 : decode cX3_start 42 = .ok (.aload_n 0, 1) := by decide +kernel
theorem dX3_start_43 : decode cX3_start 43 = .ok (.iload_n 3, 1) := by decide +kernel
theorem dX3_start_44 : decode cX3_start 44 = .ok (.aload_n 0, 1) := by decide +kernel
theorem dX3_start_45 : decode cX3_start 45 = .ok (.invokevirtual 97, 3) := by decide +kernel
theorem dX3_start_48 : decode cX3_start 48 = .ok (.invokevirtual 100, 3) := by decide +kernel
theorem dX3_start_51 : decode cX3_start 51 = .ok (.ifCond .eq 7, 3) := by decide +kernel
theorem dX3_start_54 : decode cX3_start 54 = .ok (.iload_n 1, 1) := by decide +kernel
theorem dX3_start_55 : decode cX3_start 55 = .ok (.goto 4, 3) := by decide +kernel
theorem dX3_start_58 : decode cX3_start 58 = .ok (.iconst (-1), 1) := by decide +kernel
theorem dX3_start_59 : decode cX3_start 59 = .ok (.ireturn, 1) := by decide +kernel
set_option maxRecDepth 20000 in
theorem ggX3_writeUpdate_X3_writeSlotWord : GoodIn wsX3_writeUpdate wsX3_writeSlotWord := goodIn_r _ [9, 10, 11, 12, 13, 14, 15, 16, 17, 18, 19, 20, 21, 22, 23, 24, 25, 26, 71, 72, 73, 74] (by decide +kernel) (by decide +kernel)
set_option maxRecDepth 20000 in
theorem gX3_writeUpdate_X3_writeSlotWord : GoodIn wsX3_writeUpdate (wsV RX3 109 RX3 yX3_writeSlotWord wsX3_writeSlotWord) := goodIn_app (goodIn_of _ (by decide +kernel)) ggX3_writeUpdate_X3_writeSlotWord
set_option maxRecDepth 20000 in
theorem ggX3_writeUpdate_X3_confirmedSlot : GoodIn wsX3_writeUpdate wsX3_confirmedSlot := goodIn_r _ [30, 31, 32, 33, 8, 34, 35, 36, 37, 38, 39, 40, 41, 42, 10, 43, 19, 20, 14, 21, 22, 44, 45, 46, 47, 48, 49, 71, 72, 73, 74] (by decide +kernel) (by decide +kernel)
set_option maxRecDepth 20000 in
theorem gX3_writeUpdate_X3_confirmedSlot : GoodIn wsX3_writeUpdate (wsV RX3 85 RX3 yX3_confirmedSlot wsX3_confirmedSlot) := goodIn_app (goodIn_of _ (by decide +kernel)) ggX3_writeUpdate_X3_confirmedSlot
set_option maxRecDepth 20000 in
theorem ggX3_writeUpdate_X3_trialState : GoodIn wsX3_writeUpdate wsX3_trialState := goodIn_r _ [52] (by decide +kernel) (by decide +kernel)
set_option maxRecDepth 20000 in
theorem gX3_writeUpdate_X3_trialState : GoodIn wsX3_writeUpdate (va_wsS RX3 94 yX3_trialState wsX3_trialState) := goodIn_app (goodIn_of _ (by decide +kernel)) ggX3_writeUpdate_X3_trialState
set_option maxRecDepth 20000 in
theorem ggX3_writeUpdate_X3_recordCounter : GoodIn wsX3_writeUpdate wsX3_recordCounter := goodIn_r _ [56, 31, 32, 33, 8, 34, 35, 36, 37, 38, 39, 40, 41, 42, 10, 43, 19, 20, 14, 21, 22, 44, 45, 46, 71, 72, 73, 74] (by decide +kernel) (by decide +kernel)
set_option maxRecDepth 20000 in
theorem gX3_writeUpdate_X3_recordCounter : GoodIn wsX3_writeUpdate (wsV RX3 97 RX3 yX3_recordCounter wsX3_recordCounter) := goodIn_app (goodIn_of _ (by decide +kernel)) ggX3_writeUpdate_X3_recordCounter
set_option maxRecDepth 20000 in
theorem ggX3_writeUpdate_X3_writeRecord : GoodIn wsX3_writeUpdate wsX3_writeRecord := goodIn_r _ [60, 31, 32, 33, 8, 34, 35, 36, 37, 38, 39, 40, 41, 42, 10, 43, 19, 20, 14, 21, 22, 44, 45, 46, 61, 62, 63, 64, 11, 12, 13, 15, 16, 17, 18, 23, 24, 25, 26, 71, 72, 73, 74] (by decide +kernel) (by decide +kernel)
set_option maxRecDepth 20000 in
theorem gX3_writeUpdate_X3_writeRecord : GoodIn wsX3_writeUpdate (wsV RX3 100 RX3 yX3_writeRecord wsX3_writeRecord) := goodIn_app (goodIn_of _ (by decide +kernel)) ggX3_writeUpdate_X3_writeRecord
theorem dX3_writeUpdate_0 : decode cX3_writeUpdate 0 = .ok (.aload_n 0, 1) := by decide +kernel
theorem dX3_writeUpdate_1 : decode cX3_writeUpdate 1 = .ok (.iload_n 1, 1) := by decide +kernel
theorem dX3_writeUpdate_2 : decode cX3_writeUpdate 2 = .ok (.iconst 1, 1) := by decide +kernel
theorem dX3_writeUpdate_3 : decode cX3_writeUpdate 3 = .ok (.aload_n 2, 1) := by decide +kernel
theorem dX3_writeUpdate_4 : decode cX3_writeUpdate 4 = .ok (.getfield 103, 3) := by decide +kernel
theorem dX3_writeUpdate_7 : decode cX3_writeUpdate 7 = .ok (.invokevirtual 109, 3) := by decide +kernel
theorem dX3_writeUpdate_10 : decode cX3_writeUpdate 10 = .ok (.ifCond .eq 75, 3) := by decide +kernel
theorem dX3_writeUpdate_13 : decode cX3_writeUpdate 13 = .ok (.aload_n 0, 1) := by decide +kernel
theorem dX3_writeUpdate_14 : decode cX3_writeUpdate 14 = .ok (.iload_n 1, 1) := by decide +kernel
theorem dX3_writeUpdate_15 : decode cX3_writeUpdate 15 = .ok (.iconst 2, 1) := by decide +kernel
theorem dX3_writeUpdate_16 : decode cX3_writeUpdate 16 = .ok (.aload_n 2, 1) := by decide +kernel
theorem dX3_writeUpdate_17 : decode cX3_writeUpdate 17 = .ok (.getfield 112, 3) := by decide +kernel
theorem dX3_writeUpdate_20 : decode cX3_writeUpdate 20 = .ok (.invokevirtual 109, 3) := by decide +kernel
theorem dX3_writeUpdate_23 : decode cX3_writeUpdate 23 = .ok (.ifCond .eq 62, 3) := by decide +kernel
theorem dX3_writeUpdate_26 : decode cX3_writeUpdate 26 = .ok (.aload_n 0, 1) := by decide +kernel
theorem dX3_writeUpdate_27 : decode cX3_writeUpdate 27 = .ok (.iload_n 1, 1) := by decide +kernel
theorem dX3_writeUpdate_28 : decode cX3_writeUpdate 28 = .ok (.iconst 3, 1) := by decide +kernel
theorem dX3_writeUpdate_29 : decode cX3_writeUpdate 29 = .ok (.aload_n 2, 1) := by decide +kernel
theorem dX3_writeUpdate_30 : decode cX3_writeUpdate 30 = .ok (.getfield 115, 3) := by decide +kernel
theorem dX3_writeUpdate_33 : decode cX3_writeUpdate 33 = .ok (.invokevirtual 109, 3) := by decide +kernel
theorem dX3_writeUpdate_36 : decode cX3_writeUpdate 36 = .ok (.ifCond .eq 49, 3) := by decide +kernel
theorem dX3_writeUpdate_39 : decode cX3_writeUpdate 39 = .ok (.aload_n 0, 1) := by decide +kernel
theorem dX3_writeUpdate_40 : decode cX3_writeUpdate 40 = .ok (.iload_n 1, 1) := by decide +kernel
theorem dX3_writeUpdate_41 : decode cX3_writeUpdate 41 = .ok (.iconst 4, 1) := by decide +kernel
theorem dX3_writeUpdate_42 : decode cX3_writeUpdate 42 = .ok (.aload_n 2, 1) := by decide +kernel
theorem dX3_writeUpdate_43 : decode cX3_writeUpdate 43 = .ok (.getfield 118, 3) := by decide +kernel
theorem dX3_writeUpdate_46 : decode cX3_writeUpdate 46 = .ok (.invokevirtual 109, 3) := by decide +kernel
theorem dX3_writeUpdate_49 : decode cX3_writeUpdate 49 = .ok (.ifCond .eq 36, 3) := by decide +kernel
theorem dX3_writeUpdate_52 : decode cX3_writeUpdate 52 = .ok (.aload_n 0, 1) := by decide +kernel
theorem dX3_writeUpdate_53 : decode cX3_writeUpdate 53 = .ok (.iload_n 1, 1) := by decide +kernel
theorem dX3_writeUpdate_54 : decode cX3_writeUpdate 54 = .ok (.iconst 0, 1) := by decide +kernel
theorem dX3_writeUpdate_55 : decode cX3_writeUpdate 55 = .ok (.iconst 1, 1) := by decide +kernel
theorem dX3_writeUpdate_56 : decode cX3_writeUpdate 56 = .ok (.invokevirtual 109, 3) := by decide +kernel
theorem dX3_writeUpdate_59 : decode cX3_writeUpdate 59 = .ok (.ifCond .eq 26, 3) := by decide +kernel
theorem dX3_writeUpdate_62 : decode cX3_writeUpdate 62 = .ok (.aload_n 0, 1) := by decide +kernel
theorem dX3_writeUpdate_63 : decode cX3_writeUpdate 63 = .ok (.aload_n 0, 1) := by decide +kernel
theorem dX3_writeUpdate_64 : decode cX3_writeUpdate 64 = .ok (.invokevirtual 85, 3) := by decide +kernel
theorem dX3_writeUpdate_67 : decode cX3_writeUpdate 67 = .ok (.iload_n 3, 1) := by decide +kernel
theorem dX3_writeUpdate_68 : decode cX3_writeUpdate 68 = .ok (.invokestatic 94, 3) := by decide +kernel
theorem dX3_writeUpdate_71 : decode cX3_writeUpdate 71 = .ok (.aload_n 0, 1) := by decide +kernel
theorem dX3_writeUpdate_72 : decode cX3_writeUpdate 72 = .ok (.invokevirtual 97, 3) := by decide +kernel
theorem dX3_writeUpdate_75 : decode cX3_writeUpdate 75 = .ok (.invokevirtual 100, 3) := by decide +kernel
theorem dX3_writeUpdate_78 : decode cX3_writeUpdate 78 = .ok (.ifCond .eq 7, 3) := by decide +kernel
theorem dX3_writeUpdate_81 : decode cX3_writeUpdate 81 = .ok (.iconst 1, 1) := by decide +kernel
theorem dX3_writeUpdate_82 : decode cX3_writeUpdate 82 = .ok (.goto 4, 3) := by decide +kernel
theorem dX3_writeUpdate_85 : decode cX3_writeUpdate 85 = .ok (.iconst 0, 1) := by decide +kernel
theorem dX3_writeUpdate_86 : decode cX3_writeUpdate 86 = .ok (.ireturn, 1) := by decide +kernel
theorem dX4_init_0 : decode cX4_init 0 = .ok (.aload_n 0, 1) := by decide +kernel
theorem dX4_init_1 : decode cX4_init 1 = .ok (.invokespecial 3, 3) := by decide +kernel
theorem dX4_init_4 : decode cX4_init 4 = .ok (.aload_n 0, 1) := by decide +kernel
theorem dX4_init_5 : decode cX4_init 5 = .ok (.iconst 0, 1) := by decide +kernel
theorem dX4_init_6 : decode cX4_init 6 = .ok (.putfield 9, 3) := by decide +kernel
theorem dX4_init_9 : decode cX4_init 9 = .ok (.aload_n 0, 1) := by decide +kernel
theorem dX4_init_10 : decode cX4_init 10 = .ok (.iconst 0, 1) := by decide +kernel
theorem dX4_init_11 : decode cX4_init 11 = .ok (.putfield 15, 3) := by decide +kernel
theorem dX4_init_14 : decode cX4_init 14 = .ok (.aload_n 0, 1) := by decide +kernel
theorem dX4_init_15 : decode cX4_init 15 = .ok (.iconst 0, 1) := by decide +kernel
theorem dX4_init_16 : decode cX4_init 16 = .ok (.putfield 18, 3) := by decide +kernel
theorem dX4_init_19 : decode cX4_init 19 = .ok (.aload_n 0, 1) := by decide +kernel
theorem dX4_init_20 : decode cX4_init 20 = .ok (.iconst 0, 1) := by decide +kernel
theorem dX4_init_21 : decode cX4_init 21 = .ok (.putfield 21, 3) := by decide +kernel
theorem dX4_init_24 : decode cX4_init 24 = .ok (.aload_n 0, 1) := by decide +kernel
theorem dX4_init_25 : decode cX4_init 25 = .ok (.iconst 0, 1) := by decide +kernel
theorem dX4_init_26 : decode cX4_init 26 = .ok (.putfield 24, 3) := by decide +kernel
theorem dX4_init_29 : decode cX4_init 29 = .ok (.aload_n 0, 1) := by decide +kernel
theorem dX4_init_30 : decode cX4_init 30 = .ok (.iconst 0, 1) := by decide +kernel
theorem dX4_init_31 : decode cX4_init 31 = .ok (.putfield 27, 3) := by decide +kernel
theorem dX4_init_34 : decode cX4_init 34 = .ok (.return_, 1) := by decide +kernel
theorem dX4_begin_0 : decode cX4_begin 0 = .ok (.aload_n 0, 1) := by decide +kernel
theorem dX4_begin_1 : decode cX4_begin 1 = .ok (.iload_n 1, 1) := by decide +kernel
theorem dX4_begin_2 : decode cX4_begin 2 = .ok (.putfield 9, 3) := by decide +kernel
theorem dX4_begin_5 : decode cX4_begin 5 = .ok (.aload_n 0, 1) := by decide +kernel
theorem dX4_begin_6 : decode cX4_begin 6 = .ok (.iload_n 2, 1) := by decide +kernel
theorem dX4_begin_7 : decode cX4_begin 7 = .ok (.putfield 15, 3) := by decide +kernel
theorem dX4_begin_10 : decode cX4_begin 10 = .ok (.aload_n 0, 1) := by decide +kernel
theorem dX4_begin_11 : decode cX4_begin 11 = .ok (.iload_n 3, 1) := by decide +kernel
theorem dX4_begin_12 : decode cX4_begin 12 = .ok (.putfield 18, 3) := by decide +kernel
theorem dX4_begin_15 : decode cX4_begin 15 = .ok (.aload_n 0, 1) := by decide +kernel
theorem dX4_begin_16 : decode cX4_begin 16 = .ok (.iload 4, 2) := by decide +kernel
theorem dX4_begin_18 : decode cX4_begin 18 = .ok (.putfield 21, 3) := by decide +kernel
theorem dX4_begin_21 : decode cX4_begin 21 = .ok (.aload_n 0, 1) := by decide +kernel
theorem dX4_begin_22 : decode cX4_begin 22 = .ok (.iconst 0, 1) := by decide +kernel
theorem dX4_begin_23 : decode cX4_begin 23 = .ok (.putfield 24, 3) := by decide +kernel
theorem dX4_begin_26 : decode cX4_begin 26 = .ok (.aload_n 0, 1) := by decide +kernel
theorem dX4_begin_27 : decode cX4_begin 27 = .ok (.iconst 1, 1) := by decide +kernel
theorem dX4_begin_28 : decode cX4_begin 28 = .ok (.putfield 27, 3) := by decide +kernel
theorem dX4_begin_31 : decode cX4_begin 31 = .ok (.return_, 1) := by decide +kernel
theorem dX4_end_0 : decode cX4_end 0 = .ok (.aload_n 0, 1) := by decide +kernel
theorem dX4_end_1 : decode cX4_end 1 = .ok (.iconst 0, 1) := by decide +kernel
theorem dX4_end_2 : decode cX4_end 2 = .ok (.putfield 27, 3) := by decide +kernel
theorem dX4_end_5 : decode cX4_end 5 = .ok (.return_, 1) := by decide +kernel
theorem dX4_bytesToCome_0 : decode cX4_bytesToCome 0 = .ok (.aload_n 0, 1) := by decide +kernel
theorem dX4_bytesToCome_1 : decode cX4_bytesToCome 1 = .ok (.getfield 27, 3) := by decide +kernel
theorem dX4_bytesToCome_4 : decode cX4_bytesToCome 4 = .ok (.ifCond .eq 15, 3) := by decide +kernel
theorem dX4_bytesToCome_7 : decode cX4_bytesToCome 7 = .ok (.aload_n 0, 1) := by decide +kernel
theorem dX4_bytesToCome_8 : decode cX4_bytesToCome 8 = .ok (.getfield 15, 3) := by decide +kernel
theorem dX4_bytesToCome_11 : decode cX4_bytesToCome 11 = .ok (.aload_n 0, 1) := by decide +kernel
theorem dX4_bytesToCome_12 : decode cX4_bytesToCome 12 = .ok (.getfield 24, 3) := by decide +kernel
theorem dX4_bytesToCome_15 : decode cX4_bytesToCome 15 = .ok (.isub, 1) := by decide +kernel
theorem dX4_bytesToCome_16 : decode cX4_bytesToCome 16 = .ok (.goto 4, 3) := by decide +kernel
theorem dX4_bytesToCome_19 : decode cX4_bytesToCome 19 = .ok (.iconst (-1), 1) := by decide +kernel
theorem dX4_bytesToCome_20 : decode cX4_bytesToCome 20 = .ok (.ireturn, 1) := by decide +kernel
theorem dX4_nextPlace_0 : decode cX4_nextPlace 0 = .ok (.aload_n 0, 1) := by decide +kernel
theorem dX4_nextPlace_1 : decode cX4_nextPlace 1 = .ok (.getfield 24, 3) := by decide +kernel
theorem dX4_nextPlace_4 : decode cX4_nextPlace 4 = .ok (.istore_n 1, 1) := by decide +kernel
theorem dX4_nextPlace_5 : decode cX4_nextPlace 5 = .ok (.aload_n 0, 1) := by decide +kernel
theorem dX4_nextPlace_6 : decode cX4_nextPlace 6 = .ok (.dup, 1) := by decide +kernel
theorem dX4_nextPlace_7 : decode cX4_nextPlace 7 = .ok (.getfield 24, 3) := by decide +kernel
theorem dX4_nextPlace_10 : decode cX4_nextPlace 10 = .ok (.iconst 1, 1) := by decide +kernel
theorem dX4_nextPlace_11 : decode cX4_nextPlace 11 = .ok (.iadd, 1) := by decide +kernel
theorem dX4_nextPlace_12 : decode cX4_nextPlace 12 = .ok (.putfield 24, 3) := by decide +kernel
theorem dX4_nextPlace_15 : decode cX4_nextPlace 15 = .ok (.iload_n 1, 1) := by decide +kernel
theorem dX4_nextPlace_16 : decode cX4_nextPlace 16 = .ok (.ireturn, 1) := by decide +kernel

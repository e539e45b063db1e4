theorem dX0_init_0 : decode cX0_init 0 = .ok (.aload_n 0, 1) := by decide +kernel
theorem dX0_init_1 : decode cX0_init 1 = .ok (.invokespecial 3, 3) := by decide +kernel
theorem dX0_init_4 : decode cX0_init 4 = .ok (.aload_n 0, 1) := by decide +kernel
theorem dX0_init_5 : decode cX0_init 5 = .ok (.aload_n 1, 1) := by decide +kernel
theorem dX0_init_6 : decode cX0_init 6 = .ok (.putfield 9, 3) := by decide +kernel
theorem dX0_init_9 : decode cX0_init 9 = .ok (.aload_n 0, 1) := by decide +kernel
theorem dX0_init_10 : decode cX0_init 10 = .ok (.aload_n 2, 1) := by decide +kernel
theorem dX0_init_11 : decode cX0_init 11 = .ok (.putfield 15, 3) := by decide +kernel
theorem dX0_init_14 : decode cX0_init 14 = .ok (.return_, 1) := by decide +kernel
set_option maxRecDepth 20000 in
theorem ggX0_pieceCount_X0_pieceLength : GoodIn wsX0_pieceCount wsX0_pieceLength := goodIn_r _ [7, 8, 9, 10, 6, 11, 12, 13, 14, 15, 16, 17, 18, 19, 20, 21, 22, 23, 24, 25, 26, 27, 28, 1, 2, 29, 30, 31, 32, 33, 34, 35, 36, 37, 38, 39, 40, 41, 42, 43, 44, 47, 48, 49, 50, 45, 46] (by decide +kernel) (by decide +kernel)
set_option maxRecDepth 20000 in
theorem gX0_pieceCount_X0_pieceLength : GoodIn wsX0_pieceCount (wsV RX0 25 RX0 yX0_pieceLength wsX0_pieceLength) := goodIn_app (goodIn_of _ (by decide +kernel)) ggX0_pieceCount_X0_pieceLength
theorem dX0_pieceCount_0 : decode cX0_pieceCount 0 = .ok (.iconst 0, 1) := by decide +kernel
theorem dX0_pieceCount_1 : decode cX0_pieceCount 1 = .ok (.istore_n 2, 1) := by decide +kernel
theorem dX0_pieceCount_2 : decode cX0_pieceCount 2 = .ok (.iconst 0, 1) := by decide +kernel
theorem dX0_pieceCount_3 : decode cX0_pieceCount 3 = .ok (.istore_n 3, 1) := by decide +kernel
theorem dX0_pieceCount_4 : decode cX0_pieceCount 4 = .ok (.iload_n 2, 1) := by decide +kernel
theorem dX0_pieceCount_5 : decode cX0_pieceCount 5 = .ok (.bipush 24, 2) := by decide +kernel
theorem dX0_pieceCount_7 : decode cX0_pieceCount 7 = .ok (.if_icmp .ge 29, 3) := by decide +kernel
theorem dX0_pieceCount_10 : decode cX0_pieceCount 10 = .ok (.iload_n 3, 1) := by decide +kernel
theorem dX0_pieceCount_11 : decode cX0_pieceCount 11 = .ok (.aload_n 0, 1) := by decide +kernel
theorem dX0_pieceCount_12 : decode cX0_pieceCount 12 = .ok (.getfield 9, 3) := by decide +kernel
theorem dX0_pieceCount_15 : decode cX0_pieceCount 15 = .ok (.getfield 19, 3) := by decide +kernel
theorem dX0_pieceCount_18 : decode cX0_pieceCount 18 = .ok (.if_icmp .ge 18, 3) := by decide +kernel
theorem dX0_pieceCount_21 : decode cX0_pieceCount 21 = .ok (.iload_n 3, 1) := by decide +kernel
theorem dX0_pieceCount_22 : decode cX0_pieceCount 22 = .ok (.aload_n 0, 1) := by decide +kernel
theorem dX0_pieceCount_23 : decode cX0_pieceCount 23 = .ok (.iload_n 1, 1) := by decide +kernel
theorem dX0_pieceCount_24 : decode cX0_pieceCount 24 = .ok (.iload_n 3, 1) := by decide +kernel
theorem dX0_pieceCount_25 : decode cX0_pieceCount 25 = .ok (.invokevirtual 25, 3) := by decide +kernel
theorem dX0_pieceCount_28 : decode cX0_pieceCount 28 = .ok (.iadd, 1) := by decide +kernel
theorem dX0_pieceCount_29 : decode cX0_pieceCount 29 = .ok (.istore_n 3, 1) := by decide +kernel
theorem dX0_pieceCount_30 : decode cX0_pieceCount 30 = .ok (.iinc 2 1, 3) := by decide +kernel
theorem dX0_pieceCount_33 : decode cX0_pieceCount 33 = .ok (.goto (-29), 3) := by decide +kernel
theorem dX0_pieceCount_36 : decode cX0_pieceCount 36 = .ok (.iload_n 2, 1) := by decide +kernel
theorem dX0_pieceCount_37 : decode cX0_pieceCount 37 = .ok (.ireturn, 1) := by decide +kernel
set_option maxRecDepth 20000 in
theorem ggX0_pieceStart_X0_pieceLength : GoodIn wsX0_pieceStart wsX0_pieceLength := goodIn_r _ [7, 8, 9, 10, 6, 11, 12, 13, 14, 15, 16, 17, 18, 19, 20, 21, 22, 23, 24, 25, 26, 27, 28, 1, 2, 29, 30, 31, 32, 33, 34, 35, 36, 37, 38, 39, 40, 41, 42, 43, 44, 47, 48, 49, 50, 45, 46] (by decide +kernel) (by decide +kernel)
set_option maxRecDepth 20000 in
theorem gX0_pieceStart_X0_pieceLength : GoodIn wsX0_pieceStart (wsV RX0 25 RX0 yX0_pieceLength wsX0_pieceLength) := goodIn_app (goodIn_of _ (by decide +kernel)) ggX0_pieceStart_X0_pieceLength
theorem dX0_pieceStart_0 : decode cX0_pieceStart 0 = .ok (.iconst 0, 1) := by decide +kernel
theorem dX0_pieceStart_1 : decode cX0_pieceStart 1 = .ok (.istore_n 3, 1) := by decide +kernel
theorem dX0_pieceStart_2 : decode cX0_pieceStart 2 = .ok (.iconst 0, 1) := by decide +kernel
theorem dX0_pieceStart_3 : decode cX0_pieceStart 3 = .ok (.istore 4, 2) := by decide +kernel
theorem dX0_pieceStart_5 : decode cX0_pieceStart 5 = .ok (.iload 4, 2) := by decide +kernel
theorem dX0_pieceStart_7 : decode cX0_pieceStart 7 = .ok (.iload_n 2, 1) := by decide +kernel
theorem dX0_pieceStart_8 : decode cX0_pieceStart 8 = .ok (.if_icmp .ge 29, 3) := by decide +kernel
theorem dX0_pieceStart_11 : decode cX0_pieceStart 11 = .ok (.iload_n 3, 1) := by decide +kernel
theorem dX0_pieceStart_12 : decode cX0_pieceStart 12 = .ok (.aload_n 0, 1) := by decide +kernel
theorem dX0_pieceStart_13 : decode cX0_pieceStart 13 = .ok (.getfield 9, 3) := by decide +kernel
theorem dX0_pieceStart_16 : decode cX0_pieceStart 16 = .ok (.getfield 19, 3) := by decide +kernel
theorem dX0_pieceStart_19 : decode cX0_pieceStart 19 = .ok (.if_icmp .ge 18, 3) := by decide +kernel
theorem dX0_pieceStart_22 : decode cX0_pieceStart 22 = .ok (.iload_n 3, 1) := by decide +kernel
theorem dX0_pieceStart_23 : decode cX0_pieceStart 23 = .ok (.aload_n 0, 1) := by decide +kernel
theorem dX0_pieceStart_24 : decode cX0_pieceStart 24 = .ok (.iload_n 1, 1) := by decide +kernel
theorem dX0_pieceStart_25 : decode cX0_pieceStart 25 = .ok (.iload_n 3, 1) := by decide +kernel
theorem dX0_pieceStart_26 : decode cX0_pieceStart 26 = .ok (.invokevirtual 25, 3) := by decide +kernel
theorem dX0_pieceStart_29 : decode cX0_pieceStart 29 = .ok (.iadd, 1) := by decide +kernel
theorem dX0_pieceStart_30 : decode cX0_pieceStart 30 = .ok (.istore_n 3, 1) := by decide +kernel
theorem dX0_pieceStart_31 : decode cX0_pieceStart 31 = .ok (.iinc 4 1, 3) := by decide +kernel
theorem dX0_pieceStart_34 : decode cX0_pieceStart 34 = .ok (.goto (-29), 3) := by decide +kernel
theorem dX0_pieceStart_37 : decode cX0_pieceStart 37 = .ok (.iload_n 2, 1) := by decide +kernel
theorem dX0_pieceStart_38 : decode cX0_pieceStart 38 = .ok (.ifCond .lt 18, 3) := by decide +kernel
theorem dX0_pieceStart_41 : decode cX0_pieceStart 41 = .ok (.iload_n 3, 1) := by decide +kernel
theorem dX0_pieceStart_42 : decode cX0_pieceStart 42 = .ok (.aload_n 0, 1) := by decide +kernel
theorem dX0_pieceStart_43 : decode cX0_pieceStart 43 = .ok (.getfield 9, 3) := by decide +kernel
theorem dX0_pieceStart_46 : decode cX0_pieceStart 46 = .ok (.getfield 19, 3) := by decide +kernel
theorem dX0_pieceStart_49 : decode cX0_pieceStart 49 = .ok (.if_icmp .ge 7, 3) := by decide +kernel
theorem dX0_pieceStart_52 : decode cX0_pieceStart 52 = .ok (.iload_n 3, 1) := by decide +kernel
theorem dX0_pieceStart_53 : decode cX0_pieceStart 53 = .ok (.goto 4, 3) := by decide +kernel
theorem dX0_pieceStart_56 : decode cX0_pieceStart 56 = .ok (.iconst (-1), 1) := by decide +kernel
theorem dX0_pieceStart_57 : decode cX0_pieceStart 57 = .ok (.ireturn, 1) := by decide +kernel
set_option maxRecDepth 20000 in
theorem ggX0_pieceLength_X0_runFrom : GoodIn wsX0_pieceLength wsX0_runFrom := goodIn_r _ [5, 6, 7, 8, 9, 10, 11, 12, 13, 14, 15, 16, 17, 18, 19, 20, 21, 4, 22, 23, 24, 25, 26, 27, 28, 29, 30, 31, 32, 33, 34, 35, 36, 37, 38, 39, 40, 41, 42, 43, 44, 45, 46] (by decide +kernel) (by decide +kernel)
set_option maxRecDepth 20000 in
theorem gX0_pieceLength_X0_runFrom : GoodIn wsX0_pieceLength (wsV RX0 29 RX0 yX0_runFrom wsX0_runFrom) := goodIn_app (goodIn_of _ (by decide +kernel)) ggX0_pieceLength_X0_runFrom
set_option maxRecDepth 20000 in
theorem ggX0_pieceLength_X0_matchLength : GoodIn wsX0_pieceLength wsX0_matchLength := goodIn_r _ [22, 6, 23, 24, 25, 26, 27, 28, 7, 8, 9, 10, 11, 12, 13, 14, 15, 16, 17, 18, 29, 30, 31, 32, 33, 34, 35, 36, 37, 38, 39, 40, 45, 46, 41, 42, 43, 44] (by decide +kernel) (by decide +kernel)
set_option maxRecDepth 20000 in
theorem gX0_pieceLength_X0_matchLength : GoodIn wsX0_pieceLength (wsV RX0 32 RX0 yX0_matchLength wsX0_matchLength) := goodIn_app (goodIn_of _ (by decide +kernel)) ggX0_pieceLength_X0_matchLength
theorem dX0_pieceLength_0 : decode cX0_pieceLength 0 = .ok (.aload_n 0, 1) := by decide +kernel
theorem dX0_pieceLength_1 : decode cX0_pieceLength 1 = .ok (.iload_n 1, 1) := by decide +kernel
theorem dX0_pieceLength_2 : decode cX0_pieceLength 2 = .ok (.iload_n 2, 1) := by decide +kernel
theorem dX0_pieceLength_3 : decode cX0_pieceLength 3 = .ok (.invokevirtual 29, 3) := by decide +kernel
theorem dX0_pieceLength_6 : decode cX0_pieceLength 6 = .ok (.istore_n 3, 1) := by decide +kernel
theorem dX0_pieceLength_7 : decode cX0_pieceLength 7 = .ok (.iload_n 3, 1) := by decide +kernel
theorem dX0_pieceLength_8 : decode cX0_pieceLength 8 = .ok (.iconst (-1), 1) := by decide +kernel
theorem dX0_pieceLength_9 : decode cX0_pieceLength 9 = .ok (.if_icmp .ne 7, 3) := by decide +kernel
theorem dX0_pieceLength_12 : decode cX0_pieceLength 12 = .ok (.iconst 1, 1) := by decide +kernel
theorem dX0_pieceLength_13 : decode cX0_pieceLength 13 = .ok (.goto 10, 3) := by decide +kernel
theorem dX0_pieceLength_16 : decode cX0_pieceLength 16 = .ok (.aload_n 0, 1) := by decide +kernel
theorem dX0_pieceLength_17 : decode cX0_pieceLength 17 = .ok (.iload_n 1, 1) := by decide +kernel
theorem dX0_pieceLength_18 : decode cX0_pieceLength 18 = .ok (.iload_n 3, 1) := by decide +kernel
theorem dX0_pieceLength_19 : decode cX0_pieceLength 19 = .ok (.iload_n 2, 1) := by decide +kernel
theorem dX0_pieceLength_20 : decode cX0_pieceLength 20 = .ok (.invokevirtual 32, 3) := by decide +kernel
theorem dX0_pieceLength_23 : decode cX0_pieceLength 23 = .ok (.ireturn, 1) := by decide +kernel
set_option maxRecDepth 20000 in
theorem ggX0_runFrom_X3_slotWord : GoodIn wsX0_runFrom wsX3_slotWord := goodIn_r _ [6, 7, 8, 9, 10, 11, 12, 13, 37, 38, 39, 40] (by decide +kernel) (by decide +kernel)
set_option maxRecDepth 20000 in
theorem gX0_runFrom_X3_slotWord : GoodIn wsX0_runFrom (wsV RX0 38 RX3 yX3_slotWord wsX3_slotWord) := goodIn_app (goodIn_of _ (by decide +kernel)) ggX0_runFrom_X3_slotWord
set_option maxRecDepth 20000 in
theorem ggX0_runFrom_X0_matchLength : GoodIn wsX0_runFrom wsX0_matchLength := goodIn_r _ [18, 1, 19, 20, 21, 22, 23, 24, 2, 3, 4, 5, 6, 7, 8, 9, 10, 11, 12, 13, 25, 26, 27, 28, 29, 30, 31, 32, 33, 34, 35, 36, 41, 42, 37, 38, 39, 40] (by decide +kernel) (by decide +kernel)
set_option maxRecDepth 20000 in
theorem gX0_runFrom_X0_matchLength : GoodIn wsX0_runFrom (wsV RX0 32 RX0 yX0_matchLength wsX0_matchLength) := goodIn_app (goodIn_of _ (by decide +kernel)) ggX0_runFrom_X0_matchLength
theorem dX0_runFrom_0 : decode cX0_runFrom 0 = .ok (.aload_n 0, 1) := by decide +kernel
theorem dX0_runFrom_1 : decode cX0_runFrom 1 = .ok (.getfield 15, 3) := by decide +kernel
theorem dX0_runFrom_4 : decode cX0_runFrom 4 = .ok (.iload_n 1, 1) := by decide +kernel
theorem dX0_runFrom_5 : decode cX0_runFrom 5 = .ok (.iconst 2, 1) := by decide +kernel
theorem dX0_runFrom_6 : decode cX0_runFrom 6 = .ok (.invokevirtual 38, 3) := by decide +kernel
theorem dX0_runFrom_9 : decode cX0_runFrom 9 = .ok (.istore_n 3, 1) := by decide +kernel
theorem dX0_runFrom_10 : decode cX0_runFrom 10 = .ok (.iconst 1, 1) := by decide +kernel
theorem dX0_runFrom_11 : decode cX0_runFrom 11 = .ok (.istore 4, 2) := by decide +kernel
theorem dX0_runFrom_13 : decode cX0_runFrom 13 = .ok (.iconst (-1), 1) := by decide +kernel
theorem dX0_runFrom_14 : decode cX0_runFrom 14 = .ok (.istore 5, 2) := by decide +kernel
theorem dX0_runFrom_16 : decode cX0_runFrom 16 = .ok (.iconst 0, 1) := by decide +kernel
theorem dX0_runFrom_17 : decode cX0_runFrom 17 = .ok (.istore 6, 2) := by decide +kernel
theorem dX0_runFrom_19 : decode cX0_runFrom 19 = .ok (.iload 6, 2) := by decide +kernel
theorem dX0_runFrom_21 : decode cX0_runFrom 21 = .ok (.iload_n 3, 1) := by decide +kernel
theorem dX0_runFrom_22 : decode cX0_runFrom 22 = .ok (.if_icmp .ge 41, 3) := by decide +kernel
theorem dX0_runFrom_25 : decode cX0_runFrom 25 = .ok (.iload 6, 2) := by decide +kernel
theorem dX0_runFrom_27 : decode cX0_runFrom 27 = .ok (.bipush 24, 2) := by decide +kernel
theorem dX0_runFrom_29 : decode cX0_runFrom 29 = .ok (.if_icmp .ge 34, 3) := by decide +kernel
theorem dX0_runFrom_32 : decode cX0_runFrom 32 = .ok (.aload_n 0, 1) := by decide +kernel
theorem dX0_runFrom_33 : decode cX0_runFrom 33 = .ok (.iload_n 1, 1) := by decide +kernel
theorem dX0_runFrom_34 : decode cX0_runFrom 34 = .ok (.iload 6, 2) := by decide +kernel
theorem dX0_runFrom_36 : decode cX0_runFrom 36 = .ok (.iload_n 2, 1) := by decide +kernel
theorem dX0_runFrom_37 : decode cX0_runFrom 37 = .ok (.invokevirtual 32, 3) := by decide +kernel
theorem dX0_runFrom_40 : decode cX0_runFrom 40 = .ok (.istore 7, 2) := by decide +kernel
theorem dX0_runFrom_42 : decode cX0_runFrom 42 = .ok (.iload 7, 2) := by decide +kernel
theorem dX0_runFrom_44 : decode cX0_runFrom 44 = .ok (.iload 4, 2) := by decide +kernel
theorem dX0_runFrom_46 : decode cX0_runFrom 46 = .ok (.if_icmp .le 11, 3) := by decide +kernel
theorem dX0_runFrom_49 : decode cX0_runFrom 49 = .ok (.iload 7, 2) := by decide +kernel
theorem dX0_runFrom_51 : decode cX0_runFrom 51 = .ok (.istore 4, 2) := by decide +kernel
theorem dX0_runFrom_53 : decode cX0_runFrom 53 = .ok (.iload 6, 2) := by decide +kernel
theorem dX0_runFrom_55 : decode cX0_runFrom 55 = .ok (.istore 5, 2) := by decide +kernel
theorem dX0_runFrom_57 : decode cX0_runFrom 57 = .ok (.iinc 6 1, 3) := by decide +kernel
theorem dX0_runFrom_60 : decode cX0_runFrom 60 = .ok (.goto (-41), 3) := by decide +kernel
theorem dX0_runFrom_63 : decode cX0_runFrom 63 = .ok (.iload 5, 2) := by decide +kernel
theorem dX0_runFrom_65 : decode cX0_runFrom 65 = .ok (.ireturn, 1) := by decide +kernel
set_option maxRecDepth 20000 in
theorem ggX0_matchLength_X3_slotWord : GoodIn wsX0_matchLength wsX3_slotWord := goodIn_r _ [12, 13, 14, 15, 16, 17, 18, 19, 34, 35, 36, 37] (by decide +kernel) (by decide +kernel)
set_option maxRecDepth 20000 in
theorem gX0_matchLength_X3_slotWord : GoodIn wsX0_matchLength (wsV RX0 38 RX3 yX3_slotWord wsX3_slotWord) := goodIn_app (goodIn_of _ (by decide +kernel)) ggX0_matchLength_X3_slotWord
set_option maxRecDepth 20000 in
theorem ggX0_matchLength_X3_imageWord : GoodIn wsX0_matchLength wsX3_imageWord := goodIn_r _ [23, 13, 14, 15, 16, 17, 18, 19, 34, 35, 36, 37] (by decide +kernel) (by decide +kernel)
set_option maxRecDepth 20000 in
theorem gX0_matchLength_X3_imageWord : GoodIn wsX0_matchLength (wsV RX0 46 RX3 yX3_imageWord wsX3_imageWord) := goodIn_app (goodIn_of _ (by decide +kernel)) ggX0_matchLength_X3_imageWord
set_option maxRecDepth 20000 in
theorem ggX0_matchLength_X1_byteAt : GoodIn wsX0_matchLength wsX1_byteAt := goodIn_r _ [28, 29, 32, 33] (by decide +kernel) (by decide +kernel)
set_option maxRecDepth 20000 in
theorem gX0_matchLength_X1_byteAt : GoodIn wsX0_matchLength (wsV RX0 49 RX1 yX1_byteAt wsX1_byteAt) := goodIn_app (goodIn_of _ (by decide +kernel)) ggX0_matchLength_X1_byteAt
theorem dX0_matchLength_0 : decode cX0_matchLength 0 = .ok (.aload_n 0, 1) := by decide +kernel
theorem dX0_matchLength_1 : decode cX0_matchLength 1 = .ok (.getfield 15, 3) := by decide +kernel
theorem dX0_matchLength_4 : decode cX0_matchLength 4 = .ok (.iload_n 1, 1) := by decide +kernel
theorem dX0_matchLength_5 : decode cX0_matchLength 5 = .ok (.iconst 2, 1) := by decide +kernel
theorem dX0_matchLength_6 : decode cX0_matchLength 6 = .ok (.invokevirtual 38, 3) := by decide +kernel
theorem dX0_matchLength_9 : decode cX0_matchLength 9 = .ok (.iload_n 2, 1) := by decide +kernel
theorem dX0_matchLength_10 : decode cX0_matchLength 10 = .ok (.isub, 1) := by decide +kernel
theorem dX0_matchLength_11 : decode cX0_matchLength 11 = .ok (.aload_n 0, 1) := by decide +kernel
theorem dX0_matchLength_12 : decode cX0_matchLength 12 = .ok (.getfield 9, 3) := by decide +kernel
theorem dX0_matchLength_15 : decode cX0_matchLength 15 = .ok (.getfield 19, 3) := by decide +kernel
theorem dX0_matchLength_18 : decode cX0_matchLength 18 = .ok (.iload_n 3, 1) := by decide +kernel
theorem dX0_matchLength_19 : decode cX0_matchLength 19 = .ok (.isub, 1) := by decide +kernel
theorem dX0_matchLength_20 : decode cX0_matchLength 20 = .ok (.invokestatic 41, 3) := by decide +kernel
theorem dX0_matchLength_23 : decode cX0_matchLength 23 = .ok (.istore 4, 2) := by decide +kernel
theorem dX0_matchLength_25 : decode cX0_matchLength 25 = .ok (.iconst 0, 1) := by decide +kernel
theorem dX0_matchLength_26 : decode cX0_matchLength 26 = .ok (.istore 5, 2) := by decide +kernel
theorem dX0_matchLength_28 : decode cX0_matchLength 28 = .ok (.iload 5, 2) := by decide +kernel
theorem dX0_matchLength_30 : decode cX0_matchLength 30 = .ok (.iload 4, 2) := by decide +kernel
theorem dX0_matchLength_32 : decode cX0_matchLength 32 = .ok (.if_icmp .ge 35, 3) := by decide +kernel
theorem dX0_matchLength_35 : decode cX0_matchLength 35 = .ok (.aload_n 0, 1) := by decide +kernel
theorem dX0_matchLength_36 : decode cX0_matchLength 36 = .ok (.getfield 15, 3) := by decide +kernel
theorem dX0_matchLength_39 : decode cX0_matchLength 39 = .ok (.iload_n 1, 1) := by decide +kernel
theorem dX0_matchLength_40 : decode cX0_matchLength 40 = .ok (.iload_n 2, 1) := by decide +kernel
theorem dX0_matchLength_41 : decode cX0_matchLength 41 = .ok (.iload 5, 2) := by decide +kernel
theorem dX0_matchLength_43 : decode cX0_matchLength 43 = .ok (.iadd, 1) := by decide +kernel
theorem dX0_matchLength_44 : decode cX0_matchLength 44 = .ok (.invokevirtual 46, 3) := by decide +kernel
theorem dX0_matchLength_47 : decode cX0_matchLength 47 = .ok (.aload_n 0, 1) := by decide +kernel
theorem dX0_matchLength_48 : decode cX0_matchLength 48 = .ok (.getfield 9, 3) := by decide +kernel
theorem dX0_matchLength_51 : decode cX0_matchLength 51 = .ok (.iload_n 3, 1) := by decide +kernel
theorem dX0_matchLength_52 : decode cX0_matchLength 52 = .ok (.iload 5, 2) := by decide +kernel
theorem dX0_matchLength_54 : decode cX0_matchLength 54 = .ok (.iadd, 1) := by decide +kernel
theorem dX0_matchLength_55 : decode cX0_matchLength 55 = .ok (.invokevirtual 49, 3) := by decide +kernel
theorem dX0_matchLength_58 : decode cX0_matchLength 58 = .ok (.if_icmp .ne 9, 3) := by decide +kernel
theorem dX0_matchLength_61 : decode cX0_matchLength 61 = .ok (.iinc 5 1, 3) := by decide +kernel
theorem dX0_matchLength_64 : decode cX0_matchLength 64 = .ok (.goto (-36), 3) := by decide +kernel
theorem dX0_matchLength_67 : decode cX0_matchLength 67 = .ok (.iload 5, 2) := by decide +kernel
theorem dX0_matchLength_69 : decode cX0_matchLength 69 = .ok (.ireturn, 1) := by decide +kernel
theorem dX1_init_0 : decode cX1_init 0 = .ok (.aload_n 0, 1) := by decide +kernel
theorem dX1_init_1 : decode cX1_init 1 = .ok (.invokespecial 3, 3) := by decide +kernel
theorem dX1_init_4 : decode cX1_init 4 = .ok (.aload_n 0, 1) := by decide +kernel
theorem dX1_init_5 : decode cX1_init 5 = .ok (.iconst 0, 1) := by decide +kernel
theorem dX1_init_6 : decode cX1_init 6 = .ok (.putfield 9, 3) := by decide +kernel
theorem dX1_init_9 : decode cX1_init 9 = .ok (.aload_n 0, 1) := by decide +kernel
theorem dX1_init_10 : decode cX1_init 10 = .ok (.bipush 24, 2) := by decide +kernel
theorem dX1_init_12 : decode cX1_init 12 = .ok (.newarray .int, 2) := by decide +kernel
theorem dX1_init_14 : decode cX1_init 14 = .ok (.putfield 15, 3) := by decide +kernel
theorem dX1_init_17 : decode cX1_init 17 = .ok (.return_, 1) := by decide +kernel
theorem dX1_isFull_0 : decode cX1_isFull 0 = .ok (.aload_n 0, 1) := by decide +kernel
theorem dX1_isFull_1 : decode cX1_isFull 1 = .ok (.getfield 9, 3) := by decide +kernel
theorem dX1_isFull_4 : decode cX1_isFull 4 = .ok (.aload_n 0, 1) := by decide +kernel
theorem dX1_isFull_5 : decode cX1_isFull 5 = .ok (.getfield 15, 3) := by decide +kernel
theorem dX1_isFull_8 : decode cX1_isFull 8 = .ok (.arraylength, 1) := by decide +kernel
theorem dX1_isFull_9 : decode cX1_isFull 9 = .ok (.if_icmp .lt 7, 3) := by decide +kernel
theorem dX1_isFull_12 : decode cX1_isFull 12 = .ok (.iconst 1, 1) := by decide +kernel
theorem dX1_isFull_13 : decode cX1_isFull 13 = .ok (.goto 4, 3) := by decide +kernel
theorem dX1_isFull_16 : decode cX1_isFull 16 = .ok (.iconst 0, 1) := by decide +kernel
theorem dX1_isFull_17 : decode cX1_isFull 17 = .ok (.ireturn, 1) := by decide +kernel
theorem dX1_append_0 : decode cX1_append 0 = .ok (.aload_n 0, 1) := by decide +kernel
theorem dX1_append_1 : decode cX1_append 1 = .ok (.getfield 9, 3) := by decide +kernel
theorem dX1_append_4 : decode cX1_append 4 = .ok (.ifCond .lt 35, 3) := by decide +kernel
theorem dX1_append_7 : decode cX1_append 7 = .ok (.aload_n 0, 1) := by decide +kernel
theorem dX1_append_8 : decode cX1_append 8 = .ok (.getfield 9, 3) := by decide +kernel
theorem dX1_append_11 : decode cX1_append 11 = .ok (.aload_n 0, 1) := by decide +kernel
theorem dX1_append_12 : decode cX1_append 12 = .ok (.getfield 15, 3) := by decide +kernel
theorem dX1_append_15 : decode cX1_append 15 = .ok (.arraylength, 1) := by decide +kernel
theorem dX1_append_16 : decode cX1_append 16 = .ok (.if_icmp .ge 23, 3) := by decide +kernel
theorem dX1_append_19 : decode cX1_append 19 = .ok (.aload_n 0, 1) := by decide +kernel
theorem dX1_append_20 : decode cX1_append 20 = .ok (.getfield 15, 3) := by decide +kernel
theorem dX1_append_23 : decode cX1_append 23 = .ok (.aload_n 0, 1) := by decide +kernel
theorem dX1_append_24 : decode cX1_append 24 = .ok (.getfield 9, 3) := by decide +kernel
theorem dX1_append_27 : decode cX1_append 27 = .ok (.iload_n 1, 1) := by decide +kernel
theorem dX1_append_28 : decode cX1_append 28 = .ok (.iastore, 1) := by decide +kernel
theorem dX1_append_29 : decode cX1_append 29 = .ok (.aload_n 0, 1) := by decide +kernel
theorem dX1_append_30 : decode cX1_append 30 = .ok (.dup, 1) := by decide +kernel
theorem dX1_append_31 : decode cX1_append 31 = .ok (.getfield 9, 3) := by decide +kernel
theorem dX1_append_34 : decode cX1_append 34 = .ok (.iconst 1, 1) := by decide +kernel
theorem dX1_append_35 : decode cX1_append 35 = .ok (.iadd, 1) := by decide +kernel
theorem dX1_append_36 : decode cX1_append 36 = .ok (.putfield 9, 3) := by decide +kernel
theorem dX1_append_39 : decode cX1_append 39 = .ok (.aload_n 0, 1) := by decide +kernel
theorem dX1_append_40 : decode cX1_append 40 = .ok (.getfield 9, 3) := by decide +kernel
theorem dX1_append_43 : decode cX1_append 43 = .ok (.ireturn, 1) := by decide +kernel
theorem dX1_clear_0 : decode cX1_clear 0 = .ok (.aload_n 0, 1) := by decide +kernel
theorem dX1_clear_1 : decode cX1_clear 1 = .ok (.getfield 9, 3) := by decide +kernel
theorem dX1_clear_4 : decode cX1_clear 4 = .ok (.istore_n 1, 1) := by decide +kernel
theorem dX1_clear_5 : decode cX1_clear 5 = .ok (.aload_n 0, 1) := by decide +kernel
theorem dX1_clear_6 : decode cX1_clear 6 = .ok (.iconst 0, 1) := by decide +kernel
theorem dX1_clear_7 : decode cX1_clear 7 = .ok (.putfield 9, 3) := by decide +kernel
theorem dX1_clear_10 : decode cX1_clear 10 = .ok (.iload_n 1, 1) := by decide +kernel
theorem dX1_clear_11 : decode cX1_clear 11 = .ok (.ireturn, 1) := by decide +kernel
theorem dX1_byteAt_0 : decode cX1_byteAt 0 = .ok (.iload_n 1, 1) := by decide +kernel
theorem dX1_byteAt_1 : decode cX1_byteAt 1 = .ok (.ifCond .lt 21, 3) := by decide +kernel
theorem dX1_byteAt_4 : decode cX1_byteAt 4 = .ok (.iload_n 1, 1) := by decide +kernel
theorem dX1_byteAt_5 : decode cX1_byteAt 5 = .ok (.aload_n 0, 1) := by decide +kernel
theorem dX1_byteAt_6 : decode cX1_byteAt 6 = .ok (.getfield 15, 3) := by decide +kernel
theorem dX1_byteAt_9 : decode cX1_byteAt 9 = .ok (.arraylength, 1) := by decide +kernel
theorem dX1_byteAt_10 : decode cX1_byteAt 10 = .ok (.if_icmp .ge 12, 3) := by decide +kernel
theorem dX1_byteAt_13 : decode cX1_byteAt 13 = .ok (.aload_n 0, 1) := by decide +kernel
theorem dX1_byteAt_14 : decode cX1_byteAt 14 = .ok (.getfield 15, 3) := by decide +kernel
theorem dX1_byteAt_17 : decode cX1_byteAt 17 = .ok (.iload_n 1, 1) := by decide +kernel
theorem dX1_byteAt_18 : decode cX1_byteAt 18 = .ok (.iaload, 1) := by decide +kernel
theorem dX1_byteAt_19 : decode cX1_byteAt 19 = .ok (.goto 4, 3) := by decide +kernel
theorem dX1_byteAt_22 : decode cX1_byteAt 22 = .ok (.iconst 0, 1) := by decide +kernel
theorem dX1_byteAt_23 : decode cX1_byteAt 23 = .ok (.ireturn, 1) := by decide +kernel
set_option maxRecDepth 20000 in
theorem ggX1_hash_X1_byteAt : GoodIn wsX1_hash wsX1_byteAt := goodIn_r _ [6, 7, 12, 13] (by decide +kernel) (by decide +kernel)
set_option maxRecDepth 20000 in
theorem gX1_hash_X1_byteAt : GoodIn wsX1_hash (wsV RX1 19 RX1 yX1_byteAt wsX1_byteAt) := goodIn_app (goodIn_of _ (by decide +kernel)) ggX1_hash_X1_byteAt
set_option maxRecDepth 20000 in
theorem ggX1_hash_X5_hashWith : GoodIn wsX1_hash wsX5_hashWith := goodIn_r _ [10, 11] (by decide +kernel) (by decide +kernel)
set_option maxRecDepth 20000 in
theorem gX1_hash_X5_hashWith_n23 : GoodIn wsX1_hash (wsX5_hashWith) := ggX1_hash_X5_hashWith
theorem dX1_hash_0 : decode cX1_hash 0 = .ok (.bipush 17, 2) := by decide +kernel
theorem dX1_hash_2 : decode cX1_hash 2 = .ok (.istore_n 1, 1) := by decide +kernel
theorem dX1_hash_3 : decode cX1_hash 3 = .ok (.iconst 0, 1) := by decide +kernel
theorem dX1_hash_4 : decode cX1_hash 4 = .ok (.istore_n 2, 1) := by decide +kernel
theorem dX1_hash_5 : decode cX1_hash 5 = .ok (.iload_n 2, 1) := by decide +kernel
theorem dX1_hash_6 : decode cX1_hash 6 = .ok (.aload_n 0, 1) := by decide +kernel
theorem dX1_hash_7 : decode cX1_hash 7 = .ok (.getfield 9, 3) := by decide +kernel
theorem dX1_hash_10 : decode cX1_hash 10 = .ok (.if_icmp .ge 19, 3) := by decide +kernel
theorem dX1_hash_13 : decode cX1_hash 13 = .ok (.iload_n 1, 1) := by decide +kernel
theorem dX1_hash_14 : decode cX1_hash 14 = .ok (.aload_n 0, 1) := by decide +kernel
theorem dX1_hash_15 : decode cX1_hash 15 = .ok (.iload_n 2, 1) := by decide +kernel
theorem dX1_hash_16 : decode cX1_hash 16 = .ok (.invokevirtual 19, 3) := by decide +kernel
theorem dX1_hash_19 : decode cX1_hash 19 = .ok (.invokestatic 23, 3) := by decide +kernel
theorem dX1_hash_22 : decode cX1_hash 22 = .ok (.istore_n 1, 1) := by decide +kernel
theorem dX1_hash_23 : decode cX1_hash 23 = .ok (.iinc 2 1, 3) := by decide +kernel
theorem dX1_hash_26 : decode cX1_hash 26 = .ok (.goto (-21), 3) := by decide +kernel
theorem dX1_hash_29 : decode cX1_hash 29 = .ok (.iload_n 1, 1) := by decide +kernel
theorem dX1_hash_30 : decode cX1_hash 30 = .ok (.ireturn, 1) := by decide +kernel
theorem dX2_init_0 : decode cX2_init 0 = .ok (.aload_n 0, 1) := by decide +kernel
theorem dX2_init_1 : decode cX2_init 1 = .ok (.invokespecial 3, 3) := by decide +kernel
theorem dX2_init_4 : decode cX2_init 4 = .ok (.aload_n 0, 1) := by decide +kernel
theorem dX2_init_5 : decode cX2_init 5 = .ok (.bipush 66, 2) := by decide +kernel
theorem dX2_init_7 : decode cX2_init 7 = .ok (.newarray .int, 2) := by decide +kernel
theorem dX2_init_9 : decode cX2_init 9 = .ok (.putfield 11, 3) := by decide +kernel
theorem dX2_init_12 : decode cX2_init 12 = .ok (.aload_n 0, 1) := by decide +kernel
theorem dX2_init_13 : decode cX2_init 13 = .ok (.iconst 0, 1) := by decide +kernel
theorem dX2_init_14 : decode cX2_init 14 = .ok (.putfield 17, 3) := by decide +kernel
theorem dX2_init_17 : decode cX2_init 17 = .ok (.aload_n 0, 1) := by decide +kernel
theorem dX2_init_18 : decode cX2_init 18 = .ok (.iconst (-1), 1) := by decide +kernel
theorem dX2_init_19 : decode cX2_init 19 = .ok (.putfield 21, 3) := by decide +kernel
theorem dX2_init_22 : decode cX2_init 22 = .ok (.return_, 1) := by decide +kernel
theorem dX2_read_0 : decode cX2_read 0 = .ok (.iload_n 1, 1) := by decide +kernel
theorem dX2_read_1 : decode cX2_read 1 = .ok (.ifCond .lt 21, 3) := by decide +kernel
theorem dX2_read_4 : decode cX2_read 4 = .ok (.iload_n 1, 1) := by decide +kernel
theorem dX2_read_5 : decode cX2_read 5 = .ok (.aload_n 0, 1) := by decide +kernel
theorem dX2_read_6 : decode cX2_read 6 = .ok (.getfield 11, 3) := by decide +kernel
theorem dX2_read_9 : decode cX2_read 9 = .ok (.arraylength, 1) := by decide +kernel
theorem dX2_read_10 : decode cX2_read 10 = .ok (.if_icmp .ge 12, 3) := by decide +kernel
theorem dX2_read_13 : decode cX2_read 13 = .ok (.aload_n 0, 1) := by decide +kernel
theorem dX2_read_14 : decode cX2_read 14 = .ok (.getfield 11, 3) := by decide +kernel
theorem dX2_read_17 : decode cX2_read 17 = .ok (.iload_n 1, 1) := by decide +kernel
theorem dX2_read_18 : decode cX2_read 18 = .ok (.iaload, 1) := by decide +kernel
theorem dX2_read_19 : decode cX2_read 19 = .ok (.goto 4, 3) := by decide +kernel
theorem dX2_read_22 : decode cX2_read 22 = .ok (.iconst 0, 1) := by decide +kernel
theorem dX2_read_23 : decode cX2_read 23 = .ok (.ireturn, 1) := by decide +kernel
theorem dX2_preset_0 : decode cX2_preset 0 = .ok (.iload_n 1, 1) := by decide +kernel
theorem dX2_preset_1 : decode cX2_preset 1 = .ok (.ifCond .lt 19, 3) := by decide +kernel
theorem dX2_preset_4 : decode cX2_preset 4 = .ok (.iload_n 1, 1) := by decide +kernel
theorem dX2_preset_5 : decode cX2_preset 5 = .ok (.aload_n 0, 1) := by decide +kernel
theorem dX2_preset_6 : decode cX2_preset 6 = .ok (.getfield 11, 3) := by decide +kernel
theorem dX2_preset_9 : decode cX2_preset 9 = .ok (.arraylength, 1) := by decide +kernel
theorem dX2_preset_10 : decode cX2_preset 10 = .ok (.if_icmp .ge 10, 3) := by decide +kernel
theorem dX2_preset_13 : decode cX2_preset 13 = .ok (.aload_n 0, 1) := by decide +kernel
theorem dX2_preset_14 : decode cX2_preset 14 = .ok (.getfield 11, 3) := by decide +kernel
theorem dX2_preset_17 : decode cX2_preset 17 = .ok (.iload_n 1, 1) := by decide +kernel
theorem dX2_preset_18 : decode cX2_preset 18 = .ok (.iload_n 2, 1) := by decide +kernel
theorem dX2_preset_19 : decode cX2_preset 19 = .ok (.iastore, 1) := by decide +kernel
theorem dX2_preset_20 : decode cX2_preset 20 = .ok (.return_, 1) := by decide +kernel
set_option maxRecDepth 20000 in
theorem ggX2_write_X2_read : GoodIn wsX2_write wsX2_read := goodIn_r _ [7, 8, 13, 14, 15] (by decide +kernel) (by decide +kernel)
set_option maxRecDepth 20000 in
theorem gX2_write_X2_read : GoodIn wsX2_write (wsV RX2 24 RX2 yX2_read wsX2_read) := goodIn_app (goodIn_of _ (by decide +kernel)) ggX2_write_X2_read
set_option maxRecDepth 20000 in
theorem ggX2_write_X2_preset : GoodIn wsX2_write wsX2_preset := goodIn_r _ [12, 8, 13, 14, 15] (by decide +kernel) (by decide +kernel)
set_option maxRecDepth 20000 in
theorem gX2_write_X2_preset : GoodIn wsX2_write (wsV RX2 28 RX2 yX2_preset wsX2_preset) := goodIn_app (goodIn_of _ (by decide +kernel)) ggX2_write_X2_preset
theorem dX2_write_0 : decode cX2_write 0 = .ok (.aload_n 0, 1) := by decide +kernel
theorem dX2_write_1 : decode cX2_write 1 = .ok (.dup, 1) := by decide +kernel
theorem dX2_write_2 : decode cX2_write 2 = .ok (.getfield 17, 3) := by decide +kernel
theorem dX2_write_5 : decode cX2_write 5 = .ok (.iconst 1, 1) := by decide +kernel
theorem dX2_write_6 : decode cX2_write 6 = .ok (.iadd, 1) := by decide +kernel
theorem dX2_write_7 : decode cX2_write 7 = .ok (.putfield 17, 3) := by decide +kernel
theorem dX2_write_10 : decode cX2_write 10 = .ok (.aload_n 0, 1) := by decide +kernel
theorem dX2_write_11 : decode cX2_write 11 = .ok (.getfield 21, 3) := by decide +kernel
theorem dX2_write_14 : decode cX2_write 14 = .ok (.ifCond .ne 22, 3) := by decide +kernel
theorem dX2_write_17 : decode cX2_write 17 = .ok (.aload_n 0, 1) := by decide +kernel
theorem dX2_write_18 : decode cX2_write 18 = .ok (.iconst (-1), 1) := by decide +kernel
theorem dX2_write_19 : decode cX2_write 19 = .ok (.putfield 21, 3) := by decide +kernel
theorem dX2_write_22 : decode cX2_write 22 = .ok (.aload_n 0, 1) := by decide +kernel
theorem dX2_write_23 : decode cX2_write 23 = .ok (.iload_n 1, 1) := by decide +kernel
theorem dX2_write_24 : decode cX2_write 24 = .ok (.aload_n 0, 1) := by decide +kernel
theorem dX2_write_25 : decode cX2_write 25 = .ok (.iload_n 1, 1) := by decide +kernel
theorem dX2_write_26 : decode cX2_write 26 = .ok (.invokevirtual 24, 3) := by decide +kernel
theorem dX2_write_29 : decode cX2_write 29 = .ok (.iload_n 2, 1) := by decide +kernel
theorem dX2_write_30 : decode cX2_write 30 = .ok (.iand, 1) := by decide +kernel
theorem dX2_write_31 : decode cX2_write 31 = .ok (.invokevirtual 28, 3) := by decide +kernel
theorem dX2_write_34 : decode cX2_write 34 = .ok (.iconst 0, 1) := by decide +kernel
theorem dX2_write_35 : decode cX2_write 35 = .ok (.ireturn, 1) := by decide +kernel
theorem dX2_write_36 : decode cX2_write 36 = .ok (.aload_n 0, 1) := by decide +kernel
theorem dX2_write_37 : decode cX2_write 37 = .ok (.getfield 21, 3) := by decide +kernel
theorem dX2_write_40 : decode cX2_write 40 = .ok (.ifCond .le 13, 3) := by decide +kernel
theorem dX2_write_43 : decode cX2_write 43 = .ok (.aload_n 0, 1) := by decide +kernel
theorem dX2_write_44 : decode cX2_write 44 = .ok (.dup, 1) := by decide +kernel
theorem dX2_write_45 : decode cX2_write 45 = .ok (.getfield 21, 3) := by decide +kernel
theorem dX2_write_48 : decode cX2_write 48 = .ok (.iconst 1, 1) := by decide +kernel
theorem dX2_write_49 : decode cX2_write 49 = .ok (.isub, 1) := by decide +kernel
theorem dX2_write_50 : decode cX2_write 50 = .ok (.putfield 21, 3) := by decide +kernel
theorem dX2_write_53 : decode cX2_write 53 = .ok (.aload_n 0, 1) := by decide +kernel
theorem dX2_write_54 : decode cX2_write 54 = .ok (.iload_n 1, 1) := by decide +kernel
theorem dX2_write_55 : decode cX2_write 55 = .ok (.iload_n 2, 1) := by decide +kernel
theorem dX2_write_56 : decode cX2_write 56 = .ok (.invokevirtual 28, 3) := by decide +kernel
theorem dX2_write_59 : decode cX2_write 59 = .ok (.iconst 1, 1) := by decide +kernel
theorem dX2_write_60 : decode cX2_write 60 = .ok (.ireturn, 1) := by decide +kernel
theorem dX2_chooseFailure_0 : decode cX2_chooseFailure 0 = .ok (.aload_n 0, 1) := by decide +kernel
theorem dX2_chooseFailure_1 : decode cX2_chooseFailure 1 = .ok (.iload_n 1, 1) := by decide +kernel
theorem dX2_chooseFailure_2 : decode cX2_chooseFailure 2 = .ok (.putfield 21, 3) := by decide +kernel
theorem dX2_chooseFailure_5 : decode cX2_chooseFailure 5 = .ok (.return_, 1) := by decide +kernel
theorem dX2_begunWrites_0 : decode cX2_begunWrites 0 = .ok (.aload_n 0, 1) := by decide +kernel
theorem dX2_begunWrites_1 : decode cX2_begunWrites 1 = .ok (.getfield 17, 3) := by decide +kernel
theorem dX2_begunWrites_4 : decode cX2_begunWrites 4 = .ok (.ireturn, 1) := by decide +kernel
set_option maxRecDepth 20000 in
theorem ggX2_mirror_X2_read : GoodIn wsX2_mirror wsX2_read := goodIn_r _ [6, 1, 7, 8, 9] (by decide +kernel) (by decide +kernel)
set_option maxRecDepth 20000 in
theorem gX2_mirror_X2_read : GoodIn wsX2_mirror (wsV RX2 24 RX2 yX2_read wsX2_read) := goodIn_app (goodIn_of _ (by decide +kernel)) ggX2_mirror_X2_read
theorem dX2_mirror_0 : decode cX2_mirror 0 = .ok (.iconst 0, 1) := by decide +kernel
theorem dX2_mirror_1 : decode cX2_mirror 1 = .ok (.istore_n 2, 1) := by decide +kernel
theorem dX2_mirror_2 : decode cX2_mirror 2 = .ok (.iload_n 2, 1) := by decide +kernel
theorem dX2_mirror_3 : decode cX2_mirror 3 = .ok (.aload_n 0, 1) := by decide +kernel
theorem dX2_mirror_4 : decode cX2_mirror 4 = .ok (.getfield 11, 3) := by decide +kernel
theorem dX2_mirror_7 : decode cX2_mirror 7 = .ok (.arraylength, 1) := by decide +kernel
theorem dX2_mirror_8 : decode cX2_mirror 8 = .ok (.if_icmp .ge 20, 3) := by decide +kernel
theorem dX2_mirror_11 : decode cX2_mirror 11 = .ok (.aload_n 0, 1) := by decide +kernel
theorem dX2_mirror_12 : decode cX2_mirror 12 = .ok (.getfield 11, 3) := by decide +kernel
theorem dX2_mirror_15 : decode cX2_mirror 15 = .ok (.iload_n 2, 1) := by decide +kernel
theorem dX2_mirror_16 : decode cX2_mirror 16 = .ok (.aload_n 1, 1) := by decide +kernel
theorem dX2_mirror_17 : decode cX2_mirror 17 = .ok (.iload_n 2, 1) := by decide +kernel
theorem dX2_mirror_18 : decode cX2_mirror 18 = .ok (.invokevirtual 24, 3) := by decide +kernel
theorem dX2_mirror_21 : decode cX2_mirror 21 = .ok (.iastore, 1) := by decide +kernel
theorem dX2_mirror_22 : decode cX2_mirror 22 = .ok (.iinc 2 1, 3) := by decide +kernel
theorem dX2_mirror_25 : decode cX2_mirror 25 = .ok (.goto (-23), 3) := by decide +kernel
theorem dX2_mirror_28 : decode cX2_mirror 28 = .ok (.return_, 1) := by decide +kernel

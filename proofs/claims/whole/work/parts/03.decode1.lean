theorem dX0_init_0 : decode cX0_init 0 = .ok (.aload_n 0, 1) := by decide +kernel
theorem dX0_init_1 : decode cX0_init 1 = .ok (.invokespecial 3, 3) := by decide +kernel
theorem dX0_init_4 : decode cX0_init 4 = .ok (.aload_n 0, 1) := by decide +kernel
theorem dX0_init_5 : decode cX0_init 5 = .ok (.new 9, 3) := by decide +kernel
theorem dX0_init_8 : decode cX0_init 8 = .ok (.dup, 1) := by decide +kernel
theorem dX0_init_9 : decode cX0_init 9 = .ok (.bipush 8, 2) := by decide +kernel
theorem dX0_init_11 : decode cX0_init 11 = .ok (.sipush 1200, 3) := by decide +kernel
theorem dX0_init_14 : decode cX0_init 14 = .ok (.invokespecial 11, 3) := by decide +kernel
theorem dX0_init_17 : decode cX0_init 17 = .ok (.putfield 14, 3) := by decide +kernel
theorem dX0_init_20 : decode cX0_init 20 = .ok (.aload_n 0, 1) := by decide +kernel
theorem dX0_init_21 : decode cX0_init 21 = .ok (.new 9, 3) := by decide +kernel
theorem dX0_init_24 : decode cX0_init 24 = .ok (.dup, 1) := by decide +kernel
theorem dX0_init_25 : decode cX0_init 25 = .ok (.iconst 4, 1) := by decide +kernel
theorem dX0_init_26 : decode cX0_init 26 = .ok (.sipush 20000, 3) := by decide +kernel
theorem dX0_init_29 : decode cX0_init 29 = .ok (.invokespecial 11, 3) := by decide +kernel
theorem dX0_init_32 : decode cX0_init 32 = .ok (.putfield 20, 3) := by decide +kernel
theorem dX0_init_35 : decode cX0_init 35 = .ok (.aload_n 0, 1) := by decide +kernel
theorem dX0_init_36 : decode cX0_init 36 = .ok (.iconst 0, 1) := by decide +kernel
theorem dX0_init_37 : decode cX0_init 37 = .ok (.putfield 23, 3) := by decide +kernel
theorem dX0_init_40 : decode cX0_init 40 = .ok (.aload_n 0, 1) := by decide +kernel
theorem dX0_init_41 : decode cX0_init 41 = .ok (.iconst 0, 1) := by decide +kernel
theorem dX0_init_42 : decode cX0_init 42 = .ok (.putfield 27, 3) := by decide +kernel
theorem dX0_init_45 : decode cX0_init 45 = .ok (.return_, 1) := by decide +kernel
theorem dX0_clear_0 : decode cX0_clear 0 = .ok (.aload_n 0, 1) := by decide +kernel
theorem dX0_clear_1 : decode cX0_clear 1 = .ok (.getfield 14, 3) := by decide +kernel
theorem dX0_clear_4 : decode cX0_clear 4 = .ok (.iconst 0, 1) := by decide +kernel
theorem dX0_clear_5 : decode cX0_clear 5 = .ok (.putfield 30, 3) := by decide +kernel
theorem dX0_clear_8 : decode cX0_clear 8 = .ok (.aload_n 0, 1) := by decide +kernel
theorem dX0_clear_9 : decode cX0_clear 9 = .ok (.getfield 20, 3) := by decide +kernel
theorem dX0_clear_12 : decode cX0_clear 12 = .ok (.iconst 0, 1) := by decide +kernel
theorem dX0_clear_13 : decode cX0_clear 13 = .ok (.putfield 30, 3) := by decide +kernel
theorem dX0_clear_16 : decode cX0_clear 16 = .ok (.aload_n 0, 1) := by decide +kernel
theorem dX0_clear_17 : decode cX0_clear 17 = .ok (.iconst 0, 1) := by decide +kernel
theorem dX0_clear_18 : decode cX0_clear 18 = .ok (.putfield 23, 3) := by decide +kernel
theorem dX0_clear_21 : decode cX0_clear 21 = .ok (.aload_n 0, 1) := by decide +kernel
theorem dX0_clear_22 : decode cX0_clear 22 = .ok (.iconst 0, 1) := by decide +kernel
theorem dX0_clear_23 : decode cX0_clear 23 = .ok (.putfield 27, 3) := by decide +kernel
theorem dX0_clear_26 : decode cX0_clear 26 = .ok (.return_, 1) := by decide +kernel
theorem dX0_hasRoom_0 : decode cX0_hasRoom 0 = .ok (.sipush 1200, 3) := by decide +kernel
theorem dX0_hasRoom_3 : decode cX0_hasRoom 3 = .ok (.aload_n 0, 1) := by decide +kernel
theorem dX0_hasRoom_4 : decode cX0_hasRoom 4 = .ok (.getfield 14, 3) := by decide +kernel
theorem dX0_hasRoom_7 : decode cX0_hasRoom 7 = .ok (.getfield 30, 3) := by decide +kernel
theorem dX0_hasRoom_10 : decode cX0_hasRoom 10 = .ok (.isub, 1) := by decide +kernel
theorem dX0_hasRoom_11 : decode cX0_hasRoom 11 = .ok (.iconst 4, 1) := by decide +kernel
theorem dX0_hasRoom_12 : decode cX0_hasRoom 12 = .ok (.if_icmp .lt 24, 3) := by decide +kernel
theorem dX0_hasRoom_15 : decode cX0_hasRoom 15 = .ok (.sipush 20000, 3) := by decide +kernel
theorem dX0_hasRoom_18 : decode cX0_hasRoom 18 = .ok (.aload_n 0, 1) := by decide +kernel
theorem dX0_hasRoom_19 : decode cX0_hasRoom 19 = .ok (.getfield 20, 3) := by decide +kernel
theorem dX0_hasRoom_22 : decode cX0_hasRoom 22 = .ok (.getfield 30, 3) := by decide +kernel
theorem dX0_hasRoom_25 : decode cX0_hasRoom 25 = .ok (.isub, 1) := by decide +kernel
theorem dX0_hasRoom_26 : decode cX0_hasRoom 26 = .ok (.sipush 200, 3) := by decide +kernel
theorem dX0_hasRoom_29 : decode cX0_hasRoom 29 = .ok (.if_icmp .lt 7, 3) := by decide +kernel
theorem dX0_hasRoom_32 : decode cX0_hasRoom 32 = .ok (.iconst 1, 1) := by decide +kernel
theorem dX0_hasRoom_33 : decode cX0_hasRoom 33 = .ok (.goto 4, 3) := by decide +kernel
theorem dX0_hasRoom_36 : decode cX0_hasRoom 36 = .ok (.iconst 0, 1) := by decide +kernel
theorem dX0_hasRoom_37 : decode cX0_hasRoom 37 = .ok (.ireturn, 1) := by decide +kernel
theorem dX0_reserveForAct_0 : decode cX0_reserveForAct 0 = .ok (.aload_n 0, 1) := by decide +kernel
theorem dX0_reserveForAct_1 : decode cX0_reserveForAct 1 = .ok (.getfield 14, 3) := by decide +kernel
theorem dX0_reserveForAct_4 : decode cX0_reserveForAct 4 = .ok (.aload_n 0, 1) := by decide +kernel
theorem dX0_reserveForAct_5 : decode cX0_reserveForAct 5 = .ok (.getfield 14, 3) := by decide +kernel
theorem dX0_reserveForAct_8 : decode cX0_reserveForAct 8 = .ok (.getfield 30, 3) := by decide +kernel
theorem dX0_reserveForAct_11 : decode cX0_reserveForAct 11 = .ok (.iconst 4, 1) := by decide +kernel
theorem dX0_reserveForAct_12 : decode cX0_reserveForAct 12 = .ok (.iadd, 1) := by decide +kernel
theorem dX0_reserveForAct_13 : decode cX0_reserveForAct 13 = .ok (.invokevirtual 33, 3) := by decide +kernel
theorem dX0_reserveForAct_16 : decode cX0_reserveForAct 16 = .ok (.aload_n 0, 1) := by decide +kernel
theorem dX0_reserveForAct_17 : decode cX0_reserveForAct 17 = .ok (.getfield 20, 3) := by decide +kernel
theorem dX0_reserveForAct_20 : decode cX0_reserveForAct 20 = .ok (.aload_n 0, 1) := by decide +kernel
theorem dX0_reserveForAct_21 : decode cX0_reserveForAct 21 = .ok (.getfield 20, 3) := by decide +kernel
theorem dX0_reserveForAct_24 : decode cX0_reserveForAct 24 = .ok (.getfield 30, 3) := by decide +kernel
theorem dX0_reserveForAct_27 : decode cX0_reserveForAct 27 = .ok (.sipush 200, 3) := by decide +kernel
theorem dX0_reserveForAct_30 : decode cX0_reserveForAct 30 = .ok (.iadd, 1) := by decide +kernel
theorem dX0_reserveForAct_31 : decode cX0_reserveForAct 31 = .ok (.invokevirtual 33, 3) := by decide +kernel
theorem dX0_reserveForAct_34 : decode cX0_reserveForAct 34 = .ok (.return_, 1) := by decide +kernel
theorem dX0_sent_0 : decode cX0_sent 0 = .ok (.aload_n 0, 1) := by decide +kernel
theorem dX0_sent_1 : decode cX0_sent 1 = .ok (.getfield 14, 3) := by decide +kernel
theorem dX0_sent_4 : decode cX0_sent 4 = .ok (.getfield 30, 3) := by decide +kernel
theorem dX0_sent_7 : decode cX0_sent 7 = .ok (.ireturn, 1) := by decide +kernel
theorem dX0_stillUnderWay_0 : decode cX0_stillUnderWay 0 = .ok (.aload_n 0, 1) := by decide +kernel
theorem dX0_stillUnderWay_1 : decode cX0_stillUnderWay 1 = .ok (.getfield 14, 3) := by decide +kernel
theorem dX0_stillUnderWay_4 : decode cX0_stillUnderWay 4 = .ok (.getfield 30, 3) := by decide +kernel
theorem dX0_stillUnderWay_7 : decode cX0_stillUnderWay 7 = .ok (.aload_n 0, 1) := by decide +kernel
theorem dX0_stillUnderWay_8 : decode cX0_stillUnderWay 8 = .ok (.getfield 23, 3) := by decide +kernel
theorem dX0_stillUnderWay_11 : decode cX0_stillUnderWay 11 = .ok (.isub, 1) := by decide +kernel
theorem dX0_stillUnderWay_12 : decode cX0_stillUnderWay 12 = .ok (.aload_n 0, 1) := by decide +kernel
theorem dX0_stillUnderWay_13 : decode cX0_stillUnderWay 13 = .ok (.getfield 27, 3) := by decide +kernel
theorem dX0_stillUnderWay_16 : decode cX0_stillUnderWay 16 = .ok (.isub, 1) := by decide +kernel
theorem dX0_stillUnderWay_17 : decode cX0_stillUnderWay 17 = .ok (.ireturn, 1) := by decide +kernel
theorem dX0_hasLetter_0 : decode cX0_hasLetter 0 = .ok (.iload_n 1, 1) := by decide +kernel
theorem dX0_hasLetter_1 : decode cX0_hasLetter 1 = .ok (.ifCond .lt 18, 3) := by decide +kernel
theorem dX0_hasLetter_4 : decode cX0_hasLetter 4 = .ok (.iload_n 1, 1) := by decide +kernel
theorem dX0_hasLetter_5 : decode cX0_hasLetter 5 = .ok (.aload_n 0, 1) := by decide +kernel
theorem dX0_hasLetter_6 : decode cX0_hasLetter 6 = .ok (.getfield 14, 3) := by decide +kernel
theorem dX0_hasLetter_9 : decode cX0_hasLetter 9 = .ok (.getfield 30, 3) := by decide +kernel
theorem dX0_hasLetter_12 : decode cX0_hasLetter 12 = .ok (.if_icmp .ge 7, 3) := by decide +kernel
theorem dX0_hasLetter_15 : decode cX0_hasLetter 15 = .ok (.iconst 1, 1) := by decide +kernel
theorem dX0_hasLetter_16 : decode cX0_hasLetter 16 = .ok (.goto 4, 3) := by decide +kernel
theorem dX0_hasLetter_19 : decode cX0_hasLetter 19 = .ok (.iconst 0, 1) := by decide +kernel
theorem dX0_hasLetter_20 : decode cX0_hasLetter 20 = .ok (.ireturn, 1) := by decide +kernel
theorem dX0_ofLetter_0 : decode cX0_ofLetter 0 = .ok (.aload_n 0, 1) := by decide +kernel
theorem dX0_ofLetter_1 : decode cX0_ofLetter 1 = .ok (.getfield 14, 3) := by decide +kernel
theorem dX0_ofLetter_4 : decode cX0_ofLetter 4 = .ok (.iload_n 1, 1) := by decide +kernel
theorem dX0_ofLetter_5 : decode cX0_ofLetter 5 = .ok (.iload_n 2, 1) := by decide +kernel
theorem dX0_ofLetter_6 : decode cX0_ofLetter 6 = .ok (.invokevirtual 37, 3) := by decide +kernel
theorem dX0_ofLetter_9 : decode cX0_ofLetter 9 = .ok (.ireturn, 1) := by decide +kernel
theorem dX0_ofPiece_0 : decode cX0_ofPiece 0 = .ok (.iload_n 2, 1) := by decide +kernel
theorem dX0_ofPiece_1 : decode cX0_ofPiece 1 = .ok (.ifCond .lt 16, 3) := by decide +kernel
theorem dX0_ofPiece_4 : decode cX0_ofPiece 4 = .ok (.iload_n 2, 1) := by decide +kernel
theorem dX0_ofPiece_5 : decode cX0_ofPiece 5 = .ok (.aload_n 0, 1) := by decide +kernel
theorem dX0_ofPiece_6 : decode cX0_ofPiece 6 = .ok (.getfield 14, 3) := by decide +kernel
theorem dX0_ofPiece_9 : decode cX0_ofPiece 9 = .ok (.iload_n 1, 1) := by decide +kernel
theorem dX0_ofPiece_10 : decode cX0_ofPiece 10 = .ok (.iconst 4, 1) := by decide +kernel
theorem dX0_ofPiece_11 : decode cX0_ofPiece 11 = .ok (.invokevirtual 37, 3) := by decide +kernel
theorem dX0_ofPiece_14 : decode cX0_ofPiece 14 = .ok (.if_icmp .lt 5, 3) := by decide +kernel
theorem dX0_ofPiece_17 : decode cX0_ofPiece 17 = .ok (.iconst (-1), 1) := by decide +kernel
theorem dX0_ofPiece_18 : decode cX0_ofPiece 18 = .ok (.ireturn, 1) := by decide +kernel
theorem dX0_ofPiece_19 : decode cX0_ofPiece 19 = .ok (.aload_n 0, 1) := by decide +kernel
theorem dX0_ofPiece_20 : decode cX0_ofPiece 20 = .ok (.getfield 20, 3) := by decide +kernel
theorem dX0_ofPiece_23 : decode cX0_ofPiece 23 = .ok (.aload_n 0, 1) := by decide +kernel
theorem dX0_ofPiece_24 : decode cX0_ofPiece 24 = .ok (.getfield 14, 3) := by decide +kernel
theorem dX0_ofPiece_27 : decode cX0_ofPiece 27 = .ok (.iload_n 1, 1) := by decide +kernel
theorem dX0_ofPiece_28 : decode cX0_ofPiece 28 = .ok (.bipush 7, 2) := by decide +kernel
theorem dX0_ofPiece_30 : decode cX0_ofPiece 30 = .ok (.invokevirtual 37, 3) := by decide +kernel
theorem dX0_ofPiece_33 : decode cX0_ofPiece 33 = .ok (.iload_n 2, 1) := by decide +kernel
theorem dX0_ofPiece_34 : decode cX0_ofPiece 34 = .ok (.iadd, 1) := by decide +kernel
theorem dX0_ofPiece_35 : decode cX0_ofPiece 35 = .ok (.iload_n 3, 1) := by decide +kernel
theorem dX0_ofPiece_36 : decode cX0_ofPiece 36 = .ok (.invokevirtual 37, 3) := by decide +kernel
theorem dX0_ofPiece_39 : decode cX0_ofPiece 39 = .ok (.ireturn, 1) := by decide +kernel
theorem dX0_nthUnderWay_0 : decode cX0_nthUnderWay 0 = .ok (.iconst 0, 1) := by decide +kernel
theorem dX0_nthUnderWay_1 : decode cX0_nthUnderWay 1 = .ok (.istore_n 2, 1) := by decide +kernel
theorem dX0_nthUnderWay_2 : decode cX0_nthUnderWay 2 = .ok (.iconst 0, 1) := by decide +kernel
theorem dX0_nthUnderWay_3 : decode cX0_nthUnderWay 3 = .ok (.istore_n 3, 1) := by decide +kernel
theorem dX0_nthUnderWay_4 : decode cX0_nthUnderWay 4 = .ok (.iload_n 3, 1) := by decide +kernel
theorem dX0_nthUnderWay_5 : decode cX0_nthUnderWay 5 = .ok (.aload_n 0, 1) := by decide +kernel
theorem dX0_nthUnderWay_6 : decode cX0_nthUnderWay 6 = .ok (.getfield 14, 3) := by decide +kernel
theorem dX0_nthUnderWay_9 : decode cX0_nthUnderWay 9 = .ok (.getfield 30, 3) := by decide +kernel
theorem dX0_nthUnderWay_12 : decode cX0_nthUnderWay 12 = .ok (.if_icmp .ge 31, 3) := by decide +kernel
theorem dX0_nthUnderWay_15 : decode cX0_nthUnderWay 15 = .ok (.aload_n 0, 1) := by decide +kernel
theorem dX0_nthUnderWay_16 : decode cX0_nthUnderWay 16 = .ok (.getfield 14, 3) := by decide +kernel
theorem dX0_nthUnderWay_19 : decode cX0_nthUnderWay 19 = .ok (.iload_n 3, 1) := by decide +kernel
theorem dX0_nthUnderWay_20 : decode cX0_nthUnderWay 20 = .ok (.iconst 5, 1) := by decide +kernel
theorem dX0_nthUnderWay_21 : decode cX0_nthUnderWay 21 = .ok (.invokevirtual 37, 3) := by decide +kernel
theorem dX0_nthUnderWay_24 : decode cX0_nthUnderWay 24 = .ok (.ifCond .ne 13, 3) := by decide +kernel
theorem dX0_nthUnderWay_27 : decode cX0_nthUnderWay 27 = .ok (.iload_n 2, 1) := by decide +kernel
theorem dX0_nthUnderWay_28 : decode cX0_nthUnderWay 28 = .ok (.iload_n 1, 1) := by decide +kernel
theorem dX0_nthUnderWay_29 : decode cX0_nthUnderWay 29 = .ok (.if_icmp .ne 5, 3) := by decide +kernel
theorem dX0_nthUnderWay_32 : decode cX0_nthUnderWay 32 = .ok (.iload_n 3, 1) := by decide +kernel
theorem dX0_nthUnderWay_33 : decode cX0_nthUnderWay 33 = .ok (.ireturn, 1) := by decide +kernel
theorem dX0_nthUnderWay_34 : decode cX0_nthUnderWay 34 = .ok (.iinc 2 1, 3) := by decide +kernel
theorem dX0_nthUnderWay_37 : decode cX0_nthUnderWay 37 = .ok (.iinc 3 1, 3) := by decide +kernel
theorem dX0_nthUnderWay_40 : decode cX0_nthUnderWay 40 = .ok (.goto (-36), 3) := by decide +kernel
theorem dX0_nthUnderWay_43 : decode cX0_nthUnderWay 43 = .ok (.iconst (-1), 1) := by decide +kernel
theorem dX0_nthUnderWay_44 : decode cX0_nthUnderWay 44 = .ok (.ireturn, 1) := by decide +kernel
theorem dX0_open_0 : decode cX0_open 0 = .ok (.aload_n 0, 1) := by decide +kernel
theorem dX0_open_1 : decode cX0_open 1 = .ok (.getfield 14, 3) := by decide +kernel
theorem dX0_open_4 : decode cX0_open 4 = .ok (.invokevirtual 41, 3) := by decide +kernel
theorem dX0_open_7 : decode cX0_open 7 = .ok (.istore 6, 2) := by decide +kernel
theorem dX0_open_9 : decode cX0_open 9 = .ok (.aload_n 0, 1) := by decide +kernel
theorem dX0_open_10 : decode cX0_open 10 = .ok (.getfield 14, 3) := by decide +kernel
theorem dX0_open_13 : decode cX0_open 13 = .ok (.iload 6, 2) := by decide +kernel
theorem dX0_open_15 : decode cX0_open 15 = .ok (.iconst 0, 1) := by decide +kernel
theorem dX0_open_16 : decode cX0_open 16 = .ok (.iload_n 1, 1) := by decide +kernel
theorem dX0_open_17 : decode cX0_open 17 = .ok (.invokevirtual 45, 3) := by decide +kernel
theorem dX0_open_20 : decode cX0_open 20 = .ok (.aload_n 0, 1) := by decide +kernel
theorem dX0_open_21 : decode cX0_open 21 = .ok (.getfield 14, 3) := by decide +kernel
theorem dX0_open_24 : decode cX0_open 24 = .ok (.iload 6, 2) := by decide +kernel
theorem dX0_open_26 : decode cX0_open 26 = .ok (.iconst 1, 1) := by decide +kernel
theorem dX0_open_27 : decode cX0_open 27 = .ok (.iload_n 2, 1) := by decide +kernel
theorem dX0_open_28 : decode cX0_open 28 = .ok (.invokevirtual 45, 3) := by decide +kernel
theorem dX0_open_31 : decode cX0_open 31 = .ok (.aload_n 0, 1) := by decide +kernel
theorem dX0_open_32 : decode cX0_open 32 = .ok (.getfield 14, 3) := by decide +kernel
theorem dX0_open_35 : decode cX0_open 35 = .ok (.iload 6, 2) := by decide +kernel
theorem dX0_open_37 : decode cX0_open 37 = .ok (.iconst 2, 1) := by decide +kernel
theorem dX0_open_38 : decode cX0_open 38 = .ok (.iload_n 3, 1) := by decide +kernel
theorem dX0_open_39 : decode cX0_open 39 = .ok (.invokevirtual 45, 3) := by decide +kernel
theorem dX0_open_42 : decode cX0_open 42 = .ok (.aload_n 0, 1) := by decide +kernel
theorem dX0_open_43 : decode cX0_open 43 = .ok (.getfield 14, 3) := by decide +kernel
theorem dX0_open_46 : decode cX0_open 46 = .ok (.iload 6, 2) := by decide +kernel
theorem dX0_open_48 : decode cX0_open 48 = .ok (.iconst 3, 1) := by decide +kernel
theorem dX0_open_49 : decode cX0_open 49 = .ok (.iload 4, 2) := by decide +kernel
theorem dX0_open_51 : decode cX0_open 51 = .ok (.invokevirtual 45, 3) := by decide +kernel
theorem dX0_open_54 : decode cX0_open 54 = .ok (.aload_n 0, 1) := by decide +kernel
theorem dX0_open_55 : decode cX0_open 55 = .ok (.getfield 14, 3) := by decide +kernel
theorem dX0_open_58 : decode cX0_open 58 = .ok (.iload 6, 2) := by decide +kernel
theorem dX0_open_60 : decode cX0_open 60 = .ok (.bipush 6, 2) := by decide +kernel
theorem dX0_open_62 : decode cX0_open 62 = .ok (.iload 5, 2) := by decide +kernel
theorem dX0_open_64 : decode cX0_open 64 = .ok (.invokevirtual 45, 3) := by decide +kernel
theorem dX0_open_67 : decode cX0_open 67 = .ok (.aload_n 0, 1) := by decide +kernel
theorem dX0_open_68 : decode cX0_open 68 = .ok (.getfield 14, 3) := by decide +kernel
theorem dX0_open_71 : decode cX0_open 71 = .ok (.iload 6, 2) := by decide +kernel
theorem dX0_open_73 : decode cX0_open 73 = .ok (.bipush 7, 2) := by decide +kernel
theorem dX0_open_75 : decode cX0_open 75 = .ok (.aload_n 0, 1) := by decide +kernel
theorem dX0_open_76 : decode cX0_open 76 = .ok (.getfield 20, 3) := by decide +kernel
theorem dX0_open_79 : decode cX0_open 79 = .ok (.getfield 30, 3) := by decide +kernel
theorem dX0_open_82 : decode cX0_open 82 = .ok (.invokevirtual 45, 3) := by decide +kernel
theorem dX0_open_85 : decode cX0_open 85 = .ok (.iload 6, 2) := by decide +kernel
theorem dX0_open_87 : decode cX0_open 87 = .ok (.ireturn, 1) := by decide +kernel
theorem dX0_put_0 : decode cX0_put 0 = .ok (.aload_n 0, 1) := by decide +kernel
theorem dX0_put_1 : decode cX0_put 1 = .ok (.getfield 20, 3) := by decide +kernel
theorem dX0_put_4 : decode cX0_put 4 = .ok (.invokevirtual 41, 3) := by decide +kernel
theorem dX0_put_7 : decode cX0_put 7 = .ok (.istore 5, 2) := by decide +kernel
theorem dX0_put_9 : decode cX0_put 9 = .ok (.aload_n 0, 1) := by decide +kernel
theorem dX0_put_10 : decode cX0_put 10 = .ok (.getfield 14, 3) := by decide +kernel
theorem dX0_put_13 : decode cX0_put 13 = .ok (.getfield 30, 3) := by decide +kernel
theorem dX0_put_16 : decode cX0_put 16 = .ok (.iconst 1, 1) := by decide +kernel
theorem dX0_put_17 : decode cX0_put 17 = .ok (.isub, 1) := by decide +kernel
theorem dX0_put_18 : decode cX0_put 18 = .ok (.istore 6, 2) := by decide +kernel
theorem dX0_put_20 : decode cX0_put 20 = .ok (.iload 5, 2) := by decide +kernel
theorem dX0_put_22 : decode cX0_put 22 = .ok (.iconst (-1), 1) := by decide +kernel
theorem dX0_put_23 : decode cX0_put 23 = .ok (.if_icmp .eq 8, 3) := by decide +kernel
theorem dX0_put_26 : decode cX0_put 26 = .ok (.iload 6, 2) := by decide +kernel
theorem dX0_put_28 : decode cX0_put 28 = .ok (.ifCond .ge 4, 3) := by decide +kernel
theorem dX0_put_31 : decode cX0_put 31 = .ok (.return_, 1) := by decide +kernel
theorem dX0_put_32 : decode cX0_put 32 = .ok (.aload_n 0, 1) := by decide +kernel
theorem dX0_put_33 : decode cX0_put 33 = .ok (.getfield 20, 3) := by decide +kernel
theorem dX0_put_36 : decode cX0_put 36 = .ok (.iload 5, 2) := by decide +kernel
theorem dX0_put_38 : decode cX0_put 38 = .ok (.iconst 0, 1) := by decide +kernel
theorem dX0_put_39 : decode cX0_put 39 = .ok (.iload_n 1, 1) := by decide +kernel
theorem dX0_put_40 : decode cX0_put 40 = .ok (.invokevirtual 45, 3) := by decide +kernel
theorem dX0_put_43 : decode cX0_put 43 = .ok (.aload_n 0, 1) := by decide +kernel
theorem dX0_put_44 : decode cX0_put 44 = .ok (.getfield 20, 3) := by decide +kernel
theorem dX0_put_47 : decode cX0_put 47 = .ok (.iload 5, 2) := by decide +kernel
theorem dX0_put_49 : decode cX0_put 49 = .ok (.iconst 1, 1) := by decide +kernel
theorem dX0_put_50 : decode cX0_put 50 = .ok (.iload_n 2, 1) := by decide +kernel
theorem dX0_put_51 : decode cX0_put 51 = .ok (.invokevirtual 45, 3) := by decide +kernel
theorem dX0_put_54 : decode cX0_put 54 = .ok (.aload_n 0, 1) := by decide +kernel
theorem dX0_put_55 : decode cX0_put 55 = .ok (.getfield 20, 3) := by decide +kernel
theorem dX0_put_58 : decode cX0_put 58 = .ok (.iload 5, 2) := by decide +kernel
theorem dX0_put_60 : decode cX0_put 60 = .ok (.iconst 2, 1) := by decide +kernel
theorem dX0_put_61 : decode cX0_put 61 = .ok (.iload_n 3, 1) := by decide +kernel
theorem dX0_put_62 : decode cX0_put 62 = .ok (.invokevirtual 45, 3) := by decide +kernel
theorem dX0_put_65 : decode cX0_put 65 = .ok (.aload_n 0, 1) := by decide +kernel
theorem dX0_put_66 : decode cX0_put 66 = .ok (.getfield 20, 3) := by decide +kernel
theorem dX0_put_69 : decode cX0_put 69 = .ok (.iload 5, 2) := by decide +kernel
theorem dX0_put_71 : decode cX0_put 71 = .ok (.iconst 3, 1) := by decide +kernel
theorem dX0_put_72 : decode cX0_put 72 = .ok (.iload 4, 2) := by decide +kernel
theorem dX0_put_74 : decode cX0_put 74 = .ok (.invokevirtual 45, 3) := by decide +kernel
theorem dX0_put_77 : decode cX0_put 77 = .ok (.aload_n 0, 1) := by decide +kernel
theorem dX0_put_78 : decode cX0_put 78 = .ok (.getfield 14, 3) := by decide +kernel
theorem dX0_put_81 : decode cX0_put 81 = .ok (.iload 6, 2) := by decide +kernel
theorem dX0_put_83 : decode cX0_put 83 = .ok (.iconst 4, 1) := by decide +kernel
theorem dX0_put_84 : decode cX0_put 84 = .ok (.aload_n 0, 1) := by decide +kernel
theorem dX0_put_85 : decode cX0_put 85 = .ok (.getfield 14, 3) := by decide +kernel
theorem dX0_put_88 : decode cX0_put 88 = .ok (.iload 6, 2) := by decide +kernel
theorem dX0_put_90 : decode cX0_put 90 = .ok (.iconst 4, 1) := by decide +kernel
theorem dX0_put_91 : decode cX0_put 91 = .ok (.invokevirtual 37, 3) := by decide +kernel
theorem dX0_put_94 : decode cX0_put 94 = .ok (.iconst 1, 1) := by decide +kernel
theorem dX0_put_95 : decode cX0_put 95 = .ok (.iadd, 1) := by decide +kernel
theorem dX0_put_96 : decode cX0_put 96 = .ok (.invokevirtual 45, 3) := by decide +kernel
theorem dX0_put_99 : decode cX0_put 99 = .ok (.return_, 1) := by decide +kernel
theorem dX0_sendCopy_0 : decode cX0_sendCopy 0 = .ok (.aload_n 0, 1) := by decide +kernel
theorem dX0_sendCopy_1 : decode cX0_sendCopy 1 = .ok (.aload_n 0, 1) := by decide +kernel
theorem dX0_sendCopy_2 : decode cX0_sendCopy 2 = .ok (.iload_n 1, 1) := by decide +kernel
theorem dX0_sendCopy_3 : decode cX0_sendCopy 3 = .ok (.iconst 0, 1) := by decide +kernel
theorem dX0_sendCopy_4 : decode cX0_sendCopy 4 = .ok (.invokevirtual 49, 3) := by decide +kernel
theorem dX0_sendCopy_7 : decode cX0_sendCopy 7 = .ok (.aload_n 0, 1) := by decide +kernel
theorem dX0_sendCopy_8 : decode cX0_sendCopy 8 = .ok (.iload_n 1, 1) := by decide +kernel
theorem dX0_sendCopy_9 : decode cX0_sendCopy 9 = .ok (.iconst 1, 1) := by decide +kernel
theorem dX0_sendCopy_10 : decode cX0_sendCopy 10 = .ok (.invokevirtual 49, 3) := by decide +kernel
theorem dX0_sendCopy_13 : decode cX0_sendCopy 13 = .ok (.aload_n 0, 1) := by decide +kernel
theorem dX0_sendCopy_14 : decode cX0_sendCopy 14 = .ok (.iload_n 1, 1) := by decide +kernel
theorem dX0_sendCopy_15 : decode cX0_sendCopy 15 = .ok (.iconst 2, 1) := by decide +kernel
theorem dX0_sendCopy_16 : decode cX0_sendCopy 16 = .ok (.invokevirtual 49, 3) := by decide +kernel
theorem dX0_sendCopy_19 : decode cX0_sendCopy 19 = .ok (.aload_n 0, 1) := by decide +kernel
theorem dX0_sendCopy_20 : decode cX0_sendCopy 20 = .ok (.iload_n 1, 1) := by decide +kernel
theorem dX0_sendCopy_21 : decode cX0_sendCopy 21 = .ok (.iconst 3, 1) := by decide +kernel
theorem dX0_sendCopy_22 : decode cX0_sendCopy 22 = .ok (.invokevirtual 49, 3) := by decide +kernel
theorem dX0_sendCopy_25 : decode cX0_sendCopy 25 = .ok (.iload_n 1, 1) := by decide +kernel
theorem dX0_sendCopy_26 : decode cX0_sendCopy 26 = .ok (.invokevirtual 52, 3) := by decide +kernel
theorem dX0_sendCopy_29 : decode cX0_sendCopy 29 = .ok (.istore_n 2, 1) := by decide +kernel
theorem dX0_sendCopy_30 : decode cX0_sendCopy 30 = .ok (.aload_n 0, 1) := by decide +kernel
theorem dX0_sendCopy_31 : decode cX0_sendCopy 31 = .ok (.iload_n 1, 1) := by decide +kernel
theorem dX0_sendCopy_32 : decode cX0_sendCopy 32 = .ok (.iconst 4, 1) := by decide +kernel
theorem dX0_sendCopy_33 : decode cX0_sendCopy 33 = .ok (.invokevirtual 49, 3) := by decide +kernel
theorem dX0_sendCopy_36 : decode cX0_sendCopy 36 = .ok (.istore_n 3, 1) := by decide +kernel
theorem dX0_sendCopy_37 : decode cX0_sendCopy 37 = .ok (.iconst 0, 1) := by decide +kernel
theorem dX0_sendCopy_38 : decode cX0_sendCopy 38 = .ok (.istore 4, 2) := by decide +kernel
theorem dX0_sendCopy_40 : decode cX0_sendCopy 40 = .ok (.iload 4, 2) := by decide +kernel
theorem dX0_sendCopy_42 : decode cX0_sendCopy 42 = .ok (.iload_n 3, 1) := by decide +kernel
theorem dX0_sendCopy_43 : decode cX0_sendCopy 43 = .ok (.if_icmp .ge 45, 3) := by decide +kernel
theorem dX0_sendCopy_46 : decode cX0_sendCopy 46 = .ok (.aload_n 0, 1) := by decide +kernel
theorem dX0_sendCopy_47 : decode cX0_sendCopy 47 = .ok (.aload_n 0, 1) := by decide +kernel
theorem dX0_sendCopy_48 : decode cX0_sendCopy 48 = .ok (.iload_n 1, 1) := by decide +kernel
theorem dX0_sendCopy_49 : decode cX0_sendCopy 49 = .ok (.iload 4, 2) := by decide +kernel
theorem dX0_sendCopy_51 : decode cX0_sendCopy 51 = .ok (.iconst 0, 1) := by decide +kernel
theorem dX0_sendCopy_52 : decode cX0_sendCopy 52 = .ok (.invokevirtual 56, 3) := by decide +kernel
theorem dX0_sendCopy_55 : decode cX0_sendCopy 55 = .ok (.aload_n 0, 1) := by decide +kernel
theorem dX0_sendCopy_56 : decode cX0_sendCopy 56 = .ok (.iload_n 1, 1) := by decide +kernel
theorem dX0_sendCopy_57 : decode cX0_sendCopy 57 = .ok (.iload 4, 2) := by decide +kernel
theorem dX0_sendCopy_59 : decode cX0_sendCopy 59 = .ok (.iconst 1, 1) := by decide +kernel
theorem dX0_sendCopy_60 : decode cX0_sendCopy 60 = .ok (.invokevirtual 56, 3) := by decide +kernel
theorem dX0_sendCopy_63 : decode cX0_sendCopy 63 = .ok (.aload_n 0, 1) := by decide +kernel
theorem dX0_sendCopy_64 : decode cX0_sendCopy 64 = .ok (.iload_n 1, 1) := by decide +kernel
theorem dX0_sendCopy_65 : decode cX0_sendCopy 65 = .ok (.iload 4, 2) := by decide +kernel
theorem dX0_sendCopy_67 : decode cX0_sendCopy 67 = .ok (.iconst 2, 1) := by decide +kernel
theorem dX0_sendCopy_68 : decode cX0_sendCopy 68 = .ok (.invokevirtual 56, 3) := by decide +kernel
theorem dX0_sendCopy_71 : decode cX0_sendCopy 71 = .ok (.aload_n 0, 1) := by decide +kernel
theorem dX0_sendCopy_72 : decode cX0_sendCopy 72 = .ok (.iload_n 1, 1) := by decide +kernel
theorem dX0_sendCopy_73 : decode cX0_sendCopy 73 = .ok (.iload 4, 2) := by decide +kernel
theorem dX0_sendCopy_75 : decode cX0_sendCopy 75 = .ok (.iconst 3, 1) := by decide +kernel
theorem dX0_sendCopy_76 : decode cX0_sendCopy 76 = .ok (.invokevirtual 56, 3) := by decide +kernel
theorem dX0_sendCopy_79 : decode cX0_sendCopy 79 = .ok (.invokevirtual 60, 3) := by decide +kernel
theorem dX0_sendCopy_82 : decode cX0_sendCopy 82 = .ok (.iinc 4 1, 3) := by decide +kernel
theorem dX0_sendCopy_85 : decode cX0_sendCopy 85 = .ok (.goto (-45), 3) := by decide +kernel
theorem dX0_sendCopy_88 : decode cX0_sendCopy 88 = .ok (.iload_n 2, 1) := by decide +kernel
theorem dX0_sendCopy_89 : decode cX0_sendCopy 89 = .ok (.ireturn, 1) := by decide +kernel
theorem dX0_endAsDelivered_0 : decode cX0_endAsDelivered 0 = .ok (.aload_n 0, 1) := by decide +kernel
theorem dX0_endAsDelivered_1 : decode cX0_endAsDelivered 1 = .ok (.getfield 14, 3) := by decide +kernel
theorem dX0_endAsDelivered_4 : decode cX0_endAsDelivered 4 = .ok (.iload_n 1, 1) := by decide +kernel
theorem dX0_endAsDelivered_5 : decode cX0_endAsDelivered 5 = .ok (.iconst 5, 1) := by decide +kernel
theorem dX0_endAsDelivered_6 : decode cX0_endAsDelivered 6 = .ok (.iconst 1, 1) := by decide +kernel
theorem dX0_endAsDelivered_7 : decode cX0_endAsDelivered 7 = .ok (.invokevirtual 45, 3) := by decide +kernel
theorem dX0_endAsDelivered_10 : decode cX0_endAsDelivered 10 = .ok (.aload_n 0, 1) := by decide +kernel
theorem dX0_endAsDelivered_11 : decode cX0_endAsDelivered 11 = .ok (.dup, 1) := by decide +kernel
theorem dX0_endAsDelivered_12 : decode cX0_endAsDelivered 12 = .ok (.getfield 23, 3) := by decide +kernel
theorem dX0_endAsDelivered_15 : decode cX0_endAsDelivered 15 = .ok (.iconst 1, 1) := by decide +kernel
theorem dX0_endAsDelivered_16 : decode cX0_endAsDelivered 16 = .ok (.iadd, 1) := by decide +kernel
theorem dX0_endAsDelivered_17 : decode cX0_endAsDelivered 17 = .ok (.putfield 23, 3) := by decide +kernel
theorem dX0_endAsDelivered_20 : decode cX0_endAsDelivered 20 = .ok (.return_, 1) := by decide +kernel
theorem dX0_endAsLost_0 : decode cX0_endAsLost 0 = .ok (.aload_n 0, 1) := by decide +kernel
theorem dX0_endAsLost_1 : decode cX0_endAsLost 1 = .ok (.getfield 14, 3) := by decide +kernel
theorem dX0_endAsLost_4 : decode cX0_endAsLost 4 = .ok (.iload_n 1, 1) := by decide +kernel
theorem dX0_endAsLost_5 : decode cX0_endAsLost 5 = .ok (.iconst 5, 1) := by decide +kernel
theorem dX0_endAsLost_6 : decode cX0_endAsLost 6 = .ok (.iconst 2, 1) := by decide +kernel
theorem dX0_endAsLost_7 : decode cX0_endAsLost 7 = .ok (.invokevirtual 45, 3) := by decide +kernel
theorem dX0_endAsLost_10 : decode cX0_endAsLost 10 = .ok (.aload_n 0, 1) := by decide +kernel
theorem dX0_endAsLost_11 : decode cX0_endAsLost 11 = .ok (.dup, 1) := by decide +kernel
theorem dX0_endAsLost_12 : decode cX0_endAsLost 12 = .ok (.getfield 27, 3) := by decide +kernel
theorem dX0_endAsLost_15 : decode cX0_endAsLost 15 = .ok (.iconst 1, 1) := by decide +kernel
theorem dX0_endAsLost_16 : decode cX0_endAsLost 16 = .ok (.iadd, 1) := by decide +kernel
theorem dX0_endAsLost_17 : decode cX0_endAsLost 17 = .ok (.putfield 27, 3) := by decide +kernel
theorem dX0_endAsLost_20 : decode cX0_endAsLost 20 = .ok (.return_, 1) := by decide +kernel
theorem dX0_findPiece_0 : decode cX0_findPiece 0 = .ok (.aload_n 0, 1) := by decide +kernel
theorem dX0_findPiece_1 : decode cX0_findPiece 1 = .ok (.iload_n 1, 1) := by decide +kernel
theorem dX0_findPiece_2 : decode cX0_findPiece 2 = .ok (.iconst 4, 1) := by decide +kernel
theorem dX0_findPiece_3 : decode cX0_findPiece 3 = .ok (.invokevirtual 49, 3) := by decide +kernel
theorem dX0_findPiece_6 : decode cX0_findPiece 6 = .ok (.istore_n 3, 1) := by decide +kernel
theorem dX0_findPiece_7 : decode cX0_findPiece 7 = .ok (.iconst 0, 1) := by decide +kernel
theorem dX0_findPiece_8 : decode cX0_findPiece 8 = .ok (.istore 4, 2) := by decide +kernel
theorem dX0_findPiece_10 : decode cX0_findPiece 10 = .ok (.iload 4, 2) := by decide +kernel
theorem dX0_findPiece_12 : decode cX0_findPiece 12 = .ok (.iload_n 3, 1) := by decide +kernel
theorem dX0_findPiece_13 : decode cX0_findPiece 13 = .ok (.if_icmp .ge 24, 3) := by decide +kernel
theorem dX0_findPiece_16 : decode cX0_findPiece 16 = .ok (.aload_n 0, 1) := by decide +kernel
theorem dX0_findPiece_17 : decode cX0_findPiece 17 = .ok (.iload_n 1, 1) := by decide +kernel
theorem dX0_findPiece_18 : decode cX0_findPiece 18 = .ok (.iload 4, 2) := by decide +kernel
theorem dX0_findPiece_20 : decode cX0_findPiece 20 = .ok (.iconst 0, 1) := by decide +kernel
theorem dX0_findPiece_21 : decode cX0_findPiece 21 = .ok (.invokevirtual 56, 3) := by decide +kernel
theorem dX0_findPiece_24 : decode cX0_findPiece 24 = .ok (.iload_n 2, 1) := by decide +kernel
theorem dX0_findPiece_25 : decode cX0_findPiece 25 = .ok (.if_icmp .ne 6, 3) := by decide +kernel
theorem dX0_findPiece_28 : decode cX0_findPiece 28 = .ok (.iload 4, 2) := by decide +kernel
theorem dX0_findPiece_30 : decode cX0_findPiece 30 = .ok (.ireturn, 1) := by decide +kernel
theorem dX0_findPiece_31 : decode cX0_findPiece 31 = .ok (.iinc 4 1, 3) := by decide +kernel
theorem dX0_findPiece_34 : decode cX0_findPiece 34 = .ok (.goto (-24), 3) := by decide +kernel
theorem dX0_findPiece_37 : decode cX0_findPiece 37 = .ok (.iconst (-1), 1) := by decide +kernel
theorem dX0_findPiece_38 : decode cX0_findPiece 38 = .ok (.ireturn, 1) := by decide +kernel
theorem dX0_reached_0 : decode cX0_reached 0 = .ok (.aload_n 0, 1) := by decide +kernel
theorem dX0_reached_1 : decode cX0_reached 1 = .ok (.iload_n 1, 1) := by decide +kernel
theorem dX0_reached_2 : decode cX0_reached 2 = .ok (.invokevirtual 64, 3) := by decide +kernel
theorem dX0_reached_5 : decode cX0_reached 5 = .ok (.ifCond .eq 27, 3) := by decide +kernel
theorem dX0_reached_8 : decode cX0_reached 8 = .ok (.aload_n 0, 1) := by decide +kernel
theorem dX0_reached_9 : decode cX0_reached 9 = .ok (.iload_n 1, 1) := by decide +kernel
theorem dX0_reached_10 : decode cX0_reached 10 = .ok (.iconst 5, 1) := by decide +kernel
theorem dX0_reached_11 : decode cX0_reached 11 = .ok (.invokevirtual 49, 3) := by decide +kernel
theorem dX0_reached_14 : decode cX0_reached 14 = .ok (.iconst 1, 1) := by decide +kernel
theorem dX0_reached_15 : decode cX0_reached 15 = .ok (.if_icmp .ne 17, 3) := by decide +kernel
theorem dX0_reached_18 : decode cX0_reached 18 = .ok (.aload_n 0, 1) := by decide +kernel
theorem dX0_reached_19 : decode cX0_reached 19 = .ok (.iload_n 1, 1) := by decide +kernel
theorem dX0_reached_20 : decode cX0_reached 20 = .ok (.iconst 2, 1) := by decide +kernel
theorem dX0_reached_21 : decode cX0_reached 21 = .ok (.invokevirtual 49, 3) := by decide +kernel
theorem dX0_reached_24 : decode cX0_reached 24 = .ok (.iload_n 2, 1) := by decide +kernel
theorem dX0_reached_25 : decode cX0_reached 25 = .ok (.if_icmp .ne 7, 3) := by decide +kernel
theorem dX0_reached_28 : decode cX0_reached 28 = .ok (.iconst 1, 1) := by decide +kernel
theorem dX0_reached_29 : decode cX0_reached 29 = .ok (.goto 4, 3) := by decide +kernel
theorem dX0_reached_32 : decode cX0_reached 32 = .ok (.iconst 0, 1) := by decide +kernel
theorem dX0_reached_33 : decode cX0_reached 33 = .ok (.ireturn, 1) := by decide +kernel
theorem dX0_become_0 : decode cX0_become 0 = .ok (.aload_n 0, 1) := by decide +kernel
theorem dX0_become_1 : decode cX0_become 1 = .ok (.getfield 14, 3) := by decide +kernel
theorem dX0_become_4 : decode cX0_become 4 = .ok (.aload_n 1, 1) := by decide +kernel
theorem dX0_become_5 : decode cX0_become 5 = .ok (.getfield 14, 3) := by decide +kernel
theorem dX0_become_8 : decode cX0_become 8 = .ok (.invokevirtual 68, 3) := by decide +kernel
theorem dX0_become_11 : decode cX0_become 11 = .ok (.aload_n 0, 1) := by decide +kernel
theorem dX0_become_12 : decode cX0_become 12 = .ok (.getfield 20, 3) := by decide +kernel
theorem dX0_become_15 : decode cX0_become 15 = .ok (.aload_n 1, 1) := by decide +kernel
theorem dX0_become_16 : decode cX0_become 16 = .ok (.getfield 20, 3) := by decide +kernel
theorem dX0_become_19 : decode cX0_become 19 = .ok (.invokevirtual 68, 3) := by decide +kernel
theorem dX0_become_22 : decode cX0_become 22 = .ok (.aload_n 0, 1) := by decide +kernel
theorem dX0_become_23 : decode cX0_become 23 = .ok (.aload_n 1, 1) := by decide +kernel
theorem dX0_become_24 : decode cX0_become 24 = .ok (.getfield 23, 3) := by decide +kernel
theorem dX0_become_27 : decode cX0_become 27 = .ok (.putfield 23, 3) := by decide +kernel
theorem dX0_become_30 : decode cX0_become 30 = .ok (.aload_n 0, 1) := by decide +kernel
theorem dX0_become_31 : decode cX0_become 31 = .ok (.aload_n 1, 1) := by decide +kernel
theorem dX0_become_32 : decode cX0_become 32 = .ok (.getfield 27, 3) := by decide +kernel
theorem dX0_become_35 : decode cX0_become 35 = .ok (.putfield 27, 3) := by decide +kernel
theorem dX0_become_38 : decode cX0_become 38 = .ok (.return_, 1) := by decide +kernel
theorem dX0_sameAs_0 : decode cX0_sameAs 0 = .ok (.aload_n 0, 1) := by decide +kernel
theorem dX0_sameAs_1 : decode cX0_sameAs 1 = .ok (.getfield 23, 3) := by decide +kernel
theorem dX0_sameAs_4 : decode cX0_sameAs 4 = .ok (.aload_n 1, 1) := by decide +kernel
theorem dX0_sameAs_5 : decode cX0_sameAs 5 = .ok (.getfield 23, 3) := by decide +kernel
theorem dX0_sameAs_8 : decode cX0_sameAs 8 = .ok (.if_icmp .ne 46, 3) := by decide +kernel
theorem dX0_sameAs_11 : decode cX0_sameAs 11 = .ok (.aload_n 0, 1) := by decide +kernel
theorem dX0_sameAs_12 : decode cX0_sameAs 12 = .ok (.getfield 27, 3) := by decide +kernel
theorem dX0_sameAs_15 : decode cX0_sameAs 15 = .ok (.aload_n 1, 1) := by decide +kernel
theorem dX0_sameAs_16 : decode cX0_sameAs 16 = .ok (.getfield 27, 3) := by decide +kernel
theorem dX0_sameAs_19 : decode cX0_sameAs 19 = .ok (.if_icmp .ne 35, 3) := by decide +kernel
theorem dX0_sameAs_22 : decode cX0_sameAs 22 = .ok (.aload_n 0, 1) := by decide +kernel
theorem dX0_sameAs_23 : decode cX0_sameAs 23 = .ok (.getfield 14, 3) := by decide +kernel
theorem dX0_sameAs_26 : decode cX0_sameAs 26 = .ok (.aload_n 1, 1) := by decide +kernel
theorem dX0_sameAs_27 : decode cX0_sameAs 27 = .ok (.getfield 14, 3) := by decide +kernel
theorem dX0_sameAs_30 : decode cX0_sameAs 30 = .ok (.invokevirtual 72, 3) := by decide +kernel
theorem dX0_sameAs_33 : decode cX0_sameAs 33 = .ok (.ifCond .eq 21, 3) := by decide +kernel
theorem dX0_sameAs_36 : decode cX0_sameAs 36 = .ok (.aload_n 0, 1) := by decide +kernel
theorem dX0_sameAs_37 : decode cX0_sameAs 37 = .ok (.getfield 20, 3) := by decide +kernel
theorem dX0_sameAs_40 : decode cX0_sameAs 40 = .ok (.aload_n 1, 1) := by decide +kernel
theorem dX0_sameAs_41 : decode cX0_sameAs 41 = .ok (.getfield 20, 3) := by decide +kernel
theorem dX0_sameAs_44 : decode cX0_sameAs 44 = .ok (.invokevirtual 72, 3) := by decide +kernel
theorem dX0_sameAs_47 : decode cX0_sameAs 47 = .ok (.ifCond .eq 7, 3) := by decide +kernel
theorem dX0_sameAs_50 : decode cX0_sameAs 50 = .ok (.iconst 1, 1) := by decide +kernel
theorem dX0_sameAs_51 : decode cX0_sameAs 51 = .ok (.goto 4, 3) := by decide +kernel
theorem dX0_sameAs_54 : decode cX0_sameAs 54 = .ok (.iconst 0, 1) := by decide +kernel
theorem dX0_sameAs_55 : decode cX0_sameAs 55 = .ok (.ireturn, 1) := by decide +kernel
theorem dX1_init_0 : decode cX1_init 0 = .ok (.aload_n 0, 1) := by decide +kernel
theorem dX1_init_1 : decode cX1_init 1 = .ok (.invokespecial 3, 3) := by decide +kernel
theorem dX1_init_4 : decode cX1_init 4 = .ok (.aload_n 0, 1) := by decide +kernel
theorem dX1_init_5 : decode cX1_init 5 = .ok (.iload_n 1, 1) := by decide +kernel
theorem dX1_init_6 : decode cX1_init 6 = .ok (.putfield 9, 3) := by decide +kernel
theorem dX1_init_9 : decode cX1_init 9 = .ok (.aload_n 0, 1) := by decide +kernel
theorem dX1_init_10 : decode cX1_init 10 = .ok (.iconst 0, 1) := by decide +kernel
theorem dX1_init_11 : decode cX1_init 11 = .ok (.putfield 15, 3) := by decide +kernel
theorem dX1_init_14 : decode cX1_init 14 = .ok (.aload_n 0, 1) := by decide +kernel
theorem dX1_init_15 : decode cX1_init 15 = .ok (.bipush 64, 2) := by decide +kernel
theorem dX1_init_17 : decode cX1_init 17 = .ok (.newarray .int, 2) := by decide +kernel
theorem dX1_init_19 : decode cX1_init 19 = .ok (.putfield 19, 3) := by decide +kernel
theorem dX1_init_22 : decode cX1_init 22 = .ok (.aload_n 0, 1) := by decide +kernel
theorem dX1_init_23 : decode cX1_init 23 = .ok (.bipush 64, 2) := by decide +kernel
theorem dX1_init_25 : decode cX1_init 25 = .ok (.newarray .int, 2) := by decide +kernel
theorem dX1_init_27 : decode cX1_init 27 = .ok (.putfield 23, 3) := by decide +kernel
theorem dX1_init_30 : decode cX1_init 30 = .ok (.aload_n 0, 1) := by decide +kernel
theorem dX1_init_31 : decode cX1_init 31 = .ok (.bipush 64, 2) := by decide +kernel
theorem dX1_init_33 : decode cX1_init 33 = .ok (.newarray .int, 2) := by decide +kernel
theorem dX1_init_35 : decode cX1_init 35 = .ok (.putfield 26, 3) := by decide +kernel
theorem dX1_init_38 : decode cX1_init 38 = .ok (.aload_n 0, 1) := by decide +kernel
theorem dX1_init_39 : decode cX1_init 39 = .ok (.bipush 64, 2) := by decide +kernel
theorem dX1_init_41 : decode cX1_init 41 = .ok (.newarray .int, 2) := by decide +kernel
theorem dX1_init_43 : decode cX1_init 43 = .ok (.putfield 29, 3) := by decide +kernel
theorem dX1_init_46 : decode cX1_init 46 = .ok (.aload_n 0, 1) := by decide +kernel
theorem dX1_init_47 : decode cX1_init 47 = .ok (.bipush 64, 2) := by decide +kernel
theorem dX1_init_49 : decode cX1_init 49 = .ok (.newarray .int, 2) := by decide +kernel
theorem dX1_init_51 : decode cX1_init 51 = .ok (.putfield 32, 3) := by decide +kernel
theorem dX1_init_54 : decode cX1_init 54 = .ok (.aload_n 0, 1) := by decide +kernel
theorem dX1_init_55 : decode cX1_init 55 = .ok (.bipush 64, 2) := by decide +kernel
theorem dX1_init_57 : decode cX1_init 57 = .ok (.newarray .int, 2) := by decide +kernel
theorem dX1_init_59 : decode cX1_init 59 = .ok (.putfield 35, 3) := by decide +kernel
theorem dX1_init_62 : decode cX1_init 62 = .ok (.return_, 1) := by decide +kernel
theorem dX1_begin_0 : decode cX1_begin 0 = .ok (.aload_n 0, 1) := by decide +kernel
theorem dX1_begin_1 : decode cX1_begin 1 = .ok (.iconst 1, 1) := by decide +kernel
theorem dX1_begin_2 : decode cX1_begin 2 = .ok (.putfield 15, 3) := by decide +kernel
theorem dX1_begin_5 : decode cX1_begin 5 = .ok (.aload_n 0, 1) := by decide +kernel
theorem dX1_begin_6 : decode cX1_begin 6 = .ok (.iconst 0, 1) := by decide +kernel
theorem dX1_begin_7 : decode cX1_begin 7 = .ok (.putfield 38, 3) := by decide +kernel
theorem dX1_begin_10 : decode cX1_begin 10 = .ok (.aload_n 0, 1) := by decide +kernel
theorem dX1_begin_11 : decode cX1_begin 11 = .ok (.lload_n 1, 1) := by decide +kernel
theorem dX1_begin_12 : decode cX1_begin 12 = .ok (.putfield 41, 3) := by decide +kernel
theorem dX1_begin_15 : decode cX1_begin 15 = .ok (.aload_n 0, 1) := by decide +kernel
theorem dX1_begin_16 : decode cX1_begin 16 = .ok (.iconst 1, 1) := by decide +kernel
theorem dX1_begin_17 : decode cX1_begin 17 = .ok (.putfield 45, 3) := by decide +kernel
theorem dX1_begin_20 : decode cX1_begin 20 = .ok (.aload_n 0, 1) := by decide +kernel
theorem dX1_begin_21 : decode cX1_begin 21 = .ok (.iconst 0, 1) := by decide +kernel
theorem dX1_begin_22 : decode cX1_begin 22 = .ok (.putfield 48, 3) := by decide +kernel
theorem dX1_begin_25 : decode cX1_begin 25 = .ok (.aload_n 0, 1) := by decide +kernel
theorem dX1_begin_26 : decode cX1_begin 26 = .ok (.invokevirtual 51, 3) := by decide +kernel
theorem dX1_begin_29 : decode cX1_begin 29 = .ok (.return_, 1) := by decide +kernel
theorem dX1_forgetAll_0 : decode cX1_forgetAll 0 = .ok (.aload_n 0, 1) := by decide +kernel
theorem dX1_forgetAll_1 : decode cX1_forgetAll 1 = .ok (.getfield 19, 3) := by decide +kernel
theorem dX1_forgetAll_4 : decode cX1_forgetAll 4 = .ok (.iconst 0, 1) := by decide +kernel
theorem dX1_forgetAll_5 : decode cX1_forgetAll 5 = .ok (.invokestatic 54, 3) := by decide +kernel
theorem dX1_forgetAll_8 : decode cX1_forgetAll 8 = .ok (.aload_n 0, 1) := by decide +kernel
theorem dX1_forgetAll_9 : decode cX1_forgetAll 9 = .ok (.getfield 23, 3) := by decide +kernel
theorem dX1_forgetAll_12 : decode cX1_forgetAll 12 = .ok (.iconst 0, 1) := by decide +kernel
theorem dX1_forgetAll_13 : decode cX1_forgetAll 13 = .ok (.invokestatic 54, 3) := by decide +kernel
theorem dX1_forgetAll_16 : decode cX1_forgetAll 16 = .ok (.aload_n 0, 1) := by decide +kernel
theorem dX1_forgetAll_17 : decode cX1_forgetAll 17 = .ok (.getfield 26, 3) := by decide +kernel
theorem dX1_forgetAll_20 : decode cX1_forgetAll 20 = .ok (.iconst 0, 1) := by decide +kernel
theorem dX1_forgetAll_21 : decode cX1_forgetAll 21 = .ok (.invokestatic 54, 3) := by decide +kernel
theorem dX1_forgetAll_24 : decode cX1_forgetAll 24 = .ok (.aload_n 0, 1) := by decide +kernel
theorem dX1_forgetAll_25 : decode cX1_forgetAll 25 = .ok (.getfield 29, 3) := by decide +kernel
theorem dX1_forgetAll_28 : decode cX1_forgetAll 28 = .ok (.iconst 0, 1) := by decide +kernel
theorem dX1_forgetAll_29 : decode cX1_forgetAll 29 = .ok (.invokestatic 54, 3) := by decide +kernel
theorem dX1_forgetAll_32 : decode cX1_forgetAll 32 = .ok (.aload_n 0, 1) := by decide +kernel
theorem dX1_forgetAll_33 : decode cX1_forgetAll 33 = .ok (.getfield 32, 3) := by decide +kernel
theorem dX1_forgetAll_36 : decode cX1_forgetAll 36 = .ok (.iconst 0, 1) := by decide +kernel
theorem dX1_forgetAll_37 : decode cX1_forgetAll 37 = .ok (.invokestatic 54, 3) := by decide +kernel
theorem dX1_forgetAll_40 : decode cX1_forgetAll 40 = .ok (.aload_n 0, 1) := by decide +kernel
theorem dX1_forgetAll_41 : decode cX1_forgetAll 41 = .ok (.invokevirtual 60, 3) := by decide +kernel
theorem dX1_forgetAll_44 : decode cX1_forgetAll 44 = .ok (.aload_n 0, 1) := by decide +kernel
theorem dX1_forgetAll_45 : decode cX1_forgetAll 45 = .ok (.aload_n 0, 1) := by decide +kernel
theorem dX1_forgetAll_46 : decode cX1_forgetAll 46 = .ok (.getfield 9, 3) := by decide +kernel
theorem dX1_forgetAll_49 : decode cX1_forgetAll 49 = .ok (.iconst 1, 1) := by decide +kernel
theorem dX1_forgetAll_50 : decode cX1_forgetAll 50 = .ok (.aload_n 0, 1) := by decide +kernel
theorem dX1_forgetAll_51 : decode cX1_forgetAll 51 = .ok (.getfield 45, 3) := by decide +kernel
theorem dX1_forgetAll_54 : decode cX1_forgetAll 54 = .ok (.invokevirtual 63, 3) := by decide +kernel
theorem dX1_forgetAll_57 : decode cX1_forgetAll 57 = .ok (.return_, 1) := by decide +kernel
theorem dX1_stopAsking_0 : decode cX1_stopAsking 0 = .ok (.aload_n 0, 1) := by decide +kernel
theorem dX1_stopAsking_1 : decode cX1_stopAsking 1 = .ok (.iconst (-1), 1) := by decide +kernel
theorem dX1_stopAsking_2 : decode cX1_stopAsking 2 = .ok (.putfield 67, 3) := by decide +kernel
theorem dX1_stopAsking_5 : decode cX1_stopAsking 5 = .ok (.aload_n 0, 1) := by decide +kernel
theorem dX1_stopAsking_6 : decode cX1_stopAsking 6 = .ok (.iconst (-1), 1) := by decide +kernel
theorem dX1_stopAsking_7 : decode cX1_stopAsking 7 = .ok (.putfield 70, 3) := by decide +kernel
theorem dX1_stopAsking_10 : decode cX1_stopAsking 10 = .ok (.aload_n 0, 1) := by decide +kernel
theorem dX1_stopAsking_11 : decode cX1_stopAsking 11 = .ok (.iconst 0, 1) := by decide +kernel
theorem dX1_stopAsking_12 : decode cX1_stopAsking 12 = .ok (.putfield 73, 3) := by decide +kernel
theorem dX1_stopAsking_15 : decode cX1_stopAsking 15 = .ok (.aload_n 0, 1) := by decide +kernel
theorem dX1_stopAsking_16 : decode cX1_stopAsking 16 = .ok (.iconst 0, 1) := by decide +kernel
theorem dX1_stopAsking_17 : decode cX1_stopAsking 17 = .ok (.putfield 76, 3) := by decide +kernel
theorem dX1_stopAsking_20 : decode cX1_stopAsking 20 = .ok (.return_, 1) := by decide +kernel
theorem dX1_say_0 : decode cX1_say 0 = .ok (.aload_n 0, 1) := by decide +kernel
theorem dX1_say_1 : decode cX1_say 1 = .ok (.iload_n 1, 1) := by decide +kernel
theorem dX1_say_2 : decode cX1_say 2 = .ok (.iload_n 2, 1) := by decide +kernel
theorem dX1_say_3 : decode cX1_say 3 = .ok (.iload_n 3, 1) := by decide +kernel
theorem dX1_say_4 : decode cX1_say 4 = .ok (.iconst (-1), 1) := by decide +kernel
theorem dX1_say_5 : decode cX1_say 5 = .ok (.invokevirtual 79, 3) := by decide +kernel
theorem dX1_say_8 : decode cX1_say 8 = .ok (.return_, 1) := by decide +kernel
theorem dX1_enter_0 : decode cX1_enter 0 = .ok (.iload_n 1, 1) := by decide +kernel
theorem dX1_enter_1 : decode cX1_enter 1 = .ok (.ifCond .lt 48, 3) := by decide +kernel
theorem dX1_enter_4 : decode cX1_enter 4 = .ok (.iload_n 1, 1) := by decide +kernel
theorem dX1_enter_5 : decode cX1_enter 5 = .ok (.bipush 64, 2) := by decide +kernel
theorem dX1_enter_7 : decode cX1_enter 7 = .ok (.if_icmp .ge 42, 3) := by decide +kernel
theorem dX1_enter_10 : decode cX1_enter 10 = .ok (.aload_n 0, 1) := by decide +kernel
theorem dX1_enter_11 : decode cX1_enter 11 = .ok (.getfield 19, 3) := by decide +kernel
theorem dX1_enter_14 : decode cX1_enter 14 = .ok (.iload_n 1, 1) := by decide +kernel
theorem dX1_enter_15 : decode cX1_enter 15 = .ok (.iload_n 2, 1) := by decide +kernel
theorem dX1_enter_16 : decode cX1_enter 16 = .ok (.iastore, 1) := by decide +kernel
theorem dX1_enter_17 : decode cX1_enter 17 = .ok (.aload_n 0, 1) := by decide +kernel
theorem dX1_enter_18 : decode cX1_enter 18 = .ok (.getfield 23, 3) := by decide +kernel
theorem dX1_enter_21 : decode cX1_enter 21 = .ok (.iload_n 1, 1) := by decide +kernel
theorem dX1_enter_22 : decode cX1_enter 22 = .ok (.iload_n 3, 1) := by decide +kernel
theorem dX1_enter_23 : decode cX1_enter 23 = .ok (.iastore, 1) := by decide +kernel
theorem dX1_enter_24 : decode cX1_enter 24 = .ok (.aload_n 0, 1) := by decide +kernel
theorem dX1_enter_25 : decode cX1_enter 25 = .ok (.getfield 26, 3) := by decide +kernel
theorem dX1_enter_28 : decode cX1_enter 28 = .ok (.iload_n 1, 1) := by decide +kernel
theorem dX1_enter_29 : decode cX1_enter 29 = .ok (.iconst 0, 1) := by decide +kernel
theorem dX1_enter_30 : decode cX1_enter 30 = .ok (.iastore, 1) := by decide +kernel
theorem dX1_enter_31 : decode cX1_enter 31 = .ok (.aload_n 0, 1) := by decide +kernel
theorem dX1_enter_32 : decode cX1_enter 32 = .ok (.getfield 29, 3) := by decide +kernel
theorem dX1_enter_35 : decode cX1_enter 35 = .ok (.iload_n 1, 1) := by decide +kernel
theorem dX1_enter_36 : decode cX1_enter 36 = .ok (.aload_n 0, 1) := by decide +kernel
theorem dX1_enter_37 : decode cX1_enter 37 = .ok (.getfield 48, 3) := by decide +kernel
theorem dX1_enter_40 : decode cX1_enter 40 = .ok (.iastore, 1) := by decide +kernel
theorem dX1_enter_41 : decode cX1_enter 41 = .ok (.aload_n 0, 1) := by decide +kernel
theorem dX1_enter_42 : decode cX1_enter 42 = .ok (.getfield 32, 3) := by decide +kernel
theorem dX1_enter_45 : decode cX1_enter 45 = .ok (.iload_n 1, 1) := by decide +kernel
theorem dX1_enter_46 : decode cX1_enter 46 = .ok (.iload 4, 2) := by decide +kernel
theorem dX1_enter_48 : decode cX1_enter 48 = .ok (.iastore, 1) := by decide +kernel
theorem dX1_enter_49 : decode cX1_enter 49 = .ok (.return_, 1) := by decide +kernel
theorem dX1_raiseTerm_0 : decode cX1_raiseTerm 0 = .ok (.aload_n 0, 1) := by decide +kernel
theorem dX1_raiseTerm_1 : decode cX1_raiseTerm 1 = .ok (.iload_n 1, 1) := by decide +kernel
theorem dX1_raiseTerm_2 : decode cX1_raiseTerm 2 = .ok (.putfield 45, 3) := by decide +kernel
theorem dX1_raiseTerm_5 : decode cX1_raiseTerm 5 = .ok (.aload_n 0, 1) := by decide +kernel
theorem dX1_raiseTerm_6 : decode cX1_raiseTerm 6 = .ok (.aload_n 0, 1) := by decide +kernel
theorem dX1_raiseTerm_7 : decode cX1_raiseTerm 7 = .ok (.getfield 9, 3) := by decide +kernel
theorem dX1_raiseTerm_10 : decode cX1_raiseTerm 10 = .ok (.iconst 1, 1) := by decide +kernel
theorem dX1_raiseTerm_11 : decode cX1_raiseTerm 11 = .ok (.iload_n 1, 1) := by decide +kernel
theorem dX1_raiseTerm_12 : decode cX1_raiseTerm 12 = .ok (.iconst (-1), 1) := by decide +kernel
theorem dX1_raiseTerm_13 : decode cX1_raiseTerm 13 = .ok (.invokevirtual 79, 3) := by decide +kernel
theorem dX1_raiseTerm_16 : decode cX1_raiseTerm 16 = .ok (.return_, 1) := by decide +kernel
theorem dX1_takePiece_0 : decode cX1_takePiece 0 = .ok (.iload_n 1, 1) := by decide +kernel
theorem dX1_takePiece_1 : decode cX1_takePiece 1 = .ok (.aload_n 0, 1) := by decide +kernel
theorem dX1_takePiece_2 : decode cX1_takePiece 2 = .ok (.getfield 9, 3) := by decide +kernel
theorem dX1_takePiece_5 : decode cX1_takePiece 5 = .ok (.if_icmp .ne 38, 3) := by decide +kernel
theorem dX1_takePiece_8 : decode cX1_takePiece 8 = .ok (.iload_n 2, 1) := by decide +kernel
theorem dX1_takePiece_9 : decode cX1_takePiece 9 = .ok (.iconst 1, 1) := by decide +kernel
theorem dX1_takePiece_10 : decode cX1_takePiece 10 = .ok (.if_icmp .eq 15, 3) := by decide +kernel
theorem dX1_takePiece_13 : decode cX1_takePiece 13 = .ok (.iload_n 3, 1) := by decide +kernel
theorem dX1_takePiece_14 : decode cX1_takePiece 14 = .ok (.aload_n 0, 1) := by decide +kernel
theorem dX1_takePiece_15 : decode cX1_takePiece 15 = .ok (.getfield 45, 3) := by decide +kernel
theorem dX1_takePiece_18 : decode cX1_takePiece 18 = .ok (.if_icmp .lt 7, 3) := by decide +kernel
theorem dX1_takePiece_21 : decode cX1_takePiece 21 = .ok (.iconst 1, 1) := by decide +kernel
theorem dX1_takePiece_22 : decode cX1_takePiece 22 = .ok (.goto 4, 3) := by decide +kernel
theorem dX1_takePiece_25 : decode cX1_takePiece 25 = .ok (.iconst 0, 1) := by decide +kernel
theorem dX1_takePiece_26 : decode cX1_takePiece 26 = .ok (.istore 5, 2) := by decide +kernel
theorem dX1_takePiece_28 : decode cX1_takePiece 28 = .ok (.iload 5, 2) := by decide +kernel
theorem dX1_takePiece_30 : decode cX1_takePiece 30 = .ok (.ifCond .eq 10, 3) := by decide +kernel
theorem dX1_takePiece_33 : decode cX1_takePiece 33 = .ok (.aload_n 0, 1) := by decide +kernel
theorem dX1_takePiece_34 : decode cX1_takePiece 34 = .ok (.iload_n 3, 1) := by decide +kernel
theorem dX1_takePiece_35 : decode cX1_takePiece 35 = .ok (.iconst 1, 1) := by decide +kernel
theorem dX1_takePiece_36 : decode cX1_takePiece 36 = .ok (.iadd, 1) := by decide +kernel
theorem dX1_takePiece_37 : decode cX1_takePiece 37 = .ok (.invokevirtual 83, 3) := by decide +kernel
theorem dX1_takePiece_40 : decode cX1_takePiece 40 = .ok (.iload 5, 2) := by decide +kernel
theorem dX1_takePiece_42 : decode cX1_takePiece 42 = .ok (.ireturn, 1) := by decide +kernel
theorem dX1_takePiece_43 : decode cX1_takePiece 43 = .ok (.iload_n 1, 1) := by decide +kernel
theorem dX1_takePiece_44 : decode cX1_takePiece 44 = .ok (.invokestatic 87, 3) := by decide +kernel
theorem dX1_takePiece_47 : decode cX1_takePiece 47 = .ok (.ifCond .eq 22, 3) := by decide +kernel
theorem dX1_takePiece_50 : decode cX1_takePiece 50 = .ok (.aload_n 0, 1) := by decide +kernel
theorem dX1_takePiece_51 : decode cX1_takePiece 51 = .ok (.iload_n 1, 1) := by decide +kernel
theorem dX1_takePiece_52 : decode cX1_takePiece 52 = .ok (.iload_n 2, 1) := by decide +kernel
theorem dX1_takePiece_53 : decode cX1_takePiece 53 = .ok (.iload_n 3, 1) := by decide +kernel
theorem dX1_takePiece_54 : decode cX1_takePiece 54 = .ok (.invokevirtual 91, 3) := by decide +kernel
theorem dX1_takePiece_57 : decode cX1_takePiece 57 = .ok (.ifCond .eq 12, 3) := by decide +kernel
theorem dX1_takePiece_60 : decode cX1_takePiece 60 = .ok (.aload_n 0, 1) := by decide +kernel
theorem dX1_takePiece_61 : decode cX1_takePiece 61 = .ok (.iload_n 1, 1) := by decide +kernel
theorem dX1_takePiece_62 : decode cX1_takePiece 62 = .ok (.iload_n 2, 1) := by decide +kernel
theorem dX1_takePiece_63 : decode cX1_takePiece 63 = .ok (.iload_n 3, 1) := by decide +kernel
theorem dX1_takePiece_64 : decode cX1_takePiece 64 = .ok (.iload 4, 2) := by decide +kernel
theorem dX1_takePiece_66 : decode cX1_takePiece 66 = .ok (.invokevirtual 79, 3) := by decide +kernel
theorem dX1_takePiece_69 : decode cX1_takePiece 69 = .ok (.iconst 0, 1) := by decide +kernel
theorem dX1_takePiece_70 : decode cX1_takePiece 70 = .ok (.ireturn, 1) := by decide +kernel
theorem dX1_isBeaten_0 : decode cX1_isBeaten 0 = .ok (.aload_n 0, 1) := by decide +kernel
theorem dX1_isBeaten_1 : decode cX1_isBeaten 1 = .ok (.getfield 19, 3) := by decide +kernel
theorem dX1_isBeaten_4 : decode cX1_isBeaten 4 = .ok (.iload_n 1, 1) := by decide +kernel
theorem dX1_isBeaten_5 : decode cX1_isBeaten 5 = .ok (.iaload, 1) := by decide +kernel
theorem dX1_isBeaten_6 : decode cX1_isBeaten 6 = .ok (.ifCond .eq 33, 3) := by decide +kernel
theorem dX1_isBeaten_9 : decode cX1_isBeaten 9 = .ok (.iload_n 3, 1) := by decide +kernel
theorem dX1_isBeaten_10 : decode cX1_isBeaten 10 = .ok (.aload_n 0, 1) := by decide +kernel
theorem dX1_isBeaten_11 : decode cX1_isBeaten 11 = .ok (.getfield 23, 3) := by decide +kernel
theorem dX1_isBeaten_14 : decode cX1_isBeaten 14 = .ok (.iload_n 1, 1) := by decide +kernel
theorem dX1_isBeaten_15 : decode cX1_isBeaten 15 = .ok (.iaload, 1) := by decide +kernel
theorem dX1_isBeaten_16 : decode cX1_isBeaten 16 = .ok (.if_icmp .gt 23, 3) := by decide +kernel
theorem dX1_isBeaten_19 : decode cX1_isBeaten 19 = .ok (.iload_n 3, 1) := by decide +kernel
theorem dX1_isBeaten_20 : decode cX1_isBeaten 20 = .ok (.aload_n 0, 1) := by decide +kernel
theorem dX1_isBeaten_21 : decode cX1_isBeaten 21 = .ok (.getfield 23, 3) := by decide +kernel
theorem dX1_isBeaten_24 : decode cX1_isBeaten 24 = .ok (.iload_n 1, 1) := by decide +kernel
theorem dX1_isBeaten_25 : decode cX1_isBeaten 25 = .ok (.iaload, 1) := by decide +kernel
theorem dX1_isBeaten_26 : decode cX1_isBeaten 26 = .ok (.if_icmp .ne 17, 3) := by decide +kernel
theorem dX1_isBeaten_29 : decode cX1_isBeaten 29 = .ok (.iload_n 2, 1) := by decide +kernel
theorem dX1_isBeaten_30 : decode cX1_isBeaten 30 = .ok (.aload_n 0, 1) := by decide +kernel
theorem dX1_isBeaten_31 : decode cX1_isBeaten 31 = .ok (.getfield 19, 3) := by decide +kernel
theorem dX1_isBeaten_34 : decode cX1_isBeaten 34 = .ok (.iload_n 1, 1) := by decide +kernel
theorem dX1_isBeaten_35 : decode cX1_isBeaten 35 = .ok (.iaload, 1) := by decide +kernel
theorem dX1_isBeaten_36 : decode cX1_isBeaten 36 = .ok (.if_icmp .le 7, 3) := by decide +kernel
theorem dX1_isBeaten_39 : decode cX1_isBeaten 39 = .ok (.iconst 1, 1) := by decide +kernel
theorem dX1_isBeaten_40 : decode cX1_isBeaten 40 = .ok (.goto 4, 3) := by decide +kernel
theorem dX1_isBeaten_43 : decode cX1_isBeaten 43 = .ok (.iconst 0, 1) := by decide +kernel
theorem dX1_isBeaten_44 : decode cX1_isBeaten 44 = .ok (.ireturn, 1) := by decide +kernel
theorem dX1_hasNews_0 : decode cX1_hasNews 0 = .ok (.iload_n 1, 1) := by decide +kernel
theorem dX1_hasNews_1 : decode cX1_hasNews 1 = .ok (.invokestatic 87, 3) := by decide +kernel
theorem dX1_hasNews_4 : decode cX1_hasNews 4 = .ok (.ifCond .eq 16, 3) := by decide +kernel
theorem dX1_hasNews_7 : decode cX1_hasNews 7 = .ok (.aload_n 0, 1) := by decide +kernel
theorem dX1_hasNews_8 : decode cX1_hasNews 8 = .ok (.getfield 19, 3) := by decide +kernel
theorem dX1_hasNews_11 : decode cX1_hasNews 11 = .ok (.iload_n 1, 1) := by decide +kernel
theorem dX1_hasNews_12 : decode cX1_hasNews 12 = .ok (.iaload, 1) := by decide +kernel
theorem dX1_hasNews_13 : decode cX1_hasNews 13 = .ok (.ifCond .eq 7, 3) := by decide +kernel
theorem dX1_hasNews_16 : decode cX1_hasNews 16 = .ok (.iconst 1, 1) := by decide +kernel
theorem dX1_hasNews_17 : decode cX1_hasNews 17 = .ok (.goto 4, 3) := by decide +kernel
theorem dX1_hasNews_20 : decode cX1_hasNews 20 = .ok (.iconst 0, 1) := by decide +kernel
theorem dX1_hasNews_21 : decode cX1_hasNews 21 = .ok (.ireturn, 1) := by decide +kernel
theorem dX1_thinksLiving_0 : decode cX1_thinksLiving 0 = .ok (.iload_n 1, 1) := by decide +kernel
theorem dX1_thinksLiving_1 : decode cX1_thinksLiving 1 = .ok (.ifCond .lt 33, 3) := by decide +kernel
theorem dX1_thinksLiving_4 : decode cX1_thinksLiving 4 = .ok (.iload_n 1, 1) := by decide +kernel
theorem dX1_thinksLiving_5 : decode cX1_thinksLiving 5 = .ok (.bipush 64, 2) := by decide +kernel
theorem dX1_thinksLiving_7 : decode cX1_thinksLiving 7 = .ok (.if_icmp .ge 27, 3) := by decide +kernel
theorem dX1_thinksLiving_10 : decode cX1_thinksLiving 10 = .ok (.aload_n 0, 1) := by decide +kernel
theorem dX1_thinksLiving_11 : decode cX1_thinksLiving 11 = .ok (.getfield 19, 3) := by decide +kernel
theorem dX1_thinksLiving_14 : decode cX1_thinksLiving 14 = .ok (.iload_n 1, 1) := by decide +kernel
theorem dX1_thinksLiving_15 : decode cX1_thinksLiving 15 = .ok (.iaload, 1) := by decide +kernel
theorem dX1_thinksLiving_16 : decode cX1_thinksLiving 16 = .ok (.iconst 1, 1) := by decide +kernel
theorem dX1_thinksLiving_17 : decode cX1_thinksLiving 17 = .ok (.if_icmp .eq 13, 3) := by decide +kernel
theorem dX1_thinksLiving_20 : decode cX1_thinksLiving 20 = .ok (.aload_n 0, 1) := by decide +kernel
theorem dX1_thinksLiving_21 : decode cX1_thinksLiving 21 = .ok (.getfield 19, 3) := by decide +kernel
theorem dX1_thinksLiving_24 : decode cX1_thinksLiving 24 = .ok (.iload_n 1, 1) := by decide +kernel
theorem dX1_thinksLiving_25 : decode cX1_thinksLiving 25 = .ok (.iaload, 1) := by decide +kernel
theorem dX1_thinksLiving_26 : decode cX1_thinksLiving 26 = .ok (.iconst 2, 1) := by decide +kernel
theorem dX1_thinksLiving_27 : decode cX1_thinksLiving 27 = .ok (.if_icmp .ne 7, 3) := by decide +kernel
theorem dX1_thinksLiving_30 : decode cX1_thinksLiving 30 = .ok (.iconst 1, 1) := by decide +kernel
theorem dX1_thinksLiving_31 : decode cX1_thinksLiving 31 = .ok (.goto 4, 3) := by decide +kernel
theorem dX1_thinksLiving_34 : decode cX1_thinksLiving 34 = .ok (.iconst 0, 1) := by decide +kernel
theorem dX1_thinksLiving_35 : decode cX1_thinksLiving 35 = .ok (.ireturn, 1) := by decide +kernel
theorem dX1_saysItself_0 : decode cX1_saysItself 0 = .ok (.aload_n 0, 1) := by decide +kernel
theorem dX1_saysItself_1 : decode cX1_saysItself 1 = .ok (.iload_n 1, 1) := by decide +kernel
theorem dX1_saysItself_2 : decode cX1_saysItself 2 = .ok (.invokevirtual 95, 3) := by decide +kernel
theorem dX1_saysItself_5 : decode cX1_saysItself 5 = .ok (.ifCond .eq 37, 3) := by decide +kernel
theorem dX1_saysItself_8 : decode cX1_saysItself 8 = .ok (.aload_n 0, 1) := by decide +kernel
theorem dX1_saysItself_9 : decode cX1_saysItself 9 = .ok (.getfield 19, 3) := by decide +kernel
theorem dX1_saysItself_12 : decode cX1_saysItself 12 = .ok (.iload_n 1, 1) := by decide +kernel
theorem dX1_saysItself_13 : decode cX1_saysItself 13 = .ok (.iaload, 1) := by decide +kernel
theorem dX1_saysItself_14 : decode cX1_saysItself 14 = .ok (.iload_n 2, 1) := by decide +kernel
theorem dX1_saysItself_15 : decode cX1_saysItself 15 = .ok (.if_icmp .ne 27, 3) := by decide +kernel
theorem dX1_saysItself_18 : decode cX1_saysItself 18 = .ok (.aload_n 0, 1) := by decide +kernel
theorem dX1_saysItself_19 : decode cX1_saysItself 19 = .ok (.getfield 23, 3) := by decide +kernel
theorem dX1_saysItself_22 : decode cX1_saysItself 22 = .ok (.iload_n 1, 1) := by decide +kernel
theorem dX1_saysItself_23 : decode cX1_saysItself 23 = .ok (.iaload, 1) := by decide +kernel
theorem dX1_saysItself_24 : decode cX1_saysItself 24 = .ok (.iload_n 3, 1) := by decide +kernel
theorem dX1_saysItself_25 : decode cX1_saysItself 25 = .ok (.if_icmp .ne 17, 3) := by decide +kernel
theorem dX1_saysItself_28 : decode cX1_saysItself 28 = .ok (.aload_n 0, 1) := by decide +kernel
theorem dX1_saysItself_29 : decode cX1_saysItself 29 = .ok (.getfield 32, 3) := by decide +kernel
theorem dX1_saysItself_32 : decode cX1_saysItself 32 = .ok (.iload_n 1, 1) := by decide +kernel
theorem dX1_saysItself_33 : decode cX1_saysItself 33 = .ok (.iaload, 1) := by decide +kernel
theorem dX1_saysItself_34 : decode cX1_saysItself 34 = .ok (.iconst (-1), 1) := by decide +kernel
theorem dX1_saysItself_35 : decode cX1_saysItself 35 = .ok (.if_icmp .ne 7, 3) := by decide +kernel
theorem dX1_saysItself_38 : decode cX1_saysItself 38 = .ok (.iconst 1, 1) := by decide +kernel
theorem dX1_saysItself_39 : decode cX1_saysItself 39 = .ok (.goto 4, 3) := by decide +kernel
theorem dX1_saysItself_42 : decode cX1_saysItself 42 = .ok (.iconst 0, 1) := by decide +kernel
theorem dX1_saysItself_43 : decode cX1_saysItself 43 = .ok (.ireturn, 1) := by decide +kernel
theorem dX1_countKind_0 : decode cX1_countKind 0 = .ok (.iconst 0, 1) := by decide +kernel
theorem dX1_countKind_1 : decode cX1_countKind 1 = .ok (.istore_n 2, 1) := by decide +kernel
theorem dX1_countKind_2 : decode cX1_countKind 2 = .ok (.iconst 0, 1) := by decide +kernel
theorem dX1_countKind_3 : decode cX1_countKind 3 = .ok (.istore_n 3, 1) := by decide +kernel
theorem dX1_countKind_4 : decode cX1_countKind 4 = .ok (.iload_n 3, 1) := by decide +kernel
theorem dX1_countKind_5 : decode cX1_countKind 5 = .ok (.bipush 64, 2) := by decide +kernel
theorem dX1_countKind_7 : decode cX1_countKind 7 = .ok (.if_icmp .ge 22, 3) := by decide +kernel
theorem dX1_countKind_10 : decode cX1_countKind 10 = .ok (.aload_n 0, 1) := by decide +kernel
theorem dX1_countKind_11 : decode cX1_countKind 11 = .ok (.getfield 19, 3) := by decide +kernel
theorem dX1_countKind_14 : decode cX1_countKind 14 = .ok (.iload_n 3, 1) := by decide +kernel
theorem dX1_countKind_15 : decode cX1_countKind 15 = .ok (.iaload, 1) := by decide +kernel
theorem dX1_countKind_16 : decode cX1_countKind 16 = .ok (.iload_n 1, 1) := by decide +kernel
theorem dX1_countKind_17 : decode cX1_countKind 17 = .ok (.if_icmp .ne 6, 3) := by decide +kernel
theorem dX1_countKind_20 : decode cX1_countKind 20 = .ok (.iinc 2 1, 3) := by decide +kernel
theorem dX1_countKind_23 : decode cX1_countKind 23 = .ok (.iinc 3 1, 3) := by decide +kernel
theorem dX1_countKind_26 : decode cX1_countKind 26 = .ok (.goto (-22), 3) := by decide +kernel
theorem dX1_countKind_29 : decode cX1_countKind 29 = .ok (.iload_n 2, 1) := by decide +kernel
theorem dX1_countKind_30 : decode cX1_countKind 30 = .ok (.ireturn, 1) := by decide +kernel
theorem dX1_isAnswered_0 : decode cX1_isAnswered 0 = .ok (.aload_n 0, 1) := by decide +kernel
theorem dX1_isAnswered_1 : decode cX1_isAnswered 1 = .ok (.getfield 67, 3) := by decide +kernel
theorem dX1_isAnswered_4 : decode cX1_isAnswered 4 = .ok (.iload_n 1, 1) := by decide +kernel
theorem dX1_isAnswered_5 : decode cX1_isAnswered 5 = .ok (.if_icmp .ne 8, 3) := by decide +kernel
theorem dX1_isAnswered_8 : decode cX1_isAnswered 8 = .ok (.aload_n 0, 1) := by decide +kernel
theorem dX1_isAnswered_9 : decode cX1_isAnswered 9 = .ok (.iconst (-1), 1) := by decide +kernel
theorem dX1_isAnswered_10 : decode cX1_isAnswered 10 = .ok (.putfield 67, 3) := by decide +kernel
theorem dX1_isAnswered_13 : decode cX1_isAnswered 13 = .ok (.aload_n 0, 1) := by decide +kernel
theorem dX1_isAnswered_14 : decode cX1_isAnswered 14 = .ok (.getfield 70, 3) := by decide +kernel
theorem dX1_isAnswered_17 : decode cX1_isAnswered 17 = .ok (.iload_n 1, 1) := by decide +kernel
theorem dX1_isAnswered_18 : decode cX1_isAnswered 18 = .ok (.if_icmp .ne 8, 3) := by decide +kernel
theorem dX1_isAnswered_21 : decode cX1_isAnswered 21 = .ok (.aload_n 0, 1) := by decide +kernel
theorem dX1_isAnswered_22 : decode cX1_isAnswered 22 = .ok (.iconst (-1), 1) := by decide +kernel
theorem dX1_isAnswered_23 : decode cX1_isAnswered 23 = .ok (.putfield 70, 3) := by decide +kernel
theorem dX1_isAnswered_26 : decode cX1_isAnswered 26 = .ok (.return_, 1) := by decide +kernel
theorem dX1_stirred_0 : decode cX1_stirred 0 = .ok (.lload_n 0, 1) := by decide +kernel
theorem dX1_stirred_1 : decode cX1_stirred 1 = .ok (.ldc2_w 98, 3) := by decide +kernel
theorem dX1_stirred_4 : decode cX1_stirred 4 = .ok (.lmul, 1) := by decide +kernel
theorem dX1_stirred_5 : decode cX1_stirred 5 = .ok (.ldc2_w 100, 3) := by decide +kernel
theorem dX1_stirred_8 : decode cX1_stirred 8 = .ok (.ladd, 1) := by decide +kernel
theorem dX1_stirred_9 : decode cX1_stirred 9 = .ok (.lreturn, 1) := by decide +kernel
theorem dX1_drawn_0 : decode cX1_drawn 0 = .ok (.iload_n 2, 1) := by decide +kernel
theorem dX1_drawn_1 : decode cX1_drawn 1 = .ok (.iconst 1, 1) := by decide +kernel
theorem dX1_drawn_2 : decode cX1_drawn 2 = .ok (.if_icmp .ge 7, 3) := by decide +kernel
theorem dX1_drawn_5 : decode cX1_drawn 5 = .ok (.iconst 0, 1) := by decide +kernel
theorem dX1_drawn_6 : decode cX1_drawn 6 = .ok (.goto 11, 3) := by decide +kernel
theorem dX1_drawn_9 : decode cX1_drawn 9 = .ok (.lload_n 0, 1) := by decide +kernel
theorem dX1_drawn_10 : decode cX1_drawn 10 = .ok (.bipush 33, 2) := by decide +kernel
theorem dX1_drawn_12 : decode cX1_drawn 12 = .ok (.lushr, 1) := by decide +kernel
theorem dX1_drawn_13 : decode cX1_drawn 13 = .ok (.iload_n 2, 1) := by decide +kernel
theorem dX1_drawn_14 : decode cX1_drawn 14 = .ok (.i2l, 1) := by decide +kernel
theorem dX1_drawn_15 : decode cX1_drawn 15 = .ok (.lrem, 1) := by decide +kernel
theorem dX1_drawn_16 : decode cX1_drawn 16 = .ok (.l2i, 1) := by decide +kernel
theorem dX1_drawn_17 : decode cX1_drawn 17 = .ok (.ireturn, 1) := by decide +kernel
theorem dX1_draw_0 : decode cX1_draw 0 = .ok (.aload_n 0, 1) := by decide +kernel
theorem dX1_draw_1 : decode cX1_draw 1 = .ok (.aload_n 0, 1) := by decide +kernel
theorem dX1_draw_2 : decode cX1_draw 2 = .ok (.getfield 41, 3) := by decide +kernel
theorem dX1_draw_5 : decode cX1_draw 5 = .ok (.invokestatic 102, 3) := by decide +kernel
theorem dX1_draw_8 : decode cX1_draw 8 = .ok (.putfield 41, 3) := by decide +kernel
theorem dX1_draw_11 : decode cX1_draw 11 = .ok (.aload_n 0, 1) := by decide +kernel
theorem dX1_draw_12 : decode cX1_draw 12 = .ok (.getfield 41, 3) := by decide +kernel
theorem dX1_draw_15 : decode cX1_draw 15 = .ok (.iload_n 1, 1) := by decide +kernel
theorem dX1_draw_16 : decode cX1_draw 16 = .ok (.invokestatic 106, 3) := by decide +kernel
theorem dX1_draw_19 : decode cX1_draw 19 = .ok (.ireturn, 1) := by decide +kernel
theorem dX1_gatherLiving_0 : decode cX1_gatherLiving 0 = .ok (.iconst 0, 1) := by decide +kernel
theorem dX1_gatherLiving_1 : decode cX1_gatherLiving 1 = .ok (.istore_n 3, 1) := by decide +kernel
theorem dX1_gatherLiving_2 : decode cX1_gatherLiving 2 = .ok (.iconst 0, 1) := by decide +kernel
theorem dX1_gatherLiving_3 : decode cX1_gatherLiving 3 = .ok (.istore 4, 2) := by decide +kernel
theorem dX1_gatherLiving_5 : decode cX1_gatherLiving 5 = .ok (.iload 4, 2) := by decide +kernel
theorem dX1_gatherLiving_7 : decode cX1_gatherLiving 7 = .ok (.bipush 64, 2) := by decide +kernel
theorem dX1_gatherLiving_9 : decode cX1_gatherLiving 9 = .ok (.if_icmp .ge 47, 3) := by decide +kernel
theorem dX1_gatherLiving_12 : decode cX1_gatherLiving 12 = .ok (.iload 4, 2) := by decide +kernel
theorem dX1_gatherLiving_14 : decode cX1_gatherLiving 14 = .ok (.aload_n 0, 1) := by decide +kernel
theorem dX1_gatherLiving_15 : decode cX1_gatherLiving 15 = .ok (.getfield 9, 3) := by decide +kernel
theorem dX1_gatherLiving_18 : decode cX1_gatherLiving 18 = .ok (.if_icmp .eq 32, 3) := by decide +kernel
theorem dX1_gatherLiving_21 : decode cX1_gatherLiving 21 = .ok (.iload 4, 2) := by decide +kernel
theorem dX1_gatherLiving_23 : decode cX1_gatherLiving 23 = .ok (.iload_n 2, 1) := by decide +kernel
theorem dX1_gatherLiving_24 : decode cX1_gatherLiving 24 = .ok (.if_icmp .eq 26, 3) := by decide +kernel
theorem dX1_gatherLiving_27 : decode cX1_gatherLiving 27 = .ok (.aload_n 0, 1) := by decide +kernel
theorem dX1_gatherLiving_28 : decode cX1_gatherLiving 28 = .ok (.iload 4, 2) := by decide +kernel
theorem dX1_gatherLiving_30 : decode cX1_gatherLiving 30 = .ok (.invokevirtual 110, 3) := by decide +kernel
theorem dX1_gatherLiving_33 : decode cX1_gatherLiving 33 = .ok (.ifCond .eq 17, 3) := by decide +kernel
theorem dX1_gatherLiving_36 : decode cX1_gatherLiving 36 = .ok (.iload_n 3, 1) := by decide +kernel
theorem dX1_gatherLiving_37 : decode cX1_gatherLiving 37 = .ok (.aload_n 1, 1) := by decide +kernel
theorem dX1_gatherLiving_38 : decode cX1_gatherLiving 38 = .ok (.arraylength, 1) := by decide +kernel
theorem dX1_gatherLiving_39 : decode cX1_gatherLiving 39 = .ok (.if_icmp .ge 11, 3) := by decide +kernel
theorem dX1_gatherLiving_42 : decode cX1_gatherLiving 42 = .ok (.aload_n 1, 1) := by decide +kernel
theorem dX1_gatherLiving_43 : decode cX1_gatherLiving 43 = .ok (.iload_n 3, 1) := by decide +kernel
theorem dX1_gatherLiving_44 : decode cX1_gatherLiving 44 = .ok (.iload 4, 2) := by decide +kernel
theorem dX1_gatherLiving_46 : decode cX1_gatherLiving 46 = .ok (.iastore, 1) := by decide +kernel
theorem dX1_gatherLiving_47 : decode cX1_gatherLiving 47 = .ok (.iinc 3 1, 3) := by decide +kernel
theorem dX1_gatherLiving_50 : decode cX1_gatherLiving 50 = .ok (.iinc 4 1, 3) := by decide +kernel
theorem dX1_gatherLiving_53 : decode cX1_gatherLiving 53 = .ok (.goto (-48), 3) := by decide +kernel
theorem dX1_gatherLiving_56 : decode cX1_gatherLiving 56 = .ok (.iload_n 3, 1) := by decide +kernel
theorem dX1_gatherLiving_57 : decode cX1_gatherLiving 57 = .ok (.ireturn, 1) := by decide +kernel
theorem dX1_shuffle_0 : decode cX1_shuffle 0 = .ok (.lload_n 2, 1) := by decide +kernel
theorem dX1_shuffle_1 : decode cX1_shuffle 1 = .ok (.lstore 4, 2) := by decide +kernel
theorem dX1_shuffle_3 : decode cX1_shuffle 3 = .ok (.iload_n 1, 1) := by decide +kernel
theorem dX1_shuffle_4 : decode cX1_shuffle 4 = .ok (.aload_n 0, 1) := by decide +kernel
theorem dX1_shuffle_5 : decode cX1_shuffle 5 = .ok (.arraylength, 1) := by decide +kernel
theorem dX1_shuffle_6 : decode cX1_shuffle 6 = .ok (.invokestatic 113, 3) := by decide +kernel
theorem dX1_shuffle_9 : decode cX1_shuffle 9 = .ok (.iconst 1, 1) := by decide +kernel
theorem dX1_shuffle_10 : decode cX1_shuffle 10 = .ok (.isub, 1) := by decide +kernel
theorem dX1_shuffle_11 : decode cX1_shuffle 11 = .ok (.istore 6, 2) := by decide +kernel
theorem dX1_shuffle_13 : decode cX1_shuffle 13 = .ok (.iload 6, 2) := by decide +kernel
theorem dX1_shuffle_15 : decode cX1_shuffle 15 = .ok (.iconst 1, 1) := by decide +kernel
theorem dX1_shuffle_16 : decode cX1_shuffle 16 = .ok (.if_icmp .lt 47, 3) := by decide +kernel
theorem dX1_shuffle_19 : decode cX1_shuffle 19 = .ok (.lload 4, 2) := by decide +kernel
theorem dX1_shuffle_21 : decode cX1_shuffle 21 = .ok (.invokestatic 102, 3) := by decide +kernel
theorem dX1_shuffle_24 : decode cX1_shuffle 24 = .ok (.lstore 4, 2) := by decide +kernel
theorem dX1_shuffle_26 : decode cX1_shuffle 26 = .ok (.lload 4, 2) := by decide +kernel
theorem dX1_shuffle_28 : decode cX1_shuffle 28 = .ok (.iload 6, 2) := by decide +kernel
theorem dX1_shuffle_30 : decode cX1_shuffle 30 = .ok (.iconst 1, 1) := by decide +kernel
theorem dX1_shuffle_31 : decode cX1_shuffle 31 = .ok (.iadd, 1) := by decide +kernel
theorem dX1_shuffle_32 : decode cX1_shuffle 32 = .ok (.invokestatic 106, 3) := by decide +kernel
theorem dX1_shuffle_35 : decode cX1_shuffle 35 = .ok (.istore 7, 2) := by decide +kernel
theorem dX1_shuffle_37 : decode cX1_shuffle 37 = .ok (.aload_n 0, 1) := by decide +kernel
theorem dX1_shuffle_38 : decode cX1_shuffle 38 = .ok (.iload 6, 2) := by decide +kernel
theorem dX1_shuffle_40 : decode cX1_shuffle 40 = .ok (.iaload, 1) := by decide +kernel
theorem dX1_shuffle_41 : decode cX1_shuffle 41 = .ok (.istore 8, 2) := by decide +kernel
theorem dX1_shuffle_43 : decode cX1_shuffle 43 = .ok (.aload_n 0, 1) := by decide +kernel
theorem dX1_shuffle_44 : decode cX1_shuffle 44 = .ok (.iload 6, 2) := by decide +kernel
theorem dX1_shuffle_46 : decode cX1_shuffle 46 = .ok (.aload_n 0, 1) := by decide +kernel
theorem dX1_shuffle_47 : decode cX1_shuffle 47 = .ok (.iload 7, 2) := by decide +kernel
theorem dX1_shuffle_49 : decode cX1_shuffle 49 = .ok (.iaload, 1) := by decide +kernel
theorem dX1_shuffle_50 : decode cX1_shuffle 50 = .ok (.iastore, 1) := by decide +kernel
theorem dX1_shuffle_51 : decode cX1_shuffle 51 = .ok (.aload_n 0, 1) := by decide +kernel
theorem dX1_shuffle_52 : decode cX1_shuffle 52 = .ok (.iload 7, 2) := by decide +kernel
theorem dX1_shuffle_54 : decode cX1_shuffle 54 = .ok (.iload 8, 2) := by decide +kernel
theorem dX1_shuffle_56 : decode cX1_shuffle 56 = .ok (.iastore, 1) := by decide +kernel
theorem dX1_shuffle_57 : decode cX1_shuffle 57 = .ok (.iinc 6 (-1), 3) := by decide +kernel
theorem dX1_shuffle_60 : decode cX1_shuffle 60 = .ok (.goto (-47), 3) := by decide +kernel
theorem dX1_shuffle_63 : decode cX1_shuffle 63 = .ok (.lload 4, 2) := by decide +kernel
theorem dX1_shuffle_65 : decode cX1_shuffle 65 = .ok (.lreturn, 1) := by decide +kernel
theorem dX1_makeRound_0 : decode cX1_makeRound 0 = .ok (.aload_n 0, 1) := by decide +kernel
theorem dX1_makeRound_1 : decode cX1_makeRound 1 = .ok (.aload_n 0, 1) := by decide +kernel
theorem dX1_makeRound_2 : decode cX1_makeRound 2 = .ok (.aload_n 0, 1) := by decide +kernel
theorem dX1_makeRound_3 : decode cX1_makeRound 3 = .ok (.getfield 35, 3) := by decide +kernel
theorem dX1_makeRound_6 : decode cX1_makeRound 6 = .ok (.iconst (-1), 1) := by decide +kernel
theorem dX1_makeRound_7 : decode cX1_makeRound 7 = .ok (.invokevirtual 119, 3) := by decide +kernel
theorem dX1_makeRound_10 : decode cX1_makeRound 10 = .ok (.putfield 73, 3) := by decide +kernel
theorem dX1_makeRound_13 : decode cX1_makeRound 13 = .ok (.aload_n 0, 1) := by decide +kernel
theorem dX1_makeRound_14 : decode cX1_makeRound 14 = .ok (.aload_n 0, 1) := by decide +kernel
theorem dX1_makeRound_15 : decode cX1_makeRound 15 = .ok (.getfield 35, 3) := by decide +kernel
theorem dX1_makeRound_18 : decode cX1_makeRound 18 = .ok (.aload_n 0, 1) := by decide +kernel
theorem dX1_makeRound_19 : decode cX1_makeRound 19 = .ok (.getfield 73, 3) := by decide +kernel
theorem dX1_makeRound_22 : decode cX1_makeRound 22 = .ok (.aload_n 0, 1) := by decide +kernel
theorem dX1_makeRound_23 : decode cX1_makeRound 23 = .ok (.getfield 41, 3) := by decide +kernel
theorem dX1_makeRound_26 : decode cX1_makeRound 26 = .ok (.invokestatic 123, 3) := by decide +kernel
theorem dX1_makeRound_29 : decode cX1_makeRound 29 = .ok (.putfield 41, 3) := by decide +kernel
theorem dX1_makeRound_32 : decode cX1_makeRound 32 = .ok (.aload_n 0, 1) := by decide +kernel
theorem dX1_makeRound_33 : decode cX1_makeRound 33 = .ok (.iconst 0, 1) := by decide +kernel
theorem dX1_makeRound_34 : decode cX1_makeRound 34 = .ok (.putfield 76, 3) := by decide +kernel
theorem dX1_makeRound_37 : decode cX1_makeRound 37 = .ok (.return_, 1) := by decide +kernel
theorem dX1_nextPlace_0 : decode cX1_nextPlace 0 = .ok (.aload_n 0, 1) := by decide +kernel
theorem dX1_nextPlace_1 : decode cX1_nextPlace 1 = .ok (.getfield 76, 3) := by decide +kernel
theorem dX1_nextPlace_4 : decode cX1_nextPlace 4 = .ok (.istore_n 1, 1) := by decide +kernel
theorem dX1_nextPlace_5 : decode cX1_nextPlace 5 = .ok (.iload_n 1, 1) := by decide +kernel
theorem dX1_nextPlace_6 : decode cX1_nextPlace 6 = .ok (.aload_n 0, 1) := by decide +kernel
theorem dX1_nextPlace_7 : decode cX1_nextPlace 7 = .ok (.getfield 73, 3) := by decide +kernel
theorem dX1_nextPlace_10 : decode cX1_nextPlace 10 = .ok (.if_icmp .ge 30, 3) := by decide +kernel
theorem dX1_nextPlace_13 : decode cX1_nextPlace 13 = .ok (.iload_n 1, 1) := by decide +kernel
theorem dX1_nextPlace_14 : decode cX1_nextPlace 14 = .ok (.bipush 64, 2) := by decide +kernel
theorem dX1_nextPlace_16 : decode cX1_nextPlace 16 = .ok (.if_icmp .ge 24, 3) := by decide +kernel
theorem dX1_nextPlace_19 : decode cX1_nextPlace 19 = .ok (.aload_n 0, 1) := by decide +kernel
theorem dX1_nextPlace_20 : decode cX1_nextPlace 20 = .ok (.aload_n 0, 1) := by decide +kernel
theorem dX1_nextPlace_21 : decode cX1_nextPlace 21 = .ok (.getfield 35, 3) := by decide +kernel
theorem dX1_nextPlace_24 : decode cX1_nextPlace 24 = .ok (.iload_n 1, 1) := by decide +kernel
theorem dX1_nextPlace_25 : decode cX1_nextPlace 25 = .ok (.iaload, 1) := by decide +kernel
theorem dX1_nextPlace_26 : decode cX1_nextPlace 26 = .ok (.invokevirtual 110, 3) := by decide +kernel
theorem dX1_nextPlace_29 : decode cX1_nextPlace 29 = .ok (.ifCond .eq 5, 3) := by decide +kernel
theorem dX1_nextPlace_32 : decode cX1_nextPlace 32 = .ok (.iload_n 1, 1) := by decide +kernel
theorem dX1_nextPlace_33 : decode cX1_nextPlace 33 = .ok (.ireturn, 1) := by decide +kernel
theorem dX1_nextPlace_34 : decode cX1_nextPlace 34 = .ok (.iinc 1 1, 3) := by decide +kernel
theorem dX1_nextPlace_37 : decode cX1_nextPlace 37 = .ok (.goto (-32), 3) := by decide +kernel
theorem dX1_nextPlace_40 : decode cX1_nextPlace 40 = .ok (.iconst (-1), 1) := by decide +kernel
theorem dX1_nextPlace_41 : decode cX1_nextPlace 41 = .ok (.ireturn, 1) := by decide +kernel
theorem dX1_stepRound_0 : decode cX1_stepRound 0 = .ok (.aload_n 0, 1) := by decide +kernel
theorem dX1_stepRound_1 : decode cX1_stepRound 1 = .ok (.invokevirtual 127, 3) := by decide +kernel
theorem dX1_stepRound_4 : decode cX1_stepRound 4 = .ok (.istore_n 1, 1) := by decide +kernel
theorem dX1_stepRound_5 : decode cX1_stepRound 5 = .ok (.iload_n 1, 1) := by decide +kernel
theorem dX1_stepRound_6 : decode cX1_stepRound 6 = .ok (.iconst (-1), 1) := by decide +kernel
theorem dX1_stepRound_7 : decode cX1_stepRound 7 = .ok (.if_icmp .ne 5, 3) := by decide +kernel
theorem dX1_stepRound_10 : decode cX1_stepRound 10 = .ok (.iconst (-1), 1) := by decide +kernel
theorem dX1_stepRound_11 : decode cX1_stepRound 11 = .ok (.ireturn, 1) := by decide +kernel
theorem dX1_stepRound_12 : decode cX1_stepRound 12 = .ok (.aload_n 0, 1) := by decide +kernel
theorem dX1_stepRound_13 : decode cX1_stepRound 13 = .ok (.iload_n 1, 1) := by decide +kernel
theorem dX1_stepRound_14 : decode cX1_stepRound 14 = .ok (.iconst 1, 1) := by decide +kernel
theorem dX1_stepRound_15 : decode cX1_stepRound 15 = .ok (.iadd, 1) := by decide +kernel
theorem dX1_stepRound_16 : decode cX1_stepRound 16 = .ok (.putfield 76, 3) := by decide +kernel
theorem dX1_stepRound_19 : decode cX1_stepRound 19 = .ok (.aload_n 0, 1) := by decide +kernel
theorem dX1_stepRound_20 : decode cX1_stepRound 20 = .ok (.getfield 35, 3) := by decide +kernel
theorem dX1_stepRound_23 : decode cX1_stepRound 23 = .ok (.iload_n 1, 1) := by decide +kernel
theorem dX1_stepRound_24 : decode cX1_stepRound 24 = .ok (.iaload, 1) := by decide +kernel
theorem dX1_stepRound_25 : decode cX1_stepRound 25 = .ok (.ireturn, 1) := by decide +kernel
theorem dX1_wouldAsk_0 : decode cX1_wouldAsk 0 = .ok (.aload_n 0, 1) := by decide +kernel
theorem dX1_wouldAsk_1 : decode cX1_wouldAsk 1 = .ok (.invokevirtual 127, 3) := by decide +kernel
theorem dX1_wouldAsk_4 : decode cX1_wouldAsk 4 = .ok (.istore_n 2, 1) := by decide +kernel
theorem dX1_wouldAsk_5 : decode cX1_wouldAsk 5 = .ok (.iload_n 2, 1) := by decide +kernel
theorem dX1_wouldAsk_6 : decode cX1_wouldAsk 6 = .ok (.iconst (-1), 1) := by decide +kernel
theorem dX1_wouldAsk_7 : decode cX1_wouldAsk 7 = .ok (.if_icmp .eq 10, 3) := by decide +kernel
theorem dX1_wouldAsk_10 : decode cX1_wouldAsk 10 = .ok (.aload_n 0, 1) := by decide +kernel
theorem dX1_wouldAsk_11 : decode cX1_wouldAsk 11 = .ok (.getfield 35, 3) := by decide +kernel
theorem dX1_wouldAsk_14 : decode cX1_wouldAsk 14 = .ok (.iload_n 2, 1) := by decide +kernel
theorem dX1_wouldAsk_15 : decode cX1_wouldAsk 15 = .ok (.iaload, 1) := by decide +kernel
theorem dX1_wouldAsk_16 : decode cX1_wouldAsk 16 = .ok (.ireturn, 1) := by decide +kernel
theorem dX1_wouldAsk_17 : decode cX1_wouldAsk 17 = .ok (.aload_n 0, 1) := by decide +kernel
theorem dX1_wouldAsk_18 : decode cX1_wouldAsk 18 = .ok (.aload_n 1, 1) := by decide +kernel
theorem dX1_wouldAsk_19 : decode cX1_wouldAsk 19 = .ok (.iconst (-1), 1) := by decide +kernel
theorem dX1_wouldAsk_20 : decode cX1_wouldAsk 20 = .ok (.invokevirtual 119, 3) := by decide +kernel
theorem dX1_wouldAsk_23 : decode cX1_wouldAsk 23 = .ok (.istore_n 3, 1) := by decide +kernel
theorem dX1_wouldAsk_24 : decode cX1_wouldAsk 24 = .ok (.aload_n 1, 1) := by decide +kernel
theorem dX1_wouldAsk_25 : decode cX1_wouldAsk 25 = .ok (.iload_n 3, 1) := by decide +kernel
theorem dX1_wouldAsk_26 : decode cX1_wouldAsk 26 = .ok (.aload_n 0, 1) := by decide +kernel
theorem dX1_wouldAsk_27 : decode cX1_wouldAsk 27 = .ok (.getfield 41, 3) := by decide +kernel
theorem dX1_wouldAsk_30 : decode cX1_wouldAsk 30 = .ok (.invokestatic 123, 3) := by decide +kernel
theorem dX1_wouldAsk_33 : decode cX1_wouldAsk 33 = .ok (.pop2, 1) := by decide +kernel
theorem dX1_wouldAsk_34 : decode cX1_wouldAsk 34 = .ok (.iload_n 3, 1) := by decide +kernel
theorem dX1_wouldAsk_35 : decode cX1_wouldAsk 35 = .ok (.ifCond .le 14, 3) := by decide +kernel
theorem dX1_wouldAsk_38 : decode cX1_wouldAsk 38 = .ok (.aload_n 1, 1) := by decide +kernel
theorem dX1_wouldAsk_39 : decode cX1_wouldAsk 39 = .ok (.arraylength, 1) := by decide +kernel
theorem dX1_wouldAsk_40 : decode cX1_wouldAsk 40 = .ok (.ifCond .le 9, 3) := by decide +kernel
theorem dX1_wouldAsk_43 : decode cX1_wouldAsk 43 = .ok (.aload_n 1, 1) := by decide +kernel
theorem dX1_wouldAsk_44 : decode cX1_wouldAsk 44 = .ok (.iconst 0, 1) := by decide +kernel
theorem dX1_wouldAsk_45 : decode cX1_wouldAsk 45 = .ok (.iaload, 1) := by decide +kernel
theorem dX1_wouldAsk_46 : decode cX1_wouldAsk 46 = .ok (.goto 4, 3) := by decide +kernel
theorem dX1_wouldAsk_49 : decode cX1_wouldAsk 49 = .ok (.iconst (-1), 1) := by decide +kernel
theorem dX1_wouldAsk_50 : decode cX1_wouldAsk 50 = .ok (.ireturn, 1) := by decide +kernel
theorem dX1_pickAll_0 : decode cX1_pickAll 0 = .ok (.iconst 0, 1) := by decide +kernel
theorem dX1_pickAll_1 : decode cX1_pickAll 1 = .ok (.istore_n 2, 1) := by decide +kernel
theorem dX1_pickAll_2 : decode cX1_pickAll 2 = .ok (.iconst 0, 1) := by decide +kernel
theorem dX1_pickAll_3 : decode cX1_pickAll 3 = .ok (.istore_n 3, 1) := by decide +kernel
theorem dX1_pickAll_4 : decode cX1_pickAll 4 = .ok (.iload_n 3, 1) := by decide +kernel
theorem dX1_pickAll_5 : decode cX1_pickAll 5 = .ok (.bipush 64, 2) := by decide +kernel
theorem dX1_pickAll_7 : decode cX1_pickAll 7 = .ok (.if_icmp .ge 31, 3) := by decide +kernel
theorem dX1_pickAll_10 : decode cX1_pickAll 10 = .ok (.aload_n 0, 1) := by decide +kernel
theorem dX1_pickAll_11 : decode cX1_pickAll 11 = .ok (.getfield 19, 3) := by decide +kernel
theorem dX1_pickAll_14 : decode cX1_pickAll 14 = .ok (.iload_n 3, 1) := by decide +kernel
theorem dX1_pickAll_15 : decode cX1_pickAll 15 = .ok (.iaload, 1) := by decide +kernel
theorem dX1_pickAll_16 : decode cX1_pickAll 16 = .ok (.ifCond .eq 16, 3) := by decide +kernel
theorem dX1_pickAll_19 : decode cX1_pickAll 19 = .ok (.iload_n 2, 1) := by decide +kernel
theorem dX1_pickAll_20 : decode cX1_pickAll 20 = .ok (.aload_n 1, 1) := by decide +kernel
theorem dX1_pickAll_21 : decode cX1_pickAll 21 = .ok (.arraylength, 1) := by decide +kernel
theorem dX1_pickAll_22 : decode cX1_pickAll 22 = .ok (.if_icmp .ge 10, 3) := by decide +kernel
theorem dX1_pickAll_25 : decode cX1_pickAll 25 = .ok (.aload_n 1, 1) := by decide +kernel
theorem dX1_pickAll_26 : decode cX1_pickAll 26 = .ok (.iload_n 2, 1) := by decide +kernel
theorem dX1_pickAll_27 : decode cX1_pickAll 27 = .ok (.iload_n 3, 1) := by decide +kernel
theorem dX1_pickAll_28 : decode cX1_pickAll 28 = .ok (.iastore, 1) := by decide +kernel
theorem dX1_pickAll_29 : decode cX1_pickAll 29 = .ok (.iinc 2 1, 3) := by decide +kernel
theorem dX1_pickAll_32 : decode cX1_pickAll 32 = .ok (.iinc 3 1, 3) := by decide +kernel
theorem dX1_pickAll_35 : decode cX1_pickAll 35 = .ok (.goto (-31), 3) := by decide +kernel
theorem dX1_pickAll_38 : decode cX1_pickAll 38 = .ok (.iload_n 2, 1) := by decide +kernel
theorem dX1_pickAll_39 : decode cX1_pickAll 39 = .ok (.ireturn, 1) := by decide +kernel
theorem dX1_pickFreshest_0 : decode cX1_pickFreshest 0 = .ok (.iconst 0, 1) := by decide +kernel
theorem dX1_pickFreshest_1 : decode cX1_pickFreshest 1 = .ok (.istore_n 2, 1) := by decide +kernel
theorem dX1_pickFreshest_2 : decode cX1_pickFreshest 2 = .ok (.iconst 0, 1) := by decide +kernel
theorem dX1_pickFreshest_3 : decode cX1_pickFreshest 3 = .ok (.istore_n 3, 1) := by decide +kernel
theorem dX1_pickFreshest_4 : decode cX1_pickFreshest 4 = .ok (.iload_n 3, 1) := by decide +kernel
theorem dX1_pickFreshest_5 : decode cX1_pickFreshest 5 = .ok (.bipush 64, 2) := by decide +kernel
theorem dX1_pickFreshest_7 : decode cX1_pickFreshest 7 = .ok (.if_icmp .ge 37, 3) := by decide +kernel
theorem dX1_pickFreshest_10 : decode cX1_pickFreshest 10 = .ok (.aload_n 0, 1) := by decide +kernel
theorem dX1_pickFreshest_11 : decode cX1_pickFreshest 11 = .ok (.getfield 19, 3) := by decide +kernel
theorem dX1_pickFreshest_14 : decode cX1_pickFreshest 14 = .ok (.iload_n 3, 1) := by decide +kernel
theorem dX1_pickFreshest_15 : decode cX1_pickFreshest 15 = .ok (.iaload, 1) := by decide +kernel
theorem dX1_pickFreshest_16 : decode cX1_pickFreshest 16 = .ok (.ifCond .eq 22, 3) := by decide +kernel
theorem dX1_pickFreshest_19 : decode cX1_pickFreshest 19 = .ok (.aload_n 0, 1) := by decide +kernel
theorem dX1_pickFreshest_20 : decode cX1_pickFreshest 20 = .ok (.getfield 26, 3) := by decide +kernel
theorem dX1_pickFreshest_23 : decode cX1_pickFreshest 23 = .ok (.iload_n 3, 1) := by decide +kernel
theorem dX1_pickFreshest_24 : decode cX1_pickFreshest 24 = .ok (.iaload, 1) := by decide +kernel
theorem dX1_pickFreshest_25 : decode cX1_pickFreshest 25 = .ok (.bipush 8, 2) := by decide +kernel
theorem dX1_pickFreshest_27 : decode cX1_pickFreshest 27 = .ok (.if_icmp .ge 11, 3) := by decide +kernel
theorem dX1_pickFreshest_30 : decode cX1_pickFreshest 30 = .ok (.aload_n 0, 1) := by decide +kernel
theorem dX1_pickFreshest_31 : decode cX1_pickFreshest 31 = .ok (.aload_n 1, 1) := by decide +kernel
theorem dX1_pickFreshest_32 : decode cX1_pickFreshest 32 = .ok (.iload_n 2, 1) := by decide +kernel
theorem dX1_pickFreshest_33 : decode cX1_pickFreshest 33 = .ok (.iload_n 3, 1) := by decide +kernel
theorem dX1_pickFreshest_34 : decode cX1_pickFreshest 34 = .ok (.invokevirtual 131, 3) := by decide +kernel
theorem dX1_pickFreshest_37 : decode cX1_pickFreshest 37 = .ok (.istore_n 2, 1) := by decide +kernel
theorem dX1_pickFreshest_38 : decode cX1_pickFreshest 38 = .ok (.iinc 3 1, 3) := by decide +kernel
theorem dX1_pickFreshest_41 : decode cX1_pickFreshest 41 = .ok (.goto (-37), 3) := by decide +kernel
theorem dX1_pickFreshest_44 : decode cX1_pickFreshest 44 = .ok (.iload_n 2, 1) := by decide +kernel
theorem dX1_pickFreshest_45 : decode cX1_pickFreshest 45 = .ok (.ireturn, 1) := by decide +kernel
theorem dX1_pickInOrder_0 : decode cX1_pickInOrder 0 = .ok (.iload_n 2, 1) := by decide +kernel
theorem dX1_pickInOrder_1 : decode cX1_pickInOrder 1 = .ok (.istore 4, 2) := by decide +kernel
theorem dX1_pickInOrder_3 : decode cX1_pickInOrder 3 = .ok (.iload 4, 2) := by decide +kernel
theorem dX1_pickInOrder_5 : decode cX1_pickInOrder 5 = .ok (.ifCond .le 29, 3) := by decide +kernel
theorem dX1_pickInOrder_8 : decode cX1_pickInOrder 8 = .ok (.aload_n 0, 1) := by decide +kernel
theorem dX1_pickInOrder_9 : decode cX1_pickInOrder 9 = .ok (.getfield 26, 3) := by decide +kernel
theorem dX1_pickInOrder_12 : decode cX1_pickInOrder 12 = .ok (.aload_n 1, 1) := by decide +kernel
theorem dX1_pickInOrder_13 : decode cX1_pickInOrder 13 = .ok (.iload 4, 2) := by decide +kernel
theorem dX1_pickInOrder_15 : decode cX1_pickInOrder 15 = .ok (.iconst 1, 1) := by decide +kernel
theorem dX1_pickInOrder_16 : decode cX1_pickInOrder 16 = .ok (.isub, 1) := by decide +kernel
theorem dX1_pickInOrder_17 : decode cX1_pickInOrder 17 = .ok (.iaload, 1) := by decide +kernel
theorem dX1_pickInOrder_18 : decode cX1_pickInOrder 18 = .ok (.iaload, 1) := by decide +kernel
theorem dX1_pickInOrder_19 : decode cX1_pickInOrder 19 = .ok (.aload_n 0, 1) := by decide +kernel
theorem dX1_pickInOrder_20 : decode cX1_pickInOrder 20 = .ok (.getfield 26, 3) := by decide +kernel
theorem dX1_pickInOrder_23 : decode cX1_pickInOrder 23 = .ok (.iload_n 3, 1) := by decide +kernel
theorem dX1_pickInOrder_24 : decode cX1_pickInOrder 24 = .ok (.iaload, 1) := by decide +kernel
theorem dX1_pickInOrder_25 : decode cX1_pickInOrder 25 = .ok (.if_icmp .le 9, 3) := by decide +kernel
theorem dX1_pickInOrder_28 : decode cX1_pickInOrder 28 = .ok (.iinc 4 (-1), 3) := by decide +kernel
theorem dX1_pickInOrder_31 : decode cX1_pickInOrder 31 = .ok (.goto (-28), 3) := by decide +kernel
theorem dX1_pickInOrder_34 : decode cX1_pickInOrder 34 = .ok (.iload 4, 2) := by decide +kernel
theorem dX1_pickInOrder_36 : decode cX1_pickInOrder 36 = .ok (.bipush 6, 2) := by decide +kernel
theorem dX1_pickInOrder_38 : decode cX1_pickInOrder 38 = .ok (.if_icmp .lt 5, 3) := by decide +kernel
theorem dX1_pickInOrder_41 : decode cX1_pickInOrder 41 = .ok (.iload_n 2, 1) := by decide +kernel
theorem dX1_pickInOrder_42 : decode cX1_pickInOrder 42 = .ok (.ireturn, 1) := by decide +kernel
theorem dX1_pickInOrder_43 : decode cX1_pickInOrder 43 = .ok (.iload_n 2, 1) := by decide +kernel
theorem dX1_pickInOrder_44 : decode cX1_pickInOrder 44 = .ok (.bipush 6, 2) := by decide +kernel
theorem dX1_pickInOrder_46 : decode cX1_pickInOrder 46 = .ok (.if_icmp .ge 7, 3) := by decide +kernel
theorem dX1_pickInOrder_49 : decode cX1_pickInOrder 49 = .ok (.iload_n 2, 1) := by decide +kernel
theorem dX1_pickInOrder_50 : decode cX1_pickInOrder 50 = .ok (.goto 4, 3) := by decide +kernel
theorem dX1_pickInOrder_53 : decode cX1_pickInOrder 53 = .ok (.iconst 5, 1) := by decide +kernel
theorem dX1_pickInOrder_54 : decode cX1_pickInOrder 54 = .ok (.istore 5, 2) := by decide +kernel
theorem dX1_pickInOrder_56 : decode cX1_pickInOrder 56 = .ok (.iload 5, 2) := by decide +kernel
theorem dX1_pickInOrder_58 : decode cX1_pickInOrder 58 = .ok (.istore 6, 2) := by decide +kernel
theorem dX1_pickInOrder_60 : decode cX1_pickInOrder 60 = .ok (.iload 6, 2) := by decide +kernel
theorem dX1_pickInOrder_62 : decode cX1_pickInOrder 62 = .ok (.iload 4, 2) := by decide +kernel
theorem dX1_pickInOrder_64 : decode cX1_pickInOrder 64 = .ok (.if_icmp .le 19, 3) := by decide +kernel
theorem dX1_pickInOrder_67 : decode cX1_pickInOrder 67 = .ok (.aload_n 1, 1) := by decide +kernel
theorem dX1_pickInOrder_68 : decode cX1_pickInOrder 68 = .ok (.iload 6, 2) := by decide +kernel
theorem dX1_pickInOrder_70 : decode cX1_pickInOrder 70 = .ok (.aload_n 1, 1) := by decide +kernel
theorem dX1_pickInOrder_71 : decode cX1_pickInOrder 71 = .ok (.iload 6, 2) := by decide +kernel
theorem dX1_pickInOrder_73 : decode cX1_pickInOrder 73 = .ok (.iconst 1, 1) := by decide +kernel
theorem dX1_pickInOrder_74 : decode cX1_pickInOrder 74 = .ok (.isub, 1) := by decide +kernel
theorem dX1_pickInOrder_75 : decode cX1_pickInOrder 75 = .ok (.iaload, 1) := by decide +kernel
theorem dX1_pickInOrder_76 : decode cX1_pickInOrder 76 = .ok (.iastore, 1) := by decide +kernel
theorem dX1_pickInOrder_77 : decode cX1_pickInOrder 77 = .ok (.iinc 6 (-1), 3) := by decide +kernel
theorem dX1_pickInOrder_80 : decode cX1_pickInOrder 80 = .ok (.goto (-20), 3) := by decide +kernel
theorem dX1_pickInOrder_83 : decode cX1_pickInOrder 83 = .ok (.aload_n 1, 1) := by decide +kernel
theorem dX1_pickInOrder_84 : decode cX1_pickInOrder 84 = .ok (.iload 4, 2) := by decide +kernel
theorem dX1_pickInOrder_86 : decode cX1_pickInOrder 86 = .ok (.iload_n 3, 1) := by decide +kernel
theorem dX1_pickInOrder_87 : decode cX1_pickInOrder 87 = .ok (.iastore, 1) := by decide +kernel
theorem dX1_pickInOrder_88 : decode cX1_pickInOrder 88 = .ok (.iload 5, 2) := by decide +kernel
theorem dX1_pickInOrder_90 : decode cX1_pickInOrder 90 = .ok (.iconst 1, 1) := by decide +kernel
theorem dX1_pickInOrder_91 : decode cX1_pickInOrder 91 = .ok (.iadd, 1) := by decide +kernel
theorem dX1_pickInOrder_92 : decode cX1_pickInOrder 92 = .ok (.ireturn, 1) := by decide +kernel
theorem dX1_become_0 : decode cX1_become 0 = .ok (.aload_n 0, 1) := by decide +kernel
theorem dX1_become_1 : decode cX1_become 1 = .ok (.aload_n 1, 1) := by decide +kernel
theorem dX1_become_2 : decode cX1_become 2 = .ok (.getfield 15, 3) := by decide +kernel
theorem dX1_become_5 : decode cX1_become 5 = .ok (.putfield 15, 3) := by decide +kernel
theorem dX1_become_8 : decode cX1_become 8 = .ok (.aload_n 0, 1) := by decide +kernel
theorem dX1_become_9 : decode cX1_become 9 = .ok (.aload_n 1, 1) := by decide +kernel
theorem dX1_become_10 : decode cX1_become 10 = .ok (.getfield 38, 3) := by decide +kernel
theorem dX1_become_13 : decode cX1_become 13 = .ok (.putfield 38, 3) := by decide +kernel
theorem dX1_become_16 : decode cX1_become 16 = .ok (.aload_n 0, 1) := by decide +kernel
theorem dX1_become_17 : decode cX1_become 17 = .ok (.aload_n 1, 1) := by decide +kernel
theorem dX1_become_18 : decode cX1_become 18 = .ok (.getfield 41, 3) := by decide +kernel
theorem dX1_become_21 : decode cX1_become 21 = .ok (.putfield 41, 3) := by decide +kernel
theorem dX1_become_24 : decode cX1_become 24 = .ok (.aload_n 0, 1) := by decide +kernel
theorem dX1_become_25 : decode cX1_become 25 = .ok (.aload_n 1, 1) := by decide +kernel
theorem dX1_become_26 : decode cX1_become 26 = .ok (.getfield 45, 3) := by decide +kernel
theorem dX1_become_29 : decode cX1_become 29 = .ok (.putfield 45, 3) := by decide +kernel
theorem dX1_become_32 : decode cX1_become 32 = .ok (.aload_n 0, 1) := by decide +kernel
theorem dX1_become_33 : decode cX1_become 33 = .ok (.aload_n 1, 1) := by decide +kernel
theorem dX1_become_34 : decode cX1_become 34 = .ok (.getfield 48, 3) := by decide +kernel
theorem dX1_become_37 : decode cX1_become 37 = .ok (.putfield 48, 3) := by decide +kernel
theorem dX1_become_40 : decode cX1_become 40 = .ok (.aload_n 0, 1) := by decide +kernel
theorem dX1_become_41 : decode cX1_become 41 = .ok (.aload_n 1, 1) := by decide +kernel
theorem dX1_become_42 : decode cX1_become 42 = .ok (.getfield 67, 3) := by decide +kernel
theorem dX1_become_45 : decode cX1_become 45 = .ok (.putfield 67, 3) := by decide +kernel
theorem dX1_become_48 : decode cX1_become 48 = .ok (.aload_n 0, 1) := by decide +kernel
theorem dX1_become_49 : decode cX1_become 49 = .ok (.aload_n 1, 1) := by decide +kernel
theorem dX1_become_50 : decode cX1_become 50 = .ok (.getfield 70, 3) := by decide +kernel
theorem dX1_become_53 : decode cX1_become 53 = .ok (.putfield 70, 3) := by decide +kernel
theorem dX1_become_56 : decode cX1_become 56 = .ok (.aload_n 1, 1) := by decide +kernel
theorem dX1_become_57 : decode cX1_become 57 = .ok (.getfield 19, 3) := by decide +kernel
theorem dX1_become_60 : decode cX1_become 60 = .ok (.iconst 0, 1) := by decide +kernel
theorem dX1_become_61 : decode cX1_become 61 = .ok (.aload_n 0, 1) := by decide +kernel
theorem dX1_become_62 : decode cX1_become 62 = .ok (.getfield 19, 3) := by decide +kernel
theorem dX1_become_65 : decode cX1_become 65 = .ok (.iconst 0, 1) := by decide +kernel
theorem dX1_become_66 : decode cX1_become 66 = .ok (.bipush 64, 2) := by decide +kernel
theorem dX1_become_68 : decode cX1_become 68 = .ok (.invokestatic 135, 3) := by decide +kernel
theorem dX1_become_71 : decode cX1_become 71 = .ok (.aload_n 1, 1) := by decide +kernel
theorem dX1_become_72 : decode cX1_become 72 = .ok (.getfield 23, 3) := by decide +kernel
theorem dX1_become_75 : decode cX1_become 75 = .ok (.iconst 0, 1) := by decide +kernel
theorem dX1_become_76 : decode cX1_become 76 = .ok (.aload_n 0, 1) := by decide +kernel
theorem dX1_become_77 : decode cX1_become 77 = .ok (.getfield 23, 3) := by decide +kernel
theorem dX1_become_80 : decode cX1_become 80 = .ok (.iconst 0, 1) := by decide +kernel
theorem dX1_become_81 : decode cX1_become 81 = .ok (.bipush 64, 2) := by decide +kernel
theorem dX1_become_83 : decode cX1_become 83 = .ok (.invokestatic 135, 3) := by decide +kernel
theorem dX1_become_86 : decode cX1_become 86 = .ok (.aload_n 1, 1) := by decide +kernel
theorem dX1_become_87 : decode cX1_become 87 = .ok (.getfield 26, 3) := by decide +kernel
theorem dX1_become_90 : decode cX1_become 90 = .ok (.iconst 0, 1) := by decide +kernel
theorem dX1_become_91 : decode cX1_become 91 = .ok (.aload_n 0, 1) := by decide +kernel
theorem dX1_become_92 : decode cX1_become 92 = .ok (.getfield 26, 3) := by decide +kernel
theorem dX1_become_95 : decode cX1_become 95 = .ok (.iconst 0, 1) := by decide +kernel
theorem dX1_become_96 : decode cX1_become 96 = .ok (.bipush 64, 2) := by decide +kernel
theorem dX1_become_98 : decode cX1_become 98 = .ok (.invokestatic 135, 3) := by decide +kernel
theorem dX1_become_101 : decode cX1_become 101 = .ok (.aload_n 1, 1) := by decide +kernel
theorem dX1_become_102 : decode cX1_become 102 = .ok (.getfield 29, 3) := by decide +kernel
theorem dX1_become_105 : decode cX1_become 105 = .ok (.iconst 0, 1) := by decide +kernel
theorem dX1_become_106 : decode cX1_become 106 = .ok (.aload_n 0, 1) := by decide +kernel
theorem dX1_become_107 : decode cX1_become 107 = .ok (.getfield 29, 3) := by decide +kernel
theorem dX1_become_110 : decode cX1_become 110 = .ok (.iconst 0, 1) := by decide +kernel
theorem dX1_become_111 : decode cX1_become 111 = .ok (.bipush 64, 2) := by decide +kernel
theorem dX1_become_113 : decode cX1_become 113 = .ok (.invokestatic 135, 3) := by decide +kernel
theorem dX1_become_116 : decode cX1_become 116 = .ok (.aload_n 1, 1) := by decide +kernel
theorem dX1_become_117 : decode cX1_become 117 = .ok (.getfield 32, 3) := by decide +kernel
theorem dX1_become_120 : decode cX1_become 120 = .ok (.iconst 0, 1) := by decide +kernel
theorem dX1_become_121 : decode cX1_become 121 = .ok (.aload_n 0, 1) := by decide +kernel
theorem dX1_become_122 : decode cX1_become 122 = .ok (.getfield 32, 3) := by decide +kernel
theorem dX1_become_125 : decode cX1_become 125 = .ok (.iconst 0, 1) := by decide +kernel
theorem dX1_become_126 : decode cX1_become 126 = .ok (.bipush 64, 2) := by decide +kernel
theorem dX1_become_128 : decode cX1_become 128 = .ok (.invokestatic 135, 3) := by decide +kernel
theorem dX1_become_131 : decode cX1_become 131 = .ok (.aload_n 1, 1) := by decide +kernel
theorem dX1_become_132 : decode cX1_become 132 = .ok (.getfield 35, 3) := by decide +kernel
theorem dX1_become_135 : decode cX1_become 135 = .ok (.iconst 0, 1) := by decide +kernel
theorem dX1_become_136 : decode cX1_become 136 = .ok (.aload_n 0, 1) := by decide +kernel
theorem dX1_become_137 : decode cX1_become 137 = .ok (.getfield 35, 3) := by decide +kernel
theorem dX1_become_140 : decode cX1_become 140 = .ok (.iconst 0, 1) := by decide +kernel
theorem dX1_become_141 : decode cX1_become 141 = .ok (.bipush 64, 2) := by decide +kernel
theorem dX1_become_143 : decode cX1_become 143 = .ok (.invokestatic 135, 3) := by decide +kernel
theorem dX1_become_146 : decode cX1_become 146 = .ok (.aload_n 0, 1) := by decide +kernel
theorem dX1_become_147 : decode cX1_become 147 = .ok (.aload_n 1, 1) := by decide +kernel
theorem dX1_become_148 : decode cX1_become 148 = .ok (.getfield 73, 3) := by decide +kernel
theorem dX1_become_151 : decode cX1_become 151 = .ok (.putfield 73, 3) := by decide +kernel
theorem dX1_become_154 : decode cX1_become 154 = .ok (.aload_n 0, 1) := by decide +kernel
theorem dX1_become_155 : decode cX1_become 155 = .ok (.aload_n 1, 1) := by decide +kernel
theorem dX1_become_156 : decode cX1_become 156 = .ok (.getfield 76, 3) := by decide +kernel
theorem dX1_become_159 : decode cX1_become 159 = .ok (.putfield 76, 3) := by decide +kernel
theorem dX1_become_162 : decode cX1_become 162 = .ok (.return_, 1) := by decide +kernel
theorem dX1_sameAs_0 : decode cX1_sameAs 0 = .ok (.aload_n 0, 1) := by decide +kernel
theorem dX1_sameAs_1 : decode cX1_sameAs 1 = .ok (.getfield 38, 3) := by decide +kernel
theorem dX1_sameAs_4 : decode cX1_sameAs 4 = .ok (.aload_n 1, 1) := by decide +kernel
theorem dX1_sameAs_5 : decode cX1_sameAs 5 = .ok (.getfield 38, 3) := by decide +kernel
theorem dX1_sameAs_8 : decode cX1_sameAs 8 = .ok (.if_icmp .ne 183, 3) := by decide +kernel
theorem dX1_sameAs_11 : decode cX1_sameAs 11 = .ok (.aload_n 0, 1) := by decide +kernel
theorem dX1_sameAs_12 : decode cX1_sameAs 12 = .ok (.getfield 41, 3) := by decide +kernel
theorem dX1_sameAs_15 : decode cX1_sameAs 15 = .ok (.aload_n 1, 1) := by decide +kernel
theorem dX1_sameAs_16 : decode cX1_sameAs 16 = .ok (.getfield 41, 3) := by decide +kernel
theorem dX1_sameAs_19 : decode cX1_sameAs 19 = .ok (.lcmp, 1) := by decide +kernel
theorem dX1_sameAs_20 : decode cX1_sameAs 20 = .ok (.ifCond .ne 171, 3) := by decide +kernel
theorem dX1_sameAs_23 : decode cX1_sameAs 23 = .ok (.aload_n 0, 1) := by decide +kernel
theorem dX1_sameAs_24 : decode cX1_sameAs 24 = .ok (.getfield 45, 3) := by decide +kernel
theorem dX1_sameAs_27 : decode cX1_sameAs 27 = .ok (.aload_n 1, 1) := by decide +kernel
theorem dX1_sameAs_28 : decode cX1_sameAs 28 = .ok (.getfield 45, 3) := by decide +kernel
theorem dX1_sameAs_31 : decode cX1_sameAs 31 = .ok (.if_icmp .ne 160, 3) := by decide +kernel
theorem dX1_sameAs_34 : decode cX1_sameAs 34 = .ok (.aload_n 0, 1) := by decide +kernel
theorem dX1_sameAs_35 : decode cX1_sameAs 35 = .ok (.getfield 48, 3) := by decide +kernel
theorem dX1_sameAs_38 : decode cX1_sameAs 38 = .ok (.aload_n 1, 1) := by decide +kernel
theorem dX1_sameAs_39 : decode cX1_sameAs 39 = .ok (.getfield 48, 3) := by decide +kernel
theorem dX1_sameAs_42 : decode cX1_sameAs 42 = .ok (.if_icmp .ne 149, 3) := by decide +kernel
theorem dX1_sameAs_45 : decode cX1_sameAs 45 = .ok (.aload_n 0, 1) := by decide +kernel
theorem dX1_sameAs_46 : decode cX1_sameAs 46 = .ok (.getfield 67, 3) := by decide +kernel
theorem dX1_sameAs_49 : decode cX1_sameAs 49 = .ok (.aload_n 1, 1) := by decide +kernel
theorem dX1_sameAs_50 : decode cX1_sameAs 50 = .ok (.getfield 67, 3) := by decide +kernel
theorem dX1_sameAs_53 : decode cX1_sameAs 53 = .ok (.if_icmp .ne 138, 3) := by decide +kernel
theorem dX1_sameAs_56 : decode cX1_sameAs 56 = .ok (.aload_n 0, 1) := by decide +kernel
theorem dX1_sameAs_57 : decode cX1_sameAs 57 = .ok (.getfield 70, 3) := by decide +kernel
theorem dX1_sameAs_60 : decode cX1_sameAs 60 = .ok (.aload_n 1, 1) := by decide +kernel
theorem dX1_sameAs_61 : decode cX1_sameAs 61 = .ok (.getfield 70, 3) := by decide +kernel
theorem dX1_sameAs_64 : decode cX1_sameAs 64 = .ok (.if_icmp .ne 127, 3) := by decide +kernel
theorem dX1_sameAs_67 : decode cX1_sameAs 67 = .ok (.aload_n 0, 1) := by decide +kernel
theorem dX1_sameAs_68 : decode cX1_sameAs 68 = .ok (.getfield 73, 3) := by decide +kernel
theorem dX1_sameAs_71 : decode cX1_sameAs 71 = .ok (.aload_n 1, 1) := by decide +kernel
theorem dX1_sameAs_72 : decode cX1_sameAs 72 = .ok (.getfield 73, 3) := by decide +kernel
theorem dX1_sameAs_75 : decode cX1_sameAs 75 = .ok (.if_icmp .ne 116, 3) := by decide +kernel
theorem dX1_sameAs_78 : decode cX1_sameAs 78 = .ok (.aload_n 0, 1) := by decide +kernel
theorem dX1_sameAs_79 : decode cX1_sameAs 79 = .ok (.getfield 76, 3) := by decide +kernel
theorem dX1_sameAs_82 : decode cX1_sameAs 82 = .ok (.aload_n 1, 1) := by decide +kernel
theorem dX1_sameAs_83 : decode cX1_sameAs 83 = .ok (.getfield 76, 3) := by decide +kernel
theorem dX1_sameAs_86 : decode cX1_sameAs 86 = .ok (.if_icmp .ne 105, 3) := by decide +kernel
theorem dX1_sameAs_89 : decode cX1_sameAs 89 = .ok (.aload_n 0, 1) := by decide +kernel
theorem dX1_sameAs_90 : decode cX1_sameAs 90 = .ok (.getfield 35, 3) := by decide +kernel
theorem dX1_sameAs_93 : decode cX1_sameAs 93 = .ok (.aload_n 1, 1) := by decide +kernel
theorem dX1_sameAs_94 : decode cX1_sameAs 94 = .ok (.getfield 35, 3) := by decide +kernel
theorem dX1_sameAs_97 : decode cX1_sameAs 97 = .ok (.aload_n 0, 1) := by decide +kernel
theorem dX1_sameAs_98 : decode cX1_sameAs 98 = .ok (.getfield 73, 3) := by decide +kernel
theorem dX1_sameAs_101 : decode cX1_sameAs 101 = .ok (.invokestatic 141, 3) := by decide +kernel
theorem dX1_sameAs_104 : decode cX1_sameAs 104 = .ok (.ifCond .eq 87, 3) := by decide +kernel
theorem dX1_sameAs_107 : decode cX1_sameAs 107 = .ok (.aload_n 0, 1) := by decide +kernel
theorem dX1_sameAs_108 : decode cX1_sameAs 108 = .ok (.getfield 19, 3) := by decide +kernel
theorem dX1_sameAs_111 : decode cX1_sameAs 111 = .ok (.aload_n 1, 1) := by decide +kernel
theorem dX1_sameAs_112 : decode cX1_sameAs 112 = .ok (.getfield 19, 3) := by decide +kernel
theorem dX1_sameAs_115 : decode cX1_sameAs 115 = .ok (.bipush 64, 2) := by decide +kernel
theorem dX1_sameAs_117 : decode cX1_sameAs 117 = .ok (.invokestatic 141, 3) := by decide +kernel
theorem dX1_sameAs_120 : decode cX1_sameAs 120 = .ok (.ifCond .eq 71, 3) := by decide +kernel
theorem dX1_sameAs_123 : decode cX1_sameAs 123 = .ok (.aload_n 0, 1) := by decide +kernel
theorem dX1_sameAs_124 : decode cX1_sameAs 124 = .ok (.getfield 23, 3) := by decide +kernel
theorem dX1_sameAs_127 : decode cX1_sameAs 127 = .ok (.aload_n 1, 1) := by decide +kernel
theorem dX1_sameAs_128 : decode cX1_sameAs 128 = .ok (.getfield 23, 3) := by decide +kernel
theorem dX1_sameAs_131 : decode cX1_sameAs 131 = .ok (.bipush 64, 2) := by decide +kernel
theorem dX1_sameAs_133 : decode cX1_sameAs 133 = .ok (.invokestatic 141, 3) := by decide +kernel
theorem dX1_sameAs_136 : decode cX1_sameAs 136 = .ok (.ifCond .eq 55, 3) := by decide +kernel
theorem dX1_sameAs_139 : decode cX1_sameAs 139 = .ok (.aload_n 0, 1) := by decide +kernel
theorem dX1_sameAs_140 : decode cX1_sameAs 140 = .ok (.getfield 26, 3) := by decide +kernel
theorem dX1_sameAs_143 : decode cX1_sameAs 143 = .ok (.aload_n 1, 1) := by decide +kernel
theorem dX1_sameAs_144 : decode cX1_sameAs 144 = .ok (.getfield 26, 3) := by decide +kernel
theorem dX1_sameAs_147 : decode cX1_sameAs 147 = .ok (.bipush 64, 2) := by decide +kernel
theorem dX1_sameAs_149 : decode cX1_sameAs 149 = .ok (.invokestatic 141, 3) := by decide +kernel
theorem dX1_sameAs_152 : decode cX1_sameAs 152 = .ok (.ifCond .eq 39, 3) := by decide +kernel
theorem dX1_sameAs_155 : decode cX1_sameAs 155 = .ok (.aload_n 0, 1) := by decide +kernel
theorem dX1_sameAs_156 : decode cX1_sameAs 156 = .ok (.getfield 29, 3) := by decide +kernel
theorem dX1_sameAs_159 : decode cX1_sameAs 159 = .ok (.aload_n 1, 1) := by decide +kernel
theorem dX1_sameAs_160 : decode cX1_sameAs 160 = .ok (.getfield 29, 3) := by decide +kernel
theorem dX1_sameAs_163 : decode cX1_sameAs 163 = .ok (.bipush 64, 2) := by decide +kernel
theorem dX1_sameAs_165 : decode cX1_sameAs 165 = .ok (.invokestatic 141, 3) := by decide +kernel
theorem dX1_sameAs_168 : decode cX1_sameAs 168 = .ok (.ifCond .eq 23, 3) := by decide +kernel
theorem dX1_sameAs_171 : decode cX1_sameAs 171 = .ok (.aload_n 0, 1) := by decide +kernel
theorem dX1_sameAs_172 : decode cX1_sameAs 172 = .ok (.getfield 32, 3) := by decide +kernel
theorem dX1_sameAs_175 : decode cX1_sameAs 175 = .ok (.aload_n 1, 1) := by decide +kernel
theorem dX1_sameAs_176 : decode cX1_sameAs 176 = .ok (.getfield 32, 3) := by decide +kernel
theorem dX1_sameAs_179 : decode cX1_sameAs 179 = .ok (.bipush 64, 2) := by decide +kernel
theorem dX1_sameAs_181 : decode cX1_sameAs 181 = .ok (.invokestatic 141, 3) := by decide +kernel
theorem dX1_sameAs_184 : decode cX1_sameAs 184 = .ok (.ifCond .eq 7, 3) := by decide +kernel
theorem dX1_sameAs_187 : decode cX1_sameAs 187 = .ok (.iconst 1, 1) := by decide +kernel
theorem dX1_sameAs_188 : decode cX1_sameAs 188 = .ok (.goto 4, 3) := by decide +kernel
theorem dX1_sameAs_191 : decode cX1_sameAs 191 = .ok (.iconst 0, 1) := by decide +kernel
theorem dX1_sameAs_192 : decode cX1_sameAs 192 = .ok (.ireturn, 1) := by decide +kernel
theorem dX1_differsIn_0 : decode cX1_differsIn 0 = .ok (.iconst 0, 1) := by decide +kernel
theorem dX1_differsIn_1 : decode cX1_differsIn 1 = .ok (.istore_n 2, 1) := by decide +kernel
theorem dX1_differsIn_2 : decode cX1_differsIn 2 = .ok (.iload_n 2, 1) := by decide +kernel
theorem dX1_differsIn_3 : decode cX1_differsIn 3 = .ok (.bipush 64, 2) := by decide +kernel
theorem dX1_differsIn_5 : decode cX1_differsIn 5 = .ok (.if_icmp .ge 41, 3) := by decide +kernel
theorem dX1_differsIn_8 : decode cX1_differsIn 8 = .ok (.aload_n 0, 1) := by decide +kernel
theorem dX1_differsIn_9 : decode cX1_differsIn 9 = .ok (.getfield 19, 3) := by decide +kernel
theorem dX1_differsIn_12 : decode cX1_differsIn 12 = .ok (.iload_n 2, 1) := by decide +kernel
theorem dX1_differsIn_13 : decode cX1_differsIn 13 = .ok (.iaload, 1) := by decide +kernel
theorem dX1_differsIn_14 : decode cX1_differsIn 14 = .ok (.aload_n 1, 1) := by decide +kernel
theorem dX1_differsIn_15 : decode cX1_differsIn 15 = .ok (.getfield 19, 3) := by decide +kernel
theorem dX1_differsIn_18 : decode cX1_differsIn 18 = .ok (.iload_n 2, 1) := by decide +kernel
theorem dX1_differsIn_19 : decode cX1_differsIn 19 = .ok (.iaload, 1) := by decide +kernel
theorem dX1_differsIn_20 : decode cX1_differsIn 20 = .ok (.if_icmp .ne 18, 3) := by decide +kernel
theorem dX1_differsIn_23 : decode cX1_differsIn 23 = .ok (.aload_n 0, 1) := by decide +kernel
theorem dX1_differsIn_24 : decode cX1_differsIn 24 = .ok (.getfield 23, 3) := by decide +kernel
theorem dX1_differsIn_27 : decode cX1_differsIn 27 = .ok (.iload_n 2, 1) := by decide +kernel
theorem dX1_differsIn_28 : decode cX1_differsIn 28 = .ok (.iaload, 1) := by decide +kernel
theorem dX1_differsIn_29 : decode cX1_differsIn 29 = .ok (.aload_n 1, 1) := by decide +kernel
theorem dX1_differsIn_30 : decode cX1_differsIn 30 = .ok (.getfield 23, 3) := by decide +kernel
theorem dX1_differsIn_33 : decode cX1_differsIn 33 = .ok (.iload_n 2, 1) := by decide +kernel
theorem dX1_differsIn_34 : decode cX1_differsIn 34 = .ok (.iaload, 1) := by decide +kernel
theorem dX1_differsIn_35 : decode cX1_differsIn 35 = .ok (.if_icmp .eq 5, 3) := by decide +kernel
theorem dX1_differsIn_38 : decode cX1_differsIn 38 = .ok (.iload_n 2, 1) := by decide +kernel
theorem dX1_differsIn_39 : decode cX1_differsIn 39 = .ok (.ireturn, 1) := by decide +kernel
theorem dX1_differsIn_40 : decode cX1_differsIn 40 = .ok (.iinc 2 1, 3) := by decide +kernel
theorem dX1_differsIn_43 : decode cX1_differsIn 43 = .ok (.goto (-41), 3) := by decide +kernel
theorem dX1_differsIn_46 : decode cX1_differsIn 46 = .ok (.iconst (-1), 1) := by decide +kernel
theorem dX1_differsIn_47 : decode cX1_differsIn 47 = .ok (.ireturn, 1) := by decide +kernel
theorem dX2_init_0 : decode cX2_init 0 = .ok (.aload_n 0, 1) := by decide +kernel
theorem dX2_init_1 : decode cX2_init 1 = .ok (.invokespecial 3, 3) := by decide +kernel
theorem dX2_init_4 : decode cX2_init 4 = .ok (.aload_n 0, 1) := by decide +kernel
theorem dX2_init_5 : decode cX2_init 5 = .ok (.bipush 11, 2) := by decide +kernel
theorem dX2_init_7 : decode cX2_init 7 = .ok (.newarray .int, 2) := by decide +kernel
theorem dX2_init_9 : decode cX2_init 9 = .ok (.putfield 9, 3) := by decide +kernel
theorem dX2_init_12 : decode cX2_init 12 = .ok (.aload_n 0, 1) := by decide +kernel
theorem dX2_init_13 : decode cX2_init 13 = .ok (.bipush (-7), 2) := by decide +kernel
theorem dX2_init_15 : decode cX2_init 15 = .ok (.putfield 15, 3) := by decide +kernel
theorem dX2_init_18 : decode cX2_init 18 = .ok (.return_, 1) := by decide +kernel
theorem dX2_keep_0 : decode cX2_keep 0 = .ok (.iload_n 1, 1) := by decide +kernel
theorem dX2_keep_1 : decode cX2_keep 1 = .ok (.bipush (-2), 2) := by decide +kernel
theorem dX2_keep_3 : decode cX2_keep 3 = .ok (.if_icmp .gt 25, 3) := by decide +kernel
theorem dX2_keep_6 : decode cX2_keep 6 = .ok (.iload_n 1, 1) := by decide +kernel
theorem dX2_keep_7 : decode cX2_keep 7 = .ok (.bipush (-10), 2) := by decide +kernel
theorem dX2_keep_9 : decode cX2_keep 9 = .ok (.if_icmp .lt 19, 3) := by decide +kernel
theorem dX2_keep_12 : decode cX2_keep 12 = .ok (.aload_n 0, 1) := by decide +kernel
theorem dX2_keep_13 : decode cX2_keep 13 = .ok (.getfield 9, 3) := by decide +kernel
theorem dX2_keep_16 : decode cX2_keep 16 = .ok (.iload_n 1, 1) := by decide +kernel
theorem dX2_keep_17 : decode cX2_keep 17 = .ok (.ineg, 1) := by decide +kernel
theorem dX2_keep_18 : decode cX2_keep 18 = .ok (.dup2, 1) := by decide +kernel
theorem dX2_keep_19 : decode cX2_keep 19 = .ok (.iaload, 1) := by decide +kernel
theorem dX2_keep_20 : decode cX2_keep 20 = .ok (.iconst 1, 1) := by decide +kernel
theorem dX2_keep_21 : decode cX2_keep 21 = .ok (.iadd, 1) := by decide +kernel
theorem dX2_keep_22 : decode cX2_keep 22 = .ok (.iastore, 1) := by decide +kernel
theorem dX2_keep_23 : decode cX2_keep 23 = .ok (.aload_n 0, 1) := by decide +kernel
theorem dX2_keep_24 : decode cX2_keep 24 = .ok (.iload_n 1, 1) := by decide +kernel
theorem dX2_keep_25 : decode cX2_keep 25 = .ok (.putfield 15, 3) := by decide +kernel
theorem dX2_keep_28 : decode cX2_keep 28 = .ok (.return_, 1) := by decide +kernel
theorem dX2_throwLatest_0 : decode cX2_throwLatest 0 = .ok (.aload_n 0, 1) := by decide +kernel
theorem dX2_throwLatest_1 : decode cX2_throwLatest 1 = .ok (.getfield 15, 3) := by decide +kernel
theorem dX2_throwLatest_4 : decode cX2_throwLatest 4 = .ok (.istore_n 1, 1) := by decide +kernel
theorem dX2_throwLatest_5 : decode cX2_throwLatest 5 = .ok (.aload_n 0, 1) := by decide +kernel
theorem dX2_throwLatest_6 : decode cX2_throwLatest 6 = .ok (.bipush (-7), 2) := by decide +kernel
theorem dX2_throwLatest_8 : decode cX2_throwLatest 8 = .ok (.putfield 15, 3) := by decide +kernel
theorem dX2_throwLatest_11 : decode cX2_throwLatest 11 = .ok (.iload_n 1, 1) := by decide +kernel
theorem dX2_throwLatest_12 : decode cX2_throwLatest 12 = .ok (.ireturn, 1) := by decide +kernel
theorem dX3_init_0 : decode cX3_init 0 = .ok (.aload_n 0, 1) := by decide +kernel
theorem dX3_init_1 : decode cX3_init 1 = .ok (.invokespecial 3, 3) := by decide +kernel
theorem dX3_init_4 : decode cX3_init 4 = .ok (.aload_n 0, 1) := by decide +kernel
theorem dX3_init_5 : decode cX3_init 5 = .ok (.iconst 1, 1) := by decide +kernel
theorem dX3_init_6 : decode cX3_init 6 = .ok (.iload_n 1, 1) := by decide +kernel
theorem dX3_init_7 : decode cX3_init 7 = .ok (.invokestatic 9, 3) := by decide +kernel
theorem dX3_init_10 : decode cX3_init 10 = .ok (.putfield 15, 3) := by decide +kernel
theorem dX3_init_13 : decode cX3_init 13 = .ok (.aload_n 0, 1) := by decide +kernel
theorem dX3_init_14 : decode cX3_init 14 = .ok (.bipush 16, 2) := by decide +kernel
theorem dX3_init_16 : decode cX3_init 16 = .ok (.iload_n 2, 1) := by decide +kernel
theorem dX3_init_17 : decode cX3_init 17 = .ok (.invokestatic 9, 3) := by decide +kernel
theorem dX3_init_20 : decode cX3_init 20 = .ok (.putfield 21, 3) := by decide +kernel
theorem dX3_init_23 : decode cX3_init 23 = .ok (.aload_n 0, 1) := by decide +kernel
theorem dX3_init_24 : decode cX3_init 24 = .ok (.aload_n 0, 1) := by decide +kernel
theorem dX3_init_25 : decode cX3_init 25 = .ok (.getfield 15, 3) := by decide +kernel
theorem dX3_init_28 : decode cX3_init 28 = .ok (.bipush 16, 2) := by decide +kernel
theorem dX3_init_30 : decode cX3_init 30 = .ok (.imul, 1) := by decide +kernel
theorem dX3_init_31 : decode cX3_init 31 = .ok (.newarray .int, 2) := by decide +kernel
theorem dX3_init_33 : decode cX3_init 33 = .ok (.putfield 24, 3) := by decide +kernel
theorem dX3_init_36 : decode cX3_init 36 = .ok (.aload_n 0, 1) := by decide +kernel
theorem dX3_init_37 : decode cX3_init 37 = .ok (.iconst 0, 1) := by decide +kernel
theorem dX3_init_38 : decode cX3_init 38 = .ok (.putfield 28, 3) := by decide +kernel
theorem dX3_init_41 : decode cX3_init 41 = .ok (.return_, 1) := by decide +kernel
theorem dX3_reserve_0 : decode cX3_reserve 0 = .ok (.iload_n 1, 1) := by decide +kernel
theorem dX3_reserve_1 : decode cX3_reserve 1 = .ok (.aload_n 0, 1) := by decide +kernel
theorem dX3_reserve_2 : decode cX3_reserve 2 = .ok (.getfield 21, 3) := by decide +kernel
theorem dX3_reserve_5 : decode cX3_reserve 5 = .ok (.invokestatic 31, 3) := by decide +kernel
theorem dX3_reserve_8 : decode cX3_reserve 8 = .ok (.aload_n 0, 1) := by decide +kernel
theorem dX3_reserve_9 : decode cX3_reserve 9 = .ok (.getfield 15, 3) := by decide +kernel
theorem dX3_reserve_12 : decode cX3_reserve 12 = .ok (.imul, 1) := by decide +kernel
theorem dX3_reserve_13 : decode cX3_reserve 13 = .ok (.istore_n 2, 1) := by decide +kernel
theorem dX3_reserve_14 : decode cX3_reserve 14 = .ok (.iload_n 2, 1) := by decide +kernel
theorem dX3_reserve_15 : decode cX3_reserve 15 = .ok (.aload_n 0, 1) := by decide +kernel
theorem dX3_reserve_16 : decode cX3_reserve 16 = .ok (.getfield 24, 3) := by decide +kernel
theorem dX3_reserve_19 : decode cX3_reserve 19 = .ok (.arraylength, 1) := by decide +kernel
theorem dX3_reserve_20 : decode cX3_reserve 20 = .ok (.if_icmp .le 39, 3) := by decide +kernel
theorem dX3_reserve_23 : decode cX3_reserve 23 = .ok (.iconst 2, 1) := by decide +kernel
theorem dX3_reserve_24 : decode cX3_reserve 24 = .ok (.aload_n 0, 1) := by decide +kernel
theorem dX3_reserve_25 : decode cX3_reserve 25 = .ok (.getfield 24, 3) := by decide +kernel
theorem dX3_reserve_28 : decode cX3_reserve 28 = .ok (.arraylength, 1) := by decide +kernel
theorem dX3_reserve_29 : decode cX3_reserve 29 = .ok (.imul, 1) := by decide +kernel
theorem dX3_reserve_30 : decode cX3_reserve 30 = .ok (.aload_n 0, 1) := by decide +kernel
theorem dX3_reserve_31 : decode cX3_reserve 31 = .ok (.getfield 21, 3) := by decide +kernel
theorem dX3_reserve_34 : decode cX3_reserve 34 = .ok (.aload_n 0, 1) := by decide +kernel
theorem dX3_reserve_35 : decode cX3_reserve 35 = .ok (.getfield 15, 3) := by decide +kernel
theorem dX3_reserve_38 : decode cX3_reserve 38 = .ok (.imul, 1) := by decide +kernel
theorem dX3_reserve_39 : decode cX3_reserve 39 = .ok (.invokestatic 31, 3) := by decide +kernel
theorem dX3_reserve_42 : decode cX3_reserve 42 = .ok (.istore_n 3, 1) := by decide +kernel
theorem dX3_reserve_43 : decode cX3_reserve 43 = .ok (.aload_n 0, 1) := by decide +kernel
theorem dX3_reserve_44 : decode cX3_reserve 44 = .ok (.aload_n 0, 1) := by decide +kernel
theorem dX3_reserve_45 : decode cX3_reserve 45 = .ok (.getfield 24, 3) := by decide +kernel
theorem dX3_reserve_48 : decode cX3_reserve 48 = .ok (.iload_n 2, 1) := by decide +kernel
theorem dX3_reserve_49 : decode cX3_reserve 49 = .ok (.iload_n 3, 1) := by decide +kernel
theorem dX3_reserve_50 : decode cX3_reserve 50 = .ok (.invokestatic 9, 3) := by decide +kernel
theorem dX3_reserve_53 : decode cX3_reserve 53 = .ok (.invokestatic 34, 3) := by decide +kernel
theorem dX3_reserve_56 : decode cX3_reserve 56 = .ok (.putfield 24, 3) := by decide +kernel
theorem dX3_reserve_59 : decode cX3_reserve 59 = .ok (.return_, 1) := by decide +kernel
theorem dX3_add_0 : decode cX3_add 0 = .ok (.aload_n 0, 1) := by decide +kernel
theorem dX3_add_1 : decode cX3_add 1 = .ok (.getfield 28, 3) := by decide +kernel
theorem dX3_add_4 : decode cX3_add 4 = .ok (.aload_n 0, 1) := by decide +kernel
theorem dX3_add_5 : decode cX3_add 5 = .ok (.getfield 15, 3) := by decide +kernel
theorem dX3_add_8 : decode cX3_add 8 = .ok (.imul, 1) := by decide +kernel
theorem dX3_add_9 : decode cX3_add 9 = .ok (.istore_n 1, 1) := by decide +kernel
theorem dX3_add_10 : decode cX3_add 10 = .ok (.iload_n 1, 1) := by decide +kernel
theorem dX3_add_11 : decode cX3_add 11 = .ok (.aload_n 0, 1) := by decide +kernel
theorem dX3_add_12 : decode cX3_add 12 = .ok (.getfield 15, 3) := by decide +kernel
theorem dX3_add_15 : decode cX3_add 15 = .ok (.iadd, 1) := by decide +kernel
theorem dX3_add_16 : decode cX3_add 16 = .ok (.aload_n 0, 1) := by decide +kernel
theorem dX3_add_17 : decode cX3_add 17 = .ok (.getfield 24, 3) := by decide +kernel
theorem dX3_add_20 : decode cX3_add 20 = .ok (.arraylength, 1) := by decide +kernel
theorem dX3_add_21 : decode cX3_add 21 = .ok (.if_icmp .le 5, 3) := by decide +kernel
theorem dX3_add_24 : decode cX3_add 24 = .ok (.iconst (-1), 1) := by decide +kernel
theorem dX3_add_25 : decode cX3_add 25 = .ok (.ireturn, 1) := by decide +kernel
theorem dX3_add_26 : decode cX3_add 26 = .ok (.iload_n 1, 1) := by decide +kernel
theorem dX3_add_27 : decode cX3_add 27 = .ok (.istore_n 2, 1) := by decide +kernel
theorem dX3_add_28 : decode cX3_add 28 = .ok (.iload_n 2, 1) := by decide +kernel
theorem dX3_add_29 : decode cX3_add 29 = .ok (.iload_n 1, 1) := by decide +kernel
theorem dX3_add_30 : decode cX3_add 30 = .ok (.aload_n 0, 1) := by decide +kernel
theorem dX3_add_31 : decode cX3_add 31 = .ok (.getfield 15, 3) := by decide +kernel
theorem dX3_add_34 : decode cX3_add 34 = .ok (.iadd, 1) := by decide +kernel
theorem dX3_add_35 : decode cX3_add 35 = .ok (.if_icmp .ge 16, 3) := by decide +kernel
theorem dX3_add_38 : decode cX3_add 38 = .ok (.aload_n 0, 1) := by decide +kernel
theorem dX3_add_39 : decode cX3_add 39 = .ok (.getfield 24, 3) := by decide +kernel
theorem dX3_add_42 : decode cX3_add 42 = .ok (.iload_n 2, 1) := by decide +kernel
theorem dX3_add_43 : decode cX3_add 43 = .ok (.iconst 0, 1) := by decide +kernel
theorem dX3_add_44 : decode cX3_add 44 = .ok (.iastore, 1) := by decide +kernel
theorem dX3_add_45 : decode cX3_add 45 = .ok (.iinc 2 1, 3) := by decide +kernel
theorem dX3_add_48 : decode cX3_add 48 = .ok (.goto (-20), 3) := by decide +kernel
theorem dX3_add_51 : decode cX3_add 51 = .ok (.aload_n 0, 1) := by decide +kernel
theorem dX3_add_52 : decode cX3_add 52 = .ok (.dup, 1) := by decide +kernel
theorem dX3_add_53 : decode cX3_add 53 = .ok (.getfield 28, 3) := by decide +kernel
theorem dX3_add_56 : decode cX3_add 56 = .ok (.iconst 1, 1) := by decide +kernel
theorem dX3_add_57 : decode cX3_add 57 = .ok (.iadd, 1) := by decide +kernel
theorem dX3_add_58 : decode cX3_add 58 = .ok (.putfield 28, 3) := by decide +kernel
theorem dX3_add_61 : decode cX3_add 61 = .ok (.aload_n 0, 1) := by decide +kernel
theorem dX3_add_62 : decode cX3_add 62 = .ok (.getfield 28, 3) := by decide +kernel
theorem dX3_add_65 : decode cX3_add 65 = .ok (.iconst 1, 1) := by decide +kernel
theorem dX3_add_66 : decode cX3_add 66 = .ok (.isub, 1) := by decide +kernel
theorem dX3_add_67 : decode cX3_add 67 = .ok (.ireturn, 1) := by decide +kernel
theorem dX3_get_0 : decode cX3_get 0 = .ok (.iload_n 1, 1) := by decide +kernel
theorem dX3_get_1 : decode cX3_get 1 = .ok (.ifCond .lt 23, 3) := by decide +kernel
theorem dX3_get_4 : decode cX3_get 4 = .ok (.iload_n 1, 1) := by decide +kernel
theorem dX3_get_5 : decode cX3_get 5 = .ok (.aload_n 0, 1) := by decide +kernel
theorem dX3_get_6 : decode cX3_get 6 = .ok (.getfield 28, 3) := by decide +kernel
theorem dX3_get_9 : decode cX3_get 9 = .ok (.if_icmp .ge 15, 3) := by decide +kernel
theorem dX3_get_12 : decode cX3_get 12 = .ok (.iload_n 2, 1) := by decide +kernel
theorem dX3_get_13 : decode cX3_get 13 = .ok (.ifCond .lt 11, 3) := by decide +kernel
theorem dX3_get_16 : decode cX3_get 16 = .ok (.iload_n 2, 1) := by decide +kernel
theorem dX3_get_17 : decode cX3_get 17 = .ok (.aload_n 0, 1) := by decide +kernel
theorem dX3_get_18 : decode cX3_get 18 = .ok (.getfield 15, 3) := by decide +kernel
theorem dX3_get_21 : decode cX3_get 21 = .ok (.if_icmp .lt 5, 3) := by decide +kernel
theorem dX3_get_24 : decode cX3_get 24 = .ok (.iconst (-1), 1) := by decide +kernel
theorem dX3_get_25 : decode cX3_get 25 = .ok (.ireturn, 1) := by decide +kernel
theorem dX3_get_26 : decode cX3_get 26 = .ok (.aload_n 0, 1) := by decide +kernel
theorem dX3_get_27 : decode cX3_get 27 = .ok (.getfield 24, 3) := by decide +kernel
theorem dX3_get_30 : decode cX3_get 30 = .ok (.iload_n 1, 1) := by decide +kernel
theorem dX3_get_31 : decode cX3_get 31 = .ok (.aload_n 0, 1) := by decide +kernel
theorem dX3_get_32 : decode cX3_get 32 = .ok (.getfield 15, 3) := by decide +kernel
theorem dX3_get_35 : decode cX3_get 35 = .ok (.imul, 1) := by decide +kernel
theorem dX3_get_36 : decode cX3_get 36 = .ok (.iload_n 2, 1) := by decide +kernel
theorem dX3_get_37 : decode cX3_get 37 = .ok (.iadd, 1) := by decide +kernel
theorem dX3_get_38 : decode cX3_get 38 = .ok (.iaload, 1) := by decide +kernel
theorem dX3_get_39 : decode cX3_get 39 = .ok (.ireturn, 1) := by decide +kernel
theorem dX3_set_0 : decode cX3_set 0 = .ok (.iload_n 1, 1) := by decide +kernel
theorem dX3_set_1 : decode cX3_set 1 = .ok (.ifCond .lt 37, 3) := by decide +kernel
theorem dX3_set_4 : decode cX3_set 4 = .ok (.iload_n 1, 1) := by decide +kernel
theorem dX3_set_5 : decode cX3_set 5 = .ok (.aload_n 0, 1) := by decide +kernel
theorem dX3_set_6 : decode cX3_set 6 = .ok (.getfield 28, 3) := by decide +kernel
theorem dX3_set_9 : decode cX3_set 9 = .ok (.if_icmp .ge 29, 3) := by decide +kernel
theorem dX3_set_12 : decode cX3_set 12 = .ok (.iload_n 2, 1) := by decide +kernel
theorem dX3_set_13 : decode cX3_set 13 = .ok (.ifCond .lt 25, 3) := by decide +kernel
theorem dX3_set_16 : decode cX3_set 16 = .ok (.iload_n 2, 1) := by decide +kernel
theorem dX3_set_17 : decode cX3_set 17 = .ok (.aload_n 0, 1) := by decide +kernel
theorem dX3_set_18 : decode cX3_set 18 = .ok (.getfield 15, 3) := by decide +kernel
theorem dX3_set_21 : decode cX3_set 21 = .ok (.if_icmp .ge 17, 3) := by decide +kernel
theorem dX3_set_24 : decode cX3_set 24 = .ok (.aload_n 0, 1) := by decide +kernel
theorem dX3_set_25 : decode cX3_set 25 = .ok (.getfield 24, 3) := by decide +kernel
theorem dX3_set_28 : decode cX3_set 28 = .ok (.iload_n 1, 1) := by decide +kernel
theorem dX3_set_29 : decode cX3_set 29 = .ok (.aload_n 0, 1) := by decide +kernel
theorem dX3_set_30 : decode cX3_set 30 = .ok (.getfield 15, 3) := by decide +kernel
theorem dX3_set_33 : decode cX3_set 33 = .ok (.imul, 1) := by decide +kernel
theorem dX3_set_34 : decode cX3_set 34 = .ok (.iload_n 2, 1) := by decide +kernel
theorem dX3_set_35 : decode cX3_set 35 = .ok (.iadd, 1) := by decide +kernel
theorem dX3_set_36 : decode cX3_set 36 = .ok (.iload_n 3, 1) := by decide +kernel
theorem dX3_set_37 : decode cX3_set 37 = .ok (.iastore, 1) := by decide +kernel
theorem dX3_set_38 : decode cX3_set 38 = .ok (.return_, 1) := by decide +kernel
theorem dX3_become_0 : decode cX3_become 0 = .ok (.aload_n 0, 1) := by decide +kernel
theorem dX3_become_1 : decode cX3_become 1 = .ok (.aload_n 1, 1) := by decide +kernel
theorem dX3_become_2 : decode cX3_become 2 = .ok (.getfield 28, 3) := by decide +kernel
theorem dX3_become_5 : decode cX3_become 5 = .ok (.invokevirtual 40, 3) := by decide +kernel
theorem dX3_become_8 : decode cX3_become 8 = .ok (.aload_n 1, 1) := by decide +kernel
theorem dX3_become_9 : decode cX3_become 9 = .ok (.getfield 28, 3) := by decide +kernel
theorem dX3_become_12 : decode cX3_become 12 = .ok (.aload_n 1, 1) := by decide +kernel
theorem dX3_become_13 : decode cX3_become 13 = .ok (.getfield 15, 3) := by decide +kernel
theorem dX3_become_16 : decode cX3_become 16 = .ok (.imul, 1) := by decide +kernel
theorem dX3_become_17 : decode cX3_become 17 = .ok (.istore_n 2, 1) := by decide +kernel
theorem dX3_become_18 : decode cX3_become 18 = .ok (.aload_n 1, 1) := by decide +kernel
theorem dX3_become_19 : decode cX3_become 19 = .ok (.getfield 15, 3) := by decide +kernel
theorem dX3_become_22 : decode cX3_become 22 = .ok (.aload_n 0, 1) := by decide +kernel
theorem dX3_become_23 : decode cX3_become 23 = .ok (.getfield 15, 3) := by decide +kernel
theorem dX3_become_26 : decode cX3_become 26 = .ok (.if_icmp .ne 34, 3) := by decide +kernel
theorem dX3_become_29 : decode cX3_become 29 = .ok (.iload_n 2, 1) := by decide +kernel
theorem dX3_become_30 : decode cX3_become 30 = .ok (.aload_n 0, 1) := by decide +kernel
theorem dX3_become_31 : decode cX3_become 31 = .ok (.getfield 24, 3) := by decide +kernel
theorem dX3_become_34 : decode cX3_become 34 = .ok (.arraylength, 1) := by decide +kernel
theorem dX3_become_35 : decode cX3_become 35 = .ok (.if_icmp .gt 25, 3) := by decide +kernel
theorem dX3_become_38 : decode cX3_become 38 = .ok (.aload_n 1, 1) := by decide +kernel
theorem dX3_become_39 : decode cX3_become 39 = .ok (.getfield 24, 3) := by decide +kernel
theorem dX3_become_42 : decode cX3_become 42 = .ok (.iconst 0, 1) := by decide +kernel
theorem dX3_become_43 : decode cX3_become 43 = .ok (.aload_n 0, 1) := by decide +kernel
theorem dX3_become_44 : decode cX3_become 44 = .ok (.getfield 24, 3) := by decide +kernel
theorem dX3_become_47 : decode cX3_become 47 = .ok (.iconst 0, 1) := by decide +kernel
theorem dX3_become_48 : decode cX3_become 48 = .ok (.iload_n 2, 1) := by decide +kernel
theorem dX3_become_49 : decode cX3_become 49 = .ok (.invokestatic 44, 3) := by decide +kernel
theorem dX3_become_52 : decode cX3_become 52 = .ok (.aload_n 0, 1) := by decide +kernel
theorem dX3_become_53 : decode cX3_become 53 = .ok (.aload_n 1, 1) := by decide +kernel
theorem dX3_become_54 : decode cX3_become 54 = .ok (.getfield 28, 3) := by decide +kernel
theorem dX3_become_57 : decode cX3_become 57 = .ok (.putfield 28, 3) := by decide +kernel
theorem dX3_become_60 : decode cX3_become 60 = .ok (.return_, 1) := by decide +kernel
theorem dX3_sameAs_0 : decode cX3_sameAs 0 = .ok (.aload_n 0, 1) := by decide +kernel
theorem dX3_sameAs_1 : decode cX3_sameAs 1 = .ok (.getfield 28, 3) := by decide +kernel
theorem dX3_sameAs_4 : decode cX3_sameAs 4 = .ok (.aload_n 1, 1) := by decide +kernel
theorem dX3_sameAs_5 : decode cX3_sameAs 5 = .ok (.getfield 28, 3) := by decide +kernel
theorem dX3_sameAs_8 : decode cX3_sameAs 8 = .ok (.if_icmp .ne 41, 3) := by decide +kernel
theorem dX3_sameAs_11 : decode cX3_sameAs 11 = .ok (.aload_n 0, 1) := by decide +kernel
theorem dX3_sameAs_12 : decode cX3_sameAs 12 = .ok (.getfield 15, 3) := by decide +kernel
theorem dX3_sameAs_15 : decode cX3_sameAs 15 = .ok (.aload_n 1, 1) := by decide +kernel
theorem dX3_sameAs_16 : decode cX3_sameAs 16 = .ok (.getfield 15, 3) := by decide +kernel
theorem dX3_sameAs_19 : decode cX3_sameAs 19 = .ok (.if_icmp .ne 30, 3) := by decide +kernel
theorem dX3_sameAs_22 : decode cX3_sameAs 22 = .ok (.aload_n 0, 1) := by decide +kernel
theorem dX3_sameAs_23 : decode cX3_sameAs 23 = .ok (.getfield 24, 3) := by decide +kernel
theorem dX3_sameAs_26 : decode cX3_sameAs 26 = .ok (.aload_n 1, 1) := by decide +kernel
theorem dX3_sameAs_27 : decode cX3_sameAs 27 = .ok (.getfield 24, 3) := by decide +kernel
theorem dX3_sameAs_30 : decode cX3_sameAs 30 = .ok (.aload_n 0, 1) := by decide +kernel
theorem dX3_sameAs_31 : decode cX3_sameAs 31 = .ok (.getfield 28, 3) := by decide +kernel
theorem dX3_sameAs_34 : decode cX3_sameAs 34 = .ok (.aload_n 0, 1) := by decide +kernel
theorem dX3_sameAs_35 : decode cX3_sameAs 35 = .ok (.getfield 15, 3) := by decide +kernel
theorem dX3_sameAs_38 : decode cX3_sameAs 38 = .ok (.imul, 1) := by decide +kernel
theorem dX3_sameAs_39 : decode cX3_sameAs 39 = .ok (.invokestatic 50, 3) := by decide +kernel
theorem dX3_sameAs_42 : decode cX3_sameAs 42 = .ok (.ifCond .eq 7, 3) := by decide +kernel
theorem dX3_sameAs_45 : decode cX3_sameAs 45 = .ok (.iconst 1, 1) := by decide +kernel
theorem dX3_sameAs_46 : decode cX3_sameAs 46 = .ok (.goto 4, 3) := by decide +kernel
theorem dX3_sameAs_49 : decode cX3_sameAs 49 = .ok (.iconst 0, 1) := by decide +kernel
theorem dX3_sameAs_50 : decode cX3_sameAs 50 = .ok (.ireturn, 1) := by decide +kernel
theorem dX4_init_0 : decode cX4_init 0 = .ok (.aload_n 0, 1) := by decide +kernel
theorem dX4_init_1 : decode cX4_init 1 = .ok (.invokespecial 3, 3) := by decide +kernel
theorem dX4_init_4 : decode cX4_init 4 = .ok (.aload_n 0, 1) := by decide +kernel
theorem dX4_init_5 : decode cX4_init 5 = .ok (.bipush 16, 2) := by decide +kernel
theorem dX4_init_7 : decode cX4_init 7 = .ok (.newarray .int, 2) := by decide +kernel
theorem dX4_init_9 : decode cX4_init 9 = .ok (.putfield 9, 3) := by decide +kernel
theorem dX4_init_12 : decode cX4_init 12 = .ok (.aload_n 0, 1) := by decide +kernel
theorem dX4_init_13 : decode cX4_init 13 = .ok (.iconst 0, 1) := by decide +kernel
theorem dX4_init_14 : decode cX4_init 14 = .ok (.putfield 15, 3) := by decide +kernel
theorem dX4_init_17 : decode cX4_init 17 = .ok (.return_, 1) := by decide +kernel
theorem dX4_follow_0 : decode cX4_follow 0 = .ok (.aload_n 0, 1) := by decide +kernel
theorem dX4_follow_1 : decode cX4_follow 1 = .ok (.iconst 0, 1) := by decide +kernel
theorem dX4_follow_2 : decode cX4_follow 2 = .ok (.putfield 15, 3) := by decide +kernel
theorem dX4_follow_5 : decode cX4_follow 5 = .ok (.iload_n 2, 1) := by decide +kernel
theorem dX4_follow_6 : decode cX4_follow 6 = .ok (.istore 4, 2) := by decide +kernel
theorem dX4_follow_8 : decode cX4_follow 8 = .ok (.iconst 0, 1) := by decide +kernel
theorem dX4_follow_9 : decode cX4_follow 9 = .ok (.istore 5, 2) := by decide +kernel
theorem dX4_follow_11 : decode cX4_follow 11 = .ok (.iload 5, 2) := by decide +kernel
theorem dX4_follow_13 : decode cX4_follow 13 = .ok (.sipush 1200, 3) := by decide +kernel
theorem dX4_follow_16 : decode cX4_follow 16 = .ok (.if_icmp .ge 40, 3) := by decide +kernel
theorem dX4_follow_19 : decode cX4_follow 19 = .ok (.aload_n 1, 1) := by decide +kernel
theorem dX4_follow_20 : decode cX4_follow 20 = .ok (.iload 4, 2) := by decide +kernel
theorem dX4_follow_22 : decode cX4_follow 22 = .ok (.invokevirtual 19, 3) := by decide +kernel
theorem dX4_follow_25 : decode cX4_follow 25 = .ok (.ifCond .eq 31, 3) := by decide +kernel
theorem dX4_follow_28 : decode cX4_follow 28 = .ok (.aload_n 0, 1) := by decide +kernel
theorem dX4_follow_29 : decode cX4_follow 29 = .ok (.iload 4, 2) := by decide +kernel
theorem dX4_follow_31 : decode cX4_follow 31 = .ok (.invokevirtual 25, 3) := by decide +kernel
theorem dX4_follow_34 : decode cX4_follow 34 = .ok (.aload_n 1, 1) := by decide +kernel
theorem dX4_follow_35 : decode cX4_follow 35 = .ok (.iload 4, 2) := by decide +kernel
theorem dX4_follow_37 : decode cX4_follow 37 = .ok (.aload_n 1, 1) := by decide +kernel
theorem dX4_follow_38 : decode cX4_follow 38 = .ok (.iload 4, 2) := by decide +kernel
theorem dX4_follow_40 : decode cX4_follow 40 = .ok (.iload_n 3, 1) := by decide +kernel
theorem dX4_follow_41 : decode cX4_follow 41 = .ok (.invokevirtual 29, 3) := by decide +kernel
theorem dX4_follow_44 : decode cX4_follow 44 = .ok (.iconst 3, 1) := by decide +kernel
theorem dX4_follow_45 : decode cX4_follow 45 = .ok (.invokevirtual 33, 3) := by decide +kernel
theorem dX4_follow_48 : decode cX4_follow 48 = .ok (.istore 4, 2) := by decide +kernel
theorem dX4_follow_50 : decode cX4_follow 50 = .ok (.iinc 5 1, 3) := by decide +kernel
theorem dX4_follow_53 : decode cX4_follow 53 = .ok (.goto (-42), 3) := by decide +kernel
theorem dX4_follow_56 : decode cX4_follow 56 = .ok (.return_, 1) := by decide +kernel
theorem dX4_add_0 : decode cX4_add 0 = .ok (.aload_n 0, 1) := by decide +kernel
theorem dX4_add_1 : decode cX4_add 1 = .ok (.getfield 15, 3) := by decide +kernel
theorem dX4_add_4 : decode cX4_add 4 = .ok (.aload_n 0, 1) := by decide +kernel
theorem dX4_add_5 : decode cX4_add 5 = .ok (.getfield 9, 3) := by decide +kernel
theorem dX4_add_8 : decode cX4_add 8 = .ok (.arraylength, 1) := by decide +kernel
theorem dX4_add_9 : decode cX4_add 9 = .ok (.if_icmp .lt 21, 3) := by decide +kernel
theorem dX4_add_12 : decode cX4_add 12 = .ok (.aload_n 0, 1) := by decide +kernel
theorem dX4_add_13 : decode cX4_add 13 = .ok (.aload_n 0, 1) := by decide +kernel
theorem dX4_add_14 : decode cX4_add 14 = .ok (.getfield 9, 3) := by decide +kernel
theorem dX4_add_17 : decode cX4_add 17 = .ok (.iconst 2, 1) := by decide +kernel
theorem dX4_add_18 : decode cX4_add 18 = .ok (.aload_n 0, 1) := by decide +kernel
theorem dX4_add_19 : decode cX4_add 19 = .ok (.getfield 9, 3) := by decide +kernel
theorem dX4_add_22 : decode cX4_add 22 = .ok (.arraylength, 1) := by decide +kernel
theorem dX4_add_23 : decode cX4_add 23 = .ok (.imul, 1) := by decide +kernel
theorem dX4_add_24 : decode cX4_add 24 = .ok (.invokestatic 37, 3) := by decide +kernel
theorem dX4_add_27 : decode cX4_add 27 = .ok (.putfield 9, 3) := by decide +kernel
theorem dX4_add_30 : decode cX4_add 30 = .ok (.aload_n 0, 1) := by decide +kernel
theorem dX4_add_31 : decode cX4_add 31 = .ok (.getfield 9, 3) := by decide +kernel
theorem dX4_add_34 : decode cX4_add 34 = .ok (.aload_n 0, 1) := by decide +kernel
theorem dX4_add_35 : decode cX4_add 35 = .ok (.getfield 15, 3) := by decide +kernel
theorem dX4_add_38 : decode cX4_add 38 = .ok (.iload_n 1, 1) := by decide +kernel
theorem dX4_add_39 : decode cX4_add 39 = .ok (.iastore, 1) := by decide +kernel
theorem dX4_add_40 : decode cX4_add 40 = .ok (.aload_n 0, 1) := by decide +kernel
theorem dX4_add_41 : decode cX4_add 41 = .ok (.dup, 1) := by decide +kernel
theorem dX4_add_42 : decode cX4_add 42 = .ok (.getfield 15, 3) := by decide +kernel
theorem dX4_add_45 : decode cX4_add 45 = .ok (.iconst 1, 1) := by decide +kernel
theorem dX4_add_46 : decode cX4_add 46 = .ok (.iadd, 1) := by decide +kernel
theorem dX4_add_47 : decode cX4_add 47 = .ok (.putfield 15, 3) := by decide +kernel
theorem dX4_add_50 : decode cX4_add 50 = .ok (.return_, 1) := by decide +kernel
theorem dX4_stands_0 : decode cX4_stands 0 = .ok (.iload_n 2, 1) := by decide +kernel
theorem dX4_stands_1 : decode cX4_stands 1 = .ok (.istore 6, 2) := by decide +kernel
theorem dX4_stands_3 : decode cX4_stands 3 = .ok (.iconst 0, 1) := by decide +kernel
theorem dX4_stands_4 : decode cX4_stands 4 = .ok (.istore 7, 2) := by decide +kernel
theorem dX4_stands_6 : decode cX4_stands 6 = .ok (.iload 7, 2) := by decide +kernel
theorem dX4_stands_8 : decode cX4_stands 8 = .ok (.aload_n 0, 1) := by decide +kernel
theorem dX4_stands_9 : decode cX4_stands 9 = .ok (.getfield 15, 3) := by decide +kernel
theorem dX4_stands_12 : decode cX4_stands 12 = .ok (.if_icmp .ge 145, 3) := by decide +kernel
theorem dX4_stands_15 : decode cX4_stands 15 = .ok (.iload 7, 2) := by decide +kernel
theorem dX4_stands_17 : decode cX4_stands 17 = .ok (.aload_n 0, 1) := by decide +kernel
theorem dX4_stands_18 : decode cX4_stands 18 = .ok (.getfield 9, 3) := by decide +kernel
theorem dX4_stands_21 : decode cX4_stands 21 = .ok (.arraylength, 1) := by decide +kernel
theorem dX4_stands_22 : decode cX4_stands 22 = .ok (.if_icmp .ge 135, 3) := by decide +kernel
theorem dX4_stands_25 : decode cX4_stands 25 = .ok (.aload_n 0, 1) := by decide +kernel
theorem dX4_stands_26 : decode cX4_stands 26 = .ok (.getfield 9, 3) := by decide +kernel
theorem dX4_stands_29 : decode cX4_stands 29 = .ok (.iload 7, 2) := by decide +kernel
theorem dX4_stands_31 : decode cX4_stands 31 = .ok (.iaload, 1) := by decide +kernel
theorem dX4_stands_32 : decode cX4_stands 32 = .ok (.istore 8, 2) := by decide +kernel
theorem dX4_stands_34 : decode cX4_stands 34 = .ok (.iload 7, 2) := by decide +kernel
theorem dX4_stands_36 : decode cX4_stands 36 = .ok (.iconst 1, 1) := by decide +kernel
theorem dX4_stands_37 : decode cX4_stands 37 = .ok (.iadd, 1) := by decide +kernel
theorem dX4_stands_38 : decode cX4_stands 38 = .ok (.aload_n 0, 1) := by decide +kernel
theorem dX4_stands_39 : decode cX4_stands 39 = .ok (.getfield 15, 3) := by decide +kernel
theorem dX4_stands_42 : decode cX4_stands 42 = .ok (.if_icmp .ge 27, 3) := by decide +kernel
theorem dX4_stands_45 : decode cX4_stands 45 = .ok (.iload 7, 2) := by decide +kernel
theorem dX4_stands_47 : decode cX4_stands 47 = .ok (.iconst 1, 1) := by decide +kernel
theorem dX4_stands_48 : decode cX4_stands 48 = .ok (.iadd, 1) := by decide +kernel
theorem dX4_stands_49 : decode cX4_stands 49 = .ok (.aload_n 0, 1) := by decide +kernel
theorem dX4_stands_50 : decode cX4_stands 50 = .ok (.getfield 9, 3) := by decide +kernel
theorem dX4_stands_53 : decode cX4_stands 53 = .ok (.arraylength, 1) := by decide +kernel
theorem dX4_stands_54 : decode cX4_stands 54 = .ok (.if_icmp .ge 15, 3) := by decide +kernel
theorem dX4_stands_57 : decode cX4_stands 57 = .ok (.aload_n 0, 1) := by decide +kernel
theorem dX4_stands_58 : decode cX4_stands 58 = .ok (.getfield 9, 3) := by decide +kernel
theorem dX4_stands_61 : decode cX4_stands 61 = .ok (.iload 7, 2) := by decide +kernel
theorem dX4_stands_63 : decode cX4_stands 63 = .ok (.iconst 1, 1) := by decide +kernel
theorem dX4_stands_64 : decode cX4_stands 64 = .ok (.iadd, 1) := by decide +kernel
theorem dX4_stands_65 : decode cX4_stands 65 = .ok (.iaload, 1) := by decide +kernel
theorem dX4_stands_66 : decode cX4_stands 66 = .ok (.goto 4, 3) := by decide +kernel
theorem dX4_stands_69 : decode cX4_stands 69 = .ok (.iconst (-1), 1) := by decide +kernel
theorem dX4_stands_70 : decode cX4_stands 70 = .ok (.istore 9, 2) := by decide +kernel
theorem dX4_stands_72 : decode cX4_stands 72 = .ok (.aload_n 1, 1) := by decide +kernel
theorem dX4_stands_73 : decode cX4_stands 73 = .ok (.iload 8, 2) := by decide +kernel
theorem dX4_stands_75 : decode cX4_stands 75 = .ok (.iload_n 3, 1) := by decide +kernel
theorem dX4_stands_76 : decode cX4_stands 76 = .ok (.invokevirtual 29, 3) := by decide +kernel
theorem dX4_stands_79 : decode cX4_stands 79 = .ok (.istore 10, 2) := by decide +kernel
theorem dX4_stands_81 : decode cX4_stands 81 = .ok (.aload_n 1, 1) := by decide +kernel
theorem dX4_stands_82 : decode cX4_stands 82 = .ok (.iload 8, 2) := by decide +kernel
theorem dX4_stands_84 : decode cX4_stands 84 = .ok (.iload 6, 2) := by decide +kernel
theorem dX4_stands_86 : decode cX4_stands 86 = .ok (.invokevirtual 43, 3) := by decide +kernel
theorem dX4_stands_89 : decode cX4_stands 89 = .ok (.ifCond .eq 51, 3) := by decide +kernel
theorem dX4_stands_92 : decode cX4_stands 92 = .ok (.iload 10, 2) := by decide +kernel
theorem dX4_stands_94 : decode cX4_stands 94 = .ok (.iconst (-1), 1) := by decide +kernel
theorem dX4_stands_95 : decode cX4_stands 95 = .ok (.if_icmp .eq 45, 3) := by decide +kernel
theorem dX4_stands_98 : decode cX4_stands 98 = .ok (.aload_n 1, 1) := by decide +kernel
theorem dX4_stands_99 : decode cX4_stands 99 = .ok (.iload 8, 2) := by decide +kernel
theorem dX4_stands_101 : decode cX4_stands 101 = .ok (.iload 10, 2) := by decide +kernel
theorem dX4_stands_103 : decode cX4_stands 103 = .ok (.iconst 1, 1) := by decide +kernel
theorem dX4_stands_104 : decode cX4_stands 104 = .ok (.invokevirtual 33, 3) := by decide +kernel
theorem dX4_stands_107 : decode cX4_stands 107 = .ok (.iload 4, 2) := by decide +kernel
theorem dX4_stands_109 : decode cX4_stands 109 = .ok (.if_icmp .ne 31, 3) := by decide +kernel
theorem dX4_stands_112 : decode cX4_stands 112 = .ok (.aload_n 1, 1) := by decide +kernel
theorem dX4_stands_113 : decode cX4_stands 113 = .ok (.iload 8, 2) := by decide +kernel
theorem dX4_stands_115 : decode cX4_stands 115 = .ok (.iload 10, 2) := by decide +kernel
theorem dX4_stands_117 : decode cX4_stands 117 = .ok (.iconst 2, 1) := by decide +kernel
theorem dX4_stands_118 : decode cX4_stands 118 = .ok (.invokevirtual 33, 3) := by decide +kernel
theorem dX4_stands_121 : decode cX4_stands 121 = .ok (.iload 5, 2) := by decide +kernel
theorem dX4_stands_123 : decode cX4_stands 123 = .ok (.if_icmp .ne 17, 3) := by decide +kernel
theorem dX4_stands_126 : decode cX4_stands 126 = .ok (.aload_n 1, 1) := by decide +kernel
theorem dX4_stands_127 : decode cX4_stands 127 = .ok (.iload 8, 2) := by decide +kernel
theorem dX4_stands_129 : decode cX4_stands 129 = .ok (.iload 10, 2) := by decide +kernel
theorem dX4_stands_131 : decode cX4_stands 131 = .ok (.iconst 3, 1) := by decide +kernel
theorem dX4_stands_132 : decode cX4_stands 132 = .ok (.invokevirtual 33, 3) := by decide +kernel
theorem dX4_stands_135 : decode cX4_stands 135 = .ok (.iload 9, 2) := by decide +kernel
theorem dX4_stands_137 : decode cX4_stands 137 = .ok (.if_icmp .eq 5, 3) := by decide +kernel
theorem dX4_stands_140 : decode cX4_stands 140 = .ok (.iconst 0, 1) := by decide +kernel
theorem dX4_stands_141 : decode cX4_stands 141 = .ok (.ireturn, 1) := by decide +kernel
theorem dX4_stands_142 : decode cX4_stands 142 = .ok (.aload_n 1, 1) := by decide +kernel
theorem dX4_stands_143 : decode cX4_stands 143 = .ok (.iload 8, 2) := by decide +kernel
theorem dX4_stands_145 : decode cX4_stands 145 = .ok (.iconst 1, 1) := by decide +kernel
theorem dX4_stands_146 : decode cX4_stands 146 = .ok (.invokevirtual 47, 3) := by decide +kernel
theorem dX4_stands_149 : decode cX4_stands 149 = .ok (.istore 6, 2) := by decide +kernel
theorem dX4_stands_151 : decode cX4_stands 151 = .ok (.iinc 7 1, 3) := by decide +kernel
theorem dX4_stands_154 : decode cX4_stands 154 = .ok (.goto (-148), 3) := by decide +kernel
theorem dX4_stands_157 : decode cX4_stands 157 = .ok (.iconst 1, 1) := by decide +kernel
theorem dX4_stands_158 : decode cX4_stands 158 = .ok (.ireturn, 1) := by decide +kernel
theorem dX5_init_0 : decode cX5_init 0 = .ok (.aload_n 0, 1) := by decide +kernel
theorem dX5_init_1 : decode cX5_init 1 = .ok (.invokespecial 3, 3) := by decide +kernel
theorem dX5_init_4 : decode cX5_init 4 = .ok (.aload_n 0, 1) := by decide +kernel
theorem dX5_init_5 : decode cX5_init 5 = .ok (.bipush 64, 2) := by decide +kernel
theorem dX5_init_7 : decode cX5_init 7 = .ok (.anewarray 9, 3) := by decide +kernel
theorem dX5_init_10 : decode cX5_init 10 = .ok (.putfield 11, 3) := by decide +kernel
theorem dX5_init_13 : decode cX5_init 13 = .ok (.aload_n 0, 1) := by decide +kernel
theorem dX5_init_14 : decode cX5_init 14 = .ok (.iconst 0, 1) := by decide +kernel
theorem dX5_init_15 : decode cX5_init 15 = .ok (.putfield 17, 3) := by decide +kernel
theorem dX5_init_18 : decode cX5_init 18 = .ok (.aload_n 0, 1) := by decide +kernel
theorem dX5_init_19 : decode cX5_init 19 = .ok (.bipush 64, 2) := by decide +kernel
theorem dX5_init_21 : decode cX5_init 21 = .ok (.newarray .long, 2) := by decide +kernel
theorem dX5_init_23 : decode cX5_init 23 = .ok (.putfield 21, 3) := by decide +kernel
theorem dX5_init_26 : decode cX5_init 26 = .ok (.aload_n 0, 1) := by decide +kernel
theorem dX5_init_27 : decode cX5_init 27 = .ok (.new 25, 3) := by decide +kernel
theorem dX5_init_30 : decode cX5_init 30 = .ok (.dup, 1) := by decide +kernel
theorem dX5_init_31 : decode cX5_init 31 = .ok (.invokespecial 27, 3) := by decide +kernel
theorem dX5_init_34 : decode cX5_init 34 = .ok (.putfield 28, 3) := by decide +kernel
theorem dX5_init_37 : decode cX5_init 37 = .ok (.aload_n 0, 1) := by decide +kernel
theorem dX5_init_38 : decode cX5_init 38 = .ok (.new 32, 3) := by decide +kernel
theorem dX5_init_41 : decode cX5_init 41 = .ok (.dup, 1) := by decide +kernel
theorem dX5_init_42 : decode cX5_init 42 = .ok (.iconst 5, 1) := by decide +kernel
theorem dX5_init_43 : decode cX5_init 43 = .ok (.sipush 4000, 3) := by decide +kernel
theorem dX5_init_46 : decode cX5_init 46 = .ok (.invokespecial 34, 3) := by decide +kernel
theorem dX5_init_49 : decode cX5_init 49 = .ok (.putfield 37, 3) := by decide +kernel
theorem dX5_init_52 : decode cX5_init 52 = .ok (.aload_n 0, 1) := by decide +kernel
theorem dX5_init_53 : decode cX5_init 53 = .ok (.bipush 12, 2) := by decide +kernel
theorem dX5_init_55 : decode cX5_init 55 = .ok (.newarray .int, 2) := by decide +kernel
theorem dX5_init_57 : decode cX5_init 57 = .ok (.putfield 41, 3) := by decide +kernel
theorem dX5_init_60 : decode cX5_init 60 = .ok (.aload_n 0, 1) := by decide +kernel
theorem dX5_init_61 : decode cX5_init 61 = .ok (.bipush 64, 2) := by decide +kernel
theorem dX5_init_63 : decode cX5_init 63 = .ok (.newarray .int, 2) := by decide +kernel
theorem dX5_init_65 : decode cX5_init 65 = .ok (.putfield 45, 3) := by decide +kernel
theorem dX5_init_68 : decode cX5_init 68 = .ok (.aload_n 0, 1) := by decide +kernel
theorem dX5_init_69 : decode cX5_init 69 = .ok (.bipush 64, 2) := by decide +kernel
theorem dX5_init_71 : decode cX5_init 71 = .ok (.newarray .int, 2) := by decide +kernel
theorem dX5_init_73 : decode cX5_init 73 = .ok (.putfield 48, 3) := by decide +kernel
theorem dX5_init_76 : decode cX5_init 76 = .ok (.return_, 1) := by decide +kernel
theorem dX5_clear_0 : decode cX5_clear 0 = .ok (.iconst 0, 1) := by decide +kernel
theorem dX5_clear_1 : decode cX5_clear 1 = .ok (.istore_n 1, 1) := by decide +kernel
theorem dX5_clear_2 : decode cX5_clear 2 = .ok (.iload_n 1, 1) := by decide +kernel
theorem dX5_clear_3 : decode cX5_clear 3 = .ok (.bipush 64, 2) := by decide +kernel
theorem dX5_clear_5 : decode cX5_clear 5 = .ok (.if_icmp .ge 25, 3) := by decide +kernel
theorem dX5_clear_8 : decode cX5_clear 8 = .ok (.aload_n 0, 1) := by decide +kernel
theorem dX5_clear_9 : decode cX5_clear 9 = .ok (.getfield 11, 3) := by decide +kernel
theorem dX5_clear_12 : decode cX5_clear 12 = .ok (.iload_n 1, 1) := by decide +kernel
theorem dX5_clear_13 : decode cX5_clear 13 = .ok (.aaload, 1) := by decide +kernel
theorem dX5_clear_14 : decode cX5_clear 14 = .ok (.astore_n 2, 1) := by decide +kernel
theorem dX5_clear_15 : decode cX5_clear 15 = .ok (.aload_n 2, 1) := by decide +kernel
theorem dX5_clear_16 : decode cX5_clear 16 = .ok (.ifnull 8, 3) := by decide +kernel
theorem dX5_clear_19 : decode cX5_clear 19 = .ok (.aload_n 2, 1) := by decide +kernel
theorem dX5_clear_20 : decode cX5_clear 20 = .ok (.iconst 0, 1) := by decide +kernel
theorem dX5_clear_21 : decode cX5_clear 21 = .ok (.putfield 51, 3) := by decide +kernel
theorem dX5_clear_24 : decode cX5_clear 24 = .ok (.iinc 1 1, 3) := by decide +kernel
theorem dX5_clear_27 : decode cX5_clear 27 = .ok (.goto (-25), 3) := by decide +kernel
theorem dX5_clear_30 : decode cX5_clear 30 = .ok (.aload_n 0, 1) := by decide +kernel
theorem dX5_clear_31 : decode cX5_clear 31 = .ok (.iconst 0, 1) := by decide +kernel
theorem dX5_clear_32 : decode cX5_clear 32 = .ok (.putfield 17, 3) := by decide +kernel
theorem dX5_clear_35 : decode cX5_clear 35 = .ok (.aload_n 0, 1) := by decide +kernel
theorem dX5_clear_36 : decode cX5_clear 36 = .ok (.getfield 21, 3) := by decide +kernel
theorem dX5_clear_39 : decode cX5_clear 39 = .ok (.lconst 0, 1) := by decide +kernel
theorem dX5_clear_40 : decode cX5_clear 40 = .ok (.invokestatic 54, 3) := by decide +kernel
theorem dX5_clear_43 : decode cX5_clear 43 = .ok (.aload_n 0, 1) := by decide +kernel
theorem dX5_clear_44 : decode cX5_clear 44 = .ok (.getfield 28, 3) := by decide +kernel
theorem dX5_clear_47 : decode cX5_clear 47 = .ok (.invokevirtual 60, 3) := by decide +kernel
theorem dX5_clear_50 : decode cX5_clear 50 = .ok (.aload_n 0, 1) := by decide +kernel
theorem dX5_clear_51 : decode cX5_clear 51 = .ok (.getfield 37, 3) := by decide +kernel
theorem dX5_clear_54 : decode cX5_clear 54 = .ok (.iconst 0, 1) := by decide +kernel
theorem dX5_clear_55 : decode cX5_clear 55 = .ok (.putfield 63, 3) := by decide +kernel
theorem dX5_clear_58 : decode cX5_clear 58 = .ok (.aload_n 0, 1) := by decide +kernel
theorem dX5_clear_59 : decode cX5_clear 59 = .ok (.getfield 41, 3) := by decide +kernel
theorem dX5_clear_62 : decode cX5_clear 62 = .ok (.iconst 0, 1) := by decide +kernel
theorem dX5_clear_63 : decode cX5_clear 63 = .ok (.invokestatic 66, 3) := by decide +kernel
theorem dX5_clear_66 : decode cX5_clear 66 = .ok (.return_, 1) := by decide +kernel
theorem dX5_memberAt_0 : decode cX5_memberAt 0 = .ok (.iload_n 1, 1) := by decide +kernel
theorem dX5_memberAt_1 : decode cX5_memberAt 1 = .ok (.invokestatic 69, 3) := by decide +kernel
theorem dX5_memberAt_4 : decode cX5_memberAt 4 = .ok (.ifCond .ne 5, 3) := by decide +kernel
theorem dX5_memberAt_7 : decode cX5_memberAt 7 = .ok (.aconst_null, 1) := by decide +kernel
theorem dX5_memberAt_8 : decode cX5_memberAt 8 = .ok (.areturn, 1) := by decide +kernel
theorem dX5_memberAt_9 : decode cX5_memberAt 9 = .ok (.aload_n 0, 1) := by decide +kernel
theorem dX5_memberAt_10 : decode cX5_memberAt 10 = .ok (.getfield 11, 3) := by decide +kernel
theorem dX5_memberAt_13 : decode cX5_memberAt 13 = .ok (.iload_n 1, 1) := by decide +kernel
theorem dX5_memberAt_14 : decode cX5_memberAt 14 = .ok (.aaload, 1) := by decide +kernel
theorem dX5_memberAt_15 : decode cX5_memberAt 15 = .ok (.astore_n 2, 1) := by decide +kernel
theorem dX5_memberAt_16 : decode cX5_memberAt 16 = .ok (.aload_n 2, 1) := by decide +kernel
theorem dX5_memberAt_17 : decode cX5_memberAt 17 = .ok (.ifnull 14, 3) := by decide +kernel
theorem dX5_memberAt_20 : decode cX5_memberAt 20 = .ok (.aload_n 2, 1) := by decide +kernel
theorem dX5_memberAt_21 : decode cX5_memberAt 21 = .ok (.getfield 51, 3) := by decide +kernel
theorem dX5_memberAt_24 : decode cX5_memberAt 24 = .ok (.ifCond .eq 7, 3) := by decide +kernel
theorem dX5_memberAt_27 : decode cX5_memberAt 27 = .ok (.aload_n 2, 1) := by decide +kernel
theorem dX5_memberAt_28 : decode cX5_memberAt 28 = .ok (.goto 4, 3) := by decide +kernel
theorem dX5_memberAt_31 : decode cX5_memberAt 31 = .ok (.aconst_null, 1) := by decide +kernel
theorem dX5_memberAt_32 : decode cX5_memberAt 32 = .ok (.areturn, 1) := by decide +kernel
theorem dX5_seat_0 : decode cX5_seat 0 = .ok (.aload_n 0, 1) := by decide +kernel
theorem dX5_seat_1 : decode cX5_seat 1 = .ok (.getfield 11, 3) := by decide +kernel
theorem dX5_seat_4 : decode cX5_seat 4 = .ok (.iload_n 1, 1) := by decide +kernel
theorem dX5_seat_5 : decode cX5_seat 5 = .ok (.aaload, 1) := by decide +kernel
theorem dX5_seat_6 : decode cX5_seat 6 = .ok (.astore_n 2, 1) := by decide +kernel
theorem dX5_seat_7 : decode cX5_seat 7 = .ok (.aload_n 2, 1) := by decide +kernel
theorem dX5_seat_8 : decode cX5_seat 8 = .ok (.ifnonnull 19, 3) := by decide +kernel
theorem dX5_seat_11 : decode cX5_seat 11 = .ok (.new 9, 3) := by decide +kernel
theorem dX5_seat_14 : decode cX5_seat 14 = .ok (.dup, 1) := by decide +kernel
theorem dX5_seat_15 : decode cX5_seat 15 = .ok (.iload_n 1, 1) := by decide +kernel
theorem dX5_seat_16 : decode cX5_seat 16 = .ok (.invokespecial 73, 3) := by decide +kernel
theorem dX5_seat_19 : decode cX5_seat 19 = .ok (.astore_n 2, 1) := by decide +kernel
theorem dX5_seat_20 : decode cX5_seat 20 = .ok (.aload_n 0, 1) := by decide +kernel
theorem dX5_seat_21 : decode cX5_seat 21 = .ok (.getfield 11, 3) := by decide +kernel
theorem dX5_seat_24 : decode cX5_seat 24 = .ok (.iload_n 1, 1) := by decide +kernel
theorem dX5_seat_25 : decode cX5_seat 25 = .ok (.aload_n 2, 1) := by decide +kernel
theorem dX5_seat_26 : decode cX5_seat 26 = .ok (.aastore, 1) := by decide +kernel
theorem dX5_seat_27 : decode cX5_seat 27 = .ok (.aload_n 2, 1) := by decide +kernel
theorem dX5_seat_28 : decode cX5_seat 28 = .ok (.areturn, 1) := by decide +kernel
theorem dX5_upAt_0 : decode cX5_upAt 0 = .ok (.aload_n 0, 1) := by decide +kernel
theorem dX5_upAt_1 : decode cX5_upAt 1 = .ok (.iload_n 1, 1) := by decide +kernel
theorem dX5_upAt_2 : decode cX5_upAt 2 = .ok (.invokevirtual 76, 3) := by decide +kernel
theorem dX5_upAt_5 : decode cX5_upAt 5 = .ok (.astore_n 2, 1) := by decide +kernel
theorem dX5_upAt_6 : decode cX5_upAt 6 = .ok (.aload_n 2, 1) := by decide +kernel
theorem dX5_upAt_7 : decode cX5_upAt 7 = .ok (.ifnull 14, 3) := by decide +kernel
theorem dX5_upAt_10 : decode cX5_upAt 10 = .ok (.aload_n 2, 1) := by decide +kernel
theorem dX5_upAt_11 : decode cX5_upAt 11 = .ok (.getfield 80, 3) := by decide +kernel
theorem dX5_upAt_14 : decode cX5_upAt 14 = .ok (.ifCond .ne 7, 3) := by decide +kernel
theorem dX5_upAt_17 : decode cX5_upAt 17 = .ok (.aload_n 2, 1) := by decide +kernel
theorem dX5_upAt_18 : decode cX5_upAt 18 = .ok (.goto 4, 3) := by decide +kernel
theorem dX5_upAt_21 : decode cX5_upAt 21 = .ok (.aconst_null, 1) := by decide +kernel
theorem dX5_upAt_22 : decode cX5_upAt 22 = .ok (.areturn, 1) := by decide +kernel
theorem dX5_whyNoMember_0 : decode cX5_whyNoMember 0 = .ok (.iload_n 1, 1) := by decide +kernel
theorem dX5_whyNoMember_1 : decode cX5_whyNoMember 1 = .ok (.invokestatic 69, 3) := by decide +kernel
theorem dX5_whyNoMember_4 : decode cX5_whyNoMember 4 = .ok (.ifCond .ne 6, 3) := by decide +kernel
theorem dX5_whyNoMember_7 : decode cX5_whyNoMember 7 = .ok (.bipush (-3), 2) := by decide +kernel
theorem dX5_whyNoMember_9 : decode cX5_whyNoMember 9 = .ok (.ireturn, 1) := by decide +kernel
theorem dX5_whyNoMember_10 : decode cX5_whyNoMember 10 = .ok (.aload_n 0, 1) := by decide +kernel
theorem dX5_whyNoMember_11 : decode cX5_whyNoMember 11 = .ok (.iload_n 1, 1) := by decide +kernel
theorem dX5_whyNoMember_12 : decode cX5_whyNoMember 12 = .ok (.invokevirtual 76, 3) := by decide +kernel
theorem dX5_whyNoMember_15 : decode cX5_whyNoMember 15 = .ok (.ifnonnull 8, 3) := by decide +kernel
theorem dX5_whyNoMember_18 : decode cX5_whyNoMember 18 = .ok (.bipush (-2), 2) := by decide +kernel
theorem dX5_whyNoMember_20 : decode cX5_whyNoMember 20 = .ok (.goto 4, 3) := by decide +kernel
theorem dX5_whyNoMember_23 : decode cX5_whyNoMember 23 = .ok (.iconst 0, 1) := by decide +kernel
theorem dX5_whyNoMember_24 : decode cX5_whyNoMember 24 = .ok (.ireturn, 1) := by decide +kernel
theorem dX5_whyNoNews_0 : decode cX5_whyNoNews 0 = .ok (.iload_n 1, 1) := by decide +kernel
theorem dX5_whyNoNews_1 : decode cX5_whyNoNews 1 = .ok (.invokestatic 69, 3) := by decide +kernel
theorem dX5_whyNoNews_4 : decode cX5_whyNoNews 4 = .ok (.ifCond .eq 10, 3) := by decide +kernel
theorem dX5_whyNoNews_7 : decode cX5_whyNoNews 7 = .ok (.iload_n 2, 1) := by decide +kernel
theorem dX5_whyNoNews_8 : decode cX5_whyNoNews 8 = .ok (.invokestatic 69, 3) := by decide +kernel
theorem dX5_whyNoNews_11 : decode cX5_whyNoNews 11 = .ok (.ifCond .ne 6, 3) := by decide +kernel
theorem dX5_whyNoNews_14 : decode cX5_whyNoNews 14 = .ok (.bipush (-3), 2) := by decide +kernel
theorem dX5_whyNoNews_16 : decode cX5_whyNoNews 16 = .ok (.ireturn, 1) := by decide +kernel
theorem dX5_whyNoNews_17 : decode cX5_whyNoNews 17 = .ok (.aload_n 0, 1) := by decide +kernel
theorem dX5_whyNoNews_18 : decode cX5_whyNoNews 18 = .ok (.iload_n 1, 1) := by decide +kernel
theorem dX5_whyNoNews_19 : decode cX5_whyNoNews 19 = .ok (.invokevirtual 76, 3) := by decide +kernel
theorem dX5_whyNoNews_22 : decode cX5_whyNoNews 22 = .ok (.astore_n 3, 1) := by decide +kernel
theorem dX5_whyNoNews_23 : decode cX5_whyNoNews 23 = .ok (.aload_n 3, 1) := by decide +kernel
theorem dX5_whyNoNews_24 : decode cX5_whyNoNews 24 = .ok (.ifnull 11, 3) := by decide +kernel
theorem dX5_whyNoNews_27 : decode cX5_whyNoNews 27 = .ok (.aload_n 3, 1) := by decide +kernel
theorem dX5_whyNoNews_28 : decode cX5_whyNoNews 28 = .ok (.iload_n 2, 1) := by decide +kernel
theorem dX5_whyNoNews_29 : decode cX5_whyNoNews 29 = .ok (.invokevirtual 83, 3) := by decide +kernel
theorem dX5_whyNoNews_32 : decode cX5_whyNoNews 32 = .ok (.ifCond .ne 8, 3) := by decide +kernel
theorem dX5_whyNoNews_35 : decode cX5_whyNoNews 35 = .ok (.bipush (-2), 2) := by decide +kernel
theorem dX5_whyNoNews_37 : decode cX5_whyNoNews 37 = .ok (.goto 4, 3) := by decide +kernel
theorem dX5_whyNoNews_40 : decode cX5_whyNoNews 40 = .ok (.iconst 0, 1) := by decide +kernel
theorem dX5_whyNoNews_41 : decode cX5_whyNoNews 41 = .ok (.ireturn, 1) := by decide +kernel
theorem dX5_perform_0 : decode cX5_perform 0 = .ok (.aload_n 0, 1) := by decide +kernel
theorem dX5_perform_1 : decode cX5_perform 1 = .ok (.iload_n 1, 1) := by decide +kernel
theorem dX5_perform_2 : decode cX5_perform 2 = .ok (.iload_n 2, 1) := by decide +kernel
theorem dX5_perform_3 : decode cX5_perform 3 = .ok (.iload_n 3, 1) := by decide +kernel
theorem dX5_perform_4 : decode cX5_perform 4 = .ok (.invokevirtual 86, 3) := by decide +kernel
theorem dX5_perform_7 : decode cX5_perform 7 = .ok (.istore 6, 2) := by decide +kernel
theorem dX5_perform_9 : decode cX5_perform 9 = .ok (.iload 6, 2) := by decide +kernel
theorem dX5_perform_11 : decode cX5_perform 11 = .ok (.ifCond .eq 6, 3) := by decide +kernel
theorem dX5_perform_14 : decode cX5_perform 14 = .ok (.iload 6, 2) := by decide +kernel
theorem dX5_perform_16 : decode cX5_perform 16 = .ok (.ireturn, 1) := by decide +kernel
theorem dX5_perform_17 : decode cX5_perform 17 = .ok (.aload_n 0, 1) := by decide +kernel
theorem dX5_perform_18 : decode cX5_perform 18 = .ok (.iload_n 1, 1) := by decide +kernel
theorem dX5_perform_19 : decode cX5_perform 19 = .ok (.iload_n 2, 1) := by decide +kernel
theorem dX5_perform_20 : decode cX5_perform 20 = .ok (.iload_n 3, 1) := by decide +kernel
theorem dX5_perform_21 : decode cX5_perform 21 = .ok (.lload 4, 2) := by decide +kernel
theorem dX5_perform_23 : decode cX5_perform 23 = .ok (.invokevirtual 90, 3) := by decide +kernel
theorem dX5_perform_26 : decode cX5_perform 26 = .ok (.aload_n 0, 1) := by decide +kernel
theorem dX5_perform_27 : decode cX5_perform 27 = .ok (.getfield 28, 3) := by decide +kernel
theorem dX5_perform_30 : decode cX5_perform 30 = .ok (.invokevirtual 94, 3) := by decide +kernel
theorem dX5_perform_33 : decode cX5_perform 33 = .ok (.iload_n 1, 1) := by decide +kernel
theorem dX5_perform_34 : decode cX5_perform 34 = .ok (.tableswitch 113 1 11 #[58, 113, 113, 113, 113, 113, 66, 72, 88, 97, 105], 58) := by decide +kernel
theorem dX5_perform_92 : decode cX5_perform 92 = .ok (.aload_n 0, 1) := by decide +kernel
theorem dX5_perform_93 : decode cX5_perform 93 = .ok (.iload_n 2, 1) := by decide +kernel
theorem dX5_perform_94 : decode cX5_perform 94 = .ok (.lload 4, 2) := by decide +kernel
theorem dX5_perform_96 : decode cX5_perform 96 = .ok (.invokevirtual 97, 3) := by decide +kernel
theorem dX5_perform_99 : decode cX5_perform 99 = .ok (.ireturn, 1) := by decide +kernel
theorem dX5_perform_100 : decode cX5_perform 100 = .ok (.aload_n 0, 1) := by decide +kernel
theorem dX5_perform_101 : decode cX5_perform 101 = .ok (.iload_n 2, 1) := by decide +kernel
theorem dX5_perform_102 : decode cX5_perform 102 = .ok (.invokevirtual 101, 3) := by decide +kernel
theorem dX5_perform_105 : decode cX5_perform 105 = .ok (.ireturn, 1) := by decide +kernel
theorem dX5_perform_106 : decode cX5_perform 106 = .ok (.aload_n 0, 1) := by decide +kernel
theorem dX5_perform_107 : decode cX5_perform 107 = .ok (.getfield 28, 3) := by decide +kernel
theorem dX5_perform_110 : decode cX5_perform 110 = .ok (.iload_n 2, 1) := by decide +kernel
theorem dX5_perform_111 : decode cX5_perform 111 = .ok (.invokevirtual 105, 3) := by decide +kernel
theorem dX5_perform_114 : decode cX5_perform 114 = .ok (.aload_n 0, 1) := by decide +kernel
theorem dX5_perform_115 : decode cX5_perform 115 = .ok (.getfield 28, 3) := by decide +kernel
theorem dX5_perform_118 : decode cX5_perform 118 = .ok (.invokevirtual 108, 3) := by decide +kernel
theorem dX5_perform_121 : decode cX5_perform 121 = .ok (.ireturn, 1) := by decide +kernel
theorem dX5_perform_122 : decode cX5_perform 122 = .ok (.aload_n 0, 1) := by decide +kernel
theorem dX5_perform_123 : decode cX5_perform 123 = .ok (.getfield 28, 3) := by decide +kernel
theorem dX5_perform_126 : decode cX5_perform 126 = .ok (.iload_n 2, 1) := by decide +kernel
theorem dX5_perform_127 : decode cX5_perform 127 = .ok (.invokevirtual 112, 3) := by decide +kernel
theorem dX5_perform_130 : decode cX5_perform 130 = .ok (.ireturn, 1) := by decide +kernel
theorem dX5_perform_131 : decode cX5_perform 131 = .ok (.aload_n 0, 1) := by decide +kernel
theorem dX5_perform_132 : decode cX5_perform 132 = .ok (.iload_n 2, 1) := by decide +kernel
theorem dX5_perform_133 : decode cX5_perform 133 = .ok (.iload_n 3, 1) := by decide +kernel
theorem dX5_perform_134 : decode cX5_perform 134 = .ok (.iconst 1, 1) := by decide +kernel
theorem dX5_perform_135 : decode cX5_perform 135 = .ok (.invokevirtual 115, 3) := by decide +kernel
theorem dX5_perform_138 : decode cX5_perform 138 = .ok (.ireturn, 1) := by decide +kernel
theorem dX5_perform_139 : decode cX5_perform 139 = .ok (.aload_n 0, 1) := by decide +kernel
theorem dX5_perform_140 : decode cX5_perform 140 = .ok (.iload_n 2, 1) := by decide +kernel
theorem dX5_perform_141 : decode cX5_perform 141 = .ok (.iload_n 3, 1) := by decide +kernel
theorem dX5_perform_142 : decode cX5_perform 142 = .ok (.iconst 0, 1) := by decide +kernel
theorem dX5_perform_143 : decode cX5_perform 143 = .ok (.invokevirtual 115, 3) := by decide +kernel
theorem dX5_perform_146 : decode cX5_perform 146 = .ok (.ireturn, 1) := by decide +kernel
theorem dX5_perform_147 : decode cX5_perform 147 = .ok (.aload_n 0, 1) := by decide +kernel
theorem dX5_perform_148 : decode cX5_perform 148 = .ok (.iload_n 2, 1) := by decide +kernel
theorem dX5_perform_149 : decode cX5_perform 149 = .ok (.invokevirtual 76, 3) := by decide +kernel
theorem dX5_perform_152 : decode cX5_perform 152 = .ok (.astore 7, 2) := by decide +kernel
theorem dX5_perform_154 : decode cX5_perform 154 = .ok (.aload 7, 2) := by decide +kernel
theorem dX5_perform_156 : decode cX5_perform 156 = .ok (.ifnonnull 6, 3) := by decide +kernel
theorem dX5_perform_159 : decode cX5_perform 159 = .ok (.bipush (-2), 2) := by decide +kernel
theorem dX5_perform_161 : decode cX5_perform 161 = .ok (.ireturn, 1) := by decide +kernel
theorem dX5_perform_162 : decode cX5_perform 162 = .ok (.iload_n 1, 1) := by decide +kernel
theorem dX5_perform_163 : decode cX5_perform 163 = .ok (.tableswitch 71 2 6 #[33, 43, 50, 57, 64], 33) := by decide +kernel
theorem dX5_perform_196 : decode cX5_perform 196 = .ok (.aload_n 0, 1) := by decide +kernel
theorem dX5_perform_197 : decode cX5_perform 197 = .ok (.aload 7, 2) := by decide +kernel
theorem dX5_perform_199 : decode cX5_perform 199 = .ok (.iconst 5, 1) := by decide +kernel
theorem dX5_perform_200 : decode cX5_perform 200 = .ok (.iload_n 3, 1) := by decide +kernel
theorem dX5_perform_201 : decode cX5_perform 201 = .ok (.iconst (-1), 1) := by decide +kernel
theorem dX5_perform_202 : decode cX5_perform 202 = .ok (.invokevirtual 119, 3) := by decide +kernel
theorem dX5_perform_205 : decode cX5_perform 205 = .ok (.ireturn, 1) := by decide +kernel
theorem dX5_perform_206 : decode cX5_perform 206 = .ok (.aload_n 0, 1) := by decide +kernel
theorem dX5_perform_207 : decode cX5_perform 207 = .ok (.aload 7, 2) := by decide +kernel
theorem dX5_perform_209 : decode cX5_perform 209 = .ok (.invokevirtual 123, 3) := by decide +kernel
theorem dX5_perform_212 : decode cX5_perform 212 = .ok (.ireturn, 1) := by decide +kernel
theorem dX5_perform_213 : decode cX5_perform 213 = .ok (.aload_n 0, 1) := by decide +kernel
theorem dX5_perform_214 : decode cX5_perform 214 = .ok (.aload 7, 2) := by decide +kernel
theorem dX5_perform_216 : decode cX5_perform 216 = .ok (.invokevirtual 127, 3) := by decide +kernel
theorem dX5_perform_219 : decode cX5_perform 219 = .ok (.ireturn, 1) := by decide +kernel
theorem dX5_perform_220 : decode cX5_perform 220 = .ok (.aload_n 0, 1) := by decide +kernel
theorem dX5_perform_221 : decode cX5_perform 221 = .ok (.aload 7, 2) := by decide +kernel
theorem dX5_perform_223 : decode cX5_perform 223 = .ok (.invokevirtual 130, 3) := by decide +kernel
theorem dX5_perform_226 : decode cX5_perform 226 = .ok (.ireturn, 1) := by decide +kernel
theorem dX5_perform_227 : decode cX5_perform 227 = .ok (.aload_n 0, 1) := by decide +kernel
theorem dX5_perform_228 : decode cX5_perform 228 = .ok (.aload 7, 2) := by decide +kernel
theorem dX5_perform_230 : decode cX5_perform 230 = .ok (.invokevirtual 133, 3) := by decide +kernel
theorem dX5_perform_233 : decode cX5_perform 233 = .ok (.ireturn, 1) := by decide +kernel
theorem dX5_perform_234 : decode cX5_perform 234 = .ok (.bipush (-9), 2) := by decide +kernel
theorem dX5_perform_236 : decode cX5_perform 236 = .ok (.ireturn, 1) := by decide +kernel
theorem dX5_keepAct_0 : decode cX5_keepAct 0 = .ok (.aload_n 0, 1) := by decide +kernel
theorem dX5_keepAct_1 : decode cX5_keepAct 1 = .ok (.getfield 37, 3) := by decide +kernel
theorem dX5_keepAct_4 : decode cX5_keepAct 4 = .ok (.aload_n 0, 1) := by decide +kernel
theorem dX5_keepAct_5 : decode cX5_keepAct 5 = .ok (.getfield 37, 3) := by decide +kernel
theorem dX5_keepAct_8 : decode cX5_keepAct 8 = .ok (.getfield 63, 3) := by decide +kernel
theorem dX5_keepAct_11 : decode cX5_keepAct 11 = .ok (.iconst 1, 1) := by decide +kernel
theorem dX5_keepAct_12 : decode cX5_keepAct 12 = .ok (.iadd, 1) := by decide +kernel
theorem dX5_keepAct_13 : decode cX5_keepAct 13 = .ok (.invokevirtual 136, 3) := by decide +kernel
theorem dX5_keepAct_16 : decode cX5_keepAct 16 = .ok (.aload_n 0, 1) := by decide +kernel
theorem dX5_keepAct_17 : decode cX5_keepAct 17 = .ok (.getfield 37, 3) := by decide +kernel
theorem dX5_keepAct_20 : decode cX5_keepAct 20 = .ok (.invokevirtual 139, 3) := by decide +kernel
theorem dX5_keepAct_23 : decode cX5_keepAct 23 = .ok (.istore 6, 2) := by decide +kernel
theorem dX5_keepAct_25 : decode cX5_keepAct 25 = .ok (.aload_n 0, 1) := by decide +kernel
theorem dX5_keepAct_26 : decode cX5_keepAct 26 = .ok (.getfield 37, 3) := by decide +kernel
theorem dX5_keepAct_29 : decode cX5_keepAct 29 = .ok (.iload 6, 2) := by decide +kernel
theorem dX5_keepAct_31 : decode cX5_keepAct 31 = .ok (.iconst 0, 1) := by decide +kernel
theorem dX5_keepAct_32 : decode cX5_keepAct 32 = .ok (.iload_n 1, 1) := by decide +kernel
theorem dX5_keepAct_33 : decode cX5_keepAct 33 = .ok (.invokevirtual 142, 3) := by decide +kernel
theorem dX5_keepAct_36 : decode cX5_keepAct 36 = .ok (.aload_n 0, 1) := by decide +kernel
theorem dX5_keepAct_37 : decode cX5_keepAct 37 = .ok (.getfield 37, 3) := by decide +kernel
theorem dX5_keepAct_40 : decode cX5_keepAct 40 = .ok (.iload 6, 2) := by decide +kernel
theorem dX5_keepAct_42 : decode cX5_keepAct 42 = .ok (.iconst 1, 1) := by decide +kernel
theorem dX5_keepAct_43 : decode cX5_keepAct 43 = .ok (.iload_n 2, 1) := by decide +kernel
theorem dX5_keepAct_44 : decode cX5_keepAct 44 = .ok (.invokevirtual 142, 3) := by decide +kernel
theorem dX5_keepAct_47 : decode cX5_keepAct 47 = .ok (.aload_n 0, 1) := by decide +kernel
theorem dX5_keepAct_48 : decode cX5_keepAct 48 = .ok (.getfield 37, 3) := by decide +kernel
theorem dX5_keepAct_51 : decode cX5_keepAct 51 = .ok (.iload 6, 2) := by decide +kernel
theorem dX5_keepAct_53 : decode cX5_keepAct 53 = .ok (.iconst 2, 1) := by decide +kernel
theorem dX5_keepAct_54 : decode cX5_keepAct 54 = .ok (.iload_n 3, 1) := by decide +kernel
theorem dX5_keepAct_55 : decode cX5_keepAct 55 = .ok (.invokevirtual 142, 3) := by decide +kernel
theorem dX5_keepAct_58 : decode cX5_keepAct 58 = .ok (.aload_n 0, 1) := by decide +kernel
theorem dX5_keepAct_59 : decode cX5_keepAct 59 = .ok (.getfield 37, 3) := by decide +kernel
theorem dX5_keepAct_62 : decode cX5_keepAct 62 = .ok (.iload 6, 2) := by decide +kernel
theorem dX5_keepAct_64 : decode cX5_keepAct 64 = .ok (.iconst 3, 1) := by decide +kernel
theorem dX5_keepAct_65 : decode cX5_keepAct 65 = .ok (.lload 4, 2) := by decide +kernel
theorem dX5_keepAct_67 : decode cX5_keepAct 67 = .ok (.bipush 32, 2) := by decide +kernel
theorem dX5_keepAct_69 : decode cX5_keepAct 69 = .ok (.lushr, 1) := by decide +kernel
theorem dX5_keepAct_70 : decode cX5_keepAct 70 = .ok (.l2i, 1) := by decide +kernel
theorem dX5_keepAct_71 : decode cX5_keepAct 71 = .ok (.invokevirtual 142, 3) := by decide +kernel
theorem dX5_keepAct_74 : decode cX5_keepAct 74 = .ok (.aload_n 0, 1) := by decide +kernel
theorem dX5_keepAct_75 : decode cX5_keepAct 75 = .ok (.getfield 37, 3) := by decide +kernel
theorem dX5_keepAct_78 : decode cX5_keepAct 78 = .ok (.iload 6, 2) := by decide +kernel
theorem dX5_keepAct_80 : decode cX5_keepAct 80 = .ok (.iconst 4, 1) := by decide +kernel
theorem dX5_keepAct_81 : decode cX5_keepAct 81 = .ok (.lload 4, 2) := by decide +kernel
theorem dX5_keepAct_83 : decode cX5_keepAct 83 = .ok (.l2i, 1) := by decide +kernel
theorem dX5_keepAct_84 : decode cX5_keepAct 84 = .ok (.invokevirtual 142, 3) := by decide +kernel
theorem dX5_keepAct_87 : decode cX5_keepAct 87 = .ok (.return_, 1) := by decide +kernel
theorem dX5_whyRefused_0 : decode cX5_whyRefused 0 = .ok (.aload_n 0, 1) := by decide +kernel
theorem dX5_whyRefused_1 : decode cX5_whyRefused 1 = .ok (.iload_n 1, 1) := by decide +kernel
theorem dX5_whyRefused_2 : decode cX5_whyRefused 2 = .ok (.iload_n 2, 1) := by decide +kernel
theorem dX5_whyRefused_3 : decode cX5_whyRefused 3 = .ok (.iload_n 3, 1) := by decide +kernel
theorem dX5_whyRefused_4 : decode cX5_whyRefused 4 = .ok (.invokevirtual 146, 3) := by decide +kernel
theorem dX5_whyRefused_7 : decode cX5_whyRefused 7 = .ok (.ifCond .eq 6, 3) := by decide +kernel
theorem dX5_whyRefused_10 : decode cX5_whyRefused 10 = .ok (.bipush (-3), 2) := by decide +kernel
theorem dX5_whyRefused_12 : decode cX5_whyRefused 12 = .ok (.ireturn, 1) := by decide +kernel
theorem dX5_whyRefused_13 : decode cX5_whyRefused 13 = .ok (.aload_n 0, 1) := by decide +kernel
theorem dX5_whyRefused_14 : decode cX5_whyRefused 14 = .ok (.iload_n 1, 1) := by decide +kernel
theorem dX5_whyRefused_15 : decode cX5_whyRefused 15 = .ok (.iload_n 2, 1) := by decide +kernel
theorem dX5_whyRefused_16 : decode cX5_whyRefused 16 = .ok (.iload_n 3, 1) := by decide +kernel
theorem dX5_whyRefused_17 : decode cX5_whyRefused 17 = .ok (.invokevirtual 150, 3) := by decide +kernel
theorem dX5_whyRefused_20 : decode cX5_whyRefused 20 = .ok (.ifCond .eq 6, 3) := by decide +kernel
theorem dX5_whyRefused_23 : decode cX5_whyRefused 23 = .ok (.bipush (-2), 2) := by decide +kernel
theorem dX5_whyRefused_25 : decode cX5_whyRefused 25 = .ok (.ireturn, 1) := by decide +kernel
theorem dX5_whyRefused_26 : decode cX5_whyRefused 26 = .ok (.aload_n 0, 1) := by decide +kernel
theorem dX5_whyRefused_27 : decode cX5_whyRefused 27 = .ok (.iload_n 1, 1) := by decide +kernel
theorem dX5_whyRefused_28 : decode cX5_whyRefused 28 = .ok (.iload_n 2, 1) := by decide +kernel
theorem dX5_whyRefused_29 : decode cX5_whyRefused 29 = .ok (.invokevirtual 153, 3) := by decide +kernel
theorem dX5_whyRefused_32 : decode cX5_whyRefused 32 = .ok (.ifCond .eq 6, 3) := by decide +kernel
theorem dX5_whyRefused_35 : decode cX5_whyRefused 35 = .ok (.bipush (-8), 2) := by decide +kernel
theorem dX5_whyRefused_37 : decode cX5_whyRefused 37 = .ok (.ireturn, 1) := by decide +kernel
theorem dX5_whyRefused_38 : decode cX5_whyRefused 38 = .ok (.aload_n 0, 1) := by decide +kernel
theorem dX5_whyRefused_39 : decode cX5_whyRefused 39 = .ok (.iload_n 1, 1) := by decide +kernel
theorem dX5_whyRefused_40 : decode cX5_whyRefused 40 = .ok (.iload_n 2, 1) := by decide +kernel
theorem dX5_whyRefused_41 : decode cX5_whyRefused 41 = .ok (.iload_n 3, 1) := by decide +kernel
theorem dX5_whyRefused_42 : decode cX5_whyRefused 42 = .ok (.invokevirtual 157, 3) := by decide +kernel
theorem dX5_whyRefused_45 : decode cX5_whyRefused 45 = .ok (.ifCond .eq 6, 3) := by decide +kernel
theorem dX5_whyRefused_48 : decode cX5_whyRefused 48 = .ok (.bipush (-9), 2) := by decide +kernel
theorem dX5_whyRefused_50 : decode cX5_whyRefused 50 = .ok (.ireturn, 1) := by decide +kernel
theorem dX5_whyRefused_51 : decode cX5_whyRefused 51 = .ok (.aload_n 0, 1) := by decide +kernel
theorem dX5_whyRefused_52 : decode cX5_whyRefused 52 = .ok (.getfield 28, 3) := by decide +kernel
theorem dX5_whyRefused_55 : decode cX5_whyRefused 55 = .ok (.invokevirtual 160, 3) := by decide +kernel
theorem dX5_whyRefused_58 : decode cX5_whyRefused 58 = .ok (.ifCond .eq 20, 3) := by decide +kernel
theorem dX5_whyRefused_61 : decode cX5_whyRefused 61 = .ok (.aload_n 0, 1) := by decide +kernel
theorem dX5_whyRefused_62 : decode cX5_whyRefused 62 = .ok (.getfield 37, 3) := by decide +kernel
theorem dX5_whyRefused_65 : decode cX5_whyRefused 65 = .ok (.getfield 63, 3) := by decide +kernel
theorem dX5_whyRefused_68 : decode cX5_whyRefused 68 = .ok (.sipush 4000, 3) := by decide +kernel
theorem dX5_whyRefused_71 : decode cX5_whyRefused 71 = .ok (.if_icmp .ge 7, 3) := by decide +kernel
theorem dX5_whyRefused_74 : decode cX5_whyRefused 74 = .ok (.iconst 1, 1) := by decide +kernel
theorem dX5_whyRefused_75 : decode cX5_whyRefused 75 = .ok (.goto 4, 3) := by decide +kernel
theorem dX5_whyRefused_78 : decode cX5_whyRefused 78 = .ok (.iconst 0, 1) := by decide +kernel
theorem dX5_whyRefused_79 : decode cX5_whyRefused 79 = .ok (.istore 4, 2) := by decide +kernel
theorem dX5_whyRefused_81 : decode cX5_whyRefused 81 = .ok (.iload 4, 2) := by decide +kernel
theorem dX5_whyRefused_83 : decode cX5_whyRefused 83 = .ok (.ifCond .eq 7, 3) := by decide +kernel
theorem dX5_whyRefused_86 : decode cX5_whyRefused 86 = .ok (.iconst 0, 1) := by decide +kernel
theorem dX5_whyRefused_87 : decode cX5_whyRefused 87 = .ok (.goto 5, 3) := by decide +kernel
theorem dX5_whyRefused_90 : decode cX5_whyRefused 90 = .ok (.bipush (-10), 2) := by decide +kernel
theorem dX5_whyRefused_92 : decode cX5_whyRefused 92 = .ok (.ireturn, 1) := by decide +kernel
theorem dX5_isBeyond_0 : decode cX5_isBeyond 0 = .ok (.iload_n 1, 1) := by decide +kernel
theorem dX5_isBeyond_1 : decode cX5_isBeyond 1 = .ok (.tableswitch 92 2 11 #[72, 92, 92, 92, 92, 55, 55, 55, 72, 72], 55) := by decide +kernel
theorem dX5_isBeyond_56 : decode cX5_isBeyond 56 = .ok (.aload_n 0, 1) := by decide +kernel
theorem dX5_isBeyond_57 : decode cX5_isBeyond 57 = .ok (.getfield 28, 3) := by decide +kernel
theorem dX5_isBeyond_60 : decode cX5_isBeyond 60 = .ok (.iload_n 2, 1) := by decide +kernel
theorem dX5_isBeyond_61 : decode cX5_isBeyond 61 = .ok (.invokevirtual 164, 3) := by decide +kernel
theorem dX5_isBeyond_64 : decode cX5_isBeyond 64 = .ok (.ifCond .ne 7, 3) := by decide +kernel
theorem dX5_isBeyond_67 : decode cX5_isBeyond 67 = .ok (.iconst 1, 1) := by decide +kernel
theorem dX5_isBeyond_68 : decode cX5_isBeyond 68 = .ok (.goto 4, 3) := by decide +kernel
theorem dX5_isBeyond_71 : decode cX5_isBeyond 71 = .ok (.iconst 0, 1) := by decide +kernel
theorem dX5_isBeyond_72 : decode cX5_isBeyond 72 = .ok (.ireturn, 1) := by decide +kernel
theorem dX5_isBeyond_73 : decode cX5_isBeyond 73 = .ok (.iload_n 2, 1) := by decide +kernel
theorem dX5_isBeyond_74 : decode cX5_isBeyond 74 = .ok (.invokestatic 69, 3) := by decide +kernel
theorem dX5_isBeyond_77 : decode cX5_isBeyond 77 = .ok (.ifCond .eq 10, 3) := by decide +kernel
theorem dX5_isBeyond_80 : decode cX5_isBeyond 80 = .ok (.iload_n 3, 1) := by decide +kernel
theorem dX5_isBeyond_81 : decode cX5_isBeyond 81 = .ok (.invokestatic 69, 3) := by decide +kernel
theorem dX5_isBeyond_84 : decode cX5_isBeyond 84 = .ok (.ifCond .ne 7, 3) := by decide +kernel
theorem dX5_isBeyond_87 : decode cX5_isBeyond 87 = .ok (.iconst 1, 1) := by decide +kernel
theorem dX5_isBeyond_88 : decode cX5_isBeyond 88 = .ok (.goto 4, 3) := by decide +kernel
theorem dX5_isBeyond_91 : decode cX5_isBeyond 91 = .ok (.iconst 0, 1) := by decide +kernel
theorem dX5_isBeyond_92 : decode cX5_isBeyond 92 = .ok (.ireturn, 1) := by decide +kernel
theorem dX5_isBeyond_93 : decode cX5_isBeyond 93 = .ok (.iload_n 2, 1) := by decide +kernel
theorem dX5_isBeyond_94 : decode cX5_isBeyond 94 = .ok (.invokestatic 69, 3) := by decide +kernel
theorem dX5_isBeyond_97 : decode cX5_isBeyond 97 = .ok (.ifCond .ne 7, 3) := by decide +kernel
theorem dX5_isBeyond_100 : decode cX5_isBeyond 100 = .ok (.iconst 1, 1) := by decide +kernel
theorem dX5_isBeyond_101 : decode cX5_isBeyond 101 = .ok (.goto 4, 3) := by decide +kernel
theorem dX5_isBeyond_104 : decode cX5_isBeyond 104 = .ok (.iconst 0, 1) := by decide +kernel
theorem dX5_isBeyond_105 : decode cX5_isBeyond 105 = .ok (.ireturn, 1) := by decide +kernel
theorem dX5_isMissing_0 : decode cX5_isMissing 0 = .ok (.iload_n 1, 1) := by decide +kernel
theorem dX5_isMissing_1 : decode cX5_isMissing 1 = .ok (.tableswitch 101 1 11 #[77, 79, 101, 101, 101, 101, 59, 59, 59, 77, 77], 59) := by decide +kernel
theorem dX5_isMissing_60 : decode cX5_isMissing 60 = .ok (.aload_n 0, 1) := by decide +kernel
theorem dX5_isMissing_61 : decode cX5_isMissing 61 = .ok (.getfield 28, 3) := by decide +kernel
theorem dX5_isMissing_64 : decode cX5_isMissing 64 = .ok (.iload_n 2, 1) := by decide +kernel
theorem dX5_isMissing_65 : decode cX5_isMissing 65 = .ok (.iconst 5, 1) := by decide +kernel
theorem dX5_isMissing_66 : decode cX5_isMissing 66 = .ok (.invokevirtual 167, 3) := by decide +kernel
theorem dX5_isMissing_69 : decode cX5_isMissing 69 = .ok (.ifCond .eq 7, 3) := by decide +kernel
theorem dX5_isMissing_72 : decode cX5_isMissing 72 = .ok (.iconst 1, 1) := by decide +kernel
theorem dX5_isMissing_73 : decode cX5_isMissing 73 = .ok (.goto 4, 3) := by decide +kernel
theorem dX5_isMissing_76 : decode cX5_isMissing 76 = .ok (.iconst 0, 1) := by decide +kernel
theorem dX5_isMissing_77 : decode cX5_isMissing 77 = .ok (.ireturn, 1) := by decide +kernel
theorem dX5_isMissing_78 : decode cX5_isMissing 78 = .ok (.iconst 0, 1) := by decide +kernel
theorem dX5_isMissing_79 : decode cX5_isMissing 79 = .ok (.ireturn, 1) := by decide +kernel
theorem dX5_isMissing_80 : decode cX5_isMissing 80 = .ok (.aload_n 0, 1) := by decide +kernel
theorem dX5_isMissing_81 : decode cX5_isMissing 81 = .ok (.iload_n 2, 1) := by decide +kernel
theorem dX5_isMissing_82 : decode cX5_isMissing 82 = .ok (.invokevirtual 76, 3) := by decide +kernel
theorem dX5_isMissing_85 : decode cX5_isMissing 85 = .ok (.ifnull 11, 3) := by decide +kernel
theorem dX5_isMissing_88 : decode cX5_isMissing 88 = .ok (.aload_n 0, 1) := by decide +kernel
theorem dX5_isMissing_89 : decode cX5_isMissing 89 = .ok (.iload_n 3, 1) := by decide +kernel
theorem dX5_isMissing_90 : decode cX5_isMissing 90 = .ok (.invokevirtual 76, 3) := by decide +kernel
theorem dX5_isMissing_93 : decode cX5_isMissing 93 = .ok (.ifnonnull 7, 3) := by decide +kernel
theorem dX5_isMissing_96 : decode cX5_isMissing 96 = .ok (.iconst 1, 1) := by decide +kernel
theorem dX5_isMissing_97 : decode cX5_isMissing 97 = .ok (.goto 4, 3) := by decide +kernel
theorem dX5_isMissing_100 : decode cX5_isMissing 100 = .ok (.iconst 0, 1) := by decide +kernel
theorem dX5_isMissing_101 : decode cX5_isMissing 101 = .ok (.ireturn, 1) := by decide +kernel
theorem dX5_isMissing_102 : decode cX5_isMissing 102 = .ok (.aload_n 0, 1) := by decide +kernel
theorem dX5_isMissing_103 : decode cX5_isMissing 103 = .ok (.iload_n 2, 1) := by decide +kernel
theorem dX5_isMissing_104 : decode cX5_isMissing 104 = .ok (.invokevirtual 76, 3) := by decide +kernel
theorem dX5_isMissing_107 : decode cX5_isMissing 107 = .ok (.ifnonnull 7, 3) := by decide +kernel
theorem dX5_isMissing_110 : decode cX5_isMissing 110 = .ok (.iconst 1, 1) := by decide +kernel
theorem dX5_isMissing_111 : decode cX5_isMissing 111 = .ok (.goto 4, 3) := by decide +kernel
theorem dX5_isMissing_114 : decode cX5_isMissing 114 = .ok (.iconst 0, 1) := by decide +kernel
theorem dX5_isMissing_115 : decode cX5_isMissing 115 = .ok (.ireturn, 1) := by decide +kernel
theorem dX5_isDown_0 : decode cX5_isDown 0 = .ok (.iload_n 1, 1) := by decide +kernel
theorem dX5_isDown_1 : decode cX5_isDown 1 = .ok (.tableswitch 45 2 5 #[31, 31, 31, 31], 31) := by decide +kernel
theorem dX5_isDown_32 : decode cX5_isDown 32 = .ok (.aload_n 0, 1) := by decide +kernel
theorem dX5_isDown_33 : decode cX5_isDown 33 = .ok (.iload_n 2, 1) := by decide +kernel
theorem dX5_isDown_34 : decode cX5_isDown 34 = .ok (.invokevirtual 171, 3) := by decide +kernel
theorem dX5_isDown_37 : decode cX5_isDown 37 = .ok (.ifnonnull 7, 3) := by decide +kernel
theorem dX5_isDown_40 : decode cX5_isDown 40 = .ok (.iconst 1, 1) := by decide +kernel
theorem dX5_isDown_41 : decode cX5_isDown 41 = .ok (.goto 4, 3) := by decide +kernel
theorem dX5_isDown_44 : decode cX5_isDown 44 = .ok (.iconst 0, 1) := by decide +kernel
theorem dX5_isDown_45 : decode cX5_isDown 45 = .ok (.ireturn, 1) := by decide +kernel
theorem dX5_isDown_46 : decode cX5_isDown 46 = .ok (.iconst 0, 1) := by decide +kernel
theorem dX5_isDown_47 : decode cX5_isDown 47 = .ok (.ireturn, 1) := by decide +kernel
theorem dX5_isNotAsTold_0 : decode cX5_isNotAsTold 0 = .ok (.iload_n 1, 1) := by decide +kernel
theorem dX5_isNotAsTold_1 : decode cX5_isNotAsTold 1 = .ok (.tableswitch 98 1 11 #[59, 87, 98, 98, 98, 73, 98, 98, 98, 87, 87], 59) := by decide +kernel
theorem dX5_isNotAsTold_60 : decode cX5_isNotAsTold 60 = .ok (.aload_n 0, 1) := by decide +kernel
theorem dX5_isNotAsTold_61 : decode cX5_isNotAsTold 61 = .ok (.iload_n 2, 1) := by decide +kernel
theorem dX5_isNotAsTold_62 : decode cX5_isNotAsTold 62 = .ok (.invokevirtual 76, 3) := by decide +kernel
theorem dX5_isNotAsTold_65 : decode cX5_isNotAsTold 65 = .ok (.ifnull 7, 3) := by decide +kernel
theorem dX5_isNotAsTold_68 : decode cX5_isNotAsTold 68 = .ok (.iconst 1, 1) := by decide +kernel
theorem dX5_isNotAsTold_69 : decode cX5_isNotAsTold 69 = .ok (.goto 4, 3) := by decide +kernel
theorem dX5_isNotAsTold_72 : decode cX5_isNotAsTold 72 = .ok (.iconst 0, 1) := by decide +kernel
theorem dX5_isNotAsTold_73 : decode cX5_isNotAsTold 73 = .ok (.ireturn, 1) := by decide +kernel
theorem dX5_isNotAsTold_74 : decode cX5_isNotAsTold 74 = .ok (.aload_n 0, 1) := by decide +kernel
theorem dX5_isNotAsTold_75 : decode cX5_isNotAsTold 75 = .ok (.iload_n 2, 1) := by decide +kernel
theorem dX5_isNotAsTold_76 : decode cX5_isNotAsTold 76 = .ok (.invokevirtual 171, 3) := by decide +kernel
theorem dX5_isNotAsTold_79 : decode cX5_isNotAsTold 79 = .ok (.ifnull 7, 3) := by decide +kernel
theorem dX5_isNotAsTold_82 : decode cX5_isNotAsTold 82 = .ok (.iconst 1, 1) := by decide +kernel
theorem dX5_isNotAsTold_83 : decode cX5_isNotAsTold 83 = .ok (.goto 4, 3) := by decide +kernel
theorem dX5_isNotAsTold_86 : decode cX5_isNotAsTold 86 = .ok (.iconst 0, 1) := by decide +kernel
theorem dX5_isNotAsTold_87 : decode cX5_isNotAsTold 87 = .ok (.ireturn, 1) := by decide +kernel
theorem dX5_isNotAsTold_88 : decode cX5_isNotAsTold 88 = .ok (.iload_n 2, 1) := by decide +kernel
theorem dX5_isNotAsTold_89 : decode cX5_isNotAsTold 89 = .ok (.iload_n 3, 1) := by decide +kernel
theorem dX5_isNotAsTold_90 : decode cX5_isNotAsTold 90 = .ok (.if_icmp .ne 7, 3) := by decide +kernel
theorem dX5_isNotAsTold_93 : decode cX5_isNotAsTold 93 = .ok (.iconst 1, 1) := by decide +kernel
theorem dX5_isNotAsTold_94 : decode cX5_isNotAsTold 94 = .ok (.goto 4, 3) := by decide +kernel
theorem dX5_isNotAsTold_97 : decode cX5_isNotAsTold 97 = .ok (.iconst 0, 1) := by decide +kernel
theorem dX5_isNotAsTold_98 : decode cX5_isNotAsTold 98 = .ok (.ireturn, 1) := by decide +kernel
theorem dX5_isNotAsTold_99 : decode cX5_isNotAsTold 99 = .ok (.iconst 0, 1) := by decide +kernel
theorem dX5_isNotAsTold_100 : decode cX5_isNotAsTold 100 = .ok (.ireturn, 1) := by decide +kernel
theorem dX5_makeMember_0 : decode cX5_makeMember 0 = .ok (.iload_n 1, 1) := by decide +kernel
theorem dX5_makeMember_1 : decode cX5_makeMember 1 = .ok (.invokestatic 69, 3) := by decide +kernel
theorem dX5_makeMember_4 : decode cX5_makeMember 4 = .ok (.ifCond .ne 6, 3) := by decide +kernel
theorem dX5_makeMember_7 : decode cX5_makeMember 7 = .ok (.bipush (-3), 2) := by decide +kernel
theorem dX5_makeMember_9 : decode cX5_makeMember 9 = .ok (.ireturn, 1) := by decide +kernel
theorem dX5_makeMember_10 : decode cX5_makeMember 10 = .ok (.aload_n 0, 1) := by decide +kernel
theorem dX5_makeMember_11 : decode cX5_makeMember 11 = .ok (.iload_n 1, 1) := by decide +kernel
theorem dX5_makeMember_12 : decode cX5_makeMember 12 = .ok (.invokevirtual 174, 3) := by decide +kernel
theorem dX5_makeMember_15 : decode cX5_makeMember 15 = .ok (.lload_n 2, 1) := by decide +kernel
theorem dX5_makeMember_16 : decode cX5_makeMember 16 = .ok (.invokevirtual 177, 3) := by decide +kernel
theorem dX5_makeMember_19 : decode cX5_makeMember 19 = .ok (.aload_n 0, 1) := by decide +kernel
theorem dX5_makeMember_20 : decode cX5_makeMember 20 = .ok (.dup, 1) := by decide +kernel
theorem dX5_makeMember_21 : decode cX5_makeMember 21 = .ok (.getfield 17, 3) := by decide +kernel
theorem dX5_makeMember_24 : decode cX5_makeMember 24 = .ok (.iconst 1, 1) := by decide +kernel
theorem dX5_makeMember_25 : decode cX5_makeMember 25 = .ok (.iadd, 1) := by decide +kernel
theorem dX5_makeMember_26 : decode cX5_makeMember 26 = .ok (.putfield 17, 3) := by decide +kernel
theorem dX5_makeMember_29 : decode cX5_makeMember 29 = .ok (.aload_n 0, 1) := by decide +kernel
theorem dX5_makeMember_30 : decode cX5_makeMember 30 = .ok (.getfield 17, 3) := by decide +kernel
theorem dX5_makeMember_33 : decode cX5_makeMember 33 = .ok (.ireturn, 1) := by decide +kernel
theorem dX5_goAway_0 : decode cX5_goAway 0 = .ok (.aload_n 1, 1) := by decide +kernel
theorem dX5_goAway_1 : decode cX5_goAway 1 = .ok (.aload_n 1, 1) := by decide +kernel
theorem dX5_goAway_2 : decode cX5_goAway 2 = .ok (.getfield 181, 3) := by decide +kernel
theorem dX5_goAway_5 : decode cX5_goAway 5 = .ok (.iconst 4, 1) := by decide +kernel
theorem dX5_goAway_6 : decode cX5_goAway 6 = .ok (.aload_n 1, 1) := by decide +kernel
theorem dX5_goAway_7 : decode cX5_goAway 7 = .ok (.getfield 184, 3) := by decide +kernel
theorem dX5_goAway_10 : decode cX5_goAway 10 = .ok (.invokevirtual 187, 3) := by decide +kernel
theorem dX5_goAway_13 : decode cX5_goAway 13 = .ok (.aload_n 1, 1) := by decide +kernel
theorem dX5_goAway_14 : decode cX5_goAway 14 = .ok (.iconst 2, 1) := by decide +kernel
theorem dX5_goAway_15 : decode cX5_goAway 15 = .ok (.putfield 80, 3) := by decide +kernel
theorem dX5_goAway_18 : decode cX5_goAway 18 = .ok (.aload_n 1, 1) := by decide +kernel
theorem dX5_goAway_19 : decode cX5_goAway 19 = .ok (.invokevirtual 190, 3) := by decide +kernel
theorem dX5_goAway_22 : decode cX5_goAway 22 = .ok (.aload_n 0, 1) := by decide +kernel
theorem dX5_goAway_23 : decode cX5_goAway 23 = .ok (.aload_n 1, 1) := by decide +kernel
theorem dX5_goAway_24 : decode cX5_goAway 24 = .ok (.bipush 6, 2) := by decide +kernel
theorem dX5_goAway_26 : decode cX5_goAway 26 = .ok (.iconst (-1), 1) := by decide +kernel
theorem dX5_goAway_27 : decode cX5_goAway 27 = .ok (.invokevirtual 193, 3) := by decide +kernel
theorem dX5_goAway_30 : decode cX5_goAway 30 = .ok (.ireturn, 1) := by decide +kernel
theorem dX5_fallDown_0 : decode cX5_fallDown 0 = .ok (.aload_n 1, 1) := by decide +kernel
theorem dX5_fallDown_1 : decode cX5_fallDown 1 = .ok (.iconst 1, 1) := by decide +kernel
theorem dX5_fallDown_2 : decode cX5_fallDown 2 = .ok (.putfield 80, 3) := by decide +kernel
theorem dX5_fallDown_5 : decode cX5_fallDown 5 = .ok (.aload_n 1, 1) := by decide +kernel
theorem dX5_fallDown_6 : decode cX5_fallDown 6 = .ok (.invokevirtual 197, 3) := by decide +kernel
theorem dX5_fallDown_9 : decode cX5_fallDown 9 = .ok (.aload_n 1, 1) := by decide +kernel
theorem dX5_fallDown_10 : decode cX5_fallDown 10 = .ok (.getfield 184, 3) := by decide +kernel
theorem dX5_fallDown_13 : decode cX5_fallDown 13 = .ok (.ireturn, 1) := by decide +kernel
theorem dX5_riseUp_0 : decode cX5_riseUp 0 = .ok (.aload_n 1, 1) := by decide +kernel
theorem dX5_riseUp_1 : decode cX5_riseUp 1 = .ok (.iconst 0, 1) := by decide +kernel
theorem dX5_riseUp_2 : decode cX5_riseUp 2 = .ok (.putfield 80, 3) := by decide +kernel
theorem dX5_riseUp_5 : decode cX5_riseUp 5 = .ok (.aload_n 1, 1) := by decide +kernel
theorem dX5_riseUp_6 : decode cX5_riseUp 6 = .ok (.aload_n 1, 1) := by decide +kernel
theorem dX5_riseUp_7 : decode cX5_riseUp 7 = .ok (.getfield 184, 3) := by decide +kernel
theorem dX5_riseUp_10 : decode cX5_riseUp 10 = .ok (.iconst 1, 1) := by decide +kernel
theorem dX5_riseUp_11 : decode cX5_riseUp 11 = .ok (.iadd, 1) := by decide +kernel
theorem dX5_riseUp_12 : decode cX5_riseUp 12 = .ok (.invokevirtual 200, 3) := by decide +kernel
theorem dX5_riseUp_15 : decode cX5_riseUp 15 = .ok (.aload_n 1, 1) := by decide +kernel
theorem dX5_riseUp_16 : decode cX5_riseUp 16 = .ok (.getfield 184, 3) := by decide +kernel
theorem dX5_riseUp_19 : decode cX5_riseUp 19 = .ok (.ireturn, 1) := by decide +kernel
theorem dX5_takeTurn_0 : decode cX5_takeTurn 0 = .ok (.aload_n 1, 1) := by decide +kernel
theorem dX5_takeTurn_1 : decode cX5_takeTurn 1 = .ok (.dup, 1) := by decide +kernel
theorem dX5_takeTurn_2 : decode cX5_takeTurn 2 = .ok (.getfield 203, 3) := by decide +kernel
theorem dX5_takeTurn_5 : decode cX5_takeTurn 5 = .ok (.iconst 1, 1) := by decide +kernel
theorem dX5_takeTurn_6 : decode cX5_takeTurn 6 = .ok (.iadd, 1) := by decide +kernel
theorem dX5_takeTurn_7 : decode cX5_takeTurn 7 = .ok (.putfield 203, 3) := by decide +kernel
theorem dX5_takeTurn_10 : decode cX5_takeTurn 10 = .ok (.aload_n 0, 1) := by decide +kernel
theorem dX5_takeTurn_11 : decode cX5_takeTurn 11 = .ok (.aload_n 1, 1) := by decide +kernel
theorem dX5_takeTurn_12 : decode cX5_takeTurn 12 = .ok (.invokevirtual 206, 3) := by decide +kernel
theorem dX5_takeTurn_15 : decode cX5_takeTurn 15 = .ok (.aload_n 0, 1) := by decide +kernel
theorem dX5_takeTurn_16 : decode cX5_takeTurn 16 = .ok (.aload_n 1, 1) := by decide +kernel
theorem dX5_takeTurn_17 : decode cX5_takeTurn 17 = .ok (.invokevirtual 210, 3) := by decide +kernel
theorem dX5_takeTurn_20 : decode cX5_takeTurn 20 = .ok (.iconst 0, 1) := by decide +kernel
theorem dX5_takeTurn_21 : decode cX5_takeTurn 21 = .ok (.istore_n 2, 1) := by decide +kernel
theorem dX5_takeTurn_22 : decode cX5_takeTurn 22 = .ok (.aload_n 1, 1) := by decide +kernel
theorem dX5_takeTurn_23 : decode cX5_takeTurn 23 = .ok (.getfield 213, 3) := by decide +kernel
theorem dX5_takeTurn_26 : decode cX5_takeTurn 26 = .ok (.iconst (-1), 1) := by decide +kernel
theorem dX5_takeTurn_27 : decode cX5_takeTurn 27 = .ok (.if_icmp .eq 27, 3) := by decide +kernel
theorem dX5_takeTurn_30 : decode cX5_takeTurn 30 = .ok (.aload_n 1, 1) := by decide +kernel
theorem dX5_takeTurn_31 : decode cX5_takeTurn 31 = .ok (.aload_n 1, 1) := by decide +kernel
theorem dX5_takeTurn_32 : decode cX5_takeTurn 32 = .ok (.getfield 213, 3) := by decide +kernel
theorem dX5_takeTurn_35 : decode cX5_takeTurn 35 = .ok (.putfield 216, 3) := by decide +kernel
theorem dX5_takeTurn_38 : decode cX5_takeTurn 38 = .ok (.aload_n 1, 1) := by decide +kernel
theorem dX5_takeTurn_39 : decode cX5_takeTurn 39 = .ok (.iconst (-1), 1) := by decide +kernel
theorem dX5_takeTurn_40 : decode cX5_takeTurn 40 = .ok (.putfield 213, 3) := by decide +kernel
theorem dX5_takeTurn_43 : decode cX5_takeTurn 43 = .ok (.aload_n 0, 1) := by decide +kernel
theorem dX5_takeTurn_44 : decode cX5_takeTurn 44 = .ok (.aload_n 1, 1) := by decide +kernel
theorem dX5_takeTurn_45 : decode cX5_takeTurn 45 = .ok (.iconst 2, 1) := by decide +kernel
theorem dX5_takeTurn_46 : decode cX5_takeTurn 46 = .ok (.aload_n 1, 1) := by decide +kernel
theorem dX5_takeTurn_47 : decode cX5_takeTurn 47 = .ok (.getfield 216, 3) := by decide +kernel
theorem dX5_takeTurn_50 : decode cX5_takeTurn 50 = .ok (.invokevirtual 193, 3) := by decide +kernel
theorem dX5_takeTurn_53 : decode cX5_takeTurn 53 = .ok (.istore_n 2, 1) := by decide +kernel
theorem dX5_takeTurn_54 : decode cX5_takeTurn 54 = .ok (.iload_n 2, 1) := by decide +kernel
theorem dX5_takeTurn_55 : decode cX5_takeTurn 55 = .ok (.aload_n 0, 1) := by decide +kernel
theorem dX5_takeTurn_56 : decode cX5_takeTurn 56 = .ok (.aload_n 1, 1) := by decide +kernel
theorem dX5_takeTurn_57 : decode cX5_takeTurn 57 = .ok (.invokevirtual 219, 3) := by decide +kernel
theorem dX5_takeTurn_60 : decode cX5_takeTurn 60 = .ok (.iadd, 1) := by decide +kernel
theorem dX5_takeTurn_61 : decode cX5_takeTurn 61 = .ok (.ireturn, 1) := by decide +kernel
theorem dX5_endOldDoubts_0 : decode cX5_endOldDoubts 0 = .ok (.iconst 0, 1) := by decide +kernel
theorem dX5_endOldDoubts_1 : decode cX5_endOldDoubts 1 = .ok (.istore_n 2, 1) := by decide +kernel
theorem dX5_endOldDoubts_2 : decode cX5_endOldDoubts 2 = .ok (.iload_n 2, 1) := by decide +kernel
theorem dX5_endOldDoubts_3 : decode cX5_endOldDoubts 3 = .ok (.bipush 64, 2) := by decide +kernel
theorem dX5_endOldDoubts_5 : decode cX5_endOldDoubts 5 = .ok (.if_icmp .ge 58, 3) := by decide +kernel
theorem dX5_endOldDoubts_8 : decode cX5_endOldDoubts 8 = .ok (.aload_n 1, 1) := by decide +kernel
theorem dX5_endOldDoubts_9 : decode cX5_endOldDoubts 9 = .ok (.getfield 222, 3) := by decide +kernel
theorem dX5_endOldDoubts_12 : decode cX5_endOldDoubts 12 = .ok (.iload_n 2, 1) := by decide +kernel
theorem dX5_endOldDoubts_13 : decode cX5_endOldDoubts 13 = .ok (.iaload, 1) := by decide +kernel
theorem dX5_endOldDoubts_14 : decode cX5_endOldDoubts 14 = .ok (.iconst 2, 1) := by decide +kernel
theorem dX5_endOldDoubts_15 : decode cX5_endOldDoubts 15 = .ok (.if_icmp .ne 42, 3) := by decide +kernel
theorem dX5_endOldDoubts_18 : decode cX5_endOldDoubts 18 = .ok (.aload_n 0, 1) := by decide +kernel
theorem dX5_endOldDoubts_19 : decode cX5_endOldDoubts 19 = .ok (.bipush 8, 2) := by decide +kernel
theorem dX5_endOldDoubts_21 : decode cX5_endOldDoubts 21 = .ok (.invokevirtual 225, 3) := by decide +kernel
theorem dX5_endOldDoubts_24 : decode cX5_endOldDoubts 24 = .ok (.aload_n 1, 1) := by decide +kernel
theorem dX5_endOldDoubts_25 : decode cX5_endOldDoubts 25 = .ok (.getfield 203, 3) := by decide +kernel
theorem dX5_endOldDoubts_28 : decode cX5_endOldDoubts 28 = .ok (.aload_n 1, 1) := by decide +kernel
theorem dX5_endOldDoubts_29 : decode cX5_endOldDoubts 29 = .ok (.getfield 228, 3) := by decide +kernel
theorem dX5_endOldDoubts_32 : decode cX5_endOldDoubts 32 = .ok (.iload_n 2, 1) := by decide +kernel
theorem dX5_endOldDoubts_33 : decode cX5_endOldDoubts 33 = .ok (.iaload, 1) := by decide +kernel
theorem dX5_endOldDoubts_34 : decode cX5_endOldDoubts 34 = .ok (.isub, 1) := by decide +kernel
theorem dX5_endOldDoubts_35 : decode cX5_endOldDoubts 35 = .ok (.iconst 5, 1) := by decide +kernel
theorem dX5_endOldDoubts_36 : decode cX5_endOldDoubts 36 = .ok (.if_icmp .lt 21, 3) := by decide +kernel
theorem dX5_endOldDoubts_39 : decode cX5_endOldDoubts 39 = .ok (.aload_n 0, 1) := by decide +kernel
theorem dX5_endOldDoubts_40 : decode cX5_endOldDoubts 40 = .ok (.bipush 9, 2) := by decide +kernel
theorem dX5_endOldDoubts_42 : decode cX5_endOldDoubts 42 = .ok (.invokevirtual 225, 3) := by decide +kernel
theorem dX5_endOldDoubts_45 : decode cX5_endOldDoubts 45 = .ok (.aload_n 1, 1) := by decide +kernel
theorem dX5_endOldDoubts_46 : decode cX5_endOldDoubts 46 = .ok (.iload_n 2, 1) := by decide +kernel
theorem dX5_endOldDoubts_47 : decode cX5_endOldDoubts 47 = .ok (.iconst 3, 1) := by decide +kernel
theorem dX5_endOldDoubts_48 : decode cX5_endOldDoubts 48 = .ok (.aload_n 1, 1) := by decide +kernel
theorem dX5_endOldDoubts_49 : decode cX5_endOldDoubts 49 = .ok (.getfield 231, 3) := by decide +kernel
theorem dX5_endOldDoubts_52 : decode cX5_endOldDoubts 52 = .ok (.iload_n 2, 1) := by decide +kernel
theorem dX5_endOldDoubts_53 : decode cX5_endOldDoubts 53 = .ok (.iaload, 1) := by decide +kernel
theorem dX5_endOldDoubts_54 : decode cX5_endOldDoubts 54 = .ok (.invokevirtual 187, 3) := by decide +kernel
theorem dX5_endOldDoubts_57 : decode cX5_endOldDoubts 57 = .ok (.iinc 2 1, 3) := by decide +kernel
theorem dX5_endOldDoubts_60 : decode cX5_endOldDoubts 60 = .ok (.goto (-58), 3) := by decide +kernel
theorem dX5_endOldDoubts_63 : decode cX5_endOldDoubts 63 = .ok (.return_, 1) := by decide +kernel
theorem dX5_doubtUnanswered_0 : decode cX5_doubtUnanswered 0 = .ok (.aload_n 1, 1) := by decide +kernel
theorem dX5_doubtUnanswered_1 : decode cX5_doubtUnanswered 1 = .ok (.getfield 216, 3) := by decide +kernel
theorem dX5_doubtUnanswered_4 : decode cX5_doubtUnanswered 4 = .ok (.istore_n 2, 1) := by decide +kernel
theorem dX5_doubtUnanswered_5 : decode cX5_doubtUnanswered 5 = .ok (.aload_n 1, 1) := by decide +kernel
theorem dX5_doubtUnanswered_6 : decode cX5_doubtUnanswered 6 = .ok (.iconst (-1), 1) := by decide +kernel
theorem dX5_doubtUnanswered_7 : decode cX5_doubtUnanswered 7 = .ok (.putfield 216, 3) := by decide +kernel
theorem dX5_doubtUnanswered_10 : decode cX5_doubtUnanswered 10 = .ok (.iload_n 2, 1) := by decide +kernel
theorem dX5_doubtUnanswered_11 : decode cX5_doubtUnanswered 11 = .ok (.invokestatic 69, 3) := by decide +kernel
theorem dX5_doubtUnanswered_14 : decode cX5_doubtUnanswered 14 = .ok (.ifCond .eq 25, 3) := by decide +kernel
theorem dX5_doubtUnanswered_17 : decode cX5_doubtUnanswered 17 = .ok (.aload_n 1, 1) := by decide +kernel
theorem dX5_doubtUnanswered_18 : decode cX5_doubtUnanswered 18 = .ok (.getfield 222, 3) := by decide +kernel
theorem dX5_doubtUnanswered_21 : decode cX5_doubtUnanswered 21 = .ok (.iload_n 2, 1) := by decide +kernel
theorem dX5_doubtUnanswered_22 : decode cX5_doubtUnanswered 22 = .ok (.iaload, 1) := by decide +kernel
theorem dX5_doubtUnanswered_23 : decode cX5_doubtUnanswered 23 = .ok (.iconst 1, 1) := by decide +kernel
theorem dX5_doubtUnanswered_24 : decode cX5_doubtUnanswered 24 = .ok (.if_icmp .ne 15, 3) := by decide +kernel
theorem dX5_doubtUnanswered_27 : decode cX5_doubtUnanswered 27 = .ok (.aload_n 1, 1) := by decide +kernel
theorem dX5_doubtUnanswered_28 : decode cX5_doubtUnanswered 28 = .ok (.iload_n 2, 1) := by decide +kernel
theorem dX5_doubtUnanswered_29 : decode cX5_doubtUnanswered 29 = .ok (.iconst 2, 1) := by decide +kernel
theorem dX5_doubtUnanswered_30 : decode cX5_doubtUnanswered 30 = .ok (.aload_n 1, 1) := by decide +kernel
theorem dX5_doubtUnanswered_31 : decode cX5_doubtUnanswered 31 = .ok (.getfield 231, 3) := by decide +kernel
theorem dX5_doubtUnanswered_34 : decode cX5_doubtUnanswered 34 = .ok (.iload_n 2, 1) := by decide +kernel
theorem dX5_doubtUnanswered_35 : decode cX5_doubtUnanswered 35 = .ok (.iaload, 1) := by decide +kernel
theorem dX5_doubtUnanswered_36 : decode cX5_doubtUnanswered 36 = .ok (.invokevirtual 187, 3) := by decide +kernel
theorem dX5_doubtUnanswered_39 : decode cX5_doubtUnanswered 39 = .ok (.return_, 1) := by decide +kernel
theorem dX5_askNext_0 : decode cX5_askNext 0 = .ok (.aload_n 1, 1) := by decide +kernel
theorem dX5_askNext_1 : decode cX5_askNext 1 = .ok (.invokevirtual 234, 3) := by decide +kernel
theorem dX5_askNext_4 : decode cX5_askNext 4 = .ok (.iconst (-1), 1) := by decide +kernel
theorem dX5_askNext_5 : decode cX5_askNext 5 = .ok (.if_icmp .ne 13, 3) := by decide +kernel
theorem dX5_askNext_8 : decode cX5_askNext 8 = .ok (.aload_n 1, 1) := by decide +kernel
theorem dX5_askNext_9 : decode cX5_askNext 9 = .ok (.invokevirtual 237, 3) := by decide +kernel
theorem dX5_askNext_12 : decode cX5_askNext 12 = .ok (.aload_n 0, 1) := by decide +kernel
theorem dX5_askNext_13 : decode cX5_askNext 13 = .ok (.bipush 11, 2) := by decide +kernel
theorem dX5_askNext_15 : decode cX5_askNext 15 = .ok (.invokevirtual 225, 3) := by decide +kernel
theorem dX5_askNext_18 : decode cX5_askNext 18 = .ok (.aload_n 1, 1) := by decide +kernel
theorem dX5_askNext_19 : decode cX5_askNext 19 = .ok (.invokevirtual 240, 3) := by decide +kernel
theorem dX5_askNext_22 : decode cX5_askNext 22 = .ok (.istore_n 2, 1) := by decide +kernel
theorem dX5_askNext_23 : decode cX5_askNext 23 = .ok (.iload_n 2, 1) := by decide +kernel
theorem dX5_askNext_24 : decode cX5_askNext 24 = .ok (.iconst (-1), 1) := by decide +kernel
theorem dX5_askNext_25 : decode cX5_askNext 25 = .ok (.if_icmp .ne 5, 3) := by decide +kernel
theorem dX5_askNext_28 : decode cX5_askNext 28 = .ok (.iconst 0, 1) := by decide +kernel
theorem dX5_askNext_29 : decode cX5_askNext 29 = .ok (.ireturn, 1) := by decide +kernel
theorem dX5_askNext_30 : decode cX5_askNext 30 = .ok (.aload_n 0, 1) := by decide +kernel
theorem dX5_askNext_31 : decode cX5_askNext 31 = .ok (.aload_n 1, 1) := by decide +kernel
theorem dX5_askNext_32 : decode cX5_askNext 32 = .ok (.iconst 1, 1) := by decide +kernel
theorem dX5_askNext_33 : decode cX5_askNext 33 = .ok (.iload_n 2, 1) := by decide +kernel
theorem dX5_askNext_34 : decode cX5_askNext 34 = .ok (.iconst (-1), 1) := by decide +kernel
theorem dX5_askNext_35 : decode cX5_askNext 35 = .ok (.invokevirtual 119, 3) := by decide +kernel
theorem dX5_askNext_38 : decode cX5_askNext 38 = .ok (.pop, 1) := by decide +kernel
theorem dX5_askNext_39 : decode cX5_askNext 39 = .ok (.aload_n 1, 1) := by decide +kernel
theorem dX5_askNext_40 : decode cX5_askNext 40 = .ok (.iload_n 2, 1) := by decide +kernel
theorem dX5_askNext_41 : decode cX5_askNext 41 = .ok (.putfield 213, 3) := by decide +kernel
theorem dX5_askNext_44 : decode cX5_askNext 44 = .ok (.iconst 1, 1) := by decide +kernel
theorem dX5_askNext_45 : decode cX5_askNext 45 = .ok (.ireturn, 1) := by decide +kernel
theorem dX5_sendDrawn_0 : decode cX5_sendDrawn 0 = .ok (.aload_n 1, 1) := by decide +kernel
theorem dX5_sendDrawn_1 : decode cX5_sendDrawn 1 = .ok (.aload_n 0, 1) := by decide +kernel
theorem dX5_sendDrawn_2 : decode cX5_sendDrawn 2 = .ok (.getfield 48, 3) := by decide +kernel
theorem dX5_sendDrawn_5 : decode cX5_sendDrawn 5 = .ok (.iload_n 3, 1) := by decide +kernel
theorem dX5_sendDrawn_6 : decode cX5_sendDrawn 6 = .ok (.invokevirtual 243, 3) := by decide +kernel
theorem dX5_sendDrawn_9 : decode cX5_sendDrawn 9 = .ok (.istore 4, 2) := by decide +kernel
theorem dX5_sendDrawn_11 : decode cX5_sendDrawn 11 = .ok (.iconst 0, 1) := by decide +kernel
theorem dX5_sendDrawn_12 : decode cX5_sendDrawn 12 = .ok (.istore 5, 2) := by decide +kernel
theorem dX5_sendDrawn_14 : decode cX5_sendDrawn 14 = .ok (.iload 5, 2) := by decide +kernel
theorem dX5_sendDrawn_16 : decode cX5_sendDrawn 16 = .ok (.iconst 3, 1) := by decide +kernel
theorem dX5_sendDrawn_17 : decode cX5_sendDrawn 17 = .ok (.if_icmp .ge 62, 3) := by decide +kernel
theorem dX5_sendDrawn_20 : decode cX5_sendDrawn 20 = .ok (.iload 4, 2) := by decide +kernel
theorem dX5_sendDrawn_22 : decode cX5_sendDrawn 22 = .ok (.ifCond .le 57, 3) := by decide +kernel
theorem dX5_sendDrawn_25 : decode cX5_sendDrawn 25 = .ok (.aload_n 1, 1) := by decide +kernel
theorem dX5_sendDrawn_26 : decode cX5_sendDrawn 26 = .ok (.iload 4, 2) := by decide +kernel
theorem dX5_sendDrawn_28 : decode cX5_sendDrawn 28 = .ok (.invokevirtual 247, 3) := by decide +kernel
theorem dX5_sendDrawn_31 : decode cX5_sendDrawn 31 = .ok (.istore 6, 2) := by decide +kernel
theorem dX5_sendDrawn_33 : decode cX5_sendDrawn 33 = .ok (.aload_n 0, 1) := by decide +kernel
theorem dX5_sendDrawn_34 : decode cX5_sendDrawn 34 = .ok (.aload_n 1, 1) := by decide +kernel
theorem dX5_sendDrawn_35 : decode cX5_sendDrawn 35 = .ok (.iload_n 2, 1) := by decide +kernel
theorem dX5_sendDrawn_36 : decode cX5_sendDrawn 36 = .ok (.aload_n 0, 1) := by decide +kernel
theorem dX5_sendDrawn_37 : decode cX5_sendDrawn 37 = .ok (.getfield 48, 3) := by decide +kernel
theorem dX5_sendDrawn_40 : decode cX5_sendDrawn 40 = .ok (.iload 6, 2) := by decide +kernel
theorem dX5_sendDrawn_42 : decode cX5_sendDrawn 42 = .ok (.iaload, 1) := by decide +kernel
theorem dX5_sendDrawn_43 : decode cX5_sendDrawn 43 = .ok (.iload_n 3, 1) := by decide +kernel
theorem dX5_sendDrawn_44 : decode cX5_sendDrawn 44 = .ok (.invokevirtual 119, 3) := by decide +kernel
theorem dX5_sendDrawn_47 : decode cX5_sendDrawn 47 = .ok (.pop, 1) := by decide +kernel
theorem dX5_sendDrawn_48 : decode cX5_sendDrawn 48 = .ok (.iinc 5 1, 3) := by decide +kernel
theorem dX5_sendDrawn_51 : decode cX5_sendDrawn 51 = .ok (.iinc 4 (-1), 3) := by decide +kernel
theorem dX5_sendDrawn_54 : decode cX5_sendDrawn 54 = .ok (.aload_n 0, 1) := by decide +kernel
theorem dX5_sendDrawn_55 : decode cX5_sendDrawn 55 = .ok (.getfield 48, 3) := by decide +kernel
theorem dX5_sendDrawn_58 : decode cX5_sendDrawn 58 = .ok (.iload 6, 2) := by decide +kernel
theorem dX5_sendDrawn_60 : decode cX5_sendDrawn 60 = .ok (.iconst 1, 1) := by decide +kernel
theorem dX5_sendDrawn_61 : decode cX5_sendDrawn 61 = .ok (.iadd, 1) := by decide +kernel
theorem dX5_sendDrawn_62 : decode cX5_sendDrawn 62 = .ok (.aload_n 0, 1) := by decide +kernel
theorem dX5_sendDrawn_63 : decode cX5_sendDrawn 63 = .ok (.getfield 48, 3) := by decide +kernel
theorem dX5_sendDrawn_66 : decode cX5_sendDrawn 66 = .ok (.iload 6, 2) := by decide +kernel
theorem dX5_sendDrawn_68 : decode cX5_sendDrawn 68 = .ok (.iload 4, 2) := by decide +kernel
theorem dX5_sendDrawn_70 : decode cX5_sendDrawn 70 = .ok (.iload 6, 2) := by decide +kernel
theorem dX5_sendDrawn_72 : decode cX5_sendDrawn 72 = .ok (.isub, 1) := by decide +kernel
theorem dX5_sendDrawn_73 : decode cX5_sendDrawn 73 = .ok (.invokestatic 250, 3) := by decide +kernel
theorem dX5_sendDrawn_76 : decode cX5_sendDrawn 76 = .ok (.goto (-62), 3) := by decide +kernel
theorem dX5_sendDrawn_79 : decode cX5_sendDrawn 79 = .ok (.iload 5, 2) := by decide +kernel
theorem dX5_sendDrawn_81 : decode cX5_sendDrawn 81 = .ok (.ireturn, 1) := by decide +kernel
theorem dX5_send_0 : decode cX5_send 0 = .ok (.aload_n 0, 1) := by decide +kernel
theorem dX5_send_1 : decode cX5_send 1 = .ok (.getfield 28, 3) := by decide +kernel
theorem dX5_send_4 : decode cX5_send 4 = .ok (.iload_n 2, 1) := by decide +kernel
theorem dX5_send_5 : decode cX5_send 5 = .ok (.aload_n 1, 1) := by decide +kernel
theorem dX5_send_6 : decode cX5_send 6 = .ok (.getfield 181, 3) := by decide +kernel
theorem dX5_send_9 : decode cX5_send 9 = .ok (.iload_n 3, 1) := by decide +kernel
theorem dX5_send_10 : decode cX5_send 10 = .ok (.iload 4, 2) := by decide +kernel
theorem dX5_send_12 : decode cX5_send 12 = .ok (.iconst (-1), 1) := by decide +kernel
theorem dX5_send_13 : decode cX5_send 13 = .ok (.invokevirtual 256, 3) := by decide +kernel
theorem dX5_send_16 : decode cX5_send 16 = .ok (.istore 5, 2) := by decide +kernel
theorem dX5_send_18 : decode cX5_send 18 = .ok (.iload_n 2, 1) := by decide +kernel
theorem dX5_send_19 : decode cX5_send 19 = .ok (.bipush 6, 2) := by decide +kernel
theorem dX5_send_21 : decode cX5_send 21 = .ok (.if_icmp .ne 7, 3) := by decide +kernel
theorem dX5_send_24 : decode cX5_send 24 = .ok (.iconst 1, 1) := by decide +kernel
theorem dX5_send_25 : decode cX5_send 25 = .ok (.goto 4, 3) := by decide +kernel
theorem dX5_send_28 : decode cX5_send 28 = .ok (.iconst 0, 1) := by decide +kernel
theorem dX5_send_29 : decode cX5_send 29 = .ok (.istore 6, 2) := by decide +kernel
theorem dX5_send_31 : decode cX5_send 31 = .ok (.iload 6, 2) := by decide +kernel
theorem dX5_send_33 : decode cX5_send 33 = .ok (.ifCond .eq 14, 3) := by decide +kernel
theorem dX5_send_36 : decode cX5_send 36 = .ok (.aload_n 1, 1) := by decide +kernel
theorem dX5_send_37 : decode cX5_send 37 = .ok (.aload_n 0, 1) := by decide +kernel
theorem dX5_send_38 : decode cX5_send 38 = .ok (.getfield 45, 3) := by decide +kernel
theorem dX5_send_41 : decode cX5_send 41 = .ok (.invokevirtual 260, 3) := by decide +kernel
theorem dX5_send_44 : decode cX5_send 44 = .ok (.goto 11, 3) := by decide +kernel
theorem dX5_send_47 : decode cX5_send 47 = .ok (.aload_n 1, 1) := by decide +kernel
theorem dX5_send_48 : decode cX5_send 48 = .ok (.aload_n 0, 1) := by decide +kernel
theorem dX5_send_49 : decode cX5_send 49 = .ok (.getfield 45, 3) := by decide +kernel
theorem dX5_send_52 : decode cX5_send 52 = .ok (.invokevirtual 264, 3) := by decide +kernel
theorem dX5_send_55 : decode cX5_send 55 = .ok (.istore 7, 2) := by decide +kernel
theorem dX5_send_57 : decode cX5_send 57 = .ok (.iconst 0, 1) := by decide +kernel
theorem dX5_send_58 : decode cX5_send 58 = .ok (.istore 8, 2) := by decide +kernel
theorem dX5_send_60 : decode cX5_send 60 = .ok (.iload 8, 2) := by decide +kernel
theorem dX5_send_62 : decode cX5_send 62 = .ok (.iload 7, 2) := by decide +kernel
theorem dX5_send_64 : decode cX5_send 64 = .ok (.if_icmp .ge 86, 3) := by decide +kernel
theorem dX5_send_67 : decode cX5_send 67 = .ok (.iload 8, 2) := by decide +kernel
theorem dX5_send_69 : decode cX5_send 69 = .ok (.bipush 64, 2) := by decide +kernel
theorem dX5_send_71 : decode cX5_send 71 = .ok (.if_icmp .ge 79, 3) := by decide +kernel
theorem dX5_send_74 : decode cX5_send 74 = .ok (.aload_n 0, 1) := by decide +kernel
theorem dX5_send_75 : decode cX5_send 75 = .ok (.getfield 45, 3) := by decide +kernel
theorem dX5_send_78 : decode cX5_send 78 = .ok (.iload 8, 2) := by decide +kernel
theorem dX5_send_80 : decode cX5_send 80 = .ok (.iaload, 1) := by decide +kernel
theorem dX5_send_81 : decode cX5_send 81 = .ok (.istore 9, 2) := by decide +kernel
theorem dX5_send_83 : decode cX5_send 83 = .ok (.aload_n 0, 1) := by decide +kernel
theorem dX5_send_84 : decode cX5_send 84 = .ok (.getfield 28, 3) := by decide +kernel
theorem dX5_send_87 : decode cX5_send 87 = .ok (.iload 9, 2) := by decide +kernel
theorem dX5_send_89 : decode cX5_send 89 = .ok (.aload_n 1, 1) := by decide +kernel
theorem dX5_send_90 : decode cX5_send 90 = .ok (.getfield 222, 3) := by decide +kernel
theorem dX5_send_93 : decode cX5_send 93 = .ok (.iload 9, 2) := by decide +kernel
theorem dX5_send_95 : decode cX5_send 95 = .ok (.iaload, 1) := by decide +kernel
theorem dX5_send_96 : decode cX5_send 96 = .ok (.aload_n 1, 1) := by decide +kernel
theorem dX5_send_97 : decode cX5_send 97 = .ok (.getfield 231, 3) := by decide +kernel
theorem dX5_send_100 : decode cX5_send 100 = .ok (.iload 9, 2) := by decide +kernel
theorem dX5_send_102 : decode cX5_send 102 = .ok (.iaload, 1) := by decide +kernel
theorem dX5_send_103 : decode cX5_send 103 = .ok (.aload_n 1, 1) := by decide +kernel
theorem dX5_send_104 : decode cX5_send 104 = .ok (.getfield 267, 3) := by decide +kernel
theorem dX5_send_107 : decode cX5_send 107 = .ok (.iload 9, 2) := by decide +kernel
theorem dX5_send_109 : decode cX5_send 109 = .ok (.iaload, 1) := by decide +kernel
theorem dX5_send_110 : decode cX5_send 110 = .ok (.invokevirtual 270, 3) := by decide +kernel
theorem dX5_send_113 : decode cX5_send 113 = .ok (.aload_n 0, 1) := by decide +kernel
theorem dX5_send_114 : decode cX5_send 114 = .ok (.iconst 4, 1) := by decide +kernel
theorem dX5_send_115 : decode cX5_send 115 = .ok (.aload_n 1, 1) := by decide +kernel
theorem dX5_send_116 : decode cX5_send 116 = .ok (.getfield 222, 3) := by decide +kernel
theorem dX5_send_119 : decode cX5_send 119 = .ok (.iload 9, 2) := by decide +kernel
theorem dX5_send_121 : decode cX5_send 121 = .ok (.iaload, 1) := by decide +kernel
theorem dX5_send_122 : decode cX5_send 122 = .ok (.iadd, 1) := by decide +kernel
theorem dX5_send_123 : decode cX5_send 123 = .ok (.iconst 1, 1) := by decide +kernel
theorem dX5_send_124 : decode cX5_send 124 = .ok (.isub, 1) := by decide +kernel
theorem dX5_send_125 : decode cX5_send 125 = .ok (.invokevirtual 225, 3) := by decide +kernel
theorem dX5_send_128 : decode cX5_send 128 = .ok (.iload 6, 2) := by decide +kernel
theorem dX5_send_130 : decode cX5_send 130 = .ok (.ifCond .ne 14, 3) := by decide +kernel
theorem dX5_send_133 : decode cX5_send 133 = .ok (.aload_n 1, 1) := by decide +kernel
theorem dX5_send_134 : decode cX5_send 134 = .ok (.getfield 274, 3) := by decide +kernel
theorem dX5_send_137 : decode cX5_send 137 = .ok (.iload 9, 2) := by decide +kernel
theorem dX5_send_139 : decode cX5_send 139 = .ok (.dup2, 1) := by decide +kernel
theorem dX5_send_140 : decode cX5_send 140 = .ok (.iaload, 1) := by decide +kernel
theorem dX5_send_141 : decode cX5_send 141 = .ok (.iconst 1, 1) := by decide +kernel
theorem dX5_send_142 : decode cX5_send 142 = .ok (.iadd, 1) := by decide +kernel
theorem dX5_send_143 : decode cX5_send 143 = .ok (.iastore, 1) := by decide +kernel
theorem dX5_send_144 : decode cX5_send 144 = .ok (.iinc 8 1, 3) := by decide +kernel
theorem dX5_send_147 : decode cX5_send 147 = .ok (.goto (-87), 3) := by decide +kernel
theorem dX5_send_150 : decode cX5_send 150 = .ok (.iload 5, 2) := by decide +kernel
theorem dX5_send_152 : decode cX5_send 152 = .ok (.ireturn, 1) := by decide +kernel
theorem dX5_bring_0 : decode cX5_bring 0 = .ok (.aload_n 0, 1) := by decide +kernel
theorem dX5_bring_1 : decode cX5_bring 1 = .ok (.getfield 28, 3) := by decide +kernel
theorem dX5_bring_4 : decode cX5_bring 4 = .ok (.iload_n 1, 1) := by decide +kernel
theorem dX5_bring_5 : decode cX5_bring 5 = .ok (.iconst 1, 1) := by decide +kernel
theorem dX5_bring_6 : decode cX5_bring 6 = .ok (.invokevirtual 167, 3) := by decide +kernel
theorem dX5_bring_9 : decode cX5_bring 9 = .ok (.istore_n 2, 1) := by decide +kernel
theorem dX5_bring_10 : decode cX5_bring 10 = .ok (.aload_n 0, 1) := by decide +kernel
theorem dX5_bring_11 : decode cX5_bring 11 = .ok (.getfield 28, 3) := by decide +kernel
theorem dX5_bring_14 : decode cX5_bring 14 = .ok (.iload_n 1, 1) := by decide +kernel
theorem dX5_bring_15 : decode cX5_bring 15 = .ok (.iconst 2, 1) := by decide +kernel
theorem dX5_bring_16 : decode cX5_bring 16 = .ok (.invokevirtual 167, 3) := by decide +kernel
theorem dX5_bring_19 : decode cX5_bring 19 = .ok (.istore_n 3, 1) := by decide +kernel
theorem dX5_bring_20 : decode cX5_bring 20 = .ok (.aload_n 0, 1) := by decide +kernel
theorem dX5_bring_21 : decode cX5_bring 21 = .ok (.iload_n 3, 1) := by decide +kernel
theorem dX5_bring_22 : decode cX5_bring 22 = .ok (.invokevirtual 171, 3) := by decide +kernel
theorem dX5_bring_25 : decode cX5_bring 25 = .ok (.astore 4, 2) := by decide +kernel
theorem dX5_bring_27 : decode cX5_bring 27 = .ok (.aload 4, 2) := by decide +kernel
theorem dX5_bring_29 : decode cX5_bring 29 = .ok (.ifnull 12, 3) := by decide +kernel
theorem dX5_bring_32 : decode cX5_bring 32 = .ok (.aload_n 0, 1) := by decide +kernel
theorem dX5_bring_33 : decode cX5_bring 33 = .ok (.iload_n 2, 1) := by decide +kernel
theorem dX5_bring_34 : decode cX5_bring 34 = .ok (.iload_n 3, 1) := by decide +kernel
theorem dX5_bring_35 : decode cX5_bring 35 = .ok (.invokevirtual 277, 3) := by decide +kernel
theorem dX5_bring_38 : decode cX5_bring 38 = .ok (.ifCond .eq 13, 3) := by decide +kernel
theorem dX5_bring_41 : decode cX5_bring 41 = .ok (.aload_n 0, 1) := by decide +kernel
theorem dX5_bring_42 : decode cX5_bring 42 = .ok (.getfield 28, 3) := by decide +kernel
theorem dX5_bring_45 : decode cX5_bring 45 = .ok (.iload_n 1, 1) := by decide +kernel
theorem dX5_bring_46 : decode cX5_bring 46 = .ok (.invokevirtual 105, 3) := by decide +kernel
theorem dX5_bring_49 : decode cX5_bring 49 = .ok (.iconst (-1), 1) := by decide +kernel
theorem dX5_bring_50 : decode cX5_bring 50 = .ok (.ireturn, 1) := by decide +kernel
theorem dX5_bring_51 : decode cX5_bring 51 = .ok (.aload_n 0, 1) := by decide +kernel
theorem dX5_bring_52 : decode cX5_bring 52 = .ok (.getfield 28, 3) := by decide +kernel
theorem dX5_bring_55 : decode cX5_bring 55 = .ok (.iload_n 1, 1) := by decide +kernel
theorem dX5_bring_56 : decode cX5_bring 56 = .ok (.invokevirtual 280, 3) := by decide +kernel
theorem dX5_bring_59 : decode cX5_bring 59 = .ok (.aload_n 0, 1) := by decide +kernel
theorem dX5_bring_60 : decode cX5_bring 60 = .ok (.aload 4, 2) := by decide +kernel
theorem dX5_bring_62 : decode cX5_bring 62 = .ok (.iload_n 1, 1) := by decide +kernel
theorem dX5_bring_63 : decode cX5_bring 63 = .ok (.invokevirtual 283, 3) := by decide +kernel
theorem dX5_bring_66 : decode cX5_bring 66 = .ok (.aload_n 0, 1) := by decide +kernel
theorem dX5_bring_67 : decode cX5_bring 67 = .ok (.aload 4, 2) := by decide +kernel
theorem dX5_bring_69 : decode cX5_bring 69 = .ok (.iload_n 1, 1) := by decide +kernel
theorem dX5_bring_70 : decode cX5_bring 70 = .ok (.invokevirtual 287, 3) := by decide +kernel
theorem dX5_bring_73 : decode cX5_bring 73 = .ok (.ireturn, 1) := by decide +kernel
theorem dX5_takeNews_0 : decode cX5_takeNews 0 = .ok (.aload_n 0, 1) := by decide +kernel
theorem dX5_takeNews_1 : decode cX5_takeNews 1 = .ok (.getfield 28, 3) := by decide +kernel
theorem dX5_takeNews_4 : decode cX5_takeNews 4 = .ok (.iload_n 2, 1) := by decide +kernel
theorem dX5_takeNews_5 : decode cX5_takeNews 5 = .ok (.iconst 4, 1) := by decide +kernel
theorem dX5_takeNews_6 : decode cX5_takeNews 6 = .ok (.invokevirtual 167, 3) := by decide +kernel
theorem dX5_takeNews_9 : decode cX5_takeNews 9 = .ok (.istore_n 3, 1) := by decide +kernel
theorem dX5_takeNews_10 : decode cX5_takeNews 10 = .ok (.iconst 0, 1) := by decide +kernel
theorem dX5_takeNews_11 : decode cX5_takeNews 11 = .ok (.istore 4, 2) := by decide +kernel
theorem dX5_takeNews_13 : decode cX5_takeNews 13 = .ok (.iload 4, 2) := by decide +kernel
theorem dX5_takeNews_15 : decode cX5_takeNews 15 = .ok (.iload_n 3, 1) := by decide +kernel
theorem dX5_takeNews_16 : decode cX5_takeNews 16 = .ok (.if_icmp .ge 70, 3) := by decide +kernel
theorem dX5_takeNews_19 : decode cX5_takeNews 19 = .ok (.aload_n 0, 1) := by decide +kernel
theorem dX5_takeNews_20 : decode cX5_takeNews 20 = .ok (.getfield 28, 3) := by decide +kernel
theorem dX5_takeNews_23 : decode cX5_takeNews 23 = .ok (.iload_n 2, 1) := by decide +kernel
theorem dX5_takeNews_24 : decode cX5_takeNews 24 = .ok (.iload 4, 2) := by decide +kernel
theorem dX5_takeNews_26 : decode cX5_takeNews 26 = .ok (.iconst 1, 1) := by decide +kernel
theorem dX5_takeNews_27 : decode cX5_takeNews 27 = .ok (.invokevirtual 291, 3) := by decide +kernel
theorem dX5_takeNews_30 : decode cX5_takeNews 30 = .ok (.istore 5, 2) := by decide +kernel
theorem dX5_takeNews_32 : decode cX5_takeNews 32 = .ok (.aload_n 0, 1) := by decide +kernel
theorem dX5_takeNews_33 : decode cX5_takeNews 33 = .ok (.iconst 0, 1) := by decide +kernel
theorem dX5_takeNews_34 : decode cX5_takeNews 34 = .ok (.iload 5, 2) := by decide +kernel
theorem dX5_takeNews_36 : decode cX5_takeNews 36 = .ok (.iadd, 1) := by decide +kernel
theorem dX5_takeNews_37 : decode cX5_takeNews 37 = .ok (.iconst 1, 1) := by decide +kernel
theorem dX5_takeNews_38 : decode cX5_takeNews 38 = .ok (.isub, 1) := by decide +kernel
theorem dX5_takeNews_39 : decode cX5_takeNews 39 = .ok (.invokevirtual 225, 3) := by decide +kernel
theorem dX5_takeNews_42 : decode cX5_takeNews 42 = .ok (.aload_n 1, 1) := by decide +kernel
theorem dX5_takeNews_43 : decode cX5_takeNews 43 = .ok (.aload_n 0, 1) := by decide +kernel
theorem dX5_takeNews_44 : decode cX5_takeNews 44 = .ok (.getfield 28, 3) := by decide +kernel
theorem dX5_takeNews_47 : decode cX5_takeNews 47 = .ok (.iload_n 2, 1) := by decide +kernel
theorem dX5_takeNews_48 : decode cX5_takeNews 48 = .ok (.iload 4, 2) := by decide +kernel
theorem dX5_takeNews_50 : decode cX5_takeNews 50 = .ok (.iconst 0, 1) := by decide +kernel
theorem dX5_takeNews_51 : decode cX5_takeNews 51 = .ok (.invokevirtual 291, 3) := by decide +kernel
theorem dX5_takeNews_54 : decode cX5_takeNews 54 = .ok (.iload 5, 2) := by decide +kernel
theorem dX5_takeNews_56 : decode cX5_takeNews 56 = .ok (.aload_n 0, 1) := by decide +kernel
theorem dX5_takeNews_57 : decode cX5_takeNews 57 = .ok (.getfield 28, 3) := by decide +kernel
theorem dX5_takeNews_60 : decode cX5_takeNews 60 = .ok (.iload_n 2, 1) := by decide +kernel
theorem dX5_takeNews_61 : decode cX5_takeNews 61 = .ok (.iload 4, 2) := by decide +kernel
theorem dX5_takeNews_63 : decode cX5_takeNews 63 = .ok (.iconst 2, 1) := by decide +kernel
theorem dX5_takeNews_64 : decode cX5_takeNews 64 = .ok (.invokevirtual 291, 3) := by decide +kernel
theorem dX5_takeNews_67 : decode cX5_takeNews 67 = .ok (.iload_n 2, 1) := by decide +kernel
theorem dX5_takeNews_68 : decode cX5_takeNews 68 = .ok (.invokevirtual 294, 3) := by decide +kernel
theorem dX5_takeNews_71 : decode cX5_takeNews 71 = .ok (.ifCond .eq 9, 3) := by decide +kernel
theorem dX5_takeNews_74 : decode cX5_takeNews 74 = .ok (.aload_n 0, 1) := by decide +kernel
theorem dX5_takeNews_75 : decode cX5_takeNews 75 = .ok (.bipush 10, 2) := by decide +kernel
theorem dX5_takeNews_77 : decode cX5_takeNews 77 = .ok (.invokevirtual 225, 3) := by decide +kernel
theorem dX5_takeNews_80 : decode cX5_takeNews 80 = .ok (.iinc 4 1, 3) := by decide +kernel
theorem dX5_takeNews_83 : decode cX5_takeNews 83 = .ok (.goto (-70), 3) := by decide +kernel
theorem dX5_takeNews_86 : decode cX5_takeNews 86 = .ok (.return_, 1) := by decide +kernel
theorem dX5_respond_0 : decode cX5_respond 0 = .ok (.aload_n 0, 1) := by decide +kernel
theorem dX5_respond_1 : decode cX5_respond 1 = .ok (.getfield 28, 3) := by decide +kernel
theorem dX5_respond_4 : decode cX5_respond 4 = .ok (.iload_n 2, 1) := by decide +kernel
theorem dX5_respond_5 : decode cX5_respond 5 = .ok (.iconst 1, 1) := by decide +kernel
theorem dX5_respond_6 : decode cX5_respond 6 = .ok (.invokevirtual 167, 3) := by decide +kernel
theorem dX5_respond_9 : decode cX5_respond 9 = .ok (.istore_n 3, 1) := by decide +kernel
theorem dX5_respond_10 : decode cX5_respond 10 = .ok (.aload_n 0, 1) := by decide +kernel
theorem dX5_respond_11 : decode cX5_respond 11 = .ok (.getfield 28, 3) := by decide +kernel
theorem dX5_respond_14 : decode cX5_respond 14 = .ok (.iload_n 2, 1) := by decide +kernel
theorem dX5_respond_15 : decode cX5_respond 15 = .ok (.iconst 3, 1) := by decide +kernel
theorem dX5_respond_16 : decode cX5_respond 16 = .ok (.invokevirtual 167, 3) := by decide +kernel
theorem dX5_respond_19 : decode cX5_respond 19 = .ok (.istore 4, 2) := by decide +kernel
theorem dX5_respond_21 : decode cX5_respond 21 = .ok (.aload_n 0, 1) := by decide +kernel
theorem dX5_respond_22 : decode cX5_respond 22 = .ok (.getfield 28, 3) := by decide +kernel
theorem dX5_respond_25 : decode cX5_respond 25 = .ok (.iload_n 2, 1) := by decide +kernel
theorem dX5_respond_26 : decode cX5_respond 26 = .ok (.iconst 0, 1) := by decide +kernel
theorem dX5_respond_27 : decode cX5_respond 27 = .ok (.invokevirtual 167, 3) := by decide +kernel
theorem dX5_respond_30 : decode cX5_respond 30 = .ok (.tableswitch 103 1 5 #[34, 46, 58, 83, 91], 34) := by decide +kernel
theorem dX5_respond_64 : decode cX5_respond 64 = .ok (.aload_n 0, 1) := by decide +kernel
theorem dX5_respond_65 : decode cX5_respond 65 = .ok (.aload_n 1, 1) := by decide +kernel
theorem dX5_respond_66 : decode cX5_respond 66 = .ok (.iconst 3, 1) := by decide +kernel
theorem dX5_respond_67 : decode cX5_respond 67 = .ok (.iload_n 3, 1) := by decide +kernel
theorem dX5_respond_68 : decode cX5_respond 68 = .ok (.iload 4, 2) := by decide +kernel
theorem dX5_respond_70 : decode cX5_respond 70 = .ok (.invokevirtual 119, 3) := by decide +kernel
theorem dX5_respond_73 : decode cX5_respond 73 = .ok (.pop, 1) := by decide +kernel
theorem dX5_respond_74 : decode cX5_respond 74 = .ok (.iconst 1, 1) := by decide +kernel
theorem dX5_respond_75 : decode cX5_respond 75 = .ok (.ireturn, 1) := by decide +kernel
theorem dX5_respond_76 : decode cX5_respond 76 = .ok (.aload_n 0, 1) := by decide +kernel
theorem dX5_respond_77 : decode cX5_respond 77 = .ok (.aload_n 1, 1) := by decide +kernel
theorem dX5_respond_78 : decode cX5_respond 78 = .ok (.iconst 1, 1) := by decide +kernel
theorem dX5_respond_79 : decode cX5_respond 79 = .ok (.iload 4, 2) := by decide +kernel
theorem dX5_respond_81 : decode cX5_respond 81 = .ok (.iload_n 3, 1) := by decide +kernel
theorem dX5_respond_82 : decode cX5_respond 82 = .ok (.invokevirtual 119, 3) := by decide +kernel
theorem dX5_respond_85 : decode cX5_respond 85 = .ok (.pop, 1) := by decide +kernel
theorem dX5_respond_86 : decode cX5_respond 86 = .ok (.iconst 1, 1) := by decide +kernel
theorem dX5_respond_87 : decode cX5_respond 87 = .ok (.ireturn, 1) := by decide +kernel
theorem dX5_respond_88 : decode cX5_respond 88 = .ok (.iload 4, 2) := by decide +kernel
theorem dX5_respond_90 : decode cX5_respond 90 = .ok (.iconst (-1), 1) := by decide +kernel
theorem dX5_respond_91 : decode cX5_respond 91 = .ok (.if_icmp .ne 10, 3) := by decide +kernel
theorem dX5_respond_94 : decode cX5_respond 94 = .ok (.aload_n 1, 1) := by decide +kernel
theorem dX5_respond_95 : decode cX5_respond 95 = .ok (.iload_n 3, 1) := by decide +kernel
theorem dX5_respond_96 : decode cX5_respond 96 = .ok (.invokevirtual 298, 3) := by decide +kernel
theorem dX5_respond_99 : decode cX5_respond 99 = .ok (.iconst 0, 1) := by decide +kernel
theorem dX5_respond_100 : decode cX5_respond 100 = .ok (.ireturn, 1) := by decide +kernel
theorem dX5_respond_101 : decode cX5_respond 101 = .ok (.aload_n 0, 1) := by decide +kernel
theorem dX5_respond_102 : decode cX5_respond 102 = .ok (.aload_n 1, 1) := by decide +kernel
theorem dX5_respond_103 : decode cX5_respond 103 = .ok (.iconst 4, 1) := by decide +kernel
theorem dX5_respond_104 : decode cX5_respond 104 = .ok (.iload 4, 2) := by decide +kernel
theorem dX5_respond_106 : decode cX5_respond 106 = .ok (.iload_n 3, 1) := by decide +kernel
theorem dX5_respond_107 : decode cX5_respond 107 = .ok (.invokevirtual 119, 3) := by decide +kernel
theorem dX5_respond_110 : decode cX5_respond 110 = .ok (.pop, 1) := by decide +kernel
theorem dX5_respond_111 : decode cX5_respond 111 = .ok (.iconst 1, 1) := by decide +kernel
theorem dX5_respond_112 : decode cX5_respond 112 = .ok (.ireturn, 1) := by decide +kernel
theorem dX5_respond_113 : decode cX5_respond 113 = .ok (.aload_n 1, 1) := by decide +kernel
theorem dX5_respond_114 : decode cX5_respond 114 = .ok (.iload 4, 2) := by decide +kernel
theorem dX5_respond_116 : decode cX5_respond 116 = .ok (.invokevirtual 298, 3) := by decide +kernel
theorem dX5_respond_119 : decode cX5_respond 119 = .ok (.iconst 0, 1) := by decide +kernel
theorem dX5_respond_120 : decode cX5_respond 120 = .ok (.ireturn, 1) := by decide +kernel
theorem dX5_respond_121 : decode cX5_respond 121 = .ok (.aload_n 0, 1) := by decide +kernel
theorem dX5_respond_122 : decode cX5_respond 122 = .ok (.aload_n 1, 1) := by decide +kernel
theorem dX5_respond_123 : decode cX5_respond 123 = .ok (.bipush 6, 2) := by decide +kernel
theorem dX5_respond_125 : decode cX5_respond 125 = .ok (.iload_n 3, 1) := by decide +kernel
theorem dX5_respond_126 : decode cX5_respond 126 = .ok (.iconst (-1), 1) := by decide +kernel
theorem dX5_respond_127 : decode cX5_respond 127 = .ok (.invokevirtual 119, 3) := by decide +kernel
theorem dX5_respond_130 : decode cX5_respond 130 = .ok (.pop, 1) := by decide +kernel
theorem dX5_respond_131 : decode cX5_respond 131 = .ok (.iconst 1, 1) := by decide +kernel
theorem dX5_respond_132 : decode cX5_respond 132 = .ok (.ireturn, 1) := by decide +kernel
theorem dX5_respond_133 : decode cX5_respond 133 = .ok (.iconst 0, 1) := by decide +kernel
theorem dX5_respond_134 : decode cX5_respond 134 = .ok (.ireturn, 1) := by decide +kernel
theorem dX5_isCut_0 : decode cX5_isCut 0 = .ok (.iload_n 1, 1) := by decide +kernel
theorem dX5_isCut_1 : decode cX5_isCut 1 = .ok (.invokestatic 69, 3) := by decide +kernel
theorem dX5_isCut_4 : decode cX5_isCut 4 = .ok (.ifCond .eq 29, 3) := by decide +kernel
theorem dX5_isCut_7 : decode cX5_isCut 7 = .ok (.iload_n 2, 1) := by decide +kernel
theorem dX5_isCut_8 : decode cX5_isCut 8 = .ok (.invokestatic 69, 3) := by decide +kernel
theorem dX5_isCut_11 : decode cX5_isCut 11 = .ok (.ifCond .eq 22, 3) := by decide +kernel
theorem dX5_isCut_14 : decode cX5_isCut 14 = .ok (.aload_n 0, 1) := by decide +kernel
theorem dX5_isCut_15 : decode cX5_isCut 15 = .ok (.getfield 21, 3) := by decide +kernel
theorem dX5_isCut_18 : decode cX5_isCut 18 = .ok (.iload_n 1, 1) := by decide +kernel
theorem dX5_isCut_19 : decode cX5_isCut 19 = .ok (.laload, 1) := by decide +kernel
theorem dX5_isCut_20 : decode cX5_isCut 20 = .ok (.iload_n 2, 1) := by decide +kernel
theorem dX5_isCut_21 : decode cX5_isCut 21 = .ok (.lushr, 1) := by decide +kernel
theorem dX5_isCut_22 : decode cX5_isCut 22 = .ok (.lconst 1, 1) := by decide +kernel
theorem dX5_isCut_23 : decode cX5_isCut 23 = .ok (.land, 1) := by decide +kernel
theorem dX5_isCut_24 : decode cX5_isCut 24 = .ok (.lconst 0, 1) := by decide +kernel
theorem dX5_isCut_25 : decode cX5_isCut 25 = .ok (.lcmp, 1) := by decide +kernel
theorem dX5_isCut_26 : decode cX5_isCut 26 = .ok (.ifCond .eq 7, 3) := by decide +kernel
theorem dX5_isCut_29 : decode cX5_isCut 29 = .ok (.iconst 1, 1) := by decide +kernel
theorem dX5_isCut_30 : decode cX5_isCut 30 = .ok (.goto 4, 3) := by decide +kernel
theorem dX5_isCut_33 : decode cX5_isCut 33 = .ok (.iconst 0, 1) := by decide +kernel
theorem dX5_isCut_34 : decode cX5_isCut 34 = .ok (.ireturn, 1) := by decide +kernel
theorem dX5_setLink_0 : decode cX5_setLink 0 = .ok (.iload_n 1, 1) := by decide +kernel
theorem dX5_setLink_1 : decode cX5_setLink 1 = .ok (.invokestatic 69, 3) := by decide +kernel
theorem dX5_setLink_4 : decode cX5_setLink 4 = .ok (.ifCond .eq 20, 3) := by decide +kernel
theorem dX5_setLink_7 : decode cX5_setLink 7 = .ok (.iload_n 2, 1) := by decide +kernel
theorem dX5_setLink_8 : decode cX5_setLink 8 = .ok (.invokestatic 69, 3) := by decide +kernel
theorem dX5_setLink_11 : decode cX5_setLink 11 = .ok (.ifCond .eq 13, 3) := by decide +kernel
theorem dX5_setLink_14 : decode cX5_setLink 14 = .ok (.aload_n 0, 1) := by decide +kernel
theorem dX5_setLink_15 : decode cX5_setLink 15 = .ok (.iload_n 1, 1) := by decide +kernel
theorem dX5_setLink_16 : decode cX5_setLink 16 = .ok (.iload_n 2, 1) := by decide +kernel
theorem dX5_setLink_17 : decode cX5_setLink 17 = .ok (.invokevirtual 277, 3) := by decide +kernel
theorem dX5_setLink_20 : decode cX5_setLink 20 = .ok (.iload_n 3, 1) := by decide +kernel
theorem dX5_setLink_21 : decode cX5_setLink 21 = .ok (.if_icmp .ne 5, 3) := by decide +kernel
theorem dX5_setLink_24 : decode cX5_setLink 24 = .ok (.iconst 0, 1) := by decide +kernel
theorem dX5_setLink_25 : decode cX5_setLink 25 = .ok (.ireturn, 1) := by decide +kernel
theorem dX5_setLink_26 : decode cX5_setLink 26 = .ok (.aload_n 0, 1) := by decide +kernel
theorem dX5_setLink_27 : decode cX5_setLink 27 = .ok (.getfield 21, 3) := by decide +kernel
theorem dX5_setLink_30 : decode cX5_setLink 30 = .ok (.iload_n 1, 1) := by decide +kernel
theorem dX5_setLink_31 : decode cX5_setLink 31 = .ok (.dup2, 1) := by decide +kernel
theorem dX5_setLink_32 : decode cX5_setLink 32 = .ok (.laload, 1) := by decide +kernel
theorem dX5_setLink_33 : decode cX5_setLink 33 = .ok (.lconst 1, 1) := by decide +kernel
theorem dX5_setLink_34 : decode cX5_setLink 34 = .ok (.iload_n 2, 1) := by decide +kernel
theorem dX5_setLink_35 : decode cX5_setLink 35 = .ok (.lshl, 1) := by decide +kernel
theorem dX5_setLink_36 : decode cX5_setLink 36 = .ok (.lxor, 1) := by decide +kernel
theorem dX5_setLink_37 : decode cX5_setLink 37 = .ok (.lastore, 1) := by decide +kernel
theorem dX5_setLink_38 : decode cX5_setLink 38 = .ok (.aload_n 0, 1) := by decide +kernel
theorem dX5_setLink_39 : decode cX5_setLink 39 = .ok (.getfield 21, 3) := by decide +kernel
theorem dX5_setLink_42 : decode cX5_setLink 42 = .ok (.iload_n 2, 1) := by decide +kernel
theorem dX5_setLink_43 : decode cX5_setLink 43 = .ok (.dup2, 1) := by decide +kernel
theorem dX5_setLink_44 : decode cX5_setLink 44 = .ok (.laload, 1) := by decide +kernel
theorem dX5_setLink_45 : decode cX5_setLink 45 = .ok (.lconst 1, 1) := by decide +kernel
theorem dX5_setLink_46 : decode cX5_setLink 46 = .ok (.iload_n 1, 1) := by decide +kernel
theorem dX5_setLink_47 : decode cX5_setLink 47 = .ok (.lshl, 1) := by decide +kernel
theorem dX5_setLink_48 : decode cX5_setLink 48 = .ok (.lxor, 1) := by decide +kernel
theorem dX5_setLink_49 : decode cX5_setLink 49 = .ok (.lastore, 1) := by decide +kernel
theorem dX5_setLink_50 : decode cX5_setLink 50 = .ok (.iconst 1, 1) := by decide +kernel
theorem dX5_setLink_51 : decode cX5_setLink 51 = .ok (.ireturn, 1) := by decide +kernel
theorem dX5_tally_0 : decode cX5_tally 0 = .ok (.iload_n 1, 1) := by decide +kernel
theorem dX5_tally_1 : decode cX5_tally 1 = .ok (.ifCond .lt 19, 3) := by decide +kernel
theorem dX5_tally_4 : decode cX5_tally 4 = .ok (.iload_n 1, 1) := by decide +kernel
theorem dX5_tally_5 : decode cX5_tally 5 = .ok (.bipush 12, 2) := by decide +kernel
theorem dX5_tally_7 : decode cX5_tally 7 = .ok (.if_icmp .ge 13, 3) := by decide +kernel
theorem dX5_tally_10 : decode cX5_tally 10 = .ok (.aload_n 0, 1) := by decide +kernel
theorem dX5_tally_11 : decode cX5_tally 11 = .ok (.getfield 41, 3) := by decide +kernel
theorem dX5_tally_14 : decode cX5_tally 14 = .ok (.iload_n 1, 1) := by decide +kernel
theorem dX5_tally_15 : decode cX5_tally 15 = .ok (.dup2, 1) := by decide +kernel
theorem dX5_tally_16 : decode cX5_tally 16 = .ok (.iaload, 1) := by decide +kernel
theorem dX5_tally_17 : decode cX5_tally 17 = .ok (.iconst 1, 1) := by decide +kernel
theorem dX5_tally_18 : decode cX5_tally 18 = .ok (.iadd, 1) := by decide +kernel
theorem dX5_tally_19 : decode cX5_tally 19 = .ok (.iastore, 1) := by decide +kernel
theorem dX5_tally_20 : decode cX5_tally 20 = .ok (.return_, 1) := by decide +kernel
theorem dX5_firstUp_0 : decode cX5_firstUp 0 = .ok (.iconst 0, 1) := by decide +kernel
theorem dX5_firstUp_1 : decode cX5_firstUp 1 = .ok (.istore_n 1, 1) := by decide +kernel
theorem dX5_firstUp_2 : decode cX5_firstUp 2 = .ok (.iload_n 1, 1) := by decide +kernel
theorem dX5_firstUp_3 : decode cX5_firstUp 3 = .ok (.bipush 64, 2) := by decide +kernel
theorem dX5_firstUp_5 : decode cX5_firstUp 5 = .ok (.if_icmp .ge 21, 3) := by decide +kernel
theorem dX5_firstUp_8 : decode cX5_firstUp 8 = .ok (.aload_n 0, 1) := by decide +kernel
theorem dX5_firstUp_9 : decode cX5_firstUp 9 = .ok (.iload_n 1, 1) := by decide +kernel
theorem dX5_firstUp_10 : decode cX5_firstUp 10 = .ok (.invokevirtual 171, 3) := by decide +kernel
theorem dX5_firstUp_13 : decode cX5_firstUp 13 = .ok (.astore_n 2, 1) := by decide +kernel
theorem dX5_firstUp_14 : decode cX5_firstUp 14 = .ok (.aload_n 2, 1) := by decide +kernel
theorem dX5_firstUp_15 : decode cX5_firstUp 15 = .ok (.ifnull 5, 3) := by decide +kernel
theorem dX5_firstUp_18 : decode cX5_firstUp 18 = .ok (.aload_n 2, 1) := by decide +kernel
theorem dX5_firstUp_19 : decode cX5_firstUp 19 = .ok (.areturn, 1) := by decide +kernel
theorem dX5_firstUp_20 : decode cX5_firstUp 20 = .ok (.iinc 1 1, 3) := by decide +kernel
theorem dX5_firstUp_23 : decode cX5_firstUp 23 = .ok (.goto (-21), 3) := by decide +kernel
theorem dX5_firstUp_26 : decode cX5_firstUp 26 = .ok (.aconst_null, 1) := by decide +kernel
theorem dX5_firstUp_27 : decode cX5_firstUp 27 = .ok (.areturn, 1) := by decide +kernel
theorem dX5_firstApart_0 : decode cX5_firstApart 0 = .ok (.aload_n 0, 1) := by decide +kernel
theorem dX5_firstApart_1 : decode cX5_firstApart 1 = .ok (.invokevirtual 301, 3) := by decide +kernel
theorem dX5_firstApart_4 : decode cX5_firstApart 4 = .ok (.astore_n 2, 1) := by decide +kernel
theorem dX5_firstApart_5 : decode cX5_firstApart 5 = .ok (.aload_n 2, 1) := by decide +kernel
theorem dX5_firstApart_6 : decode cX5_firstApart 6 = .ok (.ifnonnull 5, 3) := by decide +kernel
theorem dX5_firstApart_9 : decode cX5_firstApart 9 = .ok (.iconst (-1), 1) := by decide +kernel
theorem dX5_firstApart_10 : decode cX5_firstApart 10 = .ok (.ireturn, 1) := by decide +kernel
theorem dX5_firstApart_11 : decode cX5_firstApart 11 = .ok (.aload_n 2, 1) := by decide +kernel
theorem dX5_firstApart_12 : decode cX5_firstApart 12 = .ok (.getfield 181, 3) := by decide +kernel
theorem dX5_firstApart_15 : decode cX5_firstApart 15 = .ok (.iconst 1, 1) := by decide +kernel
theorem dX5_firstApart_16 : decode cX5_firstApart 16 = .ok (.iadd, 1) := by decide +kernel
theorem dX5_firstApart_17 : decode cX5_firstApart 17 = .ok (.istore_n 3, 1) := by decide +kernel
theorem dX5_firstApart_18 : decode cX5_firstApart 18 = .ok (.iload_n 3, 1) := by decide +kernel
theorem dX5_firstApart_19 : decode cX5_firstApart 19 = .ok (.bipush 64, 2) := by decide +kernel
theorem dX5_firstApart_21 : decode cX5_firstApart 21 = .ok (.if_icmp .ge 62, 3) := by decide +kernel
theorem dX5_firstApart_24 : decode cX5_firstApart 24 = .ok (.aload_n 0, 1) := by decide +kernel
theorem dX5_firstApart_25 : decode cX5_firstApart 25 = .ok (.iload_n 3, 1) := by decide +kernel
theorem dX5_firstApart_26 : decode cX5_firstApart 26 = .ok (.invokevirtual 171, 3) := by decide +kernel
theorem dX5_firstApart_29 : decode cX5_firstApart 29 = .ok (.astore 4, 2) := by decide +kernel
theorem dX5_firstApart_31 : decode cX5_firstApart 31 = .ok (.aload 4, 2) := by decide +kernel
theorem dX5_firstApart_33 : decode cX5_firstApart 33 = .ok (.ifnonnull 7, 3) := by decide +kernel
theorem dX5_firstApart_36 : decode cX5_firstApart 36 = .ok (.iconst (-1), 1) := by decide +kernel
theorem dX5_firstApart_37 : decode cX5_firstApart 37 = .ok (.goto 9, 3) := by decide +kernel
theorem dX5_firstApart_40 : decode cX5_firstApart 40 = .ok (.aload_n 2, 1) := by decide +kernel
theorem dX5_firstApart_41 : decode cX5_firstApart 41 = .ok (.aload 4, 2) := by decide +kernel
theorem dX5_firstApart_43 : decode cX5_firstApart 43 = .ok (.invokevirtual 305, 3) := by decide +kernel
theorem dX5_firstApart_46 : decode cX5_firstApart 46 = .ok (.istore 5, 2) := by decide +kernel
theorem dX5_firstApart_48 : decode cX5_firstApart 48 = .ok (.iload 5, 2) := by decide +kernel
theorem dX5_firstApart_50 : decode cX5_firstApart 50 = .ok (.iconst (-1), 1) := by decide +kernel
theorem dX5_firstApart_51 : decode cX5_firstApart 51 = .ok (.if_icmp .eq 26, 3) := by decide +kernel
theorem dX5_firstApart_54 : decode cX5_firstApart 54 = .ok (.iload_n 1, 1) := by decide +kernel
theorem dX5_firstApart_55 : decode cX5_firstApart 55 = .ok (.ifCond .ne 10, 3) := by decide +kernel
theorem dX5_firstApart_58 : decode cX5_firstApart 58 = .ok (.aload_n 2, 1) := by decide +kernel
theorem dX5_firstApart_59 : decode cX5_firstApart 59 = .ok (.getfield 181, 3) := by decide +kernel
theorem dX5_firstApart_62 : decode cX5_firstApart 62 = .ok (.goto 14, 3) := by decide +kernel
theorem dX5_firstApart_65 : decode cX5_firstApart 65 = .ok (.iload_n 1, 1) := by decide +kernel
theorem dX5_firstApart_66 : decode cX5_firstApart 66 = .ok (.iconst 1, 1) := by decide +kernel
theorem dX5_firstApart_67 : decode cX5_firstApart 67 = .ok (.if_icmp .ne 7, 3) := by decide +kernel
theorem dX5_firstApart_70 : decode cX5_firstApart 70 = .ok (.iload_n 3, 1) := by decide +kernel
theorem dX5_firstApart_71 : decode cX5_firstApart 71 = .ok (.goto 5, 3) := by decide +kernel
theorem dX5_firstApart_74 : decode cX5_firstApart 74 = .ok (.iload 5, 2) := by decide +kernel
theorem dX5_firstApart_76 : decode cX5_firstApart 76 = .ok (.ireturn, 1) := by decide +kernel
theorem dX5_firstApart_77 : decode cX5_firstApart 77 = .ok (.iinc 3 1, 3) := by decide +kernel
theorem dX5_firstApart_80 : decode cX5_firstApart 80 = .ok (.goto (-62), 3) := by decide +kernel
theorem dX5_firstApart_83 : decode cX5_firstApart 83 = .ok (.iconst (-1), 1) := by decide +kernel
theorem dX5_firstApart_84 : decode cX5_firstApart 84 = .ok (.ireturn, 1) := by decide +kernel
theorem dX5_countUpWith_0 : decode cX5_countUpWith 0 = .ok (.iconst 0, 1) := by decide +kernel
theorem dX5_countUpWith_1 : decode cX5_countUpWith 1 = .ok (.istore_n 3, 1) := by decide +kernel
theorem dX5_countUpWith_2 : decode cX5_countUpWith 2 = .ok (.iconst 0, 1) := by decide +kernel
theorem dX5_countUpWith_3 : decode cX5_countUpWith 3 = .ok (.istore 4, 2) := by decide +kernel
theorem dX5_countUpWith_5 : decode cX5_countUpWith 5 = .ok (.iload 4, 2) := by decide +kernel
theorem dX5_countUpWith_7 : decode cX5_countUpWith 7 = .ok (.bipush 64, 2) := by decide +kernel
theorem dX5_countUpWith_9 : decode cX5_countUpWith 9 = .ok (.if_icmp .ge 49, 3) := by decide +kernel
theorem dX5_countUpWith_12 : decode cX5_countUpWith 12 = .ok (.aload_n 0, 1) := by decide +kernel
theorem dX5_countUpWith_13 : decode cX5_countUpWith 13 = .ok (.iload 4, 2) := by decide +kernel
theorem dX5_countUpWith_15 : decode cX5_countUpWith 15 = .ok (.invokevirtual 171, 3) := by decide +kernel
theorem dX5_countUpWith_18 : decode cX5_countUpWith 18 = .ok (.astore 5, 2) := by decide +kernel
theorem dX5_countUpWith_20 : decode cX5_countUpWith 20 = .ok (.iload 4, 2) := by decide +kernel
theorem dX5_countUpWith_22 : decode cX5_countUpWith 22 = .ok (.iload_n 1, 1) := by decide +kernel
theorem dX5_countUpWith_23 : decode cX5_countUpWith 23 = .ok (.if_icmp .eq 29, 3) := by decide +kernel
theorem dX5_countUpWith_26 : decode cX5_countUpWith 26 = .ok (.aload 5, 2) := by decide +kernel
theorem dX5_countUpWith_28 : decode cX5_countUpWith 28 = .ok (.ifnull 24, 3) := by decide +kernel
theorem dX5_countUpWith_31 : decode cX5_countUpWith 31 = .ok (.iload_n 1, 1) := by decide +kernel
theorem dX5_countUpWith_32 : decode cX5_countUpWith 32 = .ok (.invokestatic 69, 3) := by decide +kernel
theorem dX5_countUpWith_35 : decode cX5_countUpWith 35 = .ok (.ifCond .eq 17, 3) := by decide +kernel
theorem dX5_countUpWith_38 : decode cX5_countUpWith 38 = .ok (.aload 5, 2) := by decide +kernel
theorem dX5_countUpWith_40 : decode cX5_countUpWith 40 = .ok (.getfield 222, 3) := by decide +kernel
theorem dX5_countUpWith_43 : decode cX5_countUpWith 43 = .ok (.iload_n 1, 1) := by decide +kernel
theorem dX5_countUpWith_44 : decode cX5_countUpWith 44 = .ok (.iaload, 1) := by decide +kernel
theorem dX5_countUpWith_45 : decode cX5_countUpWith 45 = .ok (.iload_n 2, 1) := by decide +kernel
theorem dX5_countUpWith_46 : decode cX5_countUpWith 46 = .ok (.if_icmp .ne 6, 3) := by decide +kernel
theorem dX5_countUpWith_49 : decode cX5_countUpWith 49 = .ok (.iinc 3 1, 3) := by decide +kernel
theorem dX5_countUpWith_52 : decode cX5_countUpWith 52 = .ok (.iinc 4 1, 3) := by decide +kernel
theorem dX5_countUpWith_55 : decode cX5_countUpWith 55 = .ok (.goto (-50), 3) := by decide +kernel
theorem dX5_countUpWith_58 : decode cX5_countUpWith 58 = .ok (.iload_n 3, 1) := by decide +kernel
theorem dX5_countUpWith_59 : decode cX5_countUpWith 59 = .ok (.ireturn, 1) := by decide +kernel
theorem dX5_become_0 : decode cX5_become 0 = .ok (.iconst 0, 1) := by decide +kernel
theorem dX5_become_1 : decode cX5_become 1 = .ok (.istore_n 2, 1) := by decide +kernel
theorem dX5_become_2 : decode cX5_become 2 = .ok (.iload_n 2, 1) := by decide +kernel
theorem dX5_become_3 : decode cX5_become 3 = .ok (.bipush 64, 2) := by decide +kernel
theorem dX5_become_5 : decode cX5_become 5 = .ok (.if_icmp .ge 50, 3) := by decide +kernel
theorem dX5_become_8 : decode cX5_become 8 = .ok (.aload_n 1, 1) := by decide +kernel
theorem dX5_become_9 : decode cX5_become 9 = .ok (.iload_n 2, 1) := by decide +kernel
theorem dX5_become_10 : decode cX5_become 10 = .ok (.invokevirtual 76, 3) := by decide +kernel
theorem dX5_become_13 : decode cX5_become 13 = .ok (.astore_n 3, 1) := by decide +kernel
theorem dX5_become_14 : decode cX5_become 14 = .ok (.aload_n 0, 1) := by decide +kernel
theorem dX5_become_15 : decode cX5_become 15 = .ok (.getfield 11, 3) := by decide +kernel
theorem dX5_become_18 : decode cX5_become 18 = .ok (.iload_n 2, 1) := by decide +kernel
theorem dX5_become_19 : decode cX5_become 19 = .ok (.aaload, 1) := by decide +kernel
theorem dX5_become_20 : decode cX5_become 20 = .ok (.astore 4, 2) := by decide +kernel
theorem dX5_become_22 : decode cX5_become 22 = .ok (.aload_n 3, 1) := by decide +kernel
theorem dX5_become_23 : decode cX5_become 23 = .ok (.ifnull 15, 3) := by decide +kernel
theorem dX5_become_26 : decode cX5_become 26 = .ok (.aload_n 0, 1) := by decide +kernel
theorem dX5_become_27 : decode cX5_become 27 = .ok (.iload_n 2, 1) := by decide +kernel
theorem dX5_become_28 : decode cX5_become 28 = .ok (.invokevirtual 174, 3) := by decide +kernel
theorem dX5_become_31 : decode cX5_become 31 = .ok (.aload_n 3, 1) := by decide +kernel
theorem dX5_become_32 : decode cX5_become 32 = .ok (.invokevirtual 308, 3) := by decide +kernel
theorem dX5_become_35 : decode cX5_become 35 = .ok (.goto 14, 3) := by decide +kernel
theorem dX5_become_38 : decode cX5_become 38 = .ok (.aload 4, 2) := by decide +kernel
theorem dX5_become_40 : decode cX5_become 40 = .ok (.ifnull 9, 3) := by decide +kernel
theorem dX5_become_43 : decode cX5_become 43 = .ok (.aload 4, 2) := by decide +kernel
theorem dX5_become_45 : decode cX5_become 45 = .ok (.iconst 0, 1) := by decide +kernel
theorem dX5_become_46 : decode cX5_become 46 = .ok (.putfield 51, 3) := by decide +kernel
theorem dX5_become_49 : decode cX5_become 49 = .ok (.iinc 2 1, 3) := by decide +kernel
theorem dX5_become_52 : decode cX5_become 52 = .ok (.goto (-50), 3) := by decide +kernel
theorem dX5_become_55 : decode cX5_become 55 = .ok (.aload_n 0, 1) := by decide +kernel
theorem dX5_become_56 : decode cX5_become 56 = .ok (.aload_n 1, 1) := by decide +kernel
theorem dX5_become_57 : decode cX5_become 57 = .ok (.getfield 17, 3) := by decide +kernel
theorem dX5_become_60 : decode cX5_become 60 = .ok (.putfield 17, 3) := by decide +kernel
theorem dX5_become_63 : decode cX5_become 63 = .ok (.aload_n 1, 1) := by decide +kernel
theorem dX5_become_64 : decode cX5_become 64 = .ok (.getfield 21, 3) := by decide +kernel
theorem dX5_become_67 : decode cX5_become 67 = .ok (.iconst 0, 1) := by decide +kernel
theorem dX5_become_68 : decode cX5_become 68 = .ok (.aload_n 0, 1) := by decide +kernel
theorem dX5_become_69 : decode cX5_become 69 = .ok (.getfield 21, 3) := by decide +kernel
theorem dX5_become_72 : decode cX5_become 72 = .ok (.iconst 0, 1) := by decide +kernel
theorem dX5_become_73 : decode cX5_become 73 = .ok (.bipush 64, 2) := by decide +kernel
theorem dX5_become_75 : decode cX5_become 75 = .ok (.invokestatic 250, 3) := by decide +kernel
theorem dX5_become_78 : decode cX5_become 78 = .ok (.aload_n 0, 1) := by decide +kernel
theorem dX5_become_79 : decode cX5_become 79 = .ok (.getfield 28, 3) := by decide +kernel
theorem dX5_become_82 : decode cX5_become 82 = .ok (.aload_n 1, 1) := by decide +kernel
theorem dX5_become_83 : decode cX5_become 83 = .ok (.getfield 28, 3) := by decide +kernel
theorem dX5_become_86 : decode cX5_become 86 = .ok (.invokevirtual 311, 3) := by decide +kernel
theorem dX5_become_89 : decode cX5_become 89 = .ok (.aload_n 0, 1) := by decide +kernel
theorem dX5_become_90 : decode cX5_become 90 = .ok (.getfield 37, 3) := by decide +kernel
theorem dX5_become_93 : decode cX5_become 93 = .ok (.aload_n 1, 1) := by decide +kernel
theorem dX5_become_94 : decode cX5_become 94 = .ok (.getfield 37, 3) := by decide +kernel
theorem dX5_become_97 : decode cX5_become 97 = .ok (.invokevirtual 314, 3) := by decide +kernel
theorem dX5_become_100 : decode cX5_become 100 = .ok (.aload_n 1, 1) := by decide +kernel
theorem dX5_become_101 : decode cX5_become 101 = .ok (.getfield 41, 3) := by decide +kernel
theorem dX5_become_104 : decode cX5_become 104 = .ok (.iconst 0, 1) := by decide +kernel
theorem dX5_become_105 : decode cX5_become 105 = .ok (.aload_n 0, 1) := by decide +kernel
theorem dX5_become_106 : decode cX5_become 106 = .ok (.getfield 41, 3) := by decide +kernel
theorem dX5_become_109 : decode cX5_become 109 = .ok (.iconst 0, 1) := by decide +kernel
theorem dX5_become_110 : decode cX5_become 110 = .ok (.bipush 12, 2) := by decide +kernel
theorem dX5_become_112 : decode cX5_become 112 = .ok (.invokestatic 250, 3) := by decide +kernel
theorem dX5_become_115 : decode cX5_become 115 = .ok (.return_, 1) := by decide +kernel
theorem dX5_sameAs_0 : decode cX5_sameAs 0 = .ok (.iconst 0, 1) := by decide +kernel
theorem dX5_sameAs_1 : decode cX5_sameAs 1 = .ok (.istore_n 2, 1) := by decide +kernel
theorem dX5_sameAs_2 : decode cX5_sameAs 2 = .ok (.iload_n 2, 1) := by decide +kernel
theorem dX5_sameAs_3 : decode cX5_sameAs 3 = .ok (.bipush 64, 2) := by decide +kernel
theorem dX5_sameAs_5 : decode cX5_sameAs 5 = .ok (.if_icmp .ge 82, 3) := by decide +kernel
theorem dX5_sameAs_8 : decode cX5_sameAs 8 = .ok (.aload_n 0, 1) := by decide +kernel
theorem dX5_sameAs_9 : decode cX5_sameAs 9 = .ok (.iload_n 2, 1) := by decide +kernel
theorem dX5_sameAs_10 : decode cX5_sameAs 10 = .ok (.invokevirtual 76, 3) := by decide +kernel
theorem dX5_sameAs_13 : decode cX5_sameAs 13 = .ok (.astore_n 3, 1) := by decide +kernel
theorem dX5_sameAs_14 : decode cX5_sameAs 14 = .ok (.aload_n 1, 1) := by decide +kernel
theorem dX5_sameAs_15 : decode cX5_sameAs 15 = .ok (.iload_n 2, 1) := by decide +kernel
theorem dX5_sameAs_16 : decode cX5_sameAs 16 = .ok (.invokevirtual 76, 3) := by decide +kernel
theorem dX5_sameAs_19 : decode cX5_sameAs 19 = .ok (.astore 4, 2) := by decide +kernel
theorem dX5_sameAs_21 : decode cX5_sameAs 21 = .ok (.aload_n 3, 1) := by decide +kernel
theorem dX5_sameAs_22 : decode cX5_sameAs 22 = .ok (.ifnonnull 7, 3) := by decide +kernel
theorem dX5_sameAs_25 : decode cX5_sameAs 25 = .ok (.iconst 1, 1) := by decide +kernel
theorem dX5_sameAs_26 : decode cX5_sameAs 26 = .ok (.goto 4, 3) := by decide +kernel
theorem dX5_sameAs_29 : decode cX5_sameAs 29 = .ok (.iconst 0, 1) := by decide +kernel
theorem dX5_sameAs_30 : decode cX5_sameAs 30 = .ok (.aload 4, 2) := by decide +kernel
theorem dX5_sameAs_32 : decode cX5_sameAs 32 = .ok (.ifnonnull 7, 3) := by decide +kernel
theorem dX5_sameAs_35 : decode cX5_sameAs 35 = .ok (.iconst 1, 1) := by decide +kernel
theorem dX5_sameAs_36 : decode cX5_sameAs 36 = .ok (.goto 4, 3) := by decide +kernel
theorem dX5_sameAs_39 : decode cX5_sameAs 39 = .ok (.iconst 0, 1) := by decide +kernel
theorem dX5_sameAs_40 : decode cX5_sameAs 40 = .ok (.if_icmp .ne 19, 3) := by decide +kernel
theorem dX5_sameAs_43 : decode cX5_sameAs 43 = .ok (.aload_n 0, 1) := by decide +kernel
theorem dX5_sameAs_44 : decode cX5_sameAs 44 = .ok (.getfield 21, 3) := by decide +kernel
theorem dX5_sameAs_47 : decode cX5_sameAs 47 = .ok (.iload_n 2, 1) := by decide +kernel
theorem dX5_sameAs_48 : decode cX5_sameAs 48 = .ok (.laload, 1) := by decide +kernel
theorem dX5_sameAs_49 : decode cX5_sameAs 49 = .ok (.aload_n 1, 1) := by decide +kernel
theorem dX5_sameAs_50 : decode cX5_sameAs 50 = .ok (.getfield 21, 3) := by decide +kernel
theorem dX5_sameAs_53 : decode cX5_sameAs 53 = .ok (.iload_n 2, 1) := by decide +kernel
theorem dX5_sameAs_54 : decode cX5_sameAs 54 = .ok (.laload, 1) := by decide +kernel
theorem dX5_sameAs_55 : decode cX5_sameAs 55 = .ok (.lcmp, 1) := by decide +kernel
theorem dX5_sameAs_56 : decode cX5_sameAs 56 = .ok (.ifCond .eq 5, 3) := by decide +kernel
theorem dX5_sameAs_59 : decode cX5_sameAs 59 = .ok (.iconst 0, 1) := by decide +kernel
theorem dX5_sameAs_60 : decode cX5_sameAs 60 = .ok (.ireturn, 1) := by decide +kernel
theorem dX5_sameAs_61 : decode cX5_sameAs 61 = .ok (.aload_n 3, 1) := by decide +kernel
theorem dX5_sameAs_62 : decode cX5_sameAs 62 = .ok (.ifnull 19, 3) := by decide +kernel
theorem dX5_sameAs_65 : decode cX5_sameAs 65 = .ok (.aload 4, 2) := by decide +kernel
theorem dX5_sameAs_67 : decode cX5_sameAs 67 = .ok (.ifnull 14, 3) := by decide +kernel
theorem dX5_sameAs_70 : decode cX5_sameAs 70 = .ok (.aload_n 3, 1) := by decide +kernel
theorem dX5_sameAs_71 : decode cX5_sameAs 71 = .ok (.aload 4, 2) := by decide +kernel
theorem dX5_sameAs_73 : decode cX5_sameAs 73 = .ok (.invokevirtual 317, 3) := by decide +kernel
theorem dX5_sameAs_76 : decode cX5_sameAs 76 = .ok (.ifCond .ne 5, 3) := by decide +kernel
theorem dX5_sameAs_79 : decode cX5_sameAs 79 = .ok (.iconst 0, 1) := by decide +kernel
theorem dX5_sameAs_80 : decode cX5_sameAs 80 = .ok (.ireturn, 1) := by decide +kernel
theorem dX5_sameAs_81 : decode cX5_sameAs 81 = .ok (.iinc 2 1, 3) := by decide +kernel
theorem dX5_sameAs_84 : decode cX5_sameAs 84 = .ok (.goto (-82), 3) := by decide +kernel
theorem dX5_sameAs_87 : decode cX5_sameAs 87 = .ok (.aload_n 0, 1) := by decide +kernel
theorem dX5_sameAs_88 : decode cX5_sameAs 88 = .ok (.getfield 17, 3) := by decide +kernel
theorem dX5_sameAs_91 : decode cX5_sameAs 91 = .ok (.aload_n 1, 1) := by decide +kernel
theorem dX5_sameAs_92 : decode cX5_sameAs 92 = .ok (.getfield 17, 3) := by decide +kernel
theorem dX5_sameAs_95 : decode cX5_sameAs 95 = .ok (.if_icmp .ne 21, 3) := by decide +kernel
theorem dX5_sameAs_98 : decode cX5_sameAs 98 = .ok (.aload_n 0, 1) := by decide +kernel
theorem dX5_sameAs_99 : decode cX5_sameAs 99 = .ok (.getfield 28, 3) := by decide +kernel
theorem dX5_sameAs_102 : decode cX5_sameAs 102 = .ok (.aload_n 1, 1) := by decide +kernel
theorem dX5_sameAs_103 : decode cX5_sameAs 103 = .ok (.getfield 28, 3) := by decide +kernel
theorem dX5_sameAs_106 : decode cX5_sameAs 106 = .ok (.invokevirtual 321, 3) := by decide +kernel
theorem dX5_sameAs_109 : decode cX5_sameAs 109 = .ok (.ifCond .eq 7, 3) := by decide +kernel
theorem dX5_sameAs_112 : decode cX5_sameAs 112 = .ok (.iconst 1, 1) := by decide +kernel
theorem dX5_sameAs_113 : decode cX5_sameAs 113 = .ok (.goto 4, 3) := by decide +kernel
theorem dX5_sameAs_116 : decode cX5_sameAs 116 = .ok (.iconst 0, 1) := by decide +kernel
theorem dX5_sameAs_117 : decode cX5_sameAs 117 = .ok (.ireturn, 1) := by decide +kernel
theorem dX6_init_0 : decode cX6_init 0 = .ok (.aload_n 0, 1) := by decide +kernel
theorem dX6_init_1 : decode cX6_init 1 = .ok (.invokespecial 1, 3) := by decide +kernel
theorem dX6_init_4 : decode cX6_init 4 = .ok (.aload_n 0, 1) := by decide +kernel
theorem dX6_init_5 : decode cX6_init 5 = .ok (.new 7, 3) := by decide +kernel
theorem dX6_init_8 : decode cX6_init 8 = .ok (.dup, 1) := by decide +kernel
theorem dX6_init_9 : decode cX6_init 9 = .ok (.invokespecial 9, 3) := by decide +kernel
theorem dX6_init_12 : decode cX6_init 12 = .ok (.putfield 10, 3) := by decide +kernel
theorem dX6_init_15 : decode cX6_init 15 = .ok (.aload_n 0, 1) := by decide +kernel
theorem dX6_init_16 : decode cX6_init 16 = .ok (.new 16, 3) := by decide +kernel
theorem dX6_init_19 : decode cX6_init 19 = .ok (.dup, 1) := by decide +kernel
theorem dX6_init_20 : decode cX6_init 20 = .ok (.invokespecial 18, 3) := by decide +kernel
theorem dX6_init_23 : decode cX6_init 23 = .ok (.putfield 19, 3) := by decide +kernel
theorem dX6_init_26 : decode cX6_init 26 = .ok (.aload_n 0, 1) := by decide +kernel
theorem dX6_init_27 : decode cX6_init 27 = .ok (.new 23, 3) := by decide +kernel
theorem dX6_init_30 : decode cX6_init 30 = .ok (.dup, 1) := by decide +kernel
theorem dX6_init_31 : decode cX6_init 31 = .ok (.invokespecial 25, 3) := by decide +kernel
theorem dX6_init_34 : decode cX6_init 34 = .ok (.putfield 26, 3) := by decide +kernel
theorem dX6_init_37 : decode cX6_init 37 = .ok (.aload_n 0, 1) := by decide +kernel
theorem dX6_init_38 : decode cX6_init 38 = .ok (.bipush 16, 2) := by decide +kernel
theorem dX6_init_40 : decode cX6_init 40 = .ok (.newarray .int, 2) := by decide +kernel
theorem dX6_init_42 : decode cX6_init 42 = .ok (.putfield 30, 3) := by decide +kernel
theorem dX6_init_45 : decode cX6_init 45 = .ok (.aload_n 0, 1) := by decide +kernel
theorem dX6_init_46 : decode cX6_init 46 = .ok (.getfield 30, 3) := by decide +kernel
theorem dX6_init_49 : decode cX6_init 49 = .ok (.iconst (-1), 1) := by decide +kernel
theorem dX6_init_50 : decode cX6_init 50 = .ok (.invokestatic 34, 3) := by decide +kernel
theorem dX6_init_53 : decode cX6_init 53 = .ok (.aload_n 0, 1) := by decide +kernel
theorem dX6_init_54 : decode cX6_init 54 = .ok (.bipush 64, 2) := by decide +kernel
theorem dX6_init_56 : decode cX6_init 56 = .ok (.newarray .int, 2) := by decide +kernel
theorem dX6_init_58 : decode cX6_init 58 = .ok (.putfield 40, 3) := by decide +kernel
theorem dX6_init_61 : decode cX6_init 61 = .ok (.aload_n 0, 1) := by decide +kernel
theorem dX6_init_62 : decode cX6_init 62 = .ok (.aconst_null, 1) := by decide +kernel
theorem dX6_init_63 : decode cX6_init 63 = .ok (.putfield 43, 3) := by decide +kernel
theorem dX6_init_66 : decode cX6_init 66 = .ok (.aload_n 0, 1) := by decide +kernel
theorem dX6_init_67 : decode cX6_init 67 = .ok (.aconst_null, 1) := by decide +kernel
theorem dX6_init_68 : decode cX6_init 68 = .ok (.putfield 46, 3) := by decide +kernel
theorem dX6_init_71 : decode cX6_init 71 = .ok (.return_, 1) := by decide +kernel
theorem dX6_member_0 : decode cX6_member 0 = .ok (.aload_n 0, 1) := by decide +kernel
theorem dX6_member_1 : decode cX6_member 1 = .ok (.aload_n 0, 1) := by decide +kernel
theorem dX6_member_2 : decode cX6_member 2 = .ok (.getfield 10, 3) := by decide +kernel
theorem dX6_member_5 : decode cX6_member 5 = .ok (.iconst 1, 1) := by decide +kernel
theorem dX6_member_6 : decode cX6_member 6 = .ok (.iload_n 1, 1) := by decide +kernel
theorem dX6_member_7 : decode cX6_member 7 = .ok (.iconst 0, 1) := by decide +kernel
theorem dX6_member_8 : decode cX6_member 8 = .ok (.lload_n 2, 1) := by decide +kernel
theorem dX6_member_9 : decode cX6_member 9 = .ok (.invokevirtual 49, 3) := by decide +kernel
theorem dX6_member_12 : decode cX6_member 12 = .ok (.invokevirtual 53, 3) := by decide +kernel
theorem dX6_member_15 : decode cX6_member 15 = .ok (.ireturn, 1) := by decide +kernel
theorem dX6_join_0 : decode cX6_join 0 = .ok (.aload_n 0, 1) := by decide +kernel
theorem dX6_join_1 : decode cX6_join 1 = .ok (.aload_n 0, 1) := by decide +kernel
theorem dX6_join_2 : decode cX6_join 2 = .ok (.getfield 10, 3) := by decide +kernel
theorem dX6_join_5 : decode cX6_join 5 = .ok (.iconst 2, 1) := by decide +kernel
theorem dX6_join_6 : decode cX6_join 6 = .ok (.iload_n 1, 1) := by decide +kernel
theorem dX6_join_7 : decode cX6_join 7 = .ok (.iload_n 2, 1) := by decide +kernel
theorem dX6_join_8 : decode cX6_join 8 = .ok (.lconst 0, 1) := by decide +kernel
theorem dX6_join_9 : decode cX6_join 9 = .ok (.invokevirtual 49, 3) := by decide +kernel
theorem dX6_join_12 : decode cX6_join 12 = .ok (.invokevirtual 53, 3) := by decide +kernel
theorem dX6_join_15 : decode cX6_join 15 = .ok (.ireturn, 1) := by decide +kernel
theorem dX6_leave_0 : decode cX6_leave 0 = .ok (.aload_n 0, 1) := by decide +kernel
theorem dX6_leave_1 : decode cX6_leave 1 = .ok (.aload_n 0, 1) := by decide +kernel
theorem dX6_leave_2 : decode cX6_leave 2 = .ok (.getfield 10, 3) := by decide +kernel
theorem dX6_leave_5 : decode cX6_leave 5 = .ok (.iconst 3, 1) := by decide +kernel
theorem dX6_leave_6 : decode cX6_leave 6 = .ok (.iload_n 1, 1) := by decide +kernel
theorem dX6_leave_7 : decode cX6_leave 7 = .ok (.iconst 0, 1) := by decide +kernel
theorem dX6_leave_8 : decode cX6_leave 8 = .ok (.lconst 0, 1) := by decide +kernel
theorem dX6_leave_9 : decode cX6_leave 9 = .ok (.invokevirtual 49, 3) := by decide +kernel
theorem dX6_leave_12 : decode cX6_leave 12 = .ok (.invokevirtual 53, 3) := by decide +kernel
theorem dX6_leave_15 : decode cX6_leave 15 = .ok (.ireturn, 1) := by decide +kernel
theorem dX6_turn_0 : decode cX6_turn 0 = .ok (.aload_n 0, 1) := by decide +kernel
theorem dX6_turn_1 : decode cX6_turn 1 = .ok (.aload_n 0, 1) := by decide +kernel
theorem dX6_turn_2 : decode cX6_turn 2 = .ok (.getfield 10, 3) := by decide +kernel
theorem dX6_turn_5 : decode cX6_turn 5 = .ok (.iconst 4, 1) := by decide +kernel
theorem dX6_turn_6 : decode cX6_turn 6 = .ok (.iload_n 1, 1) := by decide +kernel
theorem dX6_turn_7 : decode cX6_turn 7 = .ok (.iconst 0, 1) := by decide +kernel
theorem dX6_turn_8 : decode cX6_turn 8 = .ok (.lconst 0, 1) := by decide +kernel
theorem dX6_turn_9 : decode cX6_turn 9 = .ok (.invokevirtual 49, 3) := by decide +kernel
theorem dX6_turn_12 : decode cX6_turn 12 = .ok (.invokevirtual 53, 3) := by decide +kernel
theorem dX6_turn_15 : decode cX6_turn 15 = .ok (.ireturn, 1) := by decide +kernel
theorem dX6_fall_0 : decode cX6_fall 0 = .ok (.aload_n 0, 1) := by decide +kernel
theorem dX6_fall_1 : decode cX6_fall 1 = .ok (.aload_n 0, 1) := by decide +kernel
theorem dX6_fall_2 : decode cX6_fall 2 = .ok (.getfield 10, 3) := by decide +kernel
theorem dX6_fall_5 : decode cX6_fall 5 = .ok (.iconst 5, 1) := by decide +kernel
theorem dX6_fall_6 : decode cX6_fall 6 = .ok (.iload_n 1, 1) := by decide +kernel
theorem dX6_fall_7 : decode cX6_fall 7 = .ok (.iconst 0, 1) := by decide +kernel
theorem dX6_fall_8 : decode cX6_fall 8 = .ok (.lconst 0, 1) := by decide +kernel
theorem dX6_fall_9 : decode cX6_fall 9 = .ok (.invokevirtual 49, 3) := by decide +kernel
theorem dX6_fall_12 : decode cX6_fall 12 = .ok (.invokevirtual 53, 3) := by decide +kernel
theorem dX6_fall_15 : decode cX6_fall 15 = .ok (.ireturn, 1) := by decide +kernel
theorem dX6_rise_0 : decode cX6_rise 0 = .ok (.aload_n 0, 1) := by decide +kernel
theorem dX6_rise_1 : decode cX6_rise 1 = .ok (.aload_n 0, 1) := by decide +kernel
theorem dX6_rise_2 : decode cX6_rise 2 = .ok (.getfield 10, 3) := by decide +kernel
theorem dX6_rise_5 : decode cX6_rise 5 = .ok (.bipush 6, 2) := by decide +kernel
theorem dX6_rise_7 : decode cX6_rise 7 = .ok (.iload_n 1, 1) := by decide +kernel
theorem dX6_rise_8 : decode cX6_rise 8 = .ok (.iconst 0, 1) := by decide +kernel
theorem dX6_rise_9 : decode cX6_rise 9 = .ok (.lconst 0, 1) := by decide +kernel
theorem dX6_rise_10 : decode cX6_rise 10 = .ok (.invokevirtual 49, 3) := by decide +kernel
theorem dX6_rise_13 : decode cX6_rise 13 = .ok (.invokevirtual 53, 3) := by decide +kernel
theorem dX6_rise_16 : decode cX6_rise 16 = .ok (.ireturn, 1) := by decide +kernel
theorem dX6_deliver_0 : decode cX6_deliver 0 = .ok (.aload_n 0, 1) := by decide +kernel
theorem dX6_deliver_1 : decode cX6_deliver 1 = .ok (.aload_n 0, 1) := by decide +kernel
theorem dX6_deliver_2 : decode cX6_deliver 2 = .ok (.getfield 10, 3) := by decide +kernel
theorem dX6_deliver_5 : decode cX6_deliver 5 = .ok (.bipush 7, 2) := by decide +kernel
theorem dX6_deliver_7 : decode cX6_deliver 7 = .ok (.iload_n 1, 1) := by decide +kernel
theorem dX6_deliver_8 : decode cX6_deliver 8 = .ok (.iconst 0, 1) := by decide +kernel
theorem dX6_deliver_9 : decode cX6_deliver 9 = .ok (.lconst 0, 1) := by decide +kernel
theorem dX6_deliver_10 : decode cX6_deliver 10 = .ok (.invokevirtual 49, 3) := by decide +kernel
theorem dX6_deliver_13 : decode cX6_deliver 13 = .ok (.invokevirtual 53, 3) := by decide +kernel
theorem dX6_deliver_16 : decode cX6_deliver 16 = .ok (.ireturn, 1) := by decide +kernel
theorem dX6_lose_0 : decode cX6_lose 0 = .ok (.aload_n 0, 1) := by decide +kernel
theorem dX6_lose_1 : decode cX6_lose 1 = .ok (.aload_n 0, 1) := by decide +kernel
theorem dX6_lose_2 : decode cX6_lose 2 = .ok (.getfield 10, 3) := by decide +kernel
theorem dX6_lose_5 : decode cX6_lose 5 = .ok (.bipush 8, 2) := by decide +kernel
theorem dX6_lose_7 : decode cX6_lose 7 = .ok (.iload_n 1, 1) := by decide +kernel
theorem dX6_lose_8 : decode cX6_lose 8 = .ok (.iconst 0, 1) := by decide +kernel
theorem dX6_lose_9 : decode cX6_lose 9 = .ok (.lconst 0, 1) := by decide +kernel
theorem dX6_lose_10 : decode cX6_lose 10 = .ok (.invokevirtual 49, 3) := by decide +kernel
theorem dX6_lose_13 : decode cX6_lose 13 = .ok (.invokevirtual 53, 3) := by decide +kernel
theorem dX6_lose_16 : decode cX6_lose 16 = .ok (.ireturn, 1) := by decide +kernel
theorem dX6_twice_0 : decode cX6_twice 0 = .ok (.aload_n 0, 1) := by decide +kernel
theorem dX6_twice_1 : decode cX6_twice 1 = .ok (.aload_n 0, 1) := by decide +kernel
theorem dX6_twice_2 : decode cX6_twice 2 = .ok (.getfield 10, 3) := by decide +kernel
theorem dX6_twice_5 : decode cX6_twice 5 = .ok (.bipush 9, 2) := by decide +kernel
theorem dX6_twice_7 : decode cX6_twice 7 = .ok (.iload_n 1, 1) := by decide +kernel
theorem dX6_twice_8 : decode cX6_twice 8 = .ok (.iconst 0, 1) := by decide +kernel
theorem dX6_twice_9 : decode cX6_twice 9 = .ok (.lconst 0, 1) := by decide +kernel
theorem dX6_twice_10 : decode cX6_twice 10 = .ok (.invokevirtual 49, 3) := by decide +kernel
theorem dX6_twice_13 : decode cX6_twice 13 = .ok (.invokevirtual 53, 3) := by decide +kernel
theorem dX6_twice_16 : decode cX6_twice 16 = .ok (.ireturn, 1) := by decide +kernel
theorem dX6_cut_0 : decode cX6_cut 0 = .ok (.aload_n 0, 1) := by decide +kernel
theorem dX6_cut_1 : decode cX6_cut 1 = .ok (.aload_n 0, 1) := by decide +kernel
theorem dX6_cut_2 : decode cX6_cut 2 = .ok (.getfield 10, 3) := by decide +kernel
theorem dX6_cut_5 : decode cX6_cut 5 = .ok (.bipush 10, 2) := by decide +kernel
theorem dX6_cut_7 : decode cX6_cut 7 = .ok (.iload_n 1, 1) := by decide +kernel
theorem dX6_cut_8 : decode cX6_cut 8 = .ok (.iload_n 2, 1) := by decide +kernel
theorem dX6_cut_9 : decode cX6_cut 9 = .ok (.lconst 0, 1) := by decide +kernel
theorem dX6_cut_10 : decode cX6_cut 10 = .ok (.invokevirtual 49, 3) := by decide +kernel
theorem dX6_cut_13 : decode cX6_cut 13 = .ok (.invokevirtual 53, 3) := by decide +kernel
theorem dX6_cut_16 : decode cX6_cut 16 = .ok (.ireturn, 1) := by decide +kernel
theorem dX6_heal_0 : decode cX6_heal 0 = .ok (.aload_n 0, 1) := by decide +kernel
theorem dX6_heal_1 : decode cX6_heal 1 = .ok (.aload_n 0, 1) := by decide +kernel
theorem dX6_heal_2 : decode cX6_heal 2 = .ok (.getfield 10, 3) := by decide +kernel
theorem dX6_heal_5 : decode cX6_heal 5 = .ok (.bipush 11, 2) := by decide +kernel
theorem dX6_heal_7 : decode cX6_heal 7 = .ok (.iload_n 1, 1) := by decide +kernel
theorem dX6_heal_8 : decode cX6_heal 8 = .ok (.iload_n 2, 1) := by decide +kernel
theorem dX6_heal_9 : decode cX6_heal 9 = .ok (.lconst 0, 1) := by decide +kernel
theorem dX6_heal_10 : decode cX6_heal 10 = .ok (.invokevirtual 49, 3) := by decide +kernel
theorem dX6_heal_13 : decode cX6_heal 13 = .ok (.invokevirtual 53, 3) := by decide +kernel
theorem dX6_heal_16 : decode cX6_heal 16 = .ok (.ireturn, 1) := by decide +kernel
theorem dX6_letters_0 : decode cX6_letters 0 = .ok (.aload_n 0, 1) := by decide +kernel
theorem dX6_letters_1 : decode cX6_letters 1 = .ok (.getfield 10, 3) := by decide +kernel
theorem dX6_letters_4 : decode cX6_letters 4 = .ok (.getfield 57, 3) := by decide +kernel
theorem dX6_letters_7 : decode cX6_letters 7 = .ok (.astore_n 2, 1) := by decide +kernel
theorem dX6_letters_8 : decode cX6_letters 8 = .ok (.iload_n 1, 1) := by decide +kernel
theorem dX6_letters_9 : decode cX6_letters 9 = .ok (.tableswitch 63 0 4 #[35, 40, 45, 50, 55], 35) := by decide +kernel
theorem dX6_letters_44 : decode cX6_letters 44 = .ok (.aload_n 2, 1) := by decide +kernel
theorem dX6_letters_45 : decode cX6_letters 45 = .ok (.invokevirtual 61, 3) := by decide +kernel
theorem dX6_letters_48 : decode cX6_letters 48 = .ok (.ireturn, 1) := by decide +kernel
theorem dX6_letters_49 : decode cX6_letters 49 = .ok (.aload_n 2, 1) := by decide +kernel
theorem dX6_letters_50 : decode cX6_letters 50 = .ok (.invokevirtual 67, 3) := by decide +kernel
theorem dX6_letters_53 : decode cX6_letters 53 = .ok (.ireturn, 1) := by decide +kernel
theorem dX6_letters_54 : decode cX6_letters 54 = .ok (.aload_n 2, 1) := by decide +kernel
theorem dX6_letters_55 : decode cX6_letters 55 = .ok (.getfield 70, 3) := by decide +kernel
theorem dX6_letters_58 : decode cX6_letters 58 = .ok (.ireturn, 1) := by decide +kernel
theorem dX6_letters_59 : decode cX6_letters 59 = .ok (.aload_n 2, 1) := by decide +kernel
theorem dX6_letters_60 : decode cX6_letters 60 = .ok (.getfield 74, 3) := by decide +kernel
theorem dX6_letters_63 : decode cX6_letters 63 = .ok (.ireturn, 1) := by decide +kernel
theorem dX6_letters_64 : decode cX6_letters 64 = .ok (.aload_n 2, 1) := by decide +kernel
theorem dX6_letters_65 : decode cX6_letters 65 = .ok (.getfield 77, 3) := by decide +kernel
theorem dX6_letters_68 : decode cX6_letters 68 = .ok (.getfield 81, 3) := by decide +kernel
theorem dX6_letters_71 : decode cX6_letters 71 = .ok (.ireturn, 1) := by decide +kernel
theorem dX6_letters_72 : decode cX6_letters 72 = .ok (.aload_n 0, 1) := by decide +kernel
theorem dX6_letters_73 : decode cX6_letters 73 = .ok (.bipush (-9), 2) := by decide +kernel
theorem dX6_letters_75 : decode cX6_letters 75 = .ok (.invokevirtual 86, 3) := by decide +kernel
theorem dX6_letters_78 : decode cX6_letters 78 = .ok (.ireturn, 1) := by decide +kernel
theorem dX6_underWay_0 : decode cX6_underWay 0 = .ok (.iload_n 1, 1) := by decide +kernel
theorem dX6_underWay_1 : decode cX6_underWay 1 = .ok (.ifCond .ge 10, 3) := by decide +kernel
theorem dX6_underWay_4 : decode cX6_underWay 4 = .ok (.aload_n 0, 1) := by decide +kernel
theorem dX6_underWay_5 : decode cX6_underWay 5 = .ok (.bipush (-3), 2) := by decide +kernel
theorem dX6_underWay_7 : decode cX6_underWay 7 = .ok (.invokevirtual 86, 3) := by decide +kernel
theorem dX6_underWay_10 : decode cX6_underWay 10 = .ok (.ireturn, 1) := by decide +kernel
theorem dX6_underWay_11 : decode cX6_underWay 11 = .ok (.aload_n 0, 1) := by decide +kernel
theorem dX6_underWay_12 : decode cX6_underWay 12 = .ok (.getfield 10, 3) := by decide +kernel
theorem dX6_underWay_15 : decode cX6_underWay 15 = .ok (.getfield 57, 3) := by decide +kernel
theorem dX6_underWay_18 : decode cX6_underWay 18 = .ok (.iload_n 1, 1) := by decide +kernel
theorem dX6_underWay_19 : decode cX6_underWay 19 = .ok (.invokevirtual 89, 3) := by decide +kernel
theorem dX6_underWay_22 : decode cX6_underWay 22 = .ok (.ireturn, 1) := by decide +kernel
theorem dX6_letter_0 : decode cX6_letter 0 = .ok (.aload_n 0, 1) := by decide +kernel
theorem dX6_letter_1 : decode cX6_letter 1 = .ok (.getfield 10, 3) := by decide +kernel
theorem dX6_letter_4 : decode cX6_letter 4 = .ok (.getfield 57, 3) := by decide +kernel
theorem dX6_letter_7 : decode cX6_letter 7 = .ok (.iload_n 1, 1) := by decide +kernel
theorem dX6_letter_8 : decode cX6_letter 8 = .ok (.invokevirtual 92, 3) := by decide +kernel
theorem dX6_letter_11 : decode cX6_letter 11 = .ok (.ifCond .ne 10, 3) := by decide +kernel
theorem dX6_letter_14 : decode cX6_letter 14 = .ok (.aload_n 0, 1) := by decide +kernel
theorem dX6_letter_15 : decode cX6_letter 15 = .ok (.bipush (-3), 2) := by decide +kernel
theorem dX6_letter_17 : decode cX6_letter 17 = .ok (.invokevirtual 86, 3) := by decide +kernel
theorem dX6_letter_20 : decode cX6_letter 20 = .ok (.ireturn, 1) := by decide +kernel
theorem dX6_letter_21 : decode cX6_letter 21 = .ok (.iload_n 2, 1) := by decide +kernel
theorem dX6_letter_22 : decode cX6_letter 22 = .ok (.ifCond .lt 9, 3) := by decide +kernel
theorem dX6_letter_25 : decode cX6_letter 25 = .ok (.iload_n 2, 1) := by decide +kernel
theorem dX6_letter_26 : decode cX6_letter 26 = .ok (.bipush 6, 2) := by decide +kernel
theorem dX6_letter_28 : decode cX6_letter 28 = .ok (.if_icmp .le 10, 3) := by decide +kernel
theorem dX6_letter_31 : decode cX6_letter 31 = .ok (.aload_n 0, 1) := by decide +kernel
theorem dX6_letter_32 : decode cX6_letter 32 = .ok (.bipush (-9), 2) := by decide +kernel
theorem dX6_letter_34 : decode cX6_letter 34 = .ok (.invokevirtual 86, 3) := by decide +kernel
theorem dX6_letter_37 : decode cX6_letter 37 = .ok (.ireturn, 1) := by decide +kernel
theorem dX6_letter_38 : decode cX6_letter 38 = .ok (.aload_n 0, 1) := by decide +kernel
theorem dX6_letter_39 : decode cX6_letter 39 = .ok (.getfield 10, 3) := by decide +kernel
theorem dX6_letter_42 : decode cX6_letter 42 = .ok (.getfield 57, 3) := by decide +kernel
theorem dX6_letter_45 : decode cX6_letter 45 = .ok (.iload_n 1, 1) := by decide +kernel
theorem dX6_letter_46 : decode cX6_letter 46 = .ok (.iload_n 2, 1) := by decide +kernel
theorem dX6_letter_47 : decode cX6_letter 47 = .ok (.invokevirtual 96, 3) := by decide +kernel
theorem dX6_letter_50 : decode cX6_letter 50 = .ok (.ireturn, 1) := by decide +kernel
theorem dX6_carries_0 : decode cX6_carries 0 = .ok (.aload_n 0, 1) := by decide +kernel
theorem dX6_carries_1 : decode cX6_carries 1 = .ok (.getfield 10, 3) := by decide +kernel
theorem dX6_carries_4 : decode cX6_carries 4 = .ok (.getfield 57, 3) := by decide +kernel
theorem dX6_carries_7 : decode cX6_carries 7 = .ok (.astore 4, 2) := by decide +kernel
theorem dX6_carries_9 : decode cX6_carries 9 = .ok (.aload 4, 2) := by decide +kernel
theorem dX6_carries_11 : decode cX6_carries 11 = .ok (.iload_n 1, 1) := by decide +kernel
theorem dX6_carries_12 : decode cX6_carries 12 = .ok (.invokevirtual 92, 3) := by decide +kernel
theorem dX6_carries_15 : decode cX6_carries 15 = .ok (.ifCond .eq 18, 3) := by decide +kernel
theorem dX6_carries_18 : decode cX6_carries 18 = .ok (.iload_n 2, 1) := by decide +kernel
theorem dX6_carries_19 : decode cX6_carries 19 = .ok (.ifCond .lt 14, 3) := by decide +kernel
theorem dX6_carries_22 : decode cX6_carries 22 = .ok (.iload_n 2, 1) := by decide +kernel
theorem dX6_carries_23 : decode cX6_carries 23 = .ok (.aload 4, 2) := by decide +kernel
theorem dX6_carries_25 : decode cX6_carries 25 = .ok (.iload_n 1, 1) := by decide +kernel
theorem dX6_carries_26 : decode cX6_carries 26 = .ok (.iconst 4, 1) := by decide +kernel
theorem dX6_carries_27 : decode cX6_carries 27 = .ok (.invokevirtual 96, 3) := by decide +kernel
theorem dX6_carries_30 : decode cX6_carries 30 = .ok (.if_icmp .lt 10, 3) := by decide +kernel
theorem dX6_carries_33 : decode cX6_carries 33 = .ok (.aload_n 0, 1) := by decide +kernel
theorem dX6_carries_34 : decode cX6_carries 34 = .ok (.bipush (-3), 2) := by decide +kernel
theorem dX6_carries_36 : decode cX6_carries 36 = .ok (.invokevirtual 86, 3) := by decide +kernel
theorem dX6_carries_39 : decode cX6_carries 39 = .ok (.ireturn, 1) := by decide +kernel
theorem dX6_carries_40 : decode cX6_carries 40 = .ok (.iload_n 3, 1) := by decide +kernel
theorem dX6_carries_41 : decode cX6_carries 41 = .ok (.ifCond .lt 8, 3) := by decide +kernel
theorem dX6_carries_44 : decode cX6_carries 44 = .ok (.iload_n 3, 1) := by decide +kernel
theorem dX6_carries_45 : decode cX6_carries 45 = .ok (.iconst 3, 1) := by decide +kernel
theorem dX6_carries_46 : decode cX6_carries 46 = .ok (.if_icmp .le 10, 3) := by decide +kernel
theorem dX6_carries_49 : decode cX6_carries 49 = .ok (.aload_n 0, 1) := by decide +kernel
theorem dX6_carries_50 : decode cX6_carries 50 = .ok (.bipush (-9), 2) := by decide +kernel
theorem dX6_carries_52 : decode cX6_carries 52 = .ok (.invokevirtual 86, 3) := by decide +kernel
theorem dX6_carries_55 : decode cX6_carries 55 = .ok (.ireturn, 1) := by decide +kernel
theorem dX6_carries_56 : decode cX6_carries 56 = .ok (.aload 4, 2) := by decide +kernel
theorem dX6_carries_58 : decode cX6_carries 58 = .ok (.iload_n 1, 1) := by decide +kernel
theorem dX6_carries_59 : decode cX6_carries 59 = .ok (.iload_n 2, 1) := by decide +kernel
theorem dX6_carries_60 : decode cX6_carries 60 = .ok (.iload_n 3, 1) := by decide +kernel
theorem dX6_carries_61 : decode cX6_carries 61 = .ok (.invokevirtual 100, 3) := by decide +kernel
theorem dX6_carries_64 : decode cX6_carries 64 = .ok (.ireturn, 1) := by decide +kernel
theorem dX6_state_0 : decode cX6_state 0 = .ok (.aload_n 0, 1) := by decide +kernel
theorem dX6_state_1 : decode cX6_state 1 = .ok (.getfield 10, 3) := by decide +kernel
theorem dX6_state_4 : decode cX6_state 4 = .ok (.iload_n 1, 1) := by decide +kernel
theorem dX6_state_5 : decode cX6_state 5 = .ok (.invokevirtual 104, 3) := by decide +kernel
theorem dX6_state_8 : decode cX6_state 8 = .ok (.istore_n 3, 1) := by decide +kernel
theorem dX6_state_9 : decode cX6_state 9 = .ok (.aload_n 0, 1) := by decide +kernel
theorem dX6_state_10 : decode cX6_state 10 = .ok (.getfield 10, 3) := by decide +kernel
theorem dX6_state_13 : decode cX6_state 13 = .ok (.iload_n 1, 1) := by decide +kernel
theorem dX6_state_14 : decode cX6_state 14 = .ok (.invokevirtual 107, 3) := by decide +kernel
theorem dX6_state_17 : decode cX6_state 17 = .ok (.astore 4, 2) := by decide +kernel
theorem dX6_state_19 : decode cX6_state 19 = .ok (.iload_n 3, 1) := by decide +kernel
theorem dX6_state_20 : decode cX6_state 20 = .ok (.ifCond .ne 8, 3) := by decide +kernel
theorem dX6_state_23 : decode cX6_state 23 = .ok (.aload 4, 2) := by decide +kernel
theorem dX6_state_25 : decode cX6_state 25 = .ok (.ifnonnull 9, 3) := by decide +kernel
theorem dX6_state_28 : decode cX6_state 28 = .ok (.aload_n 0, 1) := by decide +kernel
theorem dX6_state_29 : decode cX6_state 29 = .ok (.iload_n 3, 1) := by decide +kernel
theorem dX6_state_30 : decode cX6_state 30 = .ok (.invokevirtual 86, 3) := by decide +kernel
theorem dX6_state_33 : decode cX6_state 33 = .ok (.ireturn, 1) := by decide +kernel
theorem dX6_state_34 : decode cX6_state 34 = .ok (.iload_n 2, 1) := by decide +kernel
theorem dX6_state_35 : decode cX6_state 35 = .ok (.tableswitch 141 0 11 #[61, 67, 73, 79, 89, 96, 103, 110, 117, 123, 129, 135], 61) := by decide +kernel
theorem dX6_state_96 : decode cX6_state 96 = .ok (.aload 4, 2) := by decide +kernel
theorem dX6_state_98 : decode cX6_state 98 = .ok (.getfield 111, 3) := by decide +kernel
theorem dX6_state_101 : decode cX6_state 101 = .ok (.ireturn, 1) := by decide +kernel
theorem dX6_state_102 : decode cX6_state 102 = .ok (.aload 4, 2) := by decide +kernel
theorem dX6_state_104 : decode cX6_state 104 = .ok (.getfield 116, 3) := by decide +kernel
theorem dX6_state_107 : decode cX6_state 107 = .ok (.ireturn, 1) := by decide +kernel
theorem dX6_state_108 : decode cX6_state 108 = .ok (.aload 4, 2) := by decide +kernel
theorem dX6_state_110 : decode cX6_state 110 = .ok (.getfield 119, 3) := by decide +kernel
theorem dX6_state_113 : decode cX6_state 113 = .ok (.ireturn, 1) := by decide +kernel
theorem dX6_state_114 : decode cX6_state 114 = .ok (.bipush 64, 2) := by decide +kernel
theorem dX6_state_116 : decode cX6_state 116 = .ok (.aload 4, 2) := by decide +kernel
theorem dX6_state_118 : decode cX6_state 118 = .ok (.iconst 0, 1) := by decide +kernel
theorem dX6_state_119 : decode cX6_state 119 = .ok (.invokevirtual 122, 3) := by decide +kernel
theorem dX6_state_122 : decode cX6_state 122 = .ok (.isub, 1) := by decide +kernel
theorem dX6_state_123 : decode cX6_state 123 = .ok (.ireturn, 1) := by decide +kernel
theorem dX6_state_124 : decode cX6_state 124 = .ok (.aload 4, 2) := by decide +kernel
theorem dX6_state_126 : decode cX6_state 126 = .ok (.iconst 1, 1) := by decide +kernel
theorem dX6_state_127 : decode cX6_state 127 = .ok (.invokevirtual 122, 3) := by decide +kernel
theorem dX6_state_130 : decode cX6_state 130 = .ok (.ireturn, 1) := by decide +kernel
theorem dX6_state_131 : decode cX6_state 131 = .ok (.aload 4, 2) := by decide +kernel
theorem dX6_state_133 : decode cX6_state 133 = .ok (.iconst 2, 1) := by decide +kernel
theorem dX6_state_134 : decode cX6_state 134 = .ok (.invokevirtual 122, 3) := by decide +kernel
theorem dX6_state_137 : decode cX6_state 137 = .ok (.ireturn, 1) := by decide +kernel
theorem dX6_state_138 : decode cX6_state 138 = .ok (.aload 4, 2) := by decide +kernel
theorem dX6_state_140 : decode cX6_state 140 = .ok (.iconst 3, 1) := by decide +kernel
theorem dX6_state_141 : decode cX6_state 141 = .ok (.invokevirtual 122, 3) := by decide +kernel
theorem dX6_state_144 : decode cX6_state 144 = .ok (.ireturn, 1) := by decide +kernel
theorem dX6_state_145 : decode cX6_state 145 = .ok (.aload 4, 2) := by decide +kernel
theorem dX6_state_147 : decode cX6_state 147 = .ok (.iconst 4, 1) := by decide +kernel
theorem dX6_state_148 : decode cX6_state 148 = .ok (.invokevirtual 122, 3) := by decide +kernel
theorem dX6_state_151 : decode cX6_state 151 = .ok (.ireturn, 1) := by decide +kernel
theorem dX6_state_152 : decode cX6_state 152 = .ok (.aload 4, 2) := by decide +kernel
theorem dX6_state_154 : decode cX6_state 154 = .ok (.getfield 125, 3) := by decide +kernel
theorem dX6_state_157 : decode cX6_state 157 = .ok (.ireturn, 1) := by decide +kernel
theorem dX6_state_158 : decode cX6_state 158 = .ok (.aload 4, 2) := by decide +kernel
theorem dX6_state_160 : decode cX6_state 160 = .ok (.getfield 128, 3) := by decide +kernel
theorem dX6_state_163 : decode cX6_state 163 = .ok (.ireturn, 1) := by decide +kernel
theorem dX6_state_164 : decode cX6_state 164 = .ok (.aload 4, 2) := by decide +kernel
theorem dX6_state_166 : decode cX6_state 166 = .ok (.getfield 131, 3) := by decide +kernel
theorem dX6_state_169 : decode cX6_state 169 = .ok (.ireturn, 1) := by decide +kernel
theorem dX6_state_170 : decode cX6_state 170 = .ok (.aload 4, 2) := by decide +kernel
theorem dX6_state_172 : decode cX6_state 172 = .ok (.getfield 134, 3) := by decide +kernel
theorem dX6_state_175 : decode cX6_state 175 = .ok (.ireturn, 1) := by decide +kernel
theorem dX6_state_176 : decode cX6_state 176 = .ok (.aload_n 0, 1) := by decide +kernel
theorem dX6_state_177 : decode cX6_state 177 = .ok (.bipush (-9), 2) := by decide +kernel
theorem dX6_state_179 : decode cX6_state 179 = .ok (.invokevirtual 86, 3) := by decide +kernel
theorem dX6_state_182 : decode cX6_state 182 = .ok (.ireturn, 1) := by decide +kernel
theorem dX6_news_0 : decode cX6_news 0 = .ok (.aload_n 0, 1) := by decide +kernel
theorem dX6_news_1 : decode cX6_news 1 = .ok (.getfield 10, 3) := by decide +kernel
theorem dX6_news_4 : decode cX6_news 4 = .ok (.iload_n 1, 1) := by decide +kernel
theorem dX6_news_5 : decode cX6_news 5 = .ok (.iload_n 2, 1) := by decide +kernel
theorem dX6_news_6 : decode cX6_news 6 = .ok (.invokevirtual 137, 3) := by decide +kernel
theorem dX6_news_9 : decode cX6_news 9 = .ok (.istore 4, 2) := by decide +kernel
theorem dX6_news_11 : decode cX6_news 11 = .ok (.aload_n 0, 1) := by decide +kernel
theorem dX6_news_12 : decode cX6_news 12 = .ok (.getfield 10, 3) := by decide +kernel
theorem dX6_news_15 : decode cX6_news 15 = .ok (.iload_n 1, 1) := by decide +kernel
theorem dX6_news_16 : decode cX6_news 16 = .ok (.invokevirtual 107, 3) := by decide +kernel
theorem dX6_news_19 : decode cX6_news 19 = .ok (.astore 5, 2) := by decide +kernel
theorem dX6_news_21 : decode cX6_news 21 = .ok (.iload 4, 2) := by decide +kernel
theorem dX6_news_23 : decode cX6_news 23 = .ok (.ifCond .ne 8, 3) := by decide +kernel
theorem dX6_news_26 : decode cX6_news 26 = .ok (.aload 5, 2) := by decide +kernel
theorem dX6_news_28 : decode cX6_news 28 = .ok (.ifnonnull 10, 3) := by decide +kernel
theorem dX6_news_31 : decode cX6_news 31 = .ok (.aload_n 0, 1) := by decide +kernel
theorem dX6_news_32 : decode cX6_news 32 = .ok (.iload 4, 2) := by decide +kernel
theorem dX6_news_34 : decode cX6_news 34 = .ok (.invokevirtual 86, 3) := by decide +kernel
theorem dX6_news_37 : decode cX6_news 37 = .ok (.ireturn, 1) := by decide +kernel
theorem dX6_news_38 : decode cX6_news 38 = .ok (.iload_n 3, 1) := by decide +kernel
theorem dX6_news_39 : decode cX6_news 39 = .ok (.tableswitch 73 0 4 #[33, 41, 49, 57, 65], 33) := by decide +kernel
theorem dX6_news_72 : decode cX6_news 72 = .ok (.aload 5, 2) := by decide +kernel
theorem dX6_news_74 : decode cX6_news 74 = .ok (.getfield 140, 3) := by decide +kernel
theorem dX6_news_77 : decode cX6_news 77 = .ok (.iload_n 2, 1) := by decide +kernel
theorem dX6_news_78 : decode cX6_news 78 = .ok (.iaload, 1) := by decide +kernel
theorem dX6_news_79 : decode cX6_news 79 = .ok (.ireturn, 1) := by decide +kernel
theorem dX6_news_80 : decode cX6_news 80 = .ok (.aload 5, 2) := by decide +kernel
theorem dX6_news_82 : decode cX6_news 82 = .ok (.getfield 143, 3) := by decide +kernel
theorem dX6_news_85 : decode cX6_news 85 = .ok (.iload_n 2, 1) := by decide +kernel
theorem dX6_news_86 : decode cX6_news 86 = .ok (.iaload, 1) := by decide +kernel
theorem dX6_news_87 : decode cX6_news 87 = .ok (.ireturn, 1) := by decide +kernel
theorem dX6_news_88 : decode cX6_news 88 = .ok (.aload 5, 2) := by decide +kernel
theorem dX6_news_90 : decode cX6_news 90 = .ok (.getfield 146, 3) := by decide +kernel
theorem dX6_news_93 : decode cX6_news 93 = .ok (.iload_n 2, 1) := by decide +kernel
theorem dX6_news_94 : decode cX6_news 94 = .ok (.iaload, 1) := by decide +kernel
theorem dX6_news_95 : decode cX6_news 95 = .ok (.ireturn, 1) := by decide +kernel
theorem dX6_news_96 : decode cX6_news 96 = .ok (.aload 5, 2) := by decide +kernel
theorem dX6_news_98 : decode cX6_news 98 = .ok (.getfield 149, 3) := by decide +kernel
theorem dX6_news_101 : decode cX6_news 101 = .ok (.iload_n 2, 1) := by decide +kernel
theorem dX6_news_102 : decode cX6_news 102 = .ok (.iaload, 1) := by decide +kernel
theorem dX6_news_103 : decode cX6_news 103 = .ok (.ireturn, 1) := by decide +kernel
theorem dX6_news_104 : decode cX6_news 104 = .ok (.aload 5, 2) := by decide +kernel
theorem dX6_news_106 : decode cX6_news 106 = .ok (.getfield 152, 3) := by decide +kernel
theorem dX6_news_109 : decode cX6_news 109 = .ok (.iload_n 2, 1) := by decide +kernel
theorem dX6_news_110 : decode cX6_news 110 = .ok (.iaload, 1) := by decide +kernel
theorem dX6_news_111 : decode cX6_news 111 = .ok (.ireturn, 1) := by decide +kernel
theorem dX6_news_112 : decode cX6_news 112 = .ok (.aload_n 0, 1) := by decide +kernel
theorem dX6_news_113 : decode cX6_news 113 = .ok (.bipush (-9), 2) := by decide +kernel
theorem dX6_news_115 : decode cX6_news 115 = .ok (.invokevirtual 86, 3) := by decide +kernel
theorem dX6_news_118 : decode cX6_news 118 = .ok (.ireturn, 1) := by decide +kernel
theorem dX6_as_0 : decode cX6_as 0 = .ok (.aload_n 0, 1) := by decide +kernel
theorem dX6_as_1 : decode cX6_as 1 = .ok (.getfield 10, 3) := by decide +kernel
theorem dX6_as_4 : decode cX6_as 4 = .ok (.iload_n 1, 1) := by decide +kernel
theorem dX6_as_5 : decode cX6_as 5 = .ok (.iload_n 2, 1) := by decide +kernel
theorem dX6_as_6 : decode cX6_as 6 = .ok (.invokevirtual 137, 3) := by decide +kernel
theorem dX6_as_9 : decode cX6_as 9 = .ok (.istore 4, 2) := by decide +kernel
theorem dX6_as_11 : decode cX6_as 11 = .ok (.aload_n 0, 1) := by decide +kernel
theorem dX6_as_12 : decode cX6_as 12 = .ok (.getfield 10, 3) := by decide +kernel
theorem dX6_as_15 : decode cX6_as 15 = .ok (.iload_n 1, 1) := by decide +kernel
theorem dX6_as_16 : decode cX6_as 16 = .ok (.invokevirtual 107, 3) := by decide +kernel
theorem dX6_as_19 : decode cX6_as 19 = .ok (.astore 5, 2) := by decide +kernel
theorem dX6_as_21 : decode cX6_as 21 = .ok (.iload 4, 2) := by decide +kernel
theorem dX6_as_23 : decode cX6_as 23 = .ok (.ifCond .ne 8, 3) := by decide +kernel
theorem dX6_as_26 : decode cX6_as 26 = .ok (.aload 5, 2) := by decide +kernel
theorem dX6_as_28 : decode cX6_as 28 = .ok (.ifnonnull 10, 3) := by decide +kernel
theorem dX6_as_31 : decode cX6_as 31 = .ok (.aload_n 0, 1) := by decide +kernel
theorem dX6_as_32 : decode cX6_as 32 = .ok (.iload 4, 2) := by decide +kernel
theorem dX6_as_34 : decode cX6_as 34 = .ok (.invokevirtual 86, 3) := by decide +kernel
theorem dX6_as_37 : decode cX6_as 37 = .ok (.ireturn, 1) := by decide +kernel
theorem dX6_as_38 : decode cX6_as 38 = .ok (.iload_n 3, 1) := by decide +kernel
theorem dX6_as_39 : decode cX6_as 39 = .ok (.iconst 1, 1) := by decide +kernel
theorem dX6_as_40 : decode cX6_as 40 = .ok (.if_icmp .lt 8, 3) := by decide +kernel
theorem dX6_as_43 : decode cX6_as 43 = .ok (.iload_n 3, 1) := by decide +kernel
theorem dX6_as_44 : decode cX6_as 44 = .ok (.iconst 4, 1) := by decide +kernel
theorem dX6_as_45 : decode cX6_as 45 = .ok (.if_icmp .le 10, 3) := by decide +kernel
theorem dX6_as_48 : decode cX6_as 48 = .ok (.aload_n 0, 1) := by decide +kernel
theorem dX6_as_49 : decode cX6_as 49 = .ok (.bipush (-9), 2) := by decide +kernel
theorem dX6_as_51 : decode cX6_as 51 = .ok (.invokevirtual 86, 3) := by decide +kernel
theorem dX6_as_54 : decode cX6_as 54 = .ok (.ireturn, 1) := by decide +kernel
theorem dX6_as_55 : decode cX6_as 55 = .ok (.aload 5, 2) := by decide +kernel
theorem dX6_as_57 : decode cX6_as 57 = .ok (.getfield 140, 3) := by decide +kernel
theorem dX6_as_60 : decode cX6_as 60 = .ok (.iload_n 2, 1) := by decide +kernel
theorem dX6_as_61 : decode cX6_as 61 = .ok (.iaload, 1) := by decide +kernel
theorem dX6_as_62 : decode cX6_as 62 = .ok (.iload_n 3, 1) := by decide +kernel
theorem dX6_as_63 : decode cX6_as 63 = .ok (.if_icmp .ge 10, 3) := by decide +kernel
theorem dX6_as_66 : decode cX6_as 66 = .ok (.aload_n 0, 1) := by decide +kernel
theorem dX6_as_67 : decode cX6_as 67 = .ok (.bipush (-5), 2) := by decide +kernel
theorem dX6_as_69 : decode cX6_as 69 = .ok (.invokevirtual 86, 3) := by decide +kernel
theorem dX6_as_72 : decode cX6_as 72 = .ok (.ireturn, 1) := by decide +kernel
theorem dX6_as_73 : decode cX6_as 73 = .ok (.aload 5, 2) := by decide +kernel
theorem dX6_as_75 : decode cX6_as 75 = .ok (.getfield 143, 3) := by decide +kernel
theorem dX6_as_78 : decode cX6_as 78 = .ok (.iload_n 2, 1) := by decide +kernel
theorem dX6_as_79 : decode cX6_as 79 = .ok (.iaload, 1) := by decide +kernel
theorem dX6_as_80 : decode cX6_as 80 = .ok (.ireturn, 1) := by decide +kernel
theorem dX6_round_0 : decode cX6_round 0 = .ok (.aload_n 0, 1) := by decide +kernel
theorem dX6_round_1 : decode cX6_round 1 = .ok (.getfield 10, 3) := by decide +kernel
theorem dX6_round_4 : decode cX6_round 4 = .ok (.iload_n 1, 1) := by decide +kernel
theorem dX6_round_5 : decode cX6_round 5 = .ok (.invokevirtual 104, 3) := by decide +kernel
theorem dX6_round_8 : decode cX6_round 8 = .ok (.istore_n 3, 1) := by decide +kernel
theorem dX6_round_9 : decode cX6_round 9 = .ok (.aload_n 0, 1) := by decide +kernel
theorem dX6_round_10 : decode cX6_round 10 = .ok (.getfield 10, 3) := by decide +kernel
theorem dX6_round_13 : decode cX6_round 13 = .ok (.iload_n 1, 1) := by decide +kernel
theorem dX6_round_14 : decode cX6_round 14 = .ok (.invokevirtual 107, 3) := by decide +kernel
theorem dX6_round_17 : decode cX6_round 17 = .ok (.astore 4, 2) := by decide +kernel
theorem dX6_round_19 : decode cX6_round 19 = .ok (.iload_n 3, 1) := by decide +kernel
theorem dX6_round_20 : decode cX6_round 20 = .ok (.ifCond .ne 8, 3) := by decide +kernel
theorem dX6_round_23 : decode cX6_round 23 = .ok (.aload 4, 2) := by decide +kernel
theorem dX6_round_25 : decode cX6_round 25 = .ok (.ifnonnull 9, 3) := by decide +kernel
theorem dX6_round_28 : decode cX6_round 28 = .ok (.aload_n 0, 1) := by decide +kernel
theorem dX6_round_29 : decode cX6_round 29 = .ok (.iload_n 3, 1) := by decide +kernel
theorem dX6_round_30 : decode cX6_round 30 = .ok (.invokevirtual 86, 3) := by decide +kernel
theorem dX6_round_33 : decode cX6_round 33 = .ok (.ireturn, 1) := by decide +kernel
theorem dX6_round_34 : decode cX6_round 34 = .ok (.iload_n 2, 1) := by decide +kernel
theorem dX6_round_35 : decode cX6_round 35 = .ok (.ifCond .lt 12, 3) := by decide +kernel
theorem dX6_round_38 : decode cX6_round 38 = .ok (.iload_n 2, 1) := by decide +kernel
theorem dX6_round_39 : decode cX6_round 39 = .ok (.aload 4, 2) := by decide +kernel
theorem dX6_round_41 : decode cX6_round 41 = .ok (.getfield 131, 3) := by decide +kernel
theorem dX6_round_44 : decode cX6_round 44 = .ok (.if_icmp .lt 10, 3) := by decide +kernel
theorem dX6_round_47 : decode cX6_round 47 = .ok (.aload_n 0, 1) := by decide +kernel
theorem dX6_round_48 : decode cX6_round 48 = .ok (.bipush (-3), 2) := by decide +kernel
theorem dX6_round_50 : decode cX6_round 50 = .ok (.invokevirtual 86, 3) := by decide +kernel
theorem dX6_round_53 : decode cX6_round 53 = .ok (.ireturn, 1) := by decide +kernel
theorem dX6_round_54 : decode cX6_round 54 = .ok (.aload 4, 2) := by decide +kernel
theorem dX6_round_56 : decode cX6_round 56 = .ok (.getfield 155, 3) := by decide +kernel
theorem dX6_round_59 : decode cX6_round 59 = .ok (.iload_n 2, 1) := by decide +kernel
theorem dX6_round_60 : decode cX6_round 60 = .ok (.iaload, 1) := by decide +kernel
theorem dX6_round_61 : decode cX6_round 61 = .ok (.ireturn, 1) := by decide +kernel
theorem dX6_next_0 : decode cX6_next 0 = .ok (.aload_n 0, 1) := by decide +kernel
theorem dX6_next_1 : decode cX6_next 1 = .ok (.getfield 10, 3) := by decide +kernel
theorem dX6_next_4 : decode cX6_next 4 = .ok (.iload_n 1, 1) := by decide +kernel
theorem dX6_next_5 : decode cX6_next 5 = .ok (.invokevirtual 104, 3) := by decide +kernel
theorem dX6_next_8 : decode cX6_next 8 = .ok (.istore_n 2, 1) := by decide +kernel
theorem dX6_next_9 : decode cX6_next 9 = .ok (.aload_n 0, 1) := by decide +kernel
theorem dX6_next_10 : decode cX6_next 10 = .ok (.getfield 10, 3) := by decide +kernel
theorem dX6_next_13 : decode cX6_next 13 = .ok (.iload_n 1, 1) := by decide +kernel
theorem dX6_next_14 : decode cX6_next 14 = .ok (.invokevirtual 107, 3) := by decide +kernel
theorem dX6_next_17 : decode cX6_next 17 = .ok (.astore_n 3, 1) := by decide +kernel
theorem dX6_next_18 : decode cX6_next 18 = .ok (.iload_n 2, 1) := by decide +kernel
theorem dX6_next_19 : decode cX6_next 19 = .ok (.ifCond .ne 7, 3) := by decide +kernel
theorem dX6_next_22 : decode cX6_next 22 = .ok (.aload_n 3, 1) := by decide +kernel
theorem dX6_next_23 : decode cX6_next 23 = .ok (.ifnonnull 9, 3) := by decide +kernel
theorem dX6_next_26 : decode cX6_next 26 = .ok (.aload_n 0, 1) := by decide +kernel
theorem dX6_next_27 : decode cX6_next 27 = .ok (.iload_n 2, 1) := by decide +kernel
theorem dX6_next_28 : decode cX6_next 28 = .ok (.invokevirtual 86, 3) := by decide +kernel
theorem dX6_next_31 : decode cX6_next 31 = .ok (.ireturn, 1) := by decide +kernel
theorem dX6_next_32 : decode cX6_next 32 = .ok (.aload_n 3, 1) := by decide +kernel
theorem dX6_next_33 : decode cX6_next 33 = .ok (.getfield 111, 3) := by decide +kernel
theorem dX6_next_36 : decode cX6_next 36 = .ok (.ifCond .eq 10, 3) := by decide +kernel
theorem dX6_next_39 : decode cX6_next 39 = .ok (.aload_n 0, 1) := by decide +kernel
theorem dX6_next_40 : decode cX6_next 40 = .ok (.bipush (-8), 2) := by decide +kernel
theorem dX6_next_42 : decode cX6_next 42 = .ok (.invokevirtual 86, 3) := by decide +kernel
theorem dX6_next_45 : decode cX6_next 45 = .ok (.ireturn, 1) := by decide +kernel
theorem dX6_next_46 : decode cX6_next 46 = .ok (.aload_n 3, 1) := by decide +kernel
theorem dX6_next_47 : decode cX6_next 47 = .ok (.aload_n 0, 1) := by decide +kernel
theorem dX6_next_48 : decode cX6_next 48 = .ok (.getfield 40, 3) := by decide +kernel
theorem dX6_next_51 : decode cX6_next 51 = .ok (.invokevirtual 158, 3) := by decide +kernel
theorem dX6_next_54 : decode cX6_next 54 = .ok (.ireturn, 1) := by decide +kernel
theorem dX6_copy_0 : decode cX6_copy 0 = .ok (.aload_n 0, 1) := by decide +kernel
theorem dX6_copy_1 : decode cX6_copy 1 = .ok (.getfield 10, 3) := by decide +kernel
theorem dX6_copy_4 : decode cX6_copy 4 = .ok (.iload_n 1, 1) := by decide +kernel
theorem dX6_copy_5 : decode cX6_copy 5 = .ok (.invokevirtual 104, 3) := by decide +kernel
theorem dX6_copy_8 : decode cX6_copy 8 = .ok (.istore 5, 2) := by decide +kernel
theorem dX6_copy_10 : decode cX6_copy 10 = .ok (.aload_n 0, 1) := by decide +kernel
theorem dX6_copy_11 : decode cX6_copy 11 = .ok (.getfield 10, 3) := by decide +kernel
theorem dX6_copy_14 : decode cX6_copy 14 = .ok (.iload_n 1, 1) := by decide +kernel
theorem dX6_copy_15 : decode cX6_copy 15 = .ok (.invokevirtual 107, 3) := by decide +kernel
theorem dX6_copy_18 : decode cX6_copy 18 = .ok (.astore 6, 2) := by decide +kernel
theorem dX6_copy_20 : decode cX6_copy 20 = .ok (.iload 5, 2) := by decide +kernel
theorem dX6_copy_22 : decode cX6_copy 22 = .ok (.ifCond .ne 8, 3) := by decide +kernel
theorem dX6_copy_25 : decode cX6_copy 25 = .ok (.aload 6, 2) := by decide +kernel
theorem dX6_copy_27 : decode cX6_copy 27 = .ok (.ifnonnull 10, 3) := by decide +kernel
theorem dX6_copy_30 : decode cX6_copy 30 = .ok (.aload_n 0, 1) := by decide +kernel
theorem dX6_copy_31 : decode cX6_copy 31 = .ok (.iload 5, 2) := by decide +kernel
theorem dX6_copy_33 : decode cX6_copy 33 = .ok (.invokevirtual 86, 3) := by decide +kernel
theorem dX6_copy_36 : decode cX6_copy 36 = .ok (.ireturn, 1) := by decide +kernel
theorem dX6_copy_37 : decode cX6_copy 37 = .ok (.iload_n 3, 1) := by decide +kernel
theorem dX6_copy_38 : decode cX6_copy 38 = .ok (.ifCond .ge 10, 3) := by decide +kernel
theorem dX6_copy_41 : decode cX6_copy 41 = .ok (.aload_n 0, 1) := by decide +kernel
theorem dX6_copy_42 : decode cX6_copy 42 = .ok (.bipush (-4), 2) := by decide +kernel
theorem dX6_copy_44 : decode cX6_copy 44 = .ok (.invokevirtual 86, 3) := by decide +kernel
theorem dX6_copy_47 : decode cX6_copy 47 = .ok (.ireturn, 1) := by decide +kernel
theorem dX6_copy_48 : decode cX6_copy 48 = .ok (.iload_n 2, 1) := by decide +kernel
theorem dX6_copy_49 : decode cX6_copy 49 = .ok (.ifCond .lt 28, 3) := by decide +kernel
theorem dX6_copy_52 : decode cX6_copy 52 = .ok (.iload 4, 2) := by decide +kernel
theorem dX6_copy_54 : decode cX6_copy 54 = .ok (.ifCond .lt 23, 3) := by decide +kernel
theorem dX6_copy_57 : decode cX6_copy 57 = .ok (.iload_n 3, 1) := by decide +kernel
theorem dX6_copy_58 : decode cX6_copy 58 = .ok (.aload 6, 2) := by decide +kernel
theorem dX6_copy_60 : decode cX6_copy 60 = .ok (.getfield 131, 3) := by decide +kernel
theorem dX6_copy_63 : decode cX6_copy 63 = .ok (.iload_n 2, 1) := by decide +kernel
theorem dX6_copy_64 : decode cX6_copy 64 = .ok (.isub, 1) := by decide +kernel
theorem dX6_copy_65 : decode cX6_copy 65 = .ok (.if_icmp .gt 12, 3) := by decide +kernel
theorem dX6_copy_68 : decode cX6_copy 68 = .ok (.iload_n 3, 1) := by decide +kernel
theorem dX6_copy_69 : decode cX6_copy 69 = .ok (.bipush 16, 2) := by decide +kernel
theorem dX6_copy_71 : decode cX6_copy 71 = .ok (.iload 4, 2) := by decide +kernel
theorem dX6_copy_73 : decode cX6_copy 73 = .ok (.isub, 1) := by decide +kernel
theorem dX6_copy_74 : decode cX6_copy 74 = .ok (.if_icmp .le 10, 3) := by decide +kernel
theorem dX6_copy_77 : decode cX6_copy 77 = .ok (.aload_n 0, 1) := by decide +kernel
theorem dX6_copy_78 : decode cX6_copy 78 = .ok (.bipush (-6), 2) := by decide +kernel
theorem dX6_copy_80 : decode cX6_copy 80 = .ok (.invokevirtual 86, 3) := by decide +kernel
theorem dX6_copy_83 : decode cX6_copy 83 = .ok (.ireturn, 1) := by decide +kernel
theorem dX6_copy_84 : decode cX6_copy 84 = .ok (.aload 6, 2) := by decide +kernel
theorem dX6_copy_86 : decode cX6_copy 86 = .ok (.getfield 155, 3) := by decide +kernel
theorem dX6_copy_89 : decode cX6_copy 89 = .ok (.iload_n 2, 1) := by decide +kernel
theorem dX6_copy_90 : decode cX6_copy 90 = .ok (.aload_n 0, 1) := by decide +kernel
theorem dX6_copy_91 : decode cX6_copy 91 = .ok (.getfield 30, 3) := by decide +kernel
theorem dX6_copy_94 : decode cX6_copy 94 = .ok (.iload 4, 2) := by decide +kernel
theorem dX6_copy_96 : decode cX6_copy 96 = .ok (.iload_n 3, 1) := by decide +kernel
theorem dX6_copy_97 : decode cX6_copy 97 = .ok (.invokestatic 162, 3) := by decide +kernel
theorem dX6_copy_100 : decode cX6_copy 100 = .ok (.iload_n 3, 1) := by decide +kernel
theorem dX6_copy_101 : decode cX6_copy 101 = .ok (.ireturn, 1) := by decide +kernel
theorem dX6_table_0 : decode cX6_table 0 = .ok (.iload_n 1, 1) := by decide +kernel
theorem dX6_table_1 : decode cX6_table 1 = .ok (.ifCond .lt 9, 3) := by decide +kernel
theorem dX6_table_4 : decode cX6_table 4 = .ok (.iload_n 1, 1) := by decide +kernel
theorem dX6_table_5 : decode cX6_table 5 = .ok (.bipush 16, 2) := by decide +kernel
theorem dX6_table_7 : decode cX6_table 7 = .ok (.if_icmp .lt 10, 3) := by decide +kernel
theorem dX6_table_10 : decode cX6_table 10 = .ok (.aload_n 0, 1) := by decide +kernel
theorem dX6_table_11 : decode cX6_table 11 = .ok (.bipush (-3), 2) := by decide +kernel
theorem dX6_table_13 : decode cX6_table 13 = .ok (.invokevirtual 86, 3) := by decide +kernel
theorem dX6_table_16 : decode cX6_table 16 = .ok (.ireturn, 1) := by decide +kernel
theorem dX6_table_17 : decode cX6_table 17 = .ok (.aload_n 0, 1) := by decide +kernel
theorem dX6_table_18 : decode cX6_table 18 = .ok (.getfield 30, 3) := by decide +kernel
theorem dX6_table_21 : decode cX6_table 21 = .ok (.iload_n 1, 1) := by decide +kernel
theorem dX6_table_22 : decode cX6_table 22 = .ok (.iaload, 1) := by decide +kernel
theorem dX6_table_23 : decode cX6_table 23 = .ok (.ireturn, 1) := by decide +kernel
theorem dX6_agree_0 : decode cX6_agree 0 = .ok (.aload_n 0, 1) := by decide +kernel
theorem dX6_agree_1 : decode cX6_agree 1 = .ok (.getfield 10, 3) := by decide +kernel
theorem dX6_agree_4 : decode cX6_agree 4 = .ok (.iconst 0, 1) := by decide +kernel
theorem dX6_agree_5 : decode cX6_agree 5 = .ok (.invokevirtual 168, 3) := by decide +kernel
theorem dX6_agree_8 : decode cX6_agree 8 = .ok (.iconst (-1), 1) := by decide +kernel
theorem dX6_agree_9 : decode cX6_agree 9 = .ok (.if_icmp .ne 7, 3) := by decide +kernel
theorem dX6_agree_12 : decode cX6_agree 12 = .ok (.iconst 1, 1) := by decide +kernel
theorem dX6_agree_13 : decode cX6_agree 13 = .ok (.goto 4, 3) := by decide +kernel
theorem dX6_agree_16 : decode cX6_agree 16 = .ok (.iconst 0, 1) := by decide +kernel
theorem dX6_agree_17 : decode cX6_agree 17 = .ok (.ireturn, 1) := by decide +kernel
theorem dX6_apart_0 : decode cX6_apart 0 = .ok (.iload_n 1, 1) := by decide +kernel
theorem dX6_apart_1 : decode cX6_apart 1 = .ok (.ifCond .lt 8, 3) := by decide +kernel
theorem dX6_apart_4 : decode cX6_apart 4 = .ok (.iload_n 1, 1) := by decide +kernel

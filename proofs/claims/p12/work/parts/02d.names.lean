theorem dX4_keep_55 : decode cX4_keep 55 = .ok (.dup, 1) := by decide +kernel
theorem dX4_keep_56 : decode cX4_keep 56 = .ok (.getfield 19, 3) := by decide +kernel
theorem dX4_keep_59 : decode cX4_keep 59 = .ok (.iconst 1, 1) := by decide +kernel
theorem dX4_keep_60 : decode cX4_keep 60 = .ok (.iadd, 1) := by decide +kernel
theorem dX4_keep_61 : decode cX4_keep 61 = .ok (.putfield 19, 3) := by decide +kernel
theorem dX4_keep_64 : decode cX4_keep 64 = .ok (.return_, 1) := by decide +kernel
theorem dX4_has_0 : decode cX4_has 0 = .ok (.iload_n 1, 1) := by decide +kernel
theorem dX4_has_1 : decode cX4_has 1 = .ok (.ifCond .lt 26, 3) := by decide +kernel
theorem dX4_has_4 : decode cX4_has 4 = .ok (.iload_n 1, 1) := by decide +kernel
theorem dX4_has_5 : decode cX4_has 5 = .ok (.aload_n 0, 1) := by decide +kernel
theorem dX4_has_6 : decode cX4_has 6 = .ok (.getfield 19, 3) := by decide +kernel
theorem dX4_has_9 : decode cX4_has 9 = .ok (.if_icmp .ge 18, 3) := by decide +kernel
theorem dX4_has_12 : decode cX4_has 12 = .ok (.iload_n 1, 1) := by decide +kernel
theorem dX4_has_13 : decode cX4_has 13 = .ok (.aload_n 0, 1) := by decide +kernel
theorem dX4_has_14 : decode cX4_has 14 = .ok (.getfield 19, 3) := by decide +kernel
theorem dX4_has_17 : decode cX4_has 17 = .ok (.bipush 50, 2) := by decide +kernel
theorem dX4_has_19 : decode cX4_has 19 = .ok (.isub, 1) := by decide +kernel
theorem dX4_has_20 : decode cX4_has 20 = .ok (.if_icmp .lt 7, 3) := by decide +kernel
theorem dX4_has_23 : decode cX4_has 23 = .ok (.iconst 1, 1) := by decide +kernel
theorem dX4_has_24 : decode cX4_has 24 = .ok (.goto 4, 3) := by decide +kernel
theorem dX4_has_27 : decode cX4_has 27 = .ok (.iconst 0, 1) := by decide +kernel
theorem dX4_has_28 : decode cX4_has 28 = .ok (.ireturn, 1) := by decide +kernel
theorem dX4_byteOf_0 : decode cX4_byteOf 0 = .ok (.iload_n 1, 1) := by decide +kernel
theorem dX4_byteOf_1 : decode cX4_byteOf 1 = .ok (.bipush 50, 2) := by decide +kernel
theorem dX4_byteOf_3 : decode cX4_byteOf 3 = .ok (.irem, 1) := by decide +kernel
theorem dX4_byteOf_4 : decode cX4_byteOf 4 = .ok (.istore_n 3, 1) := by decide +kernel
theorem dX4_byteOf_5 : decode cX4_byteOf 5 = .ok (.iload_n 2, 1) := by decide +kernel
theorem dX4_byteOf_6 : decode cX4_byteOf 6 = .ok (.aload_n 0, 1) := by decide +kernel
theorem dX4_byteOf_7 : decode cX4_byteOf 7 = .ok (.getfield 15, 3) := by decide +kernel
theorem dX4_byteOf_10 : decode cX4_byteOf 10 = .ok (.iload_n 3, 1) := by decide +kernel
theorem dX4_byteOf_11 : decode cX4_byteOf 11 = .ok (.iaload, 1) := by decide +kernel
theorem dX4_byteOf_12 : decode cX4_byteOf 12 = .ok (.if_icmp .ge 22, 3) := by decide +kernel
theorem dX4_byteOf_15 : decode cX4_byteOf 15 = .ok (.aload_n 0, 1) := by decide +kernel
theorem dX4_byteOf_16 : decode cX4_byteOf 16 = .ok (.getfield 9, 3) := by decide +kernel
theorem dX4_byteOf_19 : decode cX4_byteOf 19 = .ok (.iload_n 3, 1) := by decide +kernel
theorem dX4_byteOf_20 : decode cX4_byteOf 20 = .ok (.sipush 272, 3) := by decide +kernel
theorem dX4_byteOf_23 : decode cX4_byteOf 23 = .ok (.imul, 1) := by decide +kernel
theorem dX4_byteOf_24 : decode cX4_byteOf 24 = .ok (.iload_n 2, 1) := by decide +kernel
theorem dX4_byteOf_25 : decode cX4_byteOf 25 = .ok (.iadd, 1) := by decide +kernel
theorem dX4_byteOf_26 : decode cX4_byteOf 26 = .ok (.baload, 1) := by decide +kernel
theorem dX4_byteOf_27 : decode cX4_byteOf 27 = .ok (.sipush 255, 3) := by decide +kernel
theorem dX4_byteOf_30 : decode cX4_byteOf 30 = .ok (.iand, 1) := by decide +kernel
theorem dX4_byteOf_31 : decode cX4_byteOf 31 = .ok (.goto 4, 3) := by decide +kernel
theorem dX4_byteOf_34 : decode cX4_byteOf 34 = .ok (.iconst (-1), 1) := by decide +kernel
theorem dX4_byteOf_35 : decode cX4_byteOf 35 = .ok (.ireturn, 1) := by decide +kernel
theorem dX5_init_0 : decode cX5_init 0 = .ok (.aload_n 0, 1) := by decide +kernel
theorem dX5_init_1 : decode cX5_init 1 = .ok (.invokespecial 3, 3) := by decide +kernel
theorem dX5_init_4 : decode cX5_init 4 = .ok (.aload_n 0, 1) := by decide +kernel
theorem dX5_init_5 : decode cX5_init 5 = .ok (.sipush 277, 3) := by decide +kernel
theorem dX5_init_8 : decode cX5_init 8 = .ok (.newarray .int, 2) := by decide +kernel
theorem dX5_init_10 : decode cX5_init 10 = .ok (.putfield 9, 3) := by decide +kernel
theorem dX5_init_13 : decode cX5_init 13 = .ok (.return_, 1) := by decide +kernel
theorem dX5_backwardNumber_0 : decode cX5_backwardNumber 0 = .ok (.aload_n 0, 1) := by decide +kernel
theorem dX5_backwardNumber_1 : decode cX5_backwardNumber 1 = .ok (.getfield 9, 3) := by decide +kernel
theorem dX5_backwardNumber_4 : decode cX5_backwardNumber 4 = .ok (.iconst 0, 1) := by decide +kernel
theorem dX5_backwardNumber_5 : decode cX5_backwardNumber 5 = .ok (.iaload, 1) := by decide +kernel
theorem dX5_backwardNumber_6 : decode cX5_backwardNumber 6 = .ok (.bipush 127, 2) := by decide +kernel
theorem dX5_backwardNumber_8 : decode cX5_backwardNumber 8 = .ok (.iand, 1) := by decide +kernel
theorem dX5_backwardNumber_9 : decode cX5_backwardNumber 9 = .ok (.ireturn, 1) := by decide +kernel
theorem dX5_backwardIndicator_0 : decode cX5_backwardIndicator 0 = .ok (.aload_n 0, 1) := by decide +kernel
theorem dX5_backwardIndicator_1 : decode cX5_backwardIndicator 1 = .ok (.getfield 9, 3) := by decide +kernel
theorem dX5_backwardIndicator_4 : decode cX5_backwardIndicator 4 = .ok (.iconst 0, 1) := by decide +kernel
theorem dX5_backwardIndicator_5 : decode cX5_backwardIndicator 5 = .ok (.iaload, 1) := by decide +kernel
theorem dX5_backwardIndicator_6 : decode cX5_backwardIndicator 6 = .ok (.bipush 7, 2) := by decide +kernel
theorem dX5_backwardIndicator_8 : decode cX5_backwardIndicator 8 = .ok (.ishr, 1) := by decide +kernel
theorem dX5_backwardIndicator_9 : decode cX5_backwardIndicator 9 = .ok (.ireturn, 1) := by decide +kernel
theorem dX5_forwardNumber_0 : decode cX5_forwardNumber 0 = .ok (.aload_n 0, 1) := by decide +kernel
theorem dX5_forwardNumber_1 : decode cX5_forwardNumber 1 = .ok (.getfield 9, 3) := by decide +kernel
theorem dX5_forwardNumber_4 : decode cX5_forwardNumber 4 = .ok (.iconst 1, 1) := by decide +kernel
theorem dX5_forwardNumber_5 : decode cX5_forwardNumber 5 = .ok (.iaload, 1) := by decide +kernel
theorem dX5_forwardNumber_6 : decode cX5_forwardNumber 6 = .ok (.bipush 127, 2) := by decide +kernel
theorem dX5_forwardNumber_8 : decode cX5_forwardNumber 8 = .ok (.iand, 1) := by decide +kernel
theorem dX5_forwardNumber_9 : decode cX5_forwardNumber 9 = .ok (.ireturn, 1) := by decide +kernel
theorem dX5_forwardIndicator_0 : decode cX5_forwardIndicator 0 = .ok (.aload_n 0, 1) := by decide +kernel
theorem dX5_forwardIndicator_1 : decode cX5_forwardIndicator 1 = .ok (.getfield 9, 3) := by decide +kernel
theorem dX5_forwardIndicator_4 : decode cX5_forwardIndicator 4 = .ok (.iconst 1, 1) := by decide +kernel
theorem dX5_forwardIndicator_5 : decode cX5_forwardIndicator 5 = .ok (.iaload, 1) := by decide +kernel
theorem dX5_forwardIndicator_6 : decode cX5_forwardIndicator 6 = .ok (.bipush 7, 2) := by decide +kernel
theorem dX5_forwardIndicator_8 : decode cX5_forwardIndicator 8 = .ok (.ishr, 1) := by decide +kernel
theorem dX5_forwardIndicator_9 : decode cX5_forwardIndicator 9 = .ok (.ireturn, 1) := by decide +kernel
theorem dX5_bodyLength_0 : decode cX5_bodyLength 0 = .ok (.aload_n 0, 1) := by decide +kernel
theorem dX5_bodyLength_1 : decode cX5_bodyLength 1 = .ok (.getfield 15, 3) := by decide +kernel
theorem dX5_bodyLength_4 : decode cX5_bodyLength 4 = .ok (.iconst 5, 1) := by decide +kernel
theorem dX5_bodyLength_5 : decode cX5_bodyLength 5 = .ok (.isub, 1) := by decide +kernel
theorem dX5_bodyLength_6 : decode cX5_bodyLength 6 = .ok (.ireturn, 1) := by decide +kernel
theorem dX5_bodyByte_0 : decode cX5_bodyByte 0 = .ok (.aload_n 0, 1) := by decide +kernel
theorem dX5_bodyByte_1 : decode cX5_bodyByte 1 = .ok (.getfield 9, 3) := by decide +kernel
theorem dX5_bodyByte_4 : decode cX5_bodyByte 4 = .ok (.iconst 3, 1) := by decide +kernel
theorem dX5_bodyByte_5 : decode cX5_bodyByte 5 = .ok (.iload_n 1, 1) := by decide +kernel
theorem dX5_bodyByte_6 : decode cX5_bodyByte 6 = .ok (.iadd, 1) := by decide +kernel
theorem dX5_bodyByte_7 : decode cX5_bodyByte 7 = .ok (.iaload, 1) := by decide +kernel
theorem dX5_bodyByte_8 : decode cX5_bodyByte 8 = .ok (.ireturn, 1) := by decide +kernel
theorem dX5_writeHead_0 : decode cX5_writeHead 0 = .ok (.aload_n 0, 1) := by decide +kernel
theorem dX5_writeHead_1 : decode cX5_writeHead 1 = .ok (.getfield 9, 3) := by decide +kernel
theorem dX5_writeHead_4 : decode cX5_writeHead 4 = .ok (.iconst 0, 1) := by decide +kernel
theorem dX5_writeHead_5 : decode cX5_writeHead 5 = .ok (.iload_n 1, 1) := by decide +kernel
theorem dX5_writeHead_6 : decode cX5_writeHead 6 = .ok (.iastore, 1) := by decide +kernel
theorem dX5_writeHead_7 : decode cX5_writeHead 7 = .ok (.aload_n 0, 1) := by decide +kernel
theorem dX5_writeHead_8 : decode cX5_writeHead 8 = .ok (.getfield 9, 3) := by decide +kernel
theorem dX5_writeHead_11 : decode cX5_writeHead 11 = .ok (.iconst 1, 1) := by decide +kernel
theorem dX5_writeHead_12 : decode cX5_writeHead 12 = .ok (.iload_n 2, 1) := by decide +kernel
theorem dX5_writeHead_13 : decode cX5_writeHead 13 = .ok (.iastore, 1) := by decide +kernel
theorem dX5_writeHead_14 : decode cX5_writeHead 14 = .ok (.aload_n 0, 1) := by decide +kernel
theorem dX5_writeHead_15 : decode cX5_writeHead 15 = .ok (.getfield 9, 3) := by decide +kernel
theorem dX5_writeHead_18 : decode cX5_writeHead 18 = .ok (.iconst 2, 1) := by decide +kernel
theorem dX5_writeHead_19 : decode cX5_writeHead 19 = .ok (.iload_n 3, 1) := by decide +kernel
theorem dX5_writeHead_20 : decode cX5_writeHead 20 = .ok (.bipush 63, 2) := by decide +kernel
theorem dX5_writeHead_22 : decode cX5_writeHead 22 = .ok (.invokestatic 19, 3) := by decide +kernel
theorem dX5_writeHead_25 : decode cX5_writeHead 25 = .ok (.iastore, 1) := by decide +kernel
theorem dX5_writeHead_26 : decode cX5_writeHead 26 = .ok (.aload_n 0, 1) := by decide +kernel
theorem dX5_writeHead_27 : decode cX5_writeHead 27 = .ok (.iconst 5, 1) := by decide +kernel
theorem dX5_writeHead_28 : decode cX5_writeHead 28 = .ok (.iload_n 3, 1) := by decide +kernel
theorem dX5_writeHead_29 : decode cX5_writeHead 29 = .ok (.iadd, 1) := by decide +kernel
theorem dX5_writeHead_30 : decode cX5_writeHead 30 = .ok (.putfield 15, 3) := by decide +kernel
theorem dX5_writeHead_33 : decode cX5_writeHead 33 = .ok (.return_, 1) := by decide +kernel
set_option maxRecDepth 20000 in
theorem ggX5_writeBody_X5_bodyLength : GoodIn wsX5_writeBody wsX5_bodyLength := goodIn_r _ [6, 7, 8, 9] (by decide +kernel) (by decide +kernel)
set_option maxRecDepth 20000 in
theorem gX5_writeBody_X5_bodyLength : GoodIn wsX5_writeBody (wsV RX5 25 RX5 yX5_bodyLength wsX5_bodyLength) := goodIn_app (goodIn_of _ (by decide +kernel)) ggX5_writeBody_X5_bodyLength
theorem dX5_writeBody_0 : decode cX5_writeBody 0 = .ok (.iconst 0, 1) := by decide +kernel
theorem dX5_writeBody_1 : decode cX5_writeBody 1 = .ok (.istore_n 2, 1) := by decide +kernel
theorem dX5_writeBody_2 : decode cX5_writeBody 2 = .ok (.iload_n 2, 1) := by decide +kernel
theorem dX5_writeBody_3 : decode cX5_writeBody 3 = .ok (.aload_n 0, 1) := by decide +kernel
theorem dX5_writeBody_4 : decode cX5_writeBody 4 = .ok (.invokevirtual 25, 3) := by decide +kernel
theorem dX5_writeBody_7 : decode cX5_writeBody 7 = .ok (.if_icmp .ge 32, 3) := by decide +kernel
theorem dX5_writeBody_10 : decode cX5_writeBody 10 = .ok (.aload_n 0, 1) := by decide +kernel
theorem dX5_writeBody_11 : decode cX5_writeBody 11 = .ok (.getfield 9, 3) := by decide +kernel
theorem dX5_writeBody_14 : decode cX5_writeBody 14 = .ok (.iconst 3, 1) := by decide +kernel
theorem dX5_writeBody_15 : decode cX5_writeBody 15 = .ok (.iload_n 2, 1) := by decide +kernel
theorem dX5_writeBody_16 : decode cX5_writeBody 16 = .ok (.iadd, 1) := by decide +kernel
theorem dX5_writeBody_17 : decode cX5_writeBody 17 = .ok (.iload_n 1, 1) := by decide +kernel
theorem dX5_writeBody_18 : decode cX5_writeBody 18 = .ok (.bipush 37, 2) := by decide +kernel
theorem dX5_writeBody_20 : decode cX5_writeBody 20 = .ok (.iload_n 2, 1) := by decide +kernel
theorem dX5_writeBody_21 : decode cX5_writeBody 21 = .ok (.imul, 1) := by decide +kernel
theorem dX5_writeBody_22 : decode cX5_writeBody 22 = .ok (.iadd, 1) := by decide +kernel
theorem dX5_writeBody_23 : decode cX5_writeBody 23 = .ok (.iload_n 2, 1) := by decide +kernel
theorem dX5_writeBody_24 : decode cX5_writeBody 24 = .ok (.bipush 8, 2) := by decide +kernel
theorem dX5_writeBody_26 : decode cX5_writeBody 26 = .ok (.idiv, 1) := by decide +kernel
theorem dX5_writeBody_27 : decode cX5_writeBody 27 = .ok (.iadd, 1) := by decide +kernel
theorem dX5_writeBody_28 : decode cX5_writeBody 28 = .ok (.sipush 255, 3) := by decide +kernel
theorem dX5_writeBody_31 : decode cX5_writeBody 31 = .ok (.iand, 1) := by decide +kernel
theorem dX5_writeBody_32 : decode cX5_writeBody 32 = .ok (.iastore, 1) := by decide +kernel
theorem dX5_writeBody_33 : decode cX5_writeBody 33 = .ok (.iinc 2 1, 3) := by decide +kernel
theorem dX5_writeBody_36 : decode cX5_writeBody 36 = .ok (.goto (-34), 3) := by decide +kernel
theorem dX5_writeBody_39 : decode cX5_writeBody 39 = .ok (.return_, 1) := by decide +kernel
set_option maxRecDepth 20000 in
theorem ggX5_writeCheck_X5_checkDue : GoodIn wsX5_writeCheck wsX5_checkDue := goodIn_r _ [7, 8, 2, 1, 9, 10, 11, 12, 13, 14] (by decide +kernel) (by decide +kernel)
set_option maxRecDepth 20000 in
theorem gX5_writeCheck_X5_checkDue : GoodIn wsX5_writeCheck (wsV RX5 29 RX5 yX5_checkDue wsX5_checkDue) := goodIn_app (goodIn_of _ (by decide +kernel)) ggX5_writeCheck_X5_checkDue
theorem dX5_writeCheck_0 : decode cX5_writeCheck 0 = .ok (.aload_n 0, 1) := by decide +kernel
theorem dX5_writeCheck_1 : decode cX5_writeCheck 1 = .ok (.invokevirtual 29, 3) := by decide +kernel
theorem dX5_writeCheck_4 : decode cX5_writeCheck 4 = .ok (.istore_n 1, 1) := by decide +kernel
theorem dX5_writeCheck_5 : decode cX5_writeCheck 5 = .ok (.aload_n 0, 1) := by decide +kernel
theorem dX5_writeCheck_6 : decode cX5_writeCheck 6 = .ok (.getfield 9, 3) := by decide +kernel
theorem dX5_writeCheck_9 : decode cX5_writeCheck 9 = .ok (.aload_n 0, 1) := by decide +kernel
theorem dX5_writeCheck_10 : decode cX5_writeCheck 10 = .ok (.getfield 15, 3) := by decide +kernel
theorem dX5_writeCheck_13 : decode cX5_writeCheck 13 = .ok (.iconst 2, 1) := by decide +kernel
theorem dX5_writeCheck_14 : decode cX5_writeCheck 14 = .ok (.isub, 1) := by decide +kernel
theorem dX5_writeCheck_15 : decode cX5_writeCheck 15 = .ok (.iload_n 1, 1) := by decide +kernel
theorem dX5_writeCheck_16 : decode cX5_writeCheck 16 = .ok (.sipush 255, 3) := by decide +kernel
theorem dX5_writeCheck_19 : decode cX5_writeCheck 19 = .ok (.iand, 1) := by decide +kernel
theorem dX5_writeCheck_20 : decode cX5_writeCheck 20 = .ok (.iastore, 1) := by decide +kernel
theorem dX5_writeCheck_21 : decode cX5_writeCheck 21 = .ok (.aload_n 0, 1) := by decide +kernel
theorem dX5_writeCheck_22 : decode cX5_writeCheck 22 = .ok (.getfield 9, 3) := by decide +kernel
theorem dX5_writeCheck_25 : decode cX5_writeCheck 25 = .ok (.aload_n 0, 1) := by decide +kernel
theorem dX5_writeCheck_26 : decode cX5_writeCheck 26 = .ok (.getfield 15, 3) := by decide +kernel
theorem dX5_writeCheck_29 : decode cX5_writeCheck 29 = .ok (.iconst 1, 1) := by decide +kernel
theorem dX5_writeCheck_30 : decode cX5_writeCheck 30 = .ok (.isub, 1) := by decide +kernel
theorem dX5_writeCheck_31 : decode cX5_writeCheck 31 = .ok (.iload_n 1, 1) := by decide +kernel
theorem dX5_writeCheck_32 : decode cX5_writeCheck 32 = .ok (.bipush 8, 2) := by decide +kernel
theorem dX5_writeCheck_34 : decode cX5_writeCheck 34 = .ok (.ishr, 1) := by decide +kernel
theorem dX5_writeCheck_35 : decode cX5_writeCheck 35 = .ok (.iastore, 1) := by decide +kernel
theorem dX5_writeCheck_36 : decode cX5_writeCheck 36 = .ok (.return_, 1) := by decide +kernel
set_option maxRecDepth 20000 in
theorem ggX5_checkDue_X6_restBehind : GoodIn wsX5_checkDue wsX6_restBehind := goodIn_r _ [6, 7] (by decide +kernel) (by decide +kernel)
set_option maxRecDepth 20000 in
theorem gX5_checkDue_X6_restBehind_n33 : GoodIn wsX5_checkDue (wsX6_restBehind) := ggX5_checkDue_X6_restBehind
theorem dX5_checkDue_0 : decode cX5_checkDue 0 = .ok (.ldc 32, 2) := by decide +kernel
theorem dX5_checkDue_2 : decode cX5_checkDue 2 = .ok (.istore_n 1, 1) := by decide +kernel
theorem dX5_checkDue_3 : decode cX5_checkDue 3 = .ok (.iconst 0, 1) := by decide +kernel
theorem dX5_checkDue_4 : decode cX5_checkDue 4 = .ok (.istore_n 2, 1) := by decide +kernel
theorem dX5_checkDue_5 : decode cX5_checkDue 5 = .ok (.iload_n 2, 1) := by decide +kernel
theorem dX5_checkDue_6 : decode cX5_checkDue 6 = .ok (.aload_n 0, 1) := by decide +kernel
theorem dX5_checkDue_7 : decode cX5_checkDue 7 = .ok (.getfield 15, 3) := by decide +kernel
theorem dX5_checkDue_10 : decode cX5_checkDue 10 = .ok (.iconst 2, 1) := by decide +kernel
theorem dX5_checkDue_11 : decode cX5_checkDue 11 = .ok (.isub, 1) := by decide +kernel
theorem dX5_checkDue_12 : decode cX5_checkDue 12 = .ok (.if_icmp .ge 20, 3) := by decide +kernel
theorem dX5_checkDue_15 : decode cX5_checkDue 15 = .ok (.iload_n 1, 1) := by decide +kernel
theorem dX5_checkDue_16 : decode cX5_checkDue 16 = .ok (.aload_n 0, 1) := by decide +kernel
theorem dX5_checkDue_17 : decode cX5_checkDue 17 = .ok (.getfield 9, 3) := by decide +kernel
theorem dX5_checkDue_20 : decode cX5_checkDue 20 = .ok (.iload_n 2, 1) := by decide +kernel
theorem dX5_checkDue_21 : decode cX5_checkDue 21 = .ok (.iaload, 1) := by decide +kernel
theorem dX5_checkDue_22 : decode cX5_checkDue 22 = .ok (.invokestatic 33, 3) := by decide +kernel
theorem dX5_checkDue_25 : decode cX5_checkDue 25 = .ok (.istore_n 1, 1) := by decide +kernel
theorem dX5_checkDue_26 : decode cX5_checkDue 26 = .ok (.iinc 2 1, 3) := by decide +kernel
theorem dX5_checkDue_29 : decode cX5_checkDue 29 = .ok (.goto (-24), 3) := by decide +kernel
theorem dX5_checkDue_32 : decode cX5_checkDue 32 = .ok (.ldc 32, 2) := by decide +kernel
theorem dX5_checkDue_34 : decode cX5_checkDue 34 = .ok (.iload_n 1, 1) := by decide +kernel
theorem dX5_checkDue_35 : decode cX5_checkDue 35 = .ok (.isub, 1) := by decide +kernel
theorem dX5_checkDue_36 : decode cX5_checkDue 36 = .ok (.ireturn, 1) := by decide +kernel
set_option maxRecDepth 20000 in
theorem ggX5_writeTo_X1_addFlag : GoodIn wsX5_writeTo wsX1_addFlag := goodIn_r _ [7, 8, 9, 10, 6, 11, 12, 13, 14, 15, 16, 17, 18, 19, 20, 21, 25, 26] (by decide +kernel) (by decide +kernel)
set_option maxRecDepth 20000 in
theorem gX5_writeTo_X1_addFlag : GoodIn wsX5_writeTo (wsV RX5 36 RX1 yX1_addFlag wsX1_addFlag) := goodIn_app (goodIn_of _ (by decide +kernel)) ggX5_writeTo_X1_addFlag
set_option maxRecDepth 20000 in
theorem ggX5_writeTo_X1_add : GoodIn wsX5_writeTo wsX1_add := goodIn_r _ [11, 12, 13, 14, 15, 6, 16, 17, 18, 19, 20, 21, 25, 26] (by decide +kernel) (by decide +kernel)
set_option maxRecDepth 20000 in
theorem gX5_writeTo_X1_add : GoodIn wsX5_writeTo (wsV RX5 41 RX1 yX1_add wsX1_add) := goodIn_app (goodIn_of _ (by decide +kernel)) ggX5_writeTo_X1_add
theorem dX5_writeTo_0 : decode cX5_writeTo 0 = .ok (.aload_n 1, 1) := by decide +kernel
theorem dX5_writeTo_1 : decode cX5_writeTo 1 = .ok (.invokevirtual 36, 3) := by decide +kernel
theorem dX5_writeTo_4 : decode cX5_writeTo 4 = .ok (.iconst 0, 1) := by decide +kernel
theorem dX5_writeTo_5 : decode cX5_writeTo 5 = .ok (.istore_n 2, 1) := by decide +kernel
theorem dX5_writeTo_6 : decode cX5_writeTo 6 = .ok (.iconst 0, 1) := by decide +kernel
theorem dX5_writeTo_7 : decode cX5_writeTo 7 = .ok (.istore_n 3, 1) := by decide +kernel
theorem dX5_writeTo_8 : decode cX5_writeTo 8 = .ok (.iload_n 3, 1) := by decide +kernel
theorem dX5_writeTo_9 : decode cX5_writeTo 9 = .ok (.bipush 8, 2) := by decide +kernel
theorem dX5_writeTo_11 : decode cX5_writeTo 11 = .ok (.aload_n 0, 1) := by decide +kernel
theorem dX5_writeTo_12 : decode cX5_writeTo 12 = .ok (.getfield 15, 3) := by decide +kernel
theorem dX5_writeTo_15 : decode cX5_writeTo 15 = .ok (.imul, 1) := by decide +kernel
theorem dX5_writeTo_16 : decode cX5_writeTo 16 = .ok (.if_icmp .ge 59, 3) := by decide +kernel
theorem dX5_writeTo_19 : decode cX5_writeTo 19 = .ok (.aload_n 0, 1) := by decide +kernel
theorem dX5_writeTo_20 : decode cX5_writeTo 20 = .ok (.getfield 9, 3) := by decide +kernel
theorem dX5_writeTo_23 : decode cX5_writeTo 23 = .ok (.iload_n 3, 1) := by decide +kernel
theorem dX5_writeTo_24 : decode cX5_writeTo 24 = .ok (.bipush 8, 2) := by decide +kernel
theorem dX5_writeTo_26 : decode cX5_writeTo 26 = .ok (.idiv, 1) := by decide +kernel
theorem dX5_writeTo_27 : decode cX5_writeTo 27 = .ok (.iaload, 1) := by decide +kernel
theorem dX5_writeTo_28 : decode cX5_writeTo 28 = .ok (.iload_n 3, 1) := by decide +kernel
theorem dX5_writeTo_29 : decode cX5_writeTo 29 = .ok (.bipush 8, 2) := by decide +kernel
theorem dX5_writeTo_31 : decode cX5_writeTo 31 = .ok (.irem, 1) := by decide +kernel
theorem dX5_writeTo_32 : decode cX5_writeTo 32 = .ok (.ishr, 1) := by decide +kernel
theorem dX5_writeTo_33 : decode cX5_writeTo 33 = .ok (.iconst 1, 1) := by decide +kernel
theorem dX5_writeTo_34 : decode cX5_writeTo 34 = .ok (.iand, 1) := by decide +kernel
theorem dX5_writeTo_35 : decode cX5_writeTo 35 = .ok (.istore 4, 2) := by decide +kernel
theorem dX5_writeTo_37 : decode cX5_writeTo 37 = .ok (.aload_n 1, 1) := by decide +kernel
theorem dX5_writeTo_38 : decode cX5_writeTo 38 = .ok (.iload 4, 2) := by decide +kernel
theorem dX5_writeTo_40 : decode cX5_writeTo 40 = .ok (.invokevirtual 41, 3) := by decide +kernel
theorem dX5_writeTo_43 : decode cX5_writeTo 43 = .ok (.iload 4, 2) := by decide +kernel
theorem dX5_writeTo_45 : decode cX5_writeTo 45 = .ok (.iconst 1, 1) := by decide +kernel
theorem dX5_writeTo_46 : decode cX5_writeTo 46 = .ok (.if_icmp .ne 9, 3) := by decide +kernel
theorem dX5_writeTo_49 : decode cX5_writeTo 49 = .ok (.iload_n 2, 1) := by decide +kernel
theorem dX5_writeTo_50 : decode cX5_writeTo 50 = .ok (.iconst 1, 1) := by decide +kernel
theorem dX5_writeTo_51 : decode cX5_writeTo 51 = .ok (.iadd, 1) := by decide +kernel
theorem dX5_writeTo_52 : decode cX5_writeTo 52 = .ok (.goto 4, 3) := by decide +kernel
theorem dX5_writeTo_55 : decode cX5_writeTo 55 = .ok (.iconst 0, 1) := by decide +kernel
theorem dX5_writeTo_56 : decode cX5_writeTo 56 = .ok (.istore_n 2, 1) := by decide +kernel
theorem dX5_writeTo_57 : decode cX5_writeTo 57 = .ok (.iload_n 2, 1) := by decide +kernel
theorem dX5_writeTo_58 : decode cX5_writeTo 58 = .ok (.iconst 5, 1) := by decide +kernel
theorem dX5_writeTo_59 : decode cX5_writeTo 59 = .ok (.if_icmp .ne 10, 3) := by decide +kernel
theorem dX5_writeTo_62 : decode cX5_writeTo 62 = .ok (.aload_n 1, 1) := by decide +kernel
theorem dX5_writeTo_63 : decode cX5_writeTo 63 = .ok (.iconst 0, 1) := by decide +kernel
theorem dX5_writeTo_64 : decode cX5_writeTo 64 = .ok (.invokevirtual 41, 3) := by decide +kernel
theorem dX5_writeTo_67 : decode cX5_writeTo 67 = .ok (.iconst 0, 1) := by decide +kernel
theorem dX5_writeTo_68 : decode cX5_writeTo 68 = .ok (.istore_n 2, 1) := by decide +kernel
theorem dX5_writeTo_69 : decode cX5_writeTo 69 = .ok (.iinc 3 1, 3) := by decide +kernel
theorem dX5_writeTo_72 : decode cX5_writeTo 72 = .ok (.goto (-64), 3) := by decide +kernel
theorem dX5_writeTo_75 : decode cX5_writeTo 75 = .ok (.aload_n 1, 1) := by decide +kernel
theorem dX5_writeTo_76 : decode cX5_writeTo 76 = .ok (.invokevirtual 36, 3) := by decide +kernel
theorem dX5_writeTo_79 : decode cX5_writeTo 79 = .ok (.return_, 1) := by decide +kernel
set_option maxRecDepth 20000 in
theorem ggX5_readFrom_X1_isBetweenFlags : GoodIn wsX5_readFrom wsX1_isBetweenFlags := goodIn_r _ [11, 12, 13, 14, 15, 10, 16, 17, 18, 19, 20, 21, 51, 52] (by decide +kernel) (by decide +kernel)
set_option maxRecDepth 20000 in
theorem gX5_readFrom_X1_isBetweenFlags : GoodIn wsX5_readFrom (wsV RX5 45 RX1 yX1_isBetweenFlags wsX1_isBetweenFlags) := goodIn_app (goodIn_of _ (by decide +kernel)) ggX5_readFrom_X1_isBetweenFlags
set_option maxRecDepth 20000 in
theorem ggX5_readFrom_X1_hasSixOnesBetweenFlags : GoodIn wsX5_readFrom wsX1_hasSixOnesBetweenFlags := goodIn_r _ [25, 12, 17, 18, 19, 10, 20, 21, 51, 52] (by decide +kernel) (by decide +kernel)
set_option maxRecDepth 20000 in
theorem gX5_readFrom_X1_hasSixOnesBetweenFlags : GoodIn wsX5_readFrom (wsV RX5 49 RX1 yX1_hasSixOnesBetweenFlags wsX1_hasSixOnesBetweenFlags) := goodIn_app (goodIn_of _ (by decide +kernel)) ggX5_readFrom_X1_hasSixOnesBetweenFlags
set_option maxRecDepth 20000 in
theorem ggX5_readFrom_X5_readBits : GoodIn wsX5_readFrom wsX5_readBits := goodIn_r _ [30, 31, 18, 19, 10, 20, 21, 32, 33, 34, 29, 35, 2, 51, 52, 49, 50] (by decide +kernel) (by decide +kernel)
set_option maxRecDepth 20000 in
theorem gX5_readFrom_X5_readBits : GoodIn wsX5_readFrom (wsV RX5 52 RX5 yX5_readBits wsX5_readBits) := goodIn_app (goodIn_of _ (by decide +kernel)) ggX5_readFrom_X5_readBits
set_option maxRecDepth 20000 in
theorem ggX5_readFrom_X5_checkDue : GoodIn wsX5_readFrom wsX5_checkDue := goodIn_r _ [39, 40, 1, 2, 41, 42, 43, 44, 49, 50] (by decide +kernel) (by decide +kernel)
set_option maxRecDepth 20000 in
theorem gX5_readFrom_X5_checkDue : GoodIn wsX5_readFrom (wsV RX5 29 RX5 yX5_checkDue wsX5_checkDue) := goodIn_app (goodIn_of _ (by decide +kernel)) ggX5_readFrom_X5_checkDue
set_option maxRecDepth 20000 in
theorem ggX5_readFrom_X5_bodyLength : GoodIn wsX5_readFrom wsX5_bodyLength := goodIn_r _ [48, 1, 49, 50] (by decide +kernel) (by decide +kernel)
set_option maxRecDepth 20000 in
theorem gX5_readFrom_X5_bodyLength : GoodIn wsX5_readFrom (wsV RX5 25 RX5 yX5_bodyLength wsX5_bodyLength) := goodIn_app (goodIn_of _ (by decide +kernel)) ggX5_readFrom_X5_bodyLength
theorem dX5_readFrom_0 : decode cX5_readFrom 0 = .ok (.aload_n 1, 1) := by decide +kernel
theorem dX5_readFrom_1 : decode cX5_readFrom 1 = .ok (.invokevirtual 45, 3) := by decide +kernel
theorem dX5_readFrom_4 : decode cX5_readFrom 4 = .ok (.ifCond .ne 5, 3) := by decide +kernel
theorem dX5_readFrom_7 : decode cX5_readFrom 7 = .ok (.iconst 1, 1) := by decide +kernel
theorem dX5_readFrom_8 : decode cX5_readFrom 8 = .ok (.ireturn, 1) := by decide +kernel
theorem dX5_readFrom_9 : decode cX5_readFrom 9 = .ok (.aload_n 1, 1) := by decide +kernel
theorem dX5_readFrom_10 : decode cX5_readFrom 10 = .ok (.invokevirtual 49, 3) := by decide +kernel
theorem dX5_readFrom_13 : decode cX5_readFrom 13 = .ok (.ifCond .eq 5, 3) := by decide +kernel
theorem dX5_readFrom_16 : decode cX5_readFrom 16 = .ok (.iconst 2, 1) := by decide +kernel
theorem dX5_readFrom_17 : decode cX5_readFrom 17 = .ok (.ireturn, 1) := by decide +kernel
theorem dX5_readFrom_18 : decode cX5_readFrom 18 = .ok (.aload_n 0, 1) := by decide +kernel
theorem dX5_readFrom_19 : decode cX5_readFrom 19 = .ok (.aload_n 1, 1) := by decide +kernel
theorem dX5_readFrom_20 : decode cX5_readFrom 20 = .ok (.invokevirtual 52, 3) := by decide +kernel
theorem dX5_readFrom_23 : decode cX5_readFrom 23 = .ok (.istore_n 2, 1) := by decide +kernel
theorem dX5_readFrom_24 : decode cX5_readFrom 24 = .ok (.iload_n 2, 1) := by decide +kernel
theorem dX5_readFrom_25 : decode cX5_readFrom 25 = .ok (.bipush 8, 2) := by decide +kernel
theorem dX5_readFrom_27 : decode cX5_readFrom 27 = .ok (.irem, 1) := by decide +kernel
theorem dX5_readFrom_28 : decode cX5_readFrom 28 = .ok (.ifCond .ne 16, 3) := by decide +kernel
theorem dX5_readFrom_31 : decode cX5_readFrom 31 = .ok (.iload_n 2, 1) := by decide +kernel
theorem dX5_readFrom_32 : decode cX5_readFrom 32 = .ok (.bipush 40, 2) := by decide +kernel
theorem dX5_readFrom_34 : decode cX5_readFrom 34 = .ok (.if_icmp .lt 10, 3) := by decide +kernel
theorem dX5_readFrom_37 : decode cX5_readFrom 37 = .ok (.iload_n 2, 1) := by decide +kernel
theorem dX5_readFrom_38 : decode cX5_readFrom 38 = .ok (.sipush 2216, 3) := by decide +kernel
theorem dX5_readFrom_41 : decode cX5_readFrom 41 = .ok (.if_icmp .le 5, 3) := by decide +kernel
theorem dX5_readFrom_44 : decode cX5_readFrom 44 = .ok (.iconst 3, 1) := by decide +kernel
theorem dX5_readFrom_45 : decode cX5_readFrom 45 = .ok (.ireturn, 1) := by decide +kernel
theorem dX5_readFrom_46 : decode cX5_readFrom 46 = .ok (.aload_n 0, 1) := by decide +kernel
theorem dX5_readFrom_47 : decode cX5_readFrom 47 = .ok (.iload_n 2, 1) := by decide +kernel
theorem dX5_readFrom_48 : decode cX5_readFrom 48 = .ok (.bipush 8, 2) := by decide +kernel
theorem dX5_readFrom_50 : decode cX5_readFrom 50 = .ok (.idiv, 1) := by decide +kernel
theorem dX5_readFrom_51 : decode cX5_readFrom 51 = .ok (.putfield 15, 3) := by decide +kernel
theorem dX5_readFrom_54 : decode cX5_readFrom 54 = .ok (.aload_n 0, 1) := by decide +kernel
theorem dX5_readFrom_55 : decode cX5_readFrom 55 = .ok (.getfield 9, 3) := by decide +kernel
theorem dX5_readFrom_58 : decode cX5_readFrom 58 = .ok (.aload_n 0, 1) := by decide +kernel
theorem dX5_readFrom_59 : decode cX5_readFrom 59 = .ok (.getfield 15, 3) := by decide +kernel
theorem dX5_readFrom_62 : decode cX5_readFrom 62 = .ok (.iconst 2, 1) := by decide +kernel
theorem dX5_readFrom_63 : decode cX5_readFrom 63 = .ok (.isub, 1) := by decide +kernel
theorem dX5_readFrom_64 : decode cX5_readFrom 64 = .ok (.iaload, 1) := by decide +kernel
theorem dX5_readFrom_65 : decode cX5_readFrom 65 = .ok (.sipush 256, 3) := by decide +kernel
theorem dX5_readFrom_68 : decode cX5_readFrom 68 = .ok (.aload_n 0, 1) := by decide +kernel
theorem dX5_readFrom_69 : decode cX5_readFrom 69 = .ok (.getfield 9, 3) := by decide +kernel
theorem dX5_readFrom_72 : decode cX5_readFrom 72 = .ok (.aload_n 0, 1) := by decide +kernel
theorem dX5_readFrom_73 : decode cX5_readFrom 73 = .ok (.getfield 15, 3) := by decide +kernel
theorem dX5_readFrom_76 : decode cX5_readFrom 76 = .ok (.iconst 1, 1) := by decide +kernel
theorem dX5_readFrom_77 : decode cX5_readFrom 77 = .ok (.isub, 1) := by decide +kernel
theorem dX5_readFrom_78 : decode cX5_readFrom 78 = .ok (.iaload, 1) := by decide +kernel
theorem dX5_readFrom_79 : decode cX5_readFrom 79 = .ok (.imul, 1) := by decide +kernel
theorem dX5_readFrom_80 : decode cX5_readFrom 80 = .ok (.iadd, 1) := by decide +kernel
theorem dX5_readFrom_81 : decode cX5_readFrom 81 = .ok (.aload_n 0, 1) := by decide +kernel
theorem dX5_readFrom_82 : decode cX5_readFrom 82 = .ok (.invokevirtual 29, 3) := by decide +kernel
theorem dX5_readFrom_85 : decode cX5_readFrom 85 = .ok (.if_icmp .eq 5, 3) := by decide +kernel
theorem dX5_readFrom_88 : decode cX5_readFrom 88 = .ok (.iconst 4, 1) := by decide +kernel
theorem dX5_readFrom_89 : decode cX5_readFrom 89 = .ok (.ireturn, 1) := by decide +kernel
theorem dX5_readFrom_90 : decode cX5_readFrom 90 = .ok (.aload_n 0, 1) := by decide +kernel
theorem dX5_readFrom_91 : decode cX5_readFrom 91 = .ok (.getfield 9, 3) := by decide +kernel
theorem dX5_readFrom_94 : decode cX5_readFrom 94 = .ok (.iconst 2, 1) := by decide +kernel
theorem dX5_readFrom_95 : decode cX5_readFrom 95 = .ok (.iaload, 1) := by decide +kernel
theorem dX5_readFrom_96 : decode cX5_readFrom 96 = .ok (.aload_n 0, 1) := by decide +kernel
theorem dX5_readFrom_97 : decode cX5_readFrom 97 = .ok (.invokevirtual 25, 3) := by decide +kernel
theorem dX5_readFrom_100 : decode cX5_readFrom 100 = .ok (.bipush 63, 2) := by decide +kernel
theorem dX5_readFrom_102 : decode cX5_readFrom 102 = .ok (.invokestatic 19, 3) := by decide +kernel
theorem dX5_readFrom_105 : decode cX5_readFrom 105 = .ok (.if_icmp .ne 7, 3) := by decide +kernel
theorem dX5_readFrom_108 : decode cX5_readFrom 108 = .ok (.iconst 0, 1) := by decide +kernel
theorem dX5_readFrom_109 : decode cX5_readFrom 109 = .ok (.goto 4, 3) := by decide +kernel
theorem dX5_readFrom_112 : decode cX5_readFrom 112 = .ok (.iconst 5, 1) := by decide +kernel
theorem dX5_readFrom_113 : decode cX5_readFrom 113 = .ok (.ireturn, 1) := by decide +kernel
set_option maxRecDepth 20000 in
theorem ggX5_readBits_X1_valueAt : GoodIn wsX5_readBits wsX1_valueAt := goodIn_r _ [5, 6, 13, 14] (by decide +kernel) (by decide +kernel)
set_option maxRecDepth 20000 in
theorem gX5_readBits_X1_valueAt : GoodIn wsX5_readBits (wsV RX5 59 RX1 yX1_valueAt wsX1_valueAt) := goodIn_app (goodIn_of _ (by decide +kernel)) ggX5_readBits_X1_valueAt
set_option maxRecDepth 20000 in
theorem ggX5_readBits_X5_writeBit : GoodIn wsX5_readBits wsX5_writeBit := goodIn_r _ [11, 12, 15, 16] (by decide +kernel) (by decide +kernel)
set_option maxRecDepth 20000 in
theorem gX5_readBits_X5_writeBit : GoodIn wsX5_readBits (wsV RX5 63 RX5 yX5_writeBit wsX5_writeBit) := goodIn_app (goodIn_of _ (by decide +kernel)) ggX5_readBits_X5_writeBit
theorem dX5_readBits_0 : decode cX5_readBits 0 = .ok (.iconst 0, 1) := by decide +kernel
theorem dX5_readBits_1 : decode cX5_readBits 1 = .ok (.istore_n 2, 1) := by decide +kernel
theorem dX5_readBits_2 : decode cX5_readBits 2 = .ok (.iconst 0, 1) := by decide +kernel
theorem dX5_readBits_3 : decode cX5_readBits 3 = .ok (.istore_n 3, 1) := by decide +kernel
theorem dX5_readBits_4 : decode cX5_readBits 4 = .ok (.bipush 8, 2) := by decide +kernel
theorem dX5_readBits_6 : decode cX5_readBits 6 = .ok (.istore 4, 2) := by decide +kernel
theorem dX5_readBits_8 : decode cX5_readBits 8 = .ok (.iload 4, 2) := by decide +kernel
theorem dX5_readBits_10 : decode cX5_readBits 10 = .ok (.aload_n 1, 1) := by decide +kernel
theorem dX5_readBits_11 : decode cX5_readBits 11 = .ok (.getfield 56, 3) := by decide +kernel
theorem dX5_readBits_14 : decode cX5_readBits 14 = .ok (.bipush 8, 2) := by decide +kernel
theorem dX5_readBits_16 : decode cX5_readBits 16 = .ok (.isub, 1) := by decide +kernel
theorem dX5_readBits_17 : decode cX5_readBits 17 = .ok (.if_icmp .ge 58, 3) := by decide +kernel
theorem dX5_readBits_20 : decode cX5_readBits 20 = .ok (.iload_n 3, 1) := by decide +kernel
theorem dX5_readBits_21 : decode cX5_readBits 21 = .ok (.iconst 5, 1) := by decide +kernel
theorem dX5_readBits_22 : decode cX5_readBits 22 = .ok (.if_icmp .ne 8, 3) := by decide +kernel
theorem dX5_readBits_25 : decode cX5_readBits 25 = .ok (.iconst 0, 1) := by decide +kernel
theorem dX5_readBits_26 : decode cX5_readBits 26 = .ok (.istore_n 3, 1) := by decide +kernel
theorem dX5_readBits_27 : decode cX5_readBits 27 = .ok (.goto 42, 3) := by decide +kernel
theorem dX5_readBits_30 : decode cX5_readBits 30 = .ok (.aload_n 1, 1) := by decide +kernel
theorem dX5_readBits_31 : decode cX5_readBits 31 = .ok (.iload 4, 2) := by decide +kernel
theorem dX5_readBits_33 : decode cX5_readBits 33 = .ok (.invokevirtual 59, 3) := by decide +kernel
theorem dX5_readBits_36 : decode cX5_readBits 36 = .ok (.istore 5, 2) := by decide +kernel
theorem dX5_readBits_38 : decode cX5_readBits 38 = .ok (.iload 5, 2) := by decide +kernel
theorem dX5_readBits_40 : decode cX5_readBits 40 = .ok (.iconst 1, 1) := by decide +kernel
theorem dX5_readBits_41 : decode cX5_readBits 41 = .ok (.if_icmp .ne 9, 3) := by decide +kernel
theorem dX5_readBits_44 : decode cX5_readBits 44 = .ok (.iload_n 3, 1) := by decide +kernel
theorem dX5_readBits_45 : decode cX5_readBits 45 = .ok (.iconst 1, 1) := by decide +kernel
theorem dX5_readBits_46 : decode cX5_readBits 46 = .ok (.iadd, 1) := by decide +kernel
theorem dX5_readBits_47 : decode cX5_readBits 47 = .ok (.goto 4, 3) := by decide +kernel
theorem dX5_readBits_50 : decode cX5_readBits 50 = .ok (.iconst 0, 1) := by decide +kernel
theorem dX5_readBits_51 : decode cX5_readBits 51 = .ok (.istore_n 3, 1) := by decide +kernel
theorem dX5_readBits_52 : decode cX5_readBits 52 = .ok (.iload_n 2, 1) := by decide +kernel
theorem dX5_readBits_53 : decode cX5_readBits 53 = .ok (.sipush 2216, 3) := by decide +kernel
theorem dX5_readBits_56 : decode cX5_readBits 56 = .ok (.if_icmp .ge 10, 3) := by decide +kernel
theorem dX5_readBits_59 : decode cX5_readBits 59 = .ok (.aload_n 0, 1) := by decide +kernel
theorem dX5_readBits_60 : decode cX5_readBits 60 = .ok (.iload_n 2, 1) := by decide +kernel
theorem dX5_readBits_61 : decode cX5_readBits 61 = .ok (.iload 5, 2) := by decide +kernel
theorem dX5_readBits_63 : decode cX5_readBits 63 = .ok (.invokevirtual 63, 3) := by decide +kernel
theorem dX5_readBits_66 : decode cX5_readBits 66 = .ok (.iinc 2 1, 3) := by decide +kernel
theorem dX5_readBits_69 : decode cX5_readBits 69 = .ok (.iinc 4 1, 3) := by decide +kernel
theorem dX5_readBits_72 : decode cX5_readBits 72 = .ok (.goto (-64), 3) := by decide +kernel
theorem dX5_readBits_75 : decode cX5_readBits 75 = .ok (.iload_n 2, 1) := by decide +kernel
theorem dX5_readBits_76 : decode cX5_readBits 76 = .ok (.ireturn, 1) := by decide +kernel
theorem dX5_writeBit_0 : decode cX5_writeBit 0 = .ok (.iload_n 1, 1) := by decide +kernel
theorem dX5_writeBit_1 : decode cX5_writeBit 1 = .ok (.bipush 8, 2) := by decide +kernel
theorem dX5_writeBit_3 : decode cX5_writeBit 3 = .ok (.irem, 1) := by decide +kernel
theorem dX5_writeBit_4 : decode cX5_writeBit 4 = .ok (.ifCond .ne 7, 3) := by decide +kernel
theorem dX5_writeBit_7 : decode cX5_writeBit 7 = .ok (.iconst 0, 1) := by decide +kernel
theorem dX5_writeBit_8 : decode cX5_writeBit 8 = .ok (.goto 12, 3) := by decide +kernel
theorem dX5_writeBit_11 : decode cX5_writeBit 11 = .ok (.aload_n 0, 1) := by decide +kernel
theorem dX5_writeBit_12 : decode cX5_writeBit 12 = .ok (.getfield 9, 3) := by decide +kernel
theorem dX5_writeBit_15 : decode cX5_writeBit 15 = .ok (.iload_n 1, 1) := by decide +kernel
theorem dX5_writeBit_16 : decode cX5_writeBit 16 = .ok (.bipush 8, 2) := by decide +kernel
theorem dX5_writeBit_18 : decode cX5_writeBit 18 = .ok (.idiv, 1) := by decide +kernel
theorem dX5_writeBit_19 : decode cX5_writeBit 19 = .ok (.iaload, 1) := by decide +kernel
theorem dX5_writeBit_20 : decode cX5_writeBit 20 = .ok (.istore_n 3, 1) := by decide +kernel
theorem dX5_writeBit_21 : decode cX5_writeBit 21 = .ok (.aload_n 0, 1) := by decide +kernel
theorem dX5_writeBit_22 : decode cX5_writeBit 22 = .ok (.getfield 9, 3) := by decide +kernel
theorem dX5_writeBit_25 : decode cX5_writeBit 25 = .ok (.iload_n 1, 1) := by decide +kernel
theorem dX5_writeBit_26 : decode cX5_writeBit 26 = .ok (.bipush 8, 2) := by decide +kernel
theorem dX5_writeBit_28 : decode cX5_writeBit 28 = .ok (.idiv, 1) := by decide +kernel
theorem dX5_writeBit_29 : decode cX5_writeBit 29 = .ok (.iload_n 3, 1) := by decide +kernel
theorem dX5_writeBit_30 : decode cX5_writeBit 30 = .ok (.iload_n 2, 1) := by decide +kernel
theorem dX5_writeBit_31 : decode cX5_writeBit 31 = .ok (.iload_n 1, 1) := by decide +kernel
theorem dX5_writeBit_32 : decode cX5_writeBit 32 = .ok (.bipush 8, 2) := by decide +kernel
theorem dX5_writeBit_34 : decode cX5_writeBit 34 = .ok (.irem, 1) := by decide +kernel
theorem dX5_writeBit_35 : decode cX5_writeBit 35 = .ok (.ishl, 1) := by decide +kernel
theorem dX5_writeBit_36 : decode cX5_writeBit 36 = .ok (.ior, 1) := by decide +kernel
theorem dX5_writeBit_37 : decode cX5_writeBit 37 = .ok (.iastore, 1) := by decide +kernel
theorem dX5_writeBit_38 : decode cX5_writeBit 38 = .ok (.return_, 1) := by decide +kernel
set_option maxRecDepth 20000 in
theorem ggX6_init_X0_init : GoodIn wsX6_init wsX0_init := goodIn_r _ [13, 14, 2, 3, 15, 16, 17, 18, 19, 20, 21, 22, 23, 24, 25, 26, 27, 28, 29, 30, 31, 32, 33, 34, 35, 36, 37, 38, 39, 40, 41, 42, 43, 44, 45, 46, 47, 48, 49, 50, 51, 52, 53, 54, 55, 76, 77, 60, 61, 62, 63, 64, 65, 66, 67, 68, 69, 70, 71, 78, 79, 80, 81, 82, 83, 84, 85, 86, 87, 88] (by decide +kernel) (by decide +kernel)
set_option maxRecDepth 20000 in
theorem gX6_init_X0_init_n11 : GoodIn wsX6_init (wsX0_init) := ggX6_init_X0_init
set_option maxRecDepth 20000 in
theorem ggX6_init_X5_init : GoodIn wsX6_init wsX5_init := goodIn_r _ [57, 58, 2, 3, 47, 59, 74, 75] (by decide +kernel) (by decide +kernel)
set_option maxRecDepth 20000 in
theorem gX6_init_X5_init_n18 : GoodIn wsX6_init (wsX5_init) := ggX6_init_X5_init
theorem dX6_init_0 : decode cX6_init 0 = .ok (.aload_n 0, 1) := by decide +kernel
theorem dX6_init_1 : decode cX6_init 1 = .ok (.invokespecial 3, 3) := by decide +kernel
theorem dX6_init_4 : decode cX6_init 4 = .ok (.aload_n 0, 1) := by decide +kernel
theorem dX6_init_5 : decode cX6_init 5 = .ok (.iconst 2, 1) := by decide +kernel
theorem dX6_init_6 : decode cX6_init 6 = .ok (.anewarray 9, 3) := by decide +kernel
theorem dX6_init_9 : decode cX6_init 9 = .ok (.dup, 1) := by decide +kernel
theorem dX6_init_10 : decode cX6_init 10 = .ok (.iconst 0, 1) := by decide +kernel
theorem dX6_init_11 : decode cX6_init 11 = .ok (.new 9, 3) := by decide +kernel
theorem dX6_init_14 : decode cX6_init 14 = .ok (.dup, 1) := by decide +kernel
theorem dX6_init_15 : decode cX6_init 15 = .ok (.invokespecial 11, 3) := by decide +kernel
theorem dX6_init_18 : decode cX6_init 18 = .ok (.aastore, 1) := by decide +kernel
theorem dX6_init_19 : decode cX6_init 19 = .ok (.dup, 1) := by decide +kernel
theorem dX6_init_20 : decode cX6_init 20 = .ok (.iconst 1, 1) := by decide +kernel
theorem dX6_init_21 : decode cX6_init 21 = .ok (.new 9, 3) := by decide +kernel
theorem dX6_init_24 : decode cX6_init 24 = .ok (.dup, 1) := by decide +kernel
theorem dX6_init_25 : decode cX6_init 25 = .ok (.invokespecial 11, 3) := by decide +kernel
theorem dX6_init_28 : decode cX6_init 28 = .ok (.aastore, 1) := by decide +kernel
theorem dX6_init_29 : decode cX6_init 29 = .ok (.putfield 12, 3) := by decide +kernel
theorem dX6_init_32 : decode cX6_init 32 = .ok (.aload_n 0, 1) := by decide +kernel
theorem dX6_init_33 : decode cX6_init 33 = .ok (.new 16, 3) := by decide +kernel
theorem dX6_init_36 : decode cX6_init 36 = .ok (.dup, 1) := by decide +kernel
theorem dX6_init_37 : decode cX6_init 37 = .ok (.invokespecial 18, 3) := by decide +kernel
theorem dX6_init_40 : decode cX6_init 40 = .ok (.putfield 19, 3) := by decide +kernel
theorem dX6_init_43 : decode cX6_init 43 = .ok (.return_, 1) := by decide +kernel
set_option maxRecDepth 20000 in
theorem ggX6_put_X6_endOf : GoodIn wsX6_put wsX6_endOf := goodIn_ca (goodIn_r _ [9, 1, 2, 10, 43, 44] (by decide +kernel) (by decide +kernel)) (goodIn_sub (fun _ h => List.mem_cons_of_mem _ (List.mem_append_left _ (List.mem_append_right _ h))) (by decide +kernel))
set_option maxRecDepth 20000 in
theorem gX6_put_X6_endOf : GoodIn wsX6_put (wsV RX6 23 RX6 yX6_endOf wsX6_endOf) := goodIn_app (goodIn_of _ (by decide +kernel)) ggX6_put_X6_endOf
set_option maxRecDepth 20000 in
theorem ggX6_put_X3_join : GoodIn wsX6_put wsX3_join := goodIn_r _ [15, 16, 17, 18, 19, 20, 21, 22, 14, 23, 24, 37, 38, 39, 40, 41, 42] (by decide +kernel) (by decide +kernel)
set_option maxRecDepth 20000 in
theorem gX6_put_X3_join : GoodIn wsX6_put (wsV RX6 47 RX3 yX3_join wsX3_join) := goodIn_app (goodIn_of _ (by decide +kernel)) ggX6_put_X3_join
theorem dX6_put_0 : decode cX6_put 0 = .ok (.aload_n 0, 1) := by decide +kernel
theorem dX6_put_1 : decode cX6_put 1 = .ok (.iload_n 1, 1) := by decide +kernel
theorem dX6_put_2 : decode cX6_put 2 = .ok (.invokevirtual 23, 3) := by decide +kernel
theorem dX6_put_5 : decode cX6_put 5 = .ok (.astore 4, 2) := by decide +kernel
theorem dX6_put_7 : decode cX6_put 7 = .ok (.iload_n 2, 1) := by decide +kernel
theorem dX6_put_8 : decode cX6_put 8 = .ok (.iconst 1, 1) := by decide +kernel
theorem dX6_put_9 : decode cX6_put 9 = .ok (.if_icmp .lt 21, 3) := by decide +kernel
theorem dX6_put_12 : decode cX6_put 12 = .ok (.iload_n 2, 1) := by decide +kernel
theorem dX6_put_13 : decode cX6_put 13 = .ok (.sipush 272, 3) := by decide +kernel
theorem dX6_put_16 : decode cX6_put 16 = .ok (.if_icmp .gt 14, 3) := by decide +kernel
theorem dX6_put_19 : decode cX6_put 19 = .ok (.iload_n 3, 1) := by decide +kernel
theorem dX6_put_20 : decode cX6_put 20 = .ok (.ifCond .lt 10, 3) := by decide +kernel
theorem dX6_put_23 : decode cX6_put 23 = .ok (.iload_n 3, 1) := by decide +kernel
theorem dX6_put_24 : decode cX6_put 24 = .ok (.sipush 255, 3) := by decide +kernel
theorem dX6_put_27 : decode cX6_put 27 = .ok (.if_icmp .le 11, 3) := by decide +kernel
theorem dX6_put_30 : decode cX6_put 30 = .ok (.new 27, 3) := by decide +kernel
theorem dX6_put_33 : decode cX6_put 33 = .ok (.dup, 1) := by decide +kernel
theorem dX6_put_34 : decode cX6_put 34 = .ok (.invokespecial 29, 3) := by decide +kernel
theorem dX6_put_37 : decode cX6_put 37 = .ok (.athrow, 1) := by decide +kernel
theorem dX6_put_38 : decode cX6_put 38 = .ok (.aload 4, 2) := by decide +kernel
theorem dX6_put_40 : decode cX6_put 40 = .ok (.getfield 30, 3) := by decide +kernel
theorem dX6_put_43 : decode cX6_put 43 = .ok (.ifCond .ne 16, 3) := by decide +kernel
theorem dX6_put_46 : decode cX6_put 46 = .ok (.aload 4, 2) := by decide +kernel
theorem dX6_put_48 : decode cX6_put 48 = .ok (.getfield 34, 3) := by decide +kernel
theorem dX6_put_51 : decode cX6_put 51 = .ok (.getfield 38, 3) := by decide +kernel
theorem dX6_put_54 : decode cX6_put 54 = .ok (.bipush 60, 2) := by decide +kernel
theorem dX6_put_56 : decode cX6_put 56 = .ok (.if_icmp .ne 11, 3) := by decide +kernel
theorem dX6_put_59 : decode cX6_put 59 = .ok (.new 44, 3) := by decide +kernel
theorem dX6_put_62 : decode cX6_put 62 = .ok (.dup, 1) := by decide +kernel
theorem dX6_put_63 : decode cX6_put 63 = .ok (.invokespecial 46, 3) := by decide +kernel
theorem dX6_put_66 : decode cX6_put 66 = .ok (.athrow, 1) := by decide +kernel
theorem dX6_put_67 : decode cX6_put 67 = .ok (.aload 4, 2) := by decide +kernel
theorem dX6_put_69 : decode cX6_put 69 = .ok (.getfield 34, 3) := by decide +kernel
theorem dX6_put_72 : decode cX6_put 72 = .ok (.iload_n 2, 1) := by decide +kernel
theorem dX6_put_73 : decode cX6_put 73 = .ok (.iload_n 3, 1) := by decide +kernel
theorem dX6_put_74 : decode cX6_put 74 = .ok (.invokevirtual 47, 3) := by decide +kernel
theorem dX6_put_77 : decode cX6_put 77 = .ok (.aload 4, 2) := by decide +kernel
theorem dX6_put_79 : decode cX6_put 79 = .ok (.getfield 34, 3) := by decide +kernel

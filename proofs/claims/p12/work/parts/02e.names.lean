theorem dX6_put_82 : decode cX6_put 82 = .ok (.getfield 38, 3) := by decide +kernel
theorem dX6_put_85 : decode cX6_put 85 = .ok (.ireturn, 1) := by decide +kernel
set_option maxRecDepth 20000 in
theorem ggX6_send_X6_endOf : GoodIn wsX6_send wsX6_endOf := goodIn_ca (goodIn_r _ [8, 9, 10, 11, 131, 132] (by decide +kernel) (by decide +kernel)) (goodIn_sub (fun _ h => List.mem_cons_of_mem _ (List.mem_append_right _ h)) (by decide +kernel))
set_option maxRecDepth 20000 in
theorem gX6_send_X6_endOf : GoodIn wsX6_send (wsV RX6 23 RX6 yX6_endOf wsX6_endOf) := goodIn_app (goodIn_of _ (by decide +kernel)) ggX6_send_X6_endOf
set_option maxRecDepth 20000 in
theorem ggX6_send_X2_isFull : GoodIn wsX6_send wsX2_isFull := goodIn_r _ [16, 17, 133, 134] (by decide +kernel) (by decide +kernel)
set_option maxRecDepth 20000 in
theorem gX6_send_X2_isFull : GoodIn wsX6_send (wsV RX6 55 RX2 yX2_isFull wsX2_isFull) := goodIn_app (goodIn_of _ (by decide +kernel)) ggX6_send_X2_isFull
set_option maxRecDepth 20000 in
theorem ggX6_send_X0_nextUnit : GoodIn wsX6_send wsX0_nextUnit := goodIn_r _ [22, 23, 24, 25, 26, 27, 21, 28, 29, 30, 31, 32, 33, 34, 35, 36, 37, 38, 39, 40, 41, 42, 43, 44, 45, 46, 47, 48, 49, 50, 51, 52, 53, 54, 55, 56, 57, 58, 59, 60, 61, 62, 63, 64, 65, 66, 67, 68, 69, 70, 71, 7, 72, 73, 74, 75, 76, 77, 78, 79, 80, 81, 82, 83, 84, 85, 119, 120, 121, 122, 123, 124, 125, 126, 127, 128, 129, 130, 135, 136, 137, 138, 139, 140, 141, 142] (by decide +kernel) (by decide +kernel)
set_option maxRecDepth 20000 in
theorem gX6_send_X0_nextUnit : GoodIn wsX6_send (wsV RX6 61 RX0 yX0_nextUnit wsX0_nextUnit) := goodIn_app (goodIn_of _ (by decide +kernel)) ggX6_send_X0_nextUnit
set_option maxRecDepth 20000 in
theorem ggX6_send_X2_open : GoodIn wsX6_send wsX2_open := goodIn_r _ [89, 17, 90, 91, 92, 15, 93, 94, 133, 134, 143, 144] (by decide +kernel) (by decide +kernel)
set_option maxRecDepth 20000 in
theorem gX6_send_X2_open : GoodIn wsX6_send (wsV RX6 65 RX2 yX2_open wsX2_open) := goodIn_app (goodIn_of _ (by decide +kernel)) ggX6_send_X2_open
set_option maxRecDepth 20000 in
theorem ggX6_send_X5_writeTo : GoodIn wsX6_send wsX5_writeTo := goodIn_r _ [98, 53, 48, 99, 100, 101, 102, 103, 104, 105, 106, 107, 108, 109, 110, 111, 112, 113, 114, 115, 116, 117, 118, 141, 142, 143, 144] (by decide +kernel) (by decide +kernel)
set_option maxRecDepth 20000 in
theorem gX6_send_X5_writeTo : GoodIn wsX6_send (wsV RX6 69 RX5 yX5_writeTo wsX5_writeTo) := goodIn_app (goodIn_of _ (by decide +kernel)) ggX6_send_X5_writeTo
theorem dX6_send_0 : decode cX6_send 0 = .ok (.aload_n 0, 1) := by decide +kernel
theorem dX6_send_1 : decode cX6_send 1 = .ok (.iload_n 1, 1) := by decide +kernel
theorem dX6_send_2 : decode cX6_send 2 = .ok (.invokevirtual 23, 3) := by decide +kernel
theorem dX6_send_5 : decode cX6_send 5 = .ok (.astore_n 2, 1) := by decide +kernel
theorem dX6_send_6 : decode cX6_send 6 = .ok (.aload_n 2, 1) := by decide +kernel
theorem dX6_send_7 : decode cX6_send 7 = .ok (.getfield 30, 3) := by decide +kernel
theorem dX6_send_10 : decode cX6_send 10 = .ok (.ifCond .ne 13, 3) := by decide +kernel
theorem dX6_send_13 : decode cX6_send 13 = .ok (.aload_n 2, 1) := by decide +kernel
theorem dX6_send_14 : decode cX6_send 14 = .ok (.getfield 51, 3) := by decide +kernel
theorem dX6_send_17 : decode cX6_send 17 = .ok (.invokevirtual 55, 3) := by decide +kernel
theorem dX6_send_20 : decode cX6_send 20 = .ok (.ifCond .eq 11, 3) := by decide +kernel
theorem dX6_send_23 : decode cX6_send 23 = .ok (.new 44, 3) := by decide +kernel
theorem dX6_send_26 : decode cX6_send 26 = .ok (.dup, 1) := by decide +kernel
theorem dX6_send_27 : decode cX6_send 27 = .ok (.invokespecial 46, 3) := by decide +kernel
theorem dX6_send_30 : decode cX6_send 30 = .ok (.athrow, 1) := by decide +kernel
theorem dX6_send_31 : decode cX6_send 31 = .ok (.aload_n 2, 1) := by decide +kernel
theorem dX6_send_32 : decode cX6_send 32 = .ok (.aload_n 0, 1) := by decide +kernel
theorem dX6_send_33 : decode cX6_send 33 = .ok (.getfield 19, 3) := by decide +kernel
theorem dX6_send_36 : decode cX6_send 36 = .ok (.invokevirtual 61, 3) := by decide +kernel
theorem dX6_send_39 : decode cX6_send 39 = .ok (.istore_n 3, 1) := by decide +kernel
theorem dX6_send_40 : decode cX6_send 40 = .ok (.aload_n 0, 1) := by decide +kernel
theorem dX6_send_41 : decode cX6_send 41 = .ok (.getfield 19, 3) := by decide +kernel
theorem dX6_send_44 : decode cX6_send 44 = .ok (.aload_n 2, 1) := by decide +kernel
theorem dX6_send_45 : decode cX6_send 45 = .ok (.getfield 51, 3) := by decide +kernel
theorem dX6_send_48 : decode cX6_send 48 = .ok (.invokevirtual 65, 3) := by decide +kernel
theorem dX6_send_51 : decode cX6_send 51 = .ok (.invokevirtual 69, 3) := by decide +kernel
theorem dX6_send_54 : decode cX6_send 54 = .ok (.iload_n 3, 1) := by decide +kernel
theorem dX6_send_55 : decode cX6_send 55 = .ok (.ireturn, 1) := by decide +kernel
set_option maxRecDepth 20000 in
theorem ggX6_take_X6_endOf : GoodIn wsX6_take wsX6_endOf := goodIn_ca (goodIn_r _ [9, 10, 11, 3, 148, 149] (by decide +kernel) (by decide +kernel)) (goodIn_sub (fun _ h => List.mem_cons_of_mem _ (List.mem_append_right _ h)) (by decide +kernel))
set_option maxRecDepth 20000 in
theorem gX6_take_X6_endOf : GoodIn wsX6_take (wsV RX6 23 RX6 yX6_endOf wsX6_endOf) := goodIn_app (goodIn_of _ (by decide +kernel)) ggX6_take_X6_endOf
set_option maxRecDepth 20000 in
theorem ggX6_take_X5_readFrom : GoodIn wsX6_take wsX5_readFrom := goodIn_r _ [16, 17, 18, 19, 20, 21, 22, 23, 24, 25, 26, 27, 28, 29, 30, 31, 32, 33, 34, 35, 36, 37, 38, 39, 40, 41, 42, 43, 44, 15, 45, 46, 47, 48, 49, 50, 51, 52, 53, 54, 55, 56, 8, 57, 58, 59, 60, 61, 62, 164, 165, 166, 167] (by decide +kernel) (by decide +kernel)
set_option maxRecDepth 20000 in
theorem gX6_take_X5_readFrom : GoodIn wsX6_take (wsV RX6 80 RX5 yX5_readFrom wsX5_readFrom) := goodIn_app (goodIn_of _ (by decide +kernel)) ggX6_take_X5_readFrom
set_option maxRecDepth 20000 in
theorem ggX6_take_X2_lose : GoodIn wsX6_take wsX2_lose := goodIn_r _ [67, 68, 69, 162, 163] (by decide +kernel) (by decide +kernel)
set_option maxRecDepth 20000 in
theorem gX6_take_X2_lose : GoodIn wsX6_take (wsV RX6 84 RX2 yX2_lose wsX2_lose) := goodIn_app (goodIn_of _ (by decide +kernel)) ggX6_take_X2_lose
set_option maxRecDepth 20000 in
theorem ggX6_take_X0_takeUnit : GoodIn wsX6_take wsX0_takeUnit := goodIn_r _ [74, 75, 76, 77, 78, 79, 80, 81, 82, 73, 83, 84, 85, 86, 87, 88, 89, 90, 91, 92, 15, 93, 18, 94, 95, 96, 97, 98, 99, 100, 101, 102, 103, 104, 105, 106, 107, 20, 21, 22, 108, 109, 110, 111, 112, 113, 114, 115, 116, 117, 118, 119, 120, 121, 122, 123, 124, 125, 126, 127, 128, 129, 130, 131, 132, 60, 61, 62, 17, 133, 8, 134, 135, 136, 137, 138, 139, 140, 141, 142, 143, 144, 145, 146, 147, 150, 151, 152, 153, 154, 155, 156, 157, 158, 159, 160, 161, 168, 169, 170, 171, 172, 173, 164, 165, 174, 175, 176] (by decide +kernel) (by decide +kernel)
set_option maxRecDepth 20000 in
theorem gX6_take_X0_takeUnit : GoodIn wsX6_take (wsV RX6 88 RX0 yX0_takeUnit wsX0_takeUnit) := goodIn_app (goodIn_of _ (by decide +kernel)) ggX6_take_X0_takeUnit
theorem dX6_take_0 : decode cX6_take 0 = .ok (.aload_n 0, 1) := by decide +kernel
theorem dX6_take_1 : decode cX6_take 1 = .ok (.iload_n 1, 1) := by decide +kernel
theorem dX6_take_2 : decode cX6_take 2 = .ok (.invokevirtual 23, 3) := by decide +kernel
theorem dX6_take_5 : decode cX6_take 5 = .ok (.astore_n 2, 1) := by decide +kernel
theorem dX6_take_6 : decode cX6_take 6 = .ok (.aload_n 0, 1) := by decide +kernel
theorem dX6_take_7 : decode cX6_take 7 = .ok (.getfield 12, 3) := by decide +kernel
theorem dX6_take_10 : decode cX6_take 10 = .ok (.iconst 1, 1) := by decide +kernel
theorem dX6_take_11 : decode cX6_take 11 = .ok (.iload_n 1, 1) := by decide +kernel
theorem dX6_take_12 : decode cX6_take 12 = .ok (.isub, 1) := by decide +kernel
theorem dX6_take_13 : decode cX6_take 13 = .ok (.aaload, 1) := by decide +kernel
theorem dX6_take_14 : decode cX6_take 14 = .ok (.getfield 51, 3) := by decide +kernel
theorem dX6_take_17 : decode cX6_take 17 = .ok (.astore_n 3, 1) := by decide +kernel
theorem dX6_take_18 : decode cX6_take 18 = .ok (.aload_n 2, 1) := by decide +kernel
theorem dX6_take_19 : decode cX6_take 19 = .ok (.getfield 30, 3) := by decide +kernel
theorem dX6_take_22 : decode cX6_take 22 = .ok (.ifCond .ne 10, 3) := by decide +kernel
theorem dX6_take_25 : decode cX6_take 25 = .ok (.aload_n 3, 1) := by decide +kernel
theorem dX6_take_26 : decode cX6_take 26 = .ok (.getfield 73, 3) := by decide +kernel
theorem dX6_take_29 : decode cX6_take 29 = .ok (.ifCond .ne 11, 3) := by decide +kernel
theorem dX6_take_32 : decode cX6_take 32 = .ok (.new 44, 3) := by decide +kernel
theorem dX6_take_35 : decode cX6_take 35 = .ok (.dup, 1) := by decide +kernel
theorem dX6_take_36 : decode cX6_take 36 = .ok (.invokespecial 46, 3) := by decide +kernel
theorem dX6_take_39 : decode cX6_take 39 = .ok (.athrow, 1) := by decide +kernel
theorem dX6_take_40 : decode cX6_take 40 = .ok (.aload_n 0, 1) := by decide +kernel
theorem dX6_take_41 : decode cX6_take 41 = .ok (.getfield 19, 3) := by decide +kernel
theorem dX6_take_44 : decode cX6_take 44 = .ok (.aload_n 3, 1) := by decide +kernel
theorem dX6_take_45 : decode cX6_take 45 = .ok (.getfield 76, 3) := by decide +kernel
theorem dX6_take_48 : decode cX6_take 48 = .ok (.iconst 0, 1) := by decide +kernel
theorem dX6_take_49 : decode cX6_take 49 = .ok (.aaload, 1) := by decide +kernel
theorem dX6_take_50 : decode cX6_take 50 = .ok (.invokevirtual 80, 3) := by decide +kernel
theorem dX6_take_53 : decode cX6_take 53 = .ok (.istore 4, 2) := by decide +kernel
theorem dX6_take_55 : decode cX6_take 55 = .ok (.aload_n 3, 1) := by decide +kernel
theorem dX6_take_56 : decode cX6_take 56 = .ok (.iconst 0, 1) := by decide +kernel
theorem dX6_take_57 : decode cX6_take 57 = .ok (.invokevirtual 84, 3) := by decide +kernel
theorem dX6_take_60 : decode cX6_take 60 = .ok (.aload_n 2, 1) := by decide +kernel
theorem dX6_take_61 : decode cX6_take 61 = .ok (.aload_n 0, 1) := by decide +kernel
theorem dX6_take_62 : decode cX6_take 62 = .ok (.getfield 19, 3) := by decide +kernel
theorem dX6_take_65 : decode cX6_take 65 = .ok (.iload 4, 2) := by decide +kernel
theorem dX6_take_67 : decode cX6_take 67 = .ok (.invokevirtual 88, 3) := by decide +kernel
theorem dX6_take_70 : decode cX6_take 70 = .ok (.istore 5, 2) := by decide +kernel
theorem dX6_take_72 : decode cX6_take 72 = .ok (.aload_n 2, 1) := by decide +kernel
theorem dX6_take_73 : decode cX6_take 73 = .ok (.getfield 30, 3) := by decide +kernel
theorem dX6_take_76 : decode cX6_take 76 = .ok (.ifCond .eq 11, 3) := by decide +kernel
theorem dX6_take_79 : decode cX6_take 79 = .ok (.iload 5, 2) := by decide +kernel
theorem dX6_take_81 : decode cX6_take 81 = .ok (.bipush 10, 2) := by decide +kernel
theorem dX6_take_83 : decode cX6_take 83 = .ok (.isub, 1) := by decide +kernel
theorem dX6_take_84 : decode cX6_take 84 = .ok (.goto 5, 3) := by decide +kernel
theorem dX6_take_87 : decode cX6_take 87 = .ok (.iload 5, 2) := by decide +kernel
theorem dX6_take_89 : decode cX6_take 89 = .ok (.ireturn, 1) := by decide +kernel
set_option maxRecDepth 20000 in
theorem ggX6_flip_X6_frameOf : GoodIn wsX6_flip wsX6_frameOf := goodIn_ca (goodIn_r _ [7, 1, 2, 8, 9, 10, 6, 11, 12, 25, 26, 27, 28, 29, 30, 31, 32, 33, 34, 35, 36, 37, 38, 39, 40] (by decide +kernel) (by decide +kernel)) (goodIn_sub (fun _ h => List.mem_cons_of_mem _ (List.mem_append_right _ h)) (by decide +kernel))
set_option maxRecDepth 20000 in
theorem gX6_flip_X6_frameOf : GoodIn wsX6_flip (wsV RX6 92 RX6 yX6_frameOf wsX6_frameOf) := goodIn_app (goodIn_of _ (by decide +kernel)) ggX6_flip_X6_frameOf
set_option maxRecDepth 20000 in
theorem ggX6_flip_X1_turn : GoodIn wsX6_flip wsX1_turn := goodIn_r _ [17, 18, 23, 24] (by decide +kernel) (by decide +kernel)
set_option maxRecDepth 20000 in
theorem gX6_flip_X1_turn : GoodIn wsX6_flip (wsV RX6 101 RX1 yX1_turn wsX1_turn) := goodIn_app (goodIn_of _ (by decide +kernel)) ggX6_flip_X1_turn
set_option maxRecDepth 20000 in
theorem ggX6_flip_X1_valueAt : GoodIn wsX6_flip wsX1_valueAt := goodIn_r _ [22, 18, 23, 24] (by decide +kernel) (by decide +kernel)
set_option maxRecDepth 20000 in
theorem gX6_flip_X1_valueAt : GoodIn wsX6_flip (wsV RX6 104 RX1 yX1_valueAt wsX1_valueAt) := goodIn_app (goodIn_of _ (by decide +kernel)) ggX6_flip_X1_valueAt
theorem dX6_flip_0 : decode cX6_flip 0 = .ok (.aload_n 0, 1) := by decide +kernel
theorem dX6_flip_1 : decode cX6_flip 1 = .ok (.iload_n 1, 1) := by decide +kernel
theorem dX6_flip_2 : decode cX6_flip 2 = .ok (.iload_n 2, 1) := by decide +kernel
theorem dX6_flip_3 : decode cX6_flip 3 = .ok (.invokevirtual 92, 3) := by decide +kernel
theorem dX6_flip_6 : decode cX6_flip 6 = .ok (.astore 4, 2) := by decide +kernel
theorem dX6_flip_8 : decode cX6_flip 8 = .ok (.iload_n 3, 1) := by decide +kernel
theorem dX6_flip_9 : decode cX6_flip 9 = .ok (.ifCond .lt 12, 3) := by decide +kernel
theorem dX6_flip_12 : decode cX6_flip 12 = .ok (.iload_n 3, 1) := by decide +kernel
theorem dX6_flip_13 : decode cX6_flip 13 = .ok (.aload 4, 2) := by decide +kernel
theorem dX6_flip_15 : decode cX6_flip 15 = .ok (.getfield 96, 3) := by decide +kernel
theorem dX6_flip_18 : decode cX6_flip 18 = .ok (.if_icmp .lt 11, 3) := by decide +kernel
theorem dX6_flip_21 : decode cX6_flip 21 = .ok (.new 27, 3) := by decide +kernel
theorem dX6_flip_24 : decode cX6_flip 24 = .ok (.dup, 1) := by decide +kernel
theorem dX6_flip_25 : decode cX6_flip 25 = .ok (.invokespecial 29, 3) := by decide +kernel
theorem dX6_flip_28 : decode cX6_flip 28 = .ok (.athrow, 1) := by decide +kernel
theorem dX6_flip_29 : decode cX6_flip 29 = .ok (.aload 4, 2) := by decide +kernel
theorem dX6_flip_31 : decode cX6_flip 31 = .ok (.iload_n 3, 1) := by decide +kernel
theorem dX6_flip_32 : decode cX6_flip 32 = .ok (.invokevirtual 101, 3) := by decide +kernel
theorem dX6_flip_35 : decode cX6_flip 35 = .ok (.aload 4, 2) := by decide +kernel
theorem dX6_flip_37 : decode cX6_flip 37 = .ok (.iload_n 3, 1) := by decide +kernel
theorem dX6_flip_38 : decode cX6_flip 38 = .ok (.invokevirtual 104, 3) := by decide +kernel
theorem dX6_flip_41 : decode cX6_flip 41 = .ok (.ireturn, 1) := by decide +kernel
set_option maxRecDepth 20000 in
theorem ggX6_drop_X6_frameOf : GoodIn wsX6_drop wsX6_frameOf := goodIn_ca (goodIn_r _ [6, 7, 8, 9, 10, 11, 5, 12, 1, 24, 25, 26, 27, 28, 29, 30, 31, 32, 33, 34, 35, 36, 37, 22, 23] (by decide +kernel) (by decide +kernel)) (goodIn_sub (fun _ h => List.mem_cons_of_mem _ (List.mem_append_right _ h)) (by decide +kernel))
set_option maxRecDepth 20000 in
theorem gX6_drop_X6_frameOf : GoodIn wsX6_drop (wsV RX6 92 RX6 yX6_frameOf wsX6_frameOf) := goodIn_app (goodIn_of _ (by decide +kernel)) ggX6_drop_X6_frameOf
set_option maxRecDepth 20000 in
theorem ggX6_drop_X2_lose : GoodIn wsX6_drop wsX2_lose := goodIn_r _ [17, 18, 19, 36, 37] (by decide +kernel) (by decide +kernel)
set_option maxRecDepth 20000 in
theorem gX6_drop_X2_lose : GoodIn wsX6_drop (wsV RX6 84 RX2 yX2_lose wsX2_lose) := goodIn_app (goodIn_of _ (by decide +kernel)) ggX6_drop_X2_lose
theorem dX6_drop_0 : decode cX6_drop 0 = .ok (.aload_n 0, 1) := by decide +kernel
theorem dX6_drop_1 : decode cX6_drop 1 = .ok (.iload_n 1, 1) := by decide +kernel
theorem dX6_drop_2 : decode cX6_drop 2 = .ok (.iload_n 2, 1) := by decide +kernel
theorem dX6_drop_3 : decode cX6_drop 3 = .ok (.invokevirtual 92, 3) := by decide +kernel
theorem dX6_drop_6 : decode cX6_drop 6 = .ok (.getfield 96, 3) := by decide +kernel
theorem dX6_drop_9 : decode cX6_drop 9 = .ok (.istore_n 3, 1) := by decide +kernel
theorem dX6_drop_10 : decode cX6_drop 10 = .ok (.aload_n 0, 1) := by decide +kernel
theorem dX6_drop_11 : decode cX6_drop 11 = .ok (.getfield 12, 3) := by decide +kernel
theorem dX6_drop_14 : decode cX6_drop 14 = .ok (.iload_n 1, 1) := by decide +kernel
theorem dX6_drop_15 : decode cX6_drop 15 = .ok (.aaload, 1) := by decide +kernel
theorem dX6_drop_16 : decode cX6_drop 16 = .ok (.getfield 51, 3) := by decide +kernel
theorem dX6_drop_19 : decode cX6_drop 19 = .ok (.iload_n 2, 1) := by decide +kernel
theorem dX6_drop_20 : decode cX6_drop 20 = .ok (.invokevirtual 84, 3) := by decide +kernel
theorem dX6_drop_23 : decode cX6_drop 23 = .ok (.iload_n 3, 1) := by decide +kernel
theorem dX6_drop_24 : decode cX6_drop 24 = .ok (.ireturn, 1) := by decide +kernel
set_option maxRecDepth 20000 in
theorem ggX6_bits_X6_endOf : GoodIn wsX6_bits wsX6_endOf := goodIn_ca (goodIn_r _ [9, 1, 2, 10, 58, 59] (by decide +kernel) (by decide +kernel)) (goodIn_sub (fun _ h => List.mem_cons_of_mem _ (List.mem_append_left _ (List.mem_append_right _ h))) (by decide +kernel))
set_option maxRecDepth 20000 in
theorem gX6_bits_X6_endOf : GoodIn wsX6_bits (wsV RX6 23 RX6 yX6_endOf wsX6_endOf) := goodIn_app (goodIn_of _ (by decide +kernel)) ggX6_bits_X6_endOf
set_option maxRecDepth 20000 in
theorem ggX6_bits_X2_isFull : GoodIn wsX6_bits wsX2_isFull := goodIn_r _ [15, 16, 54, 55] (by decide +kernel) (by decide +kernel)
set_option maxRecDepth 20000 in
theorem gX6_bits_X2_isFull : GoodIn wsX6_bits (wsV RX6 55 RX2 yX2_isFull wsX2_isFull) := goodIn_app (goodIn_of _ (by decide +kernel)) ggX6_bits_X2_isFull
set_option maxRecDepth 20000 in
theorem ggX6_bits_X2_last : GoodIn wsX6_bits wsX2_last := goodIn_r _ [20, 21, 16, 54, 55] (by decide +kernel) (by decide +kernel)
set_option maxRecDepth 20000 in
theorem gX6_bits_X2_last : GoodIn wsX6_bits (wsV RX6 108 RX2 yX2_last wsX2_last) := goodIn_app (goodIn_of _ (by decide +kernel)) ggX6_bits_X2_last
set_option maxRecDepth 20000 in
theorem ggX6_bits_X2_open : GoodIn wsX6_bits wsX2_open := goodIn_r _ [25, 16, 26, 18, 19, 14, 20, 21, 54, 55, 56, 57] (by decide +kernel) (by decide +kernel)
set_option maxRecDepth 20000 in
theorem gX6_bits_X2_open : GoodIn wsX6_bits (wsV RX6 65 RX2 yX2_open wsX2_open) := goodIn_app (goodIn_of _ (by decide +kernel)) ggX6_bits_X2_open
set_option maxRecDepth 20000 in
theorem ggX6_bits_X1_add : GoodIn wsX6_bits wsX1_add := goodIn_r _ [31, 32, 33, 34, 35, 30, 36, 37, 38, 39, 40, 41, 56, 57] (by decide +kernel) (by decide +kernel)
set_option maxRecDepth 20000 in
theorem gX6_bits_X1_add : GoodIn wsX6_bits (wsV RX6 111 RX1 yX1_add wsX1_add) := goodIn_app (goodIn_of _ (by decide +kernel)) ggX6_bits_X1_add
theorem dX6_bits_0 : decode cX6_bits 0 = .ok (.aload_n 0, 1) := by decide +kernel
theorem dX6_bits_1 : decode cX6_bits 1 = .ok (.iload_n 1, 1) := by decide +kernel
theorem dX6_bits_2 : decode cX6_bits 2 = .ok (.invokevirtual 23, 3) := by decide +kernel
theorem dX6_bits_5 : decode cX6_bits 5 = .ok (.getfield 51, 3) := by decide +kernel
theorem dX6_bits_8 : decode cX6_bits 8 = .ok (.astore 6, 2) := by decide +kernel
theorem dX6_bits_10 : decode cX6_bits 10 = .ok (.iload 4, 2) := by decide +kernel
theorem dX6_bits_12 : decode cX6_bits 12 = .ok (.iconst 1, 1) := by decide +kernel
theorem dX6_bits_13 : decode cX6_bits 13 = .ok (.if_icmp .lt 10, 3) := by decide +kernel
theorem dX6_bits_16 : decode cX6_bits 16 = .ok (.iload 4, 2) := by decide +kernel
theorem dX6_bits_18 : decode cX6_bits 18 = .ok (.bipush 64, 2) := by decide +kernel
theorem dX6_bits_20 : decode cX6_bits 20 = .ok (.if_icmp .le 11, 3) := by decide +kernel
theorem dX6_bits_23 : decode cX6_bits 23 = .ok (.new 27, 3) := by decide +kernel
theorem dX6_bits_26 : decode cX6_bits 26 = .ok (.dup, 1) := by decide +kernel
theorem dX6_bits_27 : decode cX6_bits 27 = .ok (.invokespecial 29, 3) := by decide +kernel
theorem dX6_bits_30 : decode cX6_bits 30 = .ok (.athrow, 1) := by decide +kernel
theorem dX6_bits_31 : decode cX6_bits 31 = .ok (.iload 5, 2) := by decide +kernel
theorem dX6_bits_33 : decode cX6_bits 33 = .ok (.ifCond .ne 11, 3) := by decide +kernel
theorem dX6_bits_36 : decode cX6_bits 36 = .ok (.aload 6, 2) := by decide +kernel
theorem dX6_bits_38 : decode cX6_bits 38 = .ok (.getfield 73, 3) := by decide +kernel
theorem dX6_bits_41 : decode cX6_bits 41 = .ok (.ifCond .ne 7, 3) := by decide +kernel
theorem dX6_bits_44 : decode cX6_bits 44 = .ok (.iconst 1, 1) := by decide +kernel
theorem dX6_bits_45 : decode cX6_bits 45 = .ok (.goto 4, 3) := by decide +kernel
theorem dX6_bits_48 : decode cX6_bits 48 = .ok (.iconst 0, 1) := by decide +kernel
theorem dX6_bits_49 : decode cX6_bits 49 = .ok (.istore 7, 2) := by decide +kernel
theorem dX6_bits_51 : decode cX6_bits 51 = .ok (.iload 7, 2) := by decide +kernel
theorem dX6_bits_53 : decode cX6_bits 53 = .ok (.ifCond .eq 14, 3) := by decide +kernel
theorem dX6_bits_56 : decode cX6_bits 56 = .ok (.aload 6, 2) := by decide +kernel
theorem dX6_bits_58 : decode cX6_bits 58 = .ok (.invokevirtual 55, 3) := by decide +kernel
theorem dX6_bits_61 : decode cX6_bits 61 = .ok (.ifCond .eq 31, 3) := by decide +kernel
theorem dX6_bits_64 : decode cX6_bits 64 = .ok (.goto 20, 3) := by decide +kernel
theorem dX6_bits_67 : decode cX6_bits 67 = .ok (.aload 6, 2) := by decide +kernel
theorem dX6_bits_69 : decode cX6_bits 69 = .ok (.invokevirtual 108, 3) := by decide +kernel
theorem dX6_bits_72 : decode cX6_bits 72 = .ok (.getfield 96, 3) := by decide +kernel
theorem dX6_bits_75 : decode cX6_bits 75 = .ok (.iload 4, 2) := by decide +kernel
theorem dX6_bits_77 : decode cX6_bits 77 = .ok (.iadd, 1) := by decide +kernel
theorem dX6_bits_78 : decode cX6_bits 78 = .ok (.sipush 3000, 3) := by decide +kernel
theorem dX6_bits_81 : decode cX6_bits 81 = .ok (.if_icmp .le 11, 3) := by decide +kernel
theorem dX6_bits_84 : decode cX6_bits 84 = .ok (.new 44, 3) := by decide +kernel
theorem dX6_bits_87 : decode cX6_bits 87 = .ok (.dup, 1) := by decide +kernel
theorem dX6_bits_88 : decode cX6_bits 88 = .ok (.invokespecial 46, 3) := by decide +kernel
theorem dX6_bits_91 : decode cX6_bits 91 = .ok (.athrow, 1) := by decide +kernel
theorem dX6_bits_92 : decode cX6_bits 92 = .ok (.iload 7, 2) := by decide +kernel
theorem dX6_bits_94 : decode cX6_bits 94 = .ok (.ifCond .eq 11, 3) := by decide +kernel
theorem dX6_bits_97 : decode cX6_bits 97 = .ok (.aload 6, 2) := by decide +kernel
theorem dX6_bits_99 : decode cX6_bits 99 = .ok (.invokevirtual 65, 3) := by decide +kernel
theorem dX6_bits_102 : decode cX6_bits 102 = .ok (.goto 8, 3) := by decide +kernel
theorem dX6_bits_105 : decode cX6_bits 105 = .ok (.aload 6, 2) := by decide +kernel
theorem dX6_bits_107 : decode cX6_bits 107 = .ok (.invokevirtual 108, 3) := by decide +kernel
theorem dX6_bits_110 : decode cX6_bits 110 = .ok (.astore 8, 2) := by decide +kernel
theorem dX6_bits_112 : decode cX6_bits 112 = .ok (.iconst 0, 1) := by decide +kernel
theorem dX6_bits_113 : decode cX6_bits 113 = .ok (.istore 9, 2) := by decide +kernel
theorem dX6_bits_115 : decode cX6_bits 115 = .ok (.iload 9, 2) := by decide +kernel
theorem dX6_bits_117 : decode cX6_bits 117 = .ok (.iload 4, 2) := by decide +kernel
theorem dX6_bits_119 : decode cX6_bits 119 = .ok (.if_icmp .ge 21, 3) := by decide +kernel
theorem dX6_bits_122 : decode cX6_bits 122 = .ok (.aload 8, 2) := by decide +kernel
theorem dX6_bits_124 : decode cX6_bits 124 = .ok (.lload_n 2, 1) := by decide +kernel
theorem dX6_bits_125 : decode cX6_bits 125 = .ok (.iload 9, 2) := by decide +kernel
theorem dX6_bits_127 : decode cX6_bits 127 = .ok (.lushr, 1) := by decide +kernel
theorem dX6_bits_128 : decode cX6_bits 128 = .ok (.l2i, 1) := by decide +kernel
theorem dX6_bits_129 : decode cX6_bits 129 = .ok (.iconst 1, 1) := by decide +kernel
theorem dX6_bits_130 : decode cX6_bits 130 = .ok (.iand, 1) := by decide +kernel
theorem dX6_bits_131 : decode cX6_bits 131 = .ok (.invokevirtual 111, 3) := by decide +kernel
theorem dX6_bits_134 : decode cX6_bits 134 = .ok (.iinc 9 1, 3) := by decide +kernel
theorem dX6_bits_137 : decode cX6_bits 137 = .ok (.goto (-22), 3) := by decide +kernel
theorem dX6_bits_140 : decode cX6_bits 140 = .ok (.aload 8, 2) := by decide +kernel
theorem dX6_bits_142 : decode cX6_bits 142 = .ok (.getfield 96, 3) := by decide +kernel
theorem dX6_bits_145 : decode cX6_bits 145 = .ok (.ireturn, 1) := by decide +kernel
set_option maxRecDepth 20000 in
theorem ggX6_bit_X6_frameOf : GoodIn wsX6_bit wsX6_frameOf := goodIn_ca (goodIn_r _ [7, 1, 2, 8, 9, 10, 6, 11, 12, 21, 22, 23, 24, 25, 26, 27, 28, 29, 30, 31, 32, 33, 34, 35, 36] (by decide +kernel) (by decide +kernel)) (goodIn_sub (fun _ h => List.mem_cons_of_mem _ (List.mem_append_right _ h)) (by decide +kernel))
set_option maxRecDepth 20000 in
theorem gX6_bit_X6_frameOf : GoodIn wsX6_bit (wsV RX6 92 RX6 yX6_frameOf wsX6_frameOf) := goodIn_app (goodIn_of _ (by decide +kernel)) ggX6_bit_X6_frameOf
set_option maxRecDepth 20000 in
theorem ggX6_bit_X1_valueAt : GoodIn wsX6_bit wsX1_valueAt := goodIn_r _ [17, 18, 19, 20] (by decide +kernel) (by decide +kernel)
set_option maxRecDepth 20000 in
theorem gX6_bit_X1_valueAt : GoodIn wsX6_bit (wsV RX6 104 RX1 yX1_valueAt wsX1_valueAt) := goodIn_app (goodIn_of _ (by decide +kernel)) ggX6_bit_X1_valueAt
theorem dX6_bit_0 : decode cX6_bit 0 = .ok (.aload_n 0, 1) := by decide +kernel
theorem dX6_bit_1 : decode cX6_bit 1 = .ok (.iload_n 1, 1) := by decide +kernel
theorem dX6_bit_2 : decode cX6_bit 2 = .ok (.iload_n 2, 1) := by decide +kernel
theorem dX6_bit_3 : decode cX6_bit 3 = .ok (.invokevirtual 92, 3) := by decide +kernel
theorem dX6_bit_6 : decode cX6_bit 6 = .ok (.astore 4, 2) := by decide +kernel
theorem dX6_bit_8 : decode cX6_bit 8 = .ok (.iload_n 3, 1) := by decide +kernel
theorem dX6_bit_9 : decode cX6_bit 9 = .ok (.ifCond .ge 11, 3) := by decide +kernel
theorem dX6_bit_12 : decode cX6_bit 12 = .ok (.new 27, 3) := by decide +kernel
theorem dX6_bit_15 : decode cX6_bit 15 = .ok (.dup, 1) := by decide +kernel
theorem dX6_bit_16 : decode cX6_bit 16 = .ok (.invokespecial 29, 3) := by decide +kernel
theorem dX6_bit_19 : decode cX6_bit 19 = .ok (.athrow, 1) := by decide +kernel
theorem dX6_bit_20 : decode cX6_bit 20 = .ok (.iload_n 3, 1) := by decide +kernel
theorem dX6_bit_21 : decode cX6_bit 21 = .ok (.aload 4, 2) := by decide +kernel
theorem dX6_bit_23 : decode cX6_bit 23 = .ok (.getfield 96, 3) := by decide +kernel
theorem dX6_bit_26 : decode cX6_bit 26 = .ok (.if_icmp .ge 12, 3) := by decide +kernel
theorem dX6_bit_29 : decode cX6_bit 29 = .ok (.aload 4, 2) := by decide +kernel
theorem dX6_bit_31 : decode cX6_bit 31 = .ok (.iload_n 3, 1) := by decide +kernel
theorem dX6_bit_32 : decode cX6_bit 32 = .ok (.invokevirtual 104, 3) := by decide +kernel
theorem dX6_bit_35 : decode cX6_bit 35 = .ok (.goto 4, 3) := by decide +kernel
theorem dX6_bit_38 : decode cX6_bit 38 = .ok (.iconst (-1), 1) := by decide +kernel
theorem dX6_bit_39 : decode cX6_bit 39 = .ok (.ireturn, 1) := by decide +kernel
set_option maxRecDepth 20000 in
theorem ggX6_taken_X6_endOf : GoodIn wsX6_taken wsX6_endOf := goodIn_ca (goodIn_r _ [7, 1, 2, 8, 33, 34] (by decide +kernel) (by decide +kernel)) (goodIn_sub (fun _ h => List.mem_cons_of_mem _ (List.mem_append_right _ h)) (by decide +kernel))
set_option maxRecDepth 20000 in
theorem gX6_taken_X6_endOf : GoodIn wsX6_taken (wsV RX6 23 RX6 yX6_endOf wsX6_endOf) := goodIn_app (goodIn_of _ (by decide +kernel)) ggX6_taken_X6_endOf
set_option maxRecDepth 20000 in
theorem ggX6_taken_X4_has : GoodIn wsX6_taken wsX4_has := goodIn_r _ [13, 14, 35, 36, 37] (by decide +kernel) (by decide +kernel)
set_option maxRecDepth 20000 in
theorem gX6_taken_X4_has : GoodIn wsX6_taken (wsV RX6 118 RX4 yX4_has wsX4_has) := goodIn_app (goodIn_of _ (by decide +kernel)) ggX6_taken_X4_has
set_option maxRecDepth 20000 in
theorem ggX6_taken_X4_byteOf : GoodIn wsX6_taken wsX4_byteOf := goodIn_r _ [18, 19, 20, 35, 36, 37] (by decide +kernel) (by decide +kernel)
set_option maxRecDepth 20000 in
theorem gX6_taken_X4_byteOf : GoodIn wsX6_taken (wsV RX6 124 RX4 yX4_byteOf wsX4_byteOf) := goodIn_app (goodIn_of _ (by decide +kernel)) ggX6_taken_X4_byteOf
theorem dX6_taken_0 : decode cX6_taken 0 = .ok (.aload_n 0, 1) := by decide +kernel
theorem dX6_taken_1 : decode cX6_taken 1 = .ok (.iload_n 1, 1) := by decide +kernel
theorem dX6_taken_2 : decode cX6_taken 2 = .ok (.invokevirtual 23, 3) := by decide +kernel
theorem dX6_taken_5 : decode cX6_taken 5 = .ok (.getfield 114, 3) := by decide +kernel
theorem dX6_taken_8 : decode cX6_taken 8 = .ok (.astore 4, 2) := by decide +kernel
theorem dX6_taken_10 : decode cX6_taken 10 = .ok (.aload 4, 2) := by decide +kernel
theorem dX6_taken_12 : decode cX6_taken 12 = .ok (.iload_n 2, 1) := by decide +kernel
theorem dX6_taken_13 : decode cX6_taken 13 = .ok (.invokevirtual 118, 3) := by decide +kernel
theorem dX6_taken_16 : decode cX6_taken 16 = .ok (.ifCond .eq 7, 3) := by decide +kernel
theorem dX6_taken_19 : decode cX6_taken 19 = .ok (.iload_n 3, 1) := by decide +kernel
theorem dX6_taken_20 : decode cX6_taken 20 = .ok (.ifCond .ge 11, 3) := by decide +kernel
theorem dX6_taken_23 : decode cX6_taken 23 = .ok (.new 27, 3) := by decide +kernel
theorem dX6_taken_26 : decode cX6_taken 26 = .ok (.dup, 1) := by decide +kernel
theorem dX6_taken_27 : decode cX6_taken 27 = .ok (.invokespecial 29, 3) := by decide +kernel
theorem dX6_taken_30 : decode cX6_taken 30 = .ok (.athrow, 1) := by decide +kernel
theorem dX6_taken_31 : decode cX6_taken 31 = .ok (.aload 4, 2) := by decide +kernel
theorem dX6_taken_33 : decode cX6_taken 33 = .ok (.iload_n 2, 1) := by decide +kernel
theorem dX6_taken_34 : decode cX6_taken 34 = .ok (.iload_n 3, 1) := by decide +kernel
theorem dX6_taken_35 : decode cX6_taken 35 = .ok (.invokevirtual 124, 3) := by decide +kernel
theorem dX6_taken_38 : decode cX6_taken 38 = .ok (.ireturn, 1) := by decide +kernel
set_option maxRecDepth 20000 in
theorem ggX6_check_X6_restBehind : GoodIn wsX6_check wsX6_restBehind := goodIn_r _ [7, 8] (by decide +kernel) (by decide +kernel)
set_option maxRecDepth 20000 in
theorem gX6_check_X6_restBehind : GoodIn wsX6_check (va_wsS RX6 129 yX6_restBehind wsX6_restBehind) := goodIn_app (goodIn_of _ (by decide +kernel)) ggX6_check_X6_restBehind
theorem dX6_check_0 : decode cX6_check 0 = .ok (.iload_n 3, 1) := by decide +kernel
theorem dX6_check_1 : decode cX6_check 1 = .ok (.ifCond .lt 9, 3) := by decide +kernel
theorem dX6_check_4 : decode cX6_check 4 = .ok (.iload_n 3, 1) := by decide +kernel
theorem dX6_check_5 : decode cX6_check 5 = .ok (.bipush 8, 2) := by decide +kernel
theorem dX6_check_7 : decode cX6_check 7 = .ok (.if_icmp .le 11, 3) := by decide +kernel
theorem dX6_check_10 : decode cX6_check 10 = .ok (.new 27, 3) := by decide +kernel
theorem dX6_check_13 : decode cX6_check 13 = .ok (.dup, 1) := by decide +kernel
theorem dX6_check_14 : decode cX6_check 14 = .ok (.invokespecial 29, 3) := by decide +kernel
theorem dX6_check_17 : decode cX6_check 17 = .ok (.athrow, 1) := by decide +kernel
theorem dX6_check_18 : decode cX6_check 18 = .ok (.ldc 128, 2) := by decide +kernel
theorem dX6_check_20 : decode cX6_check 20 = .ok (.istore 4, 2) := by decide +kernel
theorem dX6_check_22 : decode cX6_check 22 = .ok (.iconst 0, 1) := by decide +kernel
theorem dX6_check_23 : decode cX6_check 23 = .ok (.istore 5, 2) := by decide +kernel
theorem dX6_check_25 : decode cX6_check 25 = .ok (.iload 5, 2) := by decide +kernel
theorem dX6_check_27 : decode cX6_check 27 = .ok (.iload_n 3, 1) := by decide +kernel
theorem dX6_check_28 : decode cX6_check 28 = .ok (.if_icmp .ge 28, 3) := by decide +kernel
theorem dX6_check_31 : decode cX6_check 31 = .ok (.iload 4, 2) := by decide +kernel
theorem dX6_check_33 : decode cX6_check 33 = .ok (.lload_n 1, 1) := by decide +kernel
theorem dX6_check_34 : decode cX6_check 34 = .ok (.bipush 8, 2) := by decide +kernel
theorem dX6_check_36 : decode cX6_check 36 = .ok (.iload 5, 2) := by decide +kernel
theorem dX6_check_38 : decode cX6_check 38 = .ok (.imul, 1) := by decide +kernel
theorem dX6_check_39 : decode cX6_check 39 = .ok (.lushr, 1) := by decide +kernel
theorem dX6_check_40 : decode cX6_check 40 = .ok (.l2i, 1) := by decide +kernel
theorem dX6_check_41 : decode cX6_check 41 = .ok (.sipush 255, 3) := by decide +kernel
theorem dX6_check_44 : decode cX6_check 44 = .ok (.iand, 1) := by decide +kernel
theorem dX6_check_45 : decode cX6_check 45 = .ok (.invokestatic 129, 3) := by decide +kernel
theorem dX6_check_48 : decode cX6_check 48 = .ok (.istore 4, 2) := by decide +kernel
theorem dX6_check_50 : decode cX6_check 50 = .ok (.iinc 5 1, 3) := by decide +kernel
theorem dX6_check_53 : decode cX6_check 53 = .ok (.goto (-28), 3) := by decide +kernel
theorem dX6_check_56 : decode cX6_check 56 = .ok (.ldc 128, 2) := by decide +kernel
theorem dX6_check_58 : decode cX6_check 58 = .ok (.iload 4, 2) := by decide +kernel
theorem dX6_check_60 : decode cX6_check 60 = .ok (.isub, 1) := by decide +kernel
theorem dX6_check_61 : decode cX6_check 61 = .ok (.ireturn, 1) := by decide +kernel
set_option maxRecDepth 20000 in
theorem ggX6_about_X6_endOf : GoodIn wsX6_about wsX6_endOf := goodIn_ca (goodIn_r _ [7, 1, 2, 8, 24, 25] (by decide +kernel) (by decide +kernel)) (goodIn_sub (fun _ h => List.mem_cons_of_mem _ (List.mem_append_right _ h)) (by decide +kernel))
set_option maxRecDepth 20000 in
theorem gX6_about_X6_endOf : GoodIn wsX6_about (wsV RX6 23 RX6 yX6_endOf wsX6_endOf) := goodIn_app (goodIn_of _ (by decide +kernel)) ggX6_about_X6_endOf
set_option maxRecDepth 20000 in
theorem ggX6_about_X0_fact : GoodIn wsX6_about wsX0_fact := goodIn_r _ [13, 14, 15, 16, 17, 18, 19, 20, 21, 22, 23, 26, 27, 28, 29, 30, 31, 32, 33, 34, 35, 36, 37, 38, 39, 40, 41, 42, 43, 44, 45, 46, 47, 48] (by decide +kernel) (by decide +kernel)
set_option maxRecDepth 20000 in
theorem gX6_about_X0_fact : GoodIn wsX6_about (wsV RX6 132 RX0 yX0_fact wsX0_fact) := goodIn_app (goodIn_of _ (by decide +kernel)) ggX6_about_X0_fact
theorem dX6_about_0 : decode cX6_about 0 = .ok (.aload_n 0, 1) := by decide +kernel
theorem dX6_about_1 : decode cX6_about 1 = .ok (.iload_n 1, 1) := by decide +kernel
theorem dX6_about_2 : decode cX6_about 2 = .ok (.invokevirtual 23, 3) := by decide +kernel
theorem dX6_about_5 : decode cX6_about 5 = .ok (.astore_n 3, 1) := by decide +kernel
theorem dX6_about_6 : decode cX6_about 6 = .ok (.iload_n 2, 1) := by decide +kernel
theorem dX6_about_7 : decode cX6_about 7 = .ok (.ifCond .lt 9, 3) := by decide +kernel
theorem dX6_about_10 : decode cX6_about 10 = .ok (.iload_n 2, 1) := by decide +kernel
theorem dX6_about_11 : decode cX6_about 11 = .ok (.bipush 11, 2) := by decide +kernel
theorem dX6_about_13 : decode cX6_about 13 = .ok (.if_icmp .le 11, 3) := by decide +kernel
theorem dX6_about_16 : decode cX6_about 16 = .ok (.new 27, 3) := by decide +kernel
theorem dX6_about_19 : decode cX6_about 19 = .ok (.dup, 1) := by decide +kernel
theorem dX6_about_20 : decode cX6_about 20 = .ok (.invokespecial 29, 3) := by decide +kernel
theorem dX6_about_23 : decode cX6_about 23 = .ok (.athrow, 1) := by decide +kernel
theorem dX6_about_24 : decode cX6_about 24 = .ok (.aload_n 3, 1) := by decide +kernel
theorem dX6_about_25 : decode cX6_about 25 = .ok (.iload_n 2, 1) := by decide +kernel
theorem dX6_about_26 : decode cX6_about 26 = .ok (.invokevirtual 132, 3) := by decide +kernel
theorem dX6_about_29 : decode cX6_about 29 = .ok (.ireturn, 1) := by decide +kernel
set_option maxRecDepth 20000 in
theorem ggX6_restart_X6_endOf : GoodIn wsX6_restart wsX6_endOf := goodIn_ca (goodIn_r _ [5, 6, 7, 8, 33, 34] (by decide +kernel) (by decide +kernel)) (goodIn_sub (fun _ h => List.mem_cons_of_mem _ (List.mem_append_right _ h)) (by decide +kernel))
set_option maxRecDepth 20000 in
theorem gX6_restart_X6_endOf : GoodIn wsX6_restart (wsV RX6 23 RX6 yX6_endOf wsX6_endOf) := goodIn_app (goodIn_of _ (by decide +kernel)) ggX6_restart_X6_endOf
set_option maxRecDepth 20000 in
theorem ggX6_restart_X0_beginAnew : GoodIn wsX6_restart wsX0_beginAnew := goodIn_r _ [13, 14, 15, 16, 17, 18, 19, 20, 21, 22, 23, 24, 25, 26, 27, 28, 29, 30, 31, 32, 35, 36, 37, 38, 39, 40, 41, 42, 43, 44, 45, 46, 47, 48, 49, 50, 51, 52, 53, 54] (by decide +kernel) (by decide +kernel)
set_option maxRecDepth 20000 in
theorem gX6_restart_X0_beginAnew : GoodIn wsX6_restart (wsV RX6 135 RX0 yX0_beginAnew wsX0_beginAnew) := goodIn_app (goodIn_of _ (by decide +kernel)) ggX6_restart_X0_beginAnew
theorem dX6_restart_0 : decode cX6_restart 0 = .ok (.aload_n 0, 1) := by decide +kernel
theorem dX6_restart_1 : decode cX6_restart 1 = .ok (.iload_n 1, 1) := by decide +kernel
theorem dX6_restart_2 : decode cX6_restart 2 = .ok (.invokevirtual 23, 3) := by decide +kernel
theorem dX6_restart_5 : decode cX6_restart 5 = .ok (.invokevirtual 135, 3) := by decide +kernel
theorem dX6_restart_8 : decode cX6_restart 8 = .ok (.return_, 1) := by decide +kernel
theorem dX6_endOf_0 : decode cX6_endOf 0 = .ok (.iload_n 1, 1) := by decide +kernel
theorem dX6_endOf_1 : decode cX6_endOf 1 = .ok (.ifCond .lt 8, 3) := by decide +kernel
theorem dX6_endOf_4 : decode cX6_endOf 4 = .ok (.iload_n 1, 1) := by decide +kernel
theorem dX6_endOf_5 : decode cX6_endOf 5 = .ok (.iconst 1, 1) := by decide +kernel
theorem dX6_endOf_6 : decode cX6_endOf 6 = .ok (.if_icmp .le 11, 3) := by decide +kernel
theorem dX6_endOf_9 : decode cX6_endOf 9 = .ok (.new 27, 3) := by decide +kernel
theorem dX6_endOf_12 : decode cX6_endOf 12 = .ok (.dup, 1) := by decide +kernel
theorem dX6_endOf_13 : decode cX6_endOf 13 = .ok (.invokespecial 29, 3) := by decide +kernel
theorem dX6_endOf_16 : decode cX6_endOf 16 = .ok (.athrow, 1) := by decide +kernel
theorem dX6_endOf_17 : decode cX6_endOf 17 = .ok (.aload_n 0, 1) := by decide +kernel
theorem dX6_endOf_18 : decode cX6_endOf 18 = .ok (.getfield 12, 3) := by decide +kernel
theorem dX6_endOf_21 : decode cX6_endOf 21 = .ok (.iload_n 1, 1) := by decide +kernel
theorem dX6_endOf_22 : decode cX6_endOf 22 = .ok (.aaload, 1) := by decide +kernel
theorem dX6_endOf_23 : decode cX6_endOf 23 = .ok (.areturn, 1) := by decide +kernel
set_option maxRecDepth 20000 in
theorem ggX6_frameOf_X6_endOf : GoodIn wsX6_frameOf wsX6_endOf := goodIn_ca (goodIn_r _ [7, 1, 2, 8, 23, 24] (by decide +kernel) (by decide +kernel)) (goodIn_sub (fun _ h => List.mem_cons_of_mem _ (List.mem_append_right _ h)) (by decide +kernel))
set_option maxRecDepth 20000 in
theorem gX6_frameOf_X6_endOf : GoodIn wsX6_frameOf (wsV RX6 23 RX6 yX6_endOf wsX6_endOf) := goodIn_app (goodIn_of _ (by decide +kernel)) ggX6_frameOf_X6_endOf
theorem dX6_frameOf_0 : decode cX6_frameOf 0 = .ok (.aload_n 0, 1) := by decide +kernel
theorem dX6_frameOf_1 : decode cX6_frameOf 1 = .ok (.iload_n 1, 1) := by decide +kernel
theorem dX6_frameOf_2 : decode cX6_frameOf 2 = .ok (.invokevirtual 23, 3) := by decide +kernel
theorem dX6_frameOf_5 : decode cX6_frameOf 5 = .ok (.getfield 51, 3) := by decide +kernel
theorem dX6_frameOf_8 : decode cX6_frameOf 8 = .ok (.astore_n 3, 1) := by decide +kernel
theorem dX6_frameOf_9 : decode cX6_frameOf 9 = .ok (.iload_n 2, 1) := by decide +kernel
theorem dX6_frameOf_10 : decode cX6_frameOf 10 = .ok (.ifCond .lt 11, 3) := by decide +kernel
theorem dX6_frameOf_13 : decode cX6_frameOf 13 = .ok (.iload_n 2, 1) := by decide +kernel
theorem dX6_frameOf_14 : decode cX6_frameOf 14 = .ok (.aload_n 3, 1) := by decide +kernel
theorem dX6_frameOf_15 : decode cX6_frameOf 15 = .ok (.getfield 73, 3) := by decide +kernel
theorem dX6_frameOf_18 : decode cX6_frameOf 18 = .ok (.if_icmp .lt 11, 3) := by decide +kernel
theorem dX6_frameOf_21 : decode cX6_frameOf 21 = .ok (.new 27, 3) := by decide +kernel
theorem dX6_frameOf_24 : decode cX6_frameOf 24 = .ok (.dup, 1) := by decide +kernel
theorem dX6_frameOf_25 : decode cX6_frameOf 25 = .ok (.invokespecial 29, 3) := by decide +kernel
theorem dX6_frameOf_28 : decode cX6_frameOf 28 = .ok (.athrow, 1) := by decide +kernel
theorem dX6_frameOf_29 : decode cX6_frameOf 29 = .ok (.aload_n 3, 1) := by decide +kernel
theorem dX6_frameOf_30 : decode cX6_frameOf 30 = .ok (.getfield 76, 3) := by decide +kernel
theorem dX6_frameOf_33 : decode cX6_frameOf 33 = .ok (.iload_n 2, 1) := by decide +kernel
theorem dX6_frameOf_34 : decode cX6_frameOf 34 = .ok (.aaload, 1) := by decide +kernel
theorem dX6_frameOf_35 : decode cX6_frameOf 35 = .ok (.areturn, 1) := by decide +kernel
theorem dX6_restBehind_0 : decode cX6_restBehind 0 = .ok (.iload_n 0, 1) := by decide +kernel
theorem dX6_restBehind_1 : decode cX6_restBehind 1 = .ok (.istore_n 2, 1) := by decide +kernel
theorem dX6_restBehind_2 : decode cX6_restBehind 2 = .ok (.iconst 0, 1) := by decide +kernel
theorem dX6_restBehind_3 : decode cX6_restBehind 3 = .ok (.istore_n 3, 1) := by decide +kernel
theorem dX6_restBehind_4 : decode cX6_restBehind 4 = .ok (.iload_n 3, 1) := by decide +kernel
theorem dX6_restBehind_5 : decode cX6_restBehind 5 = .ok (.bipush 8, 2) := by decide +kernel
theorem dX6_restBehind_7 : decode cX6_restBehind 7 = .ok (.if_icmp .ge 45, 3) := by decide +kernel
theorem dX6_restBehind_10 : decode cX6_restBehind 10 = .ok (.iload_n 2, 1) := by decide +kernel
theorem dX6_restBehind_11 : decode cX6_restBehind 11 = .ok (.iconst 1, 1) := by decide +kernel
theorem dX6_restBehind_12 : decode cX6_restBehind 12 = .ok (.iand, 1) := by decide +kernel
theorem dX6_restBehind_13 : decode cX6_restBehind 13 = .ok (.iload_n 1, 1) := by decide +kernel
theorem dX6_restBehind_14 : decode cX6_restBehind 14 = .ok (.iload_n 3, 1) := by decide +kernel
theorem dX6_restBehind_15 : decode cX6_restBehind 15 = .ok (.ishr, 1) := by decide +kernel
theorem dX6_restBehind_16 : decode cX6_restBehind 16 = .ok (.iconst 1, 1) := by decide +kernel
theorem dX6_restBehind_17 : decode cX6_restBehind 17 = .ok (.iand, 1) := by decide +kernel
theorem dX6_restBehind_18 : decode cX6_restBehind 18 = .ok (.if_icmp .eq 7, 3) := by decide +kernel
theorem dX6_restBehind_21 : decode cX6_restBehind 21 = .ok (.iconst 1, 1) := by decide +kernel
theorem dX6_restBehind_22 : decode cX6_restBehind 22 = .ok (.goto 4, 3) := by decide +kernel
theorem dX6_restBehind_25 : decode cX6_restBehind 25 = .ok (.iconst 0, 1) := by decide +kernel
theorem dX6_restBehind_26 : decode cX6_restBehind 26 = .ok (.istore 4, 2) := by decide +kernel
theorem dX6_restBehind_28 : decode cX6_restBehind 28 = .ok (.iload 4, 2) := by decide +kernel
theorem dX6_restBehind_30 : decode cX6_restBehind 30 = .ok (.ifCond .eq 12, 3) := by decide +kernel
theorem dX6_restBehind_33 : decode cX6_restBehind 33 = .ok (.iload_n 2, 1) := by decide +kernel
theorem dX6_restBehind_34 : decode cX6_restBehind 34 = .ok (.iconst 1, 1) := by decide +kernel
theorem dX6_restBehind_35 : decode cX6_restBehind 35 = .ok (.ishr, 1) := by decide +kernel
theorem dX6_restBehind_36 : decode cX6_restBehind 36 = .ok (.ldc 138, 2) := by decide +kernel
theorem dX6_restBehind_38 : decode cX6_restBehind 38 = .ok (.ixor, 1) := by decide +kernel
theorem dX6_restBehind_39 : decode cX6_restBehind 39 = .ok (.goto 6, 3) := by decide +kernel
theorem dX6_restBehind_42 : decode cX6_restBehind 42 = .ok (.iload_n 2, 1) := by decide +kernel
theorem dX6_restBehind_43 : decode cX6_restBehind 43 = .ok (.iconst 1, 1) := by decide +kernel
theorem dX6_restBehind_44 : decode cX6_restBehind 44 = .ok (.ishr, 1) := by decide +kernel
theorem dX6_restBehind_45 : decode cX6_restBehind 45 = .ok (.istore_n 2, 1) := by decide +kernel
theorem dX6_restBehind_46 : decode cX6_restBehind 46 = .ok (.iinc 3 1, 3) := by decide +kernel
theorem dX6_restBehind_49 : decode cX6_restBehind 49 = .ok (.goto (-45), 3) := by decide +kernel
theorem dX6_restBehind_52 : decode cX6_restBehind 52 = .ok (.iload_n 2, 1) := by decide +kernel
theorem dX6_restBehind_53 : decode cX6_restBehind 53 = .ok (.ireturn, 1) := by decide +kernel
theorem dX6_nextNumber_0 : decode cX6_nextNumber 0 = .ok (.iload_n 0, 1) := by decide +kernel
theorem dX6_nextNumber_1 : decode cX6_nextNumber 1 = .ok (.iconst 1, 1) := by decide +kernel
theorem dX6_nextNumber_2 : decode cX6_nextNumber 2 = .ok (.iadd, 1) := by decide +kernel
theorem dX6_nextNumber_3 : decode cX6_nextNumber 3 = .ok (.bipush 127, 2) := by decide +kernel
theorem dX6_nextNumber_5 : decode cX6_nextNumber 5 = .ok (.iand, 1) := by decide +kernel
theorem dX6_nextNumber_6 : decode cX6_nextNumber 6 = .ok (.ireturn, 1) := by decide +kernel
set_option maxRecDepth 20000 in
theorem ggX7_init_X7_begin : GoodIn wsX7_init wsX7_begin := goodIn_r _ [36, 5, 9, 10, 11, 12, 13, 14, 17, 21, 22, 23, 24, 26, 37, 38, 39, 40, 41, 42, 43, 44, 45, 46, 47, 48, 49, 50, 51, 52, 53, 54, 55, 56, 57, 58, 59, 60, 61, 62, 63] (by decide +kernel) (by decide +kernel)
set_option maxRecDepth 20000 in
theorem gX7_init_X7_begin : GoodIn wsX7_init (wsV RX7 87 RX7 yX7_begin wsX7_begin) := goodIn_app (goodIn_of _ (by decide +kernel)) ggX7_init_X7_begin
theorem dX7_init_0 : decode cX7_init 0 = .ok (.aload_n 0, 1) := by decide +kernel
theorem dX7_init_1 : decode cX7_init 1 = .ok (.invokespecial 1, 3) := by decide +kernel
theorem dX7_init_4 : decode cX7_init 4 = .ok (.aload_n 0, 1) := by decide +kernel
theorem dX7_init_5 : decode cX7_init 5 = .ok (.iconst 2, 1) := by decide +kernel
theorem dX7_init_6 : decode cX7_init 6 = .ok (.newarray .int, 2) := by decide +kernel
theorem dX7_init_8 : decode cX7_init 8 = .ok (.putfield 7, 3) := by decide +kernel
theorem dX7_init_11 : decode cX7_init 11 = .ok (.aload_n 0, 1) := by decide +kernel
theorem dX7_init_12 : decode cX7_init 12 = .ok (.bipush 80, 2) := by decide +kernel
theorem dX7_init_14 : decode cX7_init 14 = .ok (.newarray .int, 2) := by decide +kernel
theorem dX7_init_16 : decode cX7_init 16 = .ok (.putfield 13, 3) := by decide +kernel
theorem dX7_init_19 : decode cX7_init 19 = .ok (.aload_n 0, 1) := by decide +kernel
theorem dX7_init_20 : decode cX7_init 20 = .ok (.ldc 16, 2) := by decide +kernel
theorem dX7_init_22 : decode cX7_init 22 = .ok (.newarray .int, 2) := by decide +kernel
theorem dX7_init_24 : decode cX7_init 24 = .ok (.putfield 17, 3) := by decide +kernel
theorem dX7_init_27 : decode cX7_init 27 = .ok (.aload_n 0, 1) := by decide +kernel
theorem dX7_init_28 : decode cX7_init 28 = .ok (.iconst 2, 1) := by decide +kernel
theorem dX7_init_29 : decode cX7_init 29 = .ok (.newarray .int, 2) := by decide +kernel
theorem dX7_init_31 : decode cX7_init 31 = .ok (.putfield 20, 3) := by decide +kernel
theorem dX7_init_34 : decode cX7_init 34 = .ok (.aload_n 0, 1) := by decide +kernel
theorem dX7_init_35 : decode cX7_init 35 = .ok (.iconst 2, 1) := by decide +kernel
theorem dX7_init_36 : decode cX7_init 36 = .ok (.newarray .int, 2) := by decide +kernel
theorem dX7_init_38 : decode cX7_init 38 = .ok (.putfield 23, 3) := by decide +kernel

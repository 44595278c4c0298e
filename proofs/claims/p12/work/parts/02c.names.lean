theorem dX0_takeForward_28 : decode cX0_takeForward 28 = .ok (.aload_n 1, 1) := by decide +kernel
theorem dX0_takeForward_29 : decode cX0_takeForward 29 = .ok (.invokevirtual 144, 3) := by decide +kernel
theorem dX0_takeForward_32 : decode cX0_takeForward 32 = .ok (.ifCond .le 29, 3) := by decide +kernel
theorem dX0_takeForward_35 : decode cX0_takeForward 35 = .ok (.iload_n 2, 1) := by decide +kernel
theorem dX0_takeForward_36 : decode cX0_takeForward 36 = .ok (.aload_n 0, 1) := by decide +kernel
theorem dX0_takeForward_37 : decode cX0_takeForward 37 = .ok (.getfield 42, 3) := by decide +kernel
theorem dX0_takeForward_40 : decode cX0_takeForward 40 = .ok (.invokestatic 81, 3) := by decide +kernel
theorem dX0_takeForward_43 : decode cX0_takeForward 43 = .ok (.if_icmp .ne 18, 3) := by decide +kernel
theorem dX0_takeForward_46 : decode cX0_takeForward 46 = .ok (.aload_n 0, 1) := by decide +kernel
theorem dX0_takeForward_47 : decode cX0_takeForward 47 = .ok (.iload_n 2, 1) := by decide +kernel
theorem dX0_takeForward_48 : decode cX0_takeForward 48 = .ok (.putfield 42, 3) := by decide +kernel
theorem dX0_takeForward_51 : decode cX0_takeForward 51 = .ok (.aload_n 0, 1) := by decide +kernel
theorem dX0_takeForward_52 : decode cX0_takeForward 52 = .ok (.getfield 28, 3) := by decide +kernel
theorem dX0_takeForward_55 : decode cX0_takeForward 55 = .ok (.aload_n 1, 1) := by decide +kernel
theorem dX0_takeForward_56 : decode cX0_takeForward 56 = .ok (.invokevirtual 147, 3) := by decide +kernel
theorem dX0_takeForward_59 : decode cX0_takeForward 59 = .ok (.iconst 1, 1) := by decide +kernel
theorem dX0_takeForward_60 : decode cX0_takeForward 60 = .ok (.ireturn, 1) := by decide +kernel
theorem dX0_takeForward_61 : decode cX0_takeForward 61 = .ok (.aload_n 0, 1) := by decide +kernel
theorem dX0_takeForward_62 : decode cX0_takeForward 62 = .ok (.iconst 1, 1) := by decide +kernel
theorem dX0_takeForward_63 : decode cX0_takeForward 63 = .ok (.aload_n 0, 1) := by decide +kernel
theorem dX0_takeForward_64 : decode cX0_takeForward 64 = .ok (.getfield 36, 3) := by decide +kernel
theorem dX0_takeForward_67 : decode cX0_takeForward 67 = .ok (.isub, 1) := by decide +kernel
theorem dX0_takeForward_68 : decode cX0_takeForward 68 = .ok (.putfield 36, 3) := by decide +kernel
theorem dX0_takeForward_71 : decode cX0_takeForward 71 = .ok (.iconst 2, 1) := by decide +kernel
theorem dX0_takeForward_72 : decode cX0_takeForward 72 = .ok (.ireturn, 1) := by decide +kernel
theorem dX0_fact_0 : decode cX0_fact 0 = .ok (.iload_n 1, 1) := by decide +kernel
theorem dX0_fact_1 : decode cX0_fact 1 = .ok (.tableswitch 129 0 10 #[59, 64, 69, 74, 79, 87, 95, 103, 111, 119, 124], 59) := by decide +kernel
theorem dX0_fact_60 : decode cX0_fact 60 = .ok (.aload_n 0, 1) := by decide +kernel
theorem dX0_fact_61 : decode cX0_fact 61 = .ok (.getfield 32, 3) := by decide +kernel
theorem dX0_fact_64 : decode cX0_fact 64 = .ok (.ireturn, 1) := by decide +kernel
theorem dX0_fact_65 : decode cX0_fact 65 = .ok (.aload_n 0, 1) := by decide +kernel
theorem dX0_fact_66 : decode cX0_fact 66 = .ok (.getfield 36, 3) := by decide +kernel
theorem dX0_fact_69 : decode cX0_fact 69 = .ok (.ireturn, 1) := by decide +kernel
theorem dX0_fact_70 : decode cX0_fact 70 = .ok (.aload_n 0, 1) := by decide +kernel
theorem dX0_fact_71 : decode cX0_fact 71 = .ok (.getfield 39, 3) := by decide +kernel
theorem dX0_fact_74 : decode cX0_fact 74 = .ok (.ireturn, 1) := by decide +kernel
theorem dX0_fact_75 : decode cX0_fact 75 = .ok (.aload_n 0, 1) := by decide +kernel
theorem dX0_fact_76 : decode cX0_fact 76 = .ok (.getfield 42, 3) := by decide +kernel
theorem dX0_fact_79 : decode cX0_fact 79 = .ok (.ireturn, 1) := by decide +kernel
theorem dX0_fact_80 : decode cX0_fact 80 = .ok (.aload_n 0, 1) := by decide +kernel
theorem dX0_fact_81 : decode cX0_fact 81 = .ok (.getfield 21, 3) := by decide +kernel
theorem dX0_fact_84 : decode cX0_fact 84 = .ok (.getfield 150, 3) := by decide +kernel
theorem dX0_fact_87 : decode cX0_fact 87 = .ok (.ireturn, 1) := by decide +kernel
theorem dX0_fact_88 : decode cX0_fact 88 = .ok (.aload_n 0, 1) := by decide +kernel
theorem dX0_fact_89 : decode cX0_fact 89 = .ok (.getfield 21, 3) := by decide +kernel
theorem dX0_fact_92 : decode cX0_fact 92 = .ok (.getfield 89, 3) := by decide +kernel
theorem dX0_fact_95 : decode cX0_fact 95 = .ok (.ireturn, 1) := by decide +kernel
theorem dX0_fact_96 : decode cX0_fact 96 = .ok (.aload_n 0, 1) := by decide +kernel
theorem dX0_fact_97 : decode cX0_fact 97 = .ok (.getfield 21, 3) := by decide +kernel
theorem dX0_fact_100 : decode cX0_fact 100 = .ok (.getfield 67, 3) := by decide +kernel
theorem dX0_fact_103 : decode cX0_fact 103 = .ok (.ireturn, 1) := by decide +kernel
theorem dX0_fact_104 : decode cX0_fact 104 = .ok (.aload_n 0, 1) := by decide +kernel
theorem dX0_fact_105 : decode cX0_fact 105 = .ok (.getfield 28, 3) := by decide +kernel
theorem dX0_fact_108 : decode cX0_fact 108 = .ok (.getfield 153, 3) := by decide +kernel
theorem dX0_fact_111 : decode cX0_fact 111 = .ok (.ireturn, 1) := by decide +kernel
theorem dX0_fact_112 : decode cX0_fact 112 = .ok (.aload_n 0, 1) := by decide +kernel
theorem dX0_fact_113 : decode cX0_fact 113 = .ok (.getfield 12, 3) := by decide +kernel
theorem dX0_fact_116 : decode cX0_fact 116 = .ok (.getfield 45, 3) := by decide +kernel
theorem dX0_fact_119 : decode cX0_fact 119 = .ok (.ireturn, 1) := by decide +kernel
theorem dX0_fact_120 : decode cX0_fact 120 = .ok (.aload_n 0, 1) := by decide +kernel
theorem dX0_fact_121 : decode cX0_fact 121 = .ok (.getfield 51, 3) := by decide +kernel
theorem dX0_fact_124 : decode cX0_fact 124 = .ok (.ireturn, 1) := by decide +kernel
theorem dX0_fact_125 : decode cX0_fact 125 = .ok (.aload_n 0, 1) := by decide +kernel
theorem dX0_fact_126 : decode cX0_fact 126 = .ok (.getfield 54, 3) := by decide +kernel
theorem dX0_fact_129 : decode cX0_fact 129 = .ok (.ireturn, 1) := by decide +kernel
theorem dX0_fact_130 : decode cX0_fact 130 = .ok (.aload_n 0, 1) := by decide +kernel
theorem dX0_fact_131 : decode cX0_fact 131 = .ok (.getfield 57, 3) := by decide +kernel
theorem dX0_fact_134 : decode cX0_fact 134 = .ok (.ifCond .eq 7, 3) := by decide +kernel
theorem dX0_fact_137 : decode cX0_fact 137 = .ok (.iconst 1, 1) := by decide +kernel
theorem dX0_fact_138 : decode cX0_fact 138 = .ok (.goto 4, 3) := by decide +kernel
theorem dX0_fact_141 : decode cX0_fact 141 = .ok (.iconst 0, 1) := by decide +kernel
theorem dX0_fact_142 : decode cX0_fact 142 = .ok (.ireturn, 1) := by decide +kernel
theorem dX1_init_0 : decode cX1_init 0 = .ok (.aload_n 0, 1) := by decide +kernel
theorem dX1_init_1 : decode cX1_init 1 = .ok (.invokespecial 3, 3) := by decide +kernel
theorem dX1_init_4 : decode cX1_init 4 = .ok (.aload_n 0, 1) := by decide +kernel
theorem dX1_init_5 : decode cX1_init 5 = .ok (.bipush 47, 2) := by decide +kernel
theorem dX1_init_7 : decode cX1_init 7 = .ok (.newarray .long, 2) := by decide +kernel
theorem dX1_init_9 : decode cX1_init 9 = .ok (.putfield 9, 3) := by decide +kernel
theorem dX1_init_12 : decode cX1_init 12 = .ok (.return_, 1) := by decide +kernel
theorem dX1_valueAt_0 : decode cX1_valueAt 0 = .ok (.aload_n 0, 1) := by decide +kernel
theorem dX1_valueAt_1 : decode cX1_valueAt 1 = .ok (.getfield 9, 3) := by decide +kernel
theorem dX1_valueAt_4 : decode cX1_valueAt 4 = .ok (.iload_n 1, 1) := by decide +kernel
theorem dX1_valueAt_5 : decode cX1_valueAt 5 = .ok (.bipush 64, 2) := by decide +kernel
theorem dX1_valueAt_7 : decode cX1_valueAt 7 = .ok (.idiv, 1) := by decide +kernel
theorem dX1_valueAt_8 : decode cX1_valueAt 8 = .ok (.laload, 1) := by decide +kernel
theorem dX1_valueAt_9 : decode cX1_valueAt 9 = .ok (.iload_n 1, 1) := by decide +kernel
theorem dX1_valueAt_10 : decode cX1_valueAt 10 = .ok (.bipush 64, 2) := by decide +kernel
theorem dX1_valueAt_12 : decode cX1_valueAt 12 = .ok (.irem, 1) := by decide +kernel
theorem dX1_valueAt_13 : decode cX1_valueAt 13 = .ok (.lushr, 1) := by decide +kernel
theorem dX1_valueAt_14 : decode cX1_valueAt 14 = .ok (.l2i, 1) := by decide +kernel
theorem dX1_valueAt_15 : decode cX1_valueAt 15 = .ok (.iconst 1, 1) := by decide +kernel
theorem dX1_valueAt_16 : decode cX1_valueAt 16 = .ok (.iand, 1) := by decide +kernel
theorem dX1_valueAt_17 : decode cX1_valueAt 17 = .ok (.ireturn, 1) := by decide +kernel
theorem dX1_turn_0 : decode cX1_turn 0 = .ok (.aload_n 0, 1) := by decide +kernel
theorem dX1_turn_1 : decode cX1_turn 1 = .ok (.getfield 9, 3) := by decide +kernel
theorem dX1_turn_4 : decode cX1_turn 4 = .ok (.iload_n 1, 1) := by decide +kernel
theorem dX1_turn_5 : decode cX1_turn 5 = .ok (.bipush 64, 2) := by decide +kernel
theorem dX1_turn_7 : decode cX1_turn 7 = .ok (.idiv, 1) := by decide +kernel
theorem dX1_turn_8 : decode cX1_turn 8 = .ok (.dup2, 1) := by decide +kernel
theorem dX1_turn_9 : decode cX1_turn 9 = .ok (.laload, 1) := by decide +kernel
theorem dX1_turn_10 : decode cX1_turn 10 = .ok (.lconst 1, 1) := by decide +kernel
theorem dX1_turn_11 : decode cX1_turn 11 = .ok (.iload_n 1, 1) := by decide +kernel
theorem dX1_turn_12 : decode cX1_turn 12 = .ok (.bipush 64, 2) := by decide +kernel
theorem dX1_turn_14 : decode cX1_turn 14 = .ok (.irem, 1) := by decide +kernel
theorem dX1_turn_15 : decode cX1_turn 15 = .ok (.lshl, 1) := by decide +kernel
theorem dX1_turn_16 : decode cX1_turn 16 = .ok (.lxor, 1) := by decide +kernel
theorem dX1_turn_17 : decode cX1_turn 17 = .ok (.lastore, 1) := by decide +kernel
theorem dX1_turn_18 : decode cX1_turn 18 = .ok (.return_, 1) := by decide +kernel
set_option maxRecDepth 20000 in
theorem ggX1_add_X1_valueAt : GoodIn wsX1_add wsX1_valueAt := goodIn_r _ [6, 7, 12, 13] (by decide +kernel) (by decide +kernel)
set_option maxRecDepth 20000 in
theorem gX1_add_X1_valueAt : GoodIn wsX1_add (wsV RX1 19 RX1 yX1_valueAt wsX1_valueAt) := goodIn_app (goodIn_of _ (by decide +kernel)) ggX1_add_X1_valueAt
set_option maxRecDepth 20000 in
theorem ggX1_add_X1_turn : GoodIn wsX1_add wsX1_turn := goodIn_r _ [11, 7, 12, 13] (by decide +kernel) (by decide +kernel)
set_option maxRecDepth 20000 in
theorem gX1_add_X1_turn : GoodIn wsX1_add (wsV RX1 23 RX1 yX1_turn wsX1_turn) := goodIn_app (goodIn_of _ (by decide +kernel)) ggX1_add_X1_turn
theorem dX1_add_0 : decode cX1_add 0 = .ok (.aload_n 0, 1) := by decide +kernel
theorem dX1_add_1 : decode cX1_add 1 = .ok (.dup, 1) := by decide +kernel
theorem dX1_add_2 : decode cX1_add 2 = .ok (.getfield 15, 3) := by decide +kernel
theorem dX1_add_5 : decode cX1_add 5 = .ok (.iconst 1, 1) := by decide +kernel
theorem dX1_add_6 : decode cX1_add 6 = .ok (.iadd, 1) := by decide +kernel
theorem dX1_add_7 : decode cX1_add 7 = .ok (.putfield 15, 3) := by decide +kernel
theorem dX1_add_10 : decode cX1_add 10 = .ok (.aload_n 0, 1) := by decide +kernel
theorem dX1_add_11 : decode cX1_add 11 = .ok (.aload_n 0, 1) := by decide +kernel
theorem dX1_add_12 : decode cX1_add 12 = .ok (.getfield 15, 3) := by decide +kernel
theorem dX1_add_15 : decode cX1_add 15 = .ok (.iconst 1, 1) := by decide +kernel
theorem dX1_add_16 : decode cX1_add 16 = .ok (.isub, 1) := by decide +kernel
theorem dX1_add_17 : decode cX1_add 17 = .ok (.invokevirtual 19, 3) := by decide +kernel
theorem dX1_add_20 : decode cX1_add 20 = .ok (.iload_n 1, 1) := by decide +kernel
theorem dX1_add_21 : decode cX1_add 21 = .ok (.if_icmp .eq 13, 3) := by decide +kernel
theorem dX1_add_24 : decode cX1_add 24 = .ok (.aload_n 0, 1) := by decide +kernel
theorem dX1_add_25 : decode cX1_add 25 = .ok (.aload_n 0, 1) := by decide +kernel
theorem dX1_add_26 : decode cX1_add 26 = .ok (.getfield 15, 3) := by decide +kernel
theorem dX1_add_29 : decode cX1_add 29 = .ok (.iconst 1, 1) := by decide +kernel
theorem dX1_add_30 : decode cX1_add 30 = .ok (.isub, 1) := by decide +kernel
theorem dX1_add_31 : decode cX1_add 31 = .ok (.invokevirtual 23, 3) := by decide +kernel
theorem dX1_add_34 : decode cX1_add 34 = .ok (.return_, 1) := by decide +kernel
set_option maxRecDepth 20000 in
theorem ggX1_addFlag_X1_add : GoodIn wsX1_addFlag wsX1_add := goodIn_r _ [5, 6, 7, 8, 9, 4, 10, 11, 12, 13, 14, 15, 16, 17] (by decide +kernel) (by decide +kernel)
set_option maxRecDepth 20000 in
theorem gX1_addFlag_X1_add : GoodIn wsX1_addFlag (wsV RX1 27 RX1 yX1_add wsX1_add) := goodIn_app (goodIn_of _ (by decide +kernel)) ggX1_addFlag_X1_add
theorem dX1_addFlag_0 : decode cX1_addFlag 0 = .ok (.iconst 0, 1) := by decide +kernel
theorem dX1_addFlag_1 : decode cX1_addFlag 1 = .ok (.istore_n 1, 1) := by decide +kernel
theorem dX1_addFlag_2 : decode cX1_addFlag 2 = .ok (.iload_n 1, 1) := by decide +kernel
theorem dX1_addFlag_3 : decode cX1_addFlag 3 = .ok (.bipush 8, 2) := by decide +kernel
theorem dX1_addFlag_5 : decode cX1_addFlag 5 = .ok (.if_icmp .ge 19, 3) := by decide +kernel
theorem dX1_addFlag_8 : decode cX1_addFlag 8 = .ok (.aload_n 0, 1) := by decide +kernel
theorem dX1_addFlag_9 : decode cX1_addFlag 9 = .ok (.bipush 126, 2) := by decide +kernel
theorem dX1_addFlag_11 : decode cX1_addFlag 11 = .ok (.iload_n 1, 1) := by decide +kernel
theorem dX1_addFlag_12 : decode cX1_addFlag 12 = .ok (.ishr, 1) := by decide +kernel
theorem dX1_addFlag_13 : decode cX1_addFlag 13 = .ok (.iconst 1, 1) := by decide +kernel
theorem dX1_addFlag_14 : decode cX1_addFlag 14 = .ok (.iand, 1) := by decide +kernel
theorem dX1_addFlag_15 : decode cX1_addFlag 15 = .ok (.invokevirtual 27, 3) := by decide +kernel
theorem dX1_addFlag_18 : decode cX1_addFlag 18 = .ok (.iinc 1 1, 3) := by decide +kernel
theorem dX1_addFlag_21 : decode cX1_addFlag 21 = .ok (.goto (-19), 3) := by decide +kernel
theorem dX1_addFlag_24 : decode cX1_addFlag 24 = .ok (.return_, 1) := by decide +kernel
set_option maxRecDepth 20000 in
theorem ggX1_hasFlagAt_X1_valueAt : GoodIn wsX1_hasFlagAt wsX1_valueAt := goodIn_r _ [5, 6, 7, 8] (by decide +kernel) (by decide +kernel)
set_option maxRecDepth 20000 in
theorem gX1_hasFlagAt_X1_valueAt : GoodIn wsX1_hasFlagAt (wsV RX1 19 RX1 yX1_valueAt wsX1_valueAt) := goodIn_app (goodIn_of _ (by decide +kernel)) ggX1_hasFlagAt_X1_valueAt
theorem dX1_hasFlagAt_0 : decode cX1_hasFlagAt 0 = .ok (.iconst 1, 1) := by decide +kernel
theorem dX1_hasFlagAt_1 : decode cX1_hasFlagAt 1 = .ok (.istore_n 2, 1) := by decide +kernel
theorem dX1_hasFlagAt_2 : decode cX1_hasFlagAt 2 = .ok (.iconst 0, 1) := by decide +kernel
theorem dX1_hasFlagAt_3 : decode cX1_hasFlagAt 3 = .ok (.istore_n 3, 1) := by decide +kernel
theorem dX1_hasFlagAt_4 : decode cX1_hasFlagAt 4 = .ok (.iload_n 3, 1) := by decide +kernel
theorem dX1_hasFlagAt_5 : decode cX1_hasFlagAt 5 = .ok (.bipush 8, 2) := by decide +kernel
theorem dX1_hasFlagAt_7 : decode cX1_hasFlagAt 7 = .ok (.if_icmp .ge 35, 3) := by decide +kernel
theorem dX1_hasFlagAt_10 : decode cX1_hasFlagAt 10 = .ok (.iload_n 2, 1) := by decide +kernel
theorem dX1_hasFlagAt_11 : decode cX1_hasFlagAt 11 = .ok (.ifCond .eq 23, 3) := by decide +kernel
theorem dX1_hasFlagAt_14 : decode cX1_hasFlagAt 14 = .ok (.aload_n 0, 1) := by decide +kernel
theorem dX1_hasFlagAt_15 : decode cX1_hasFlagAt 15 = .ok (.iload_n 1, 1) := by decide +kernel
theorem dX1_hasFlagAt_16 : decode cX1_hasFlagAt 16 = .ok (.iload_n 3, 1) := by decide +kernel
theorem dX1_hasFlagAt_17 : decode cX1_hasFlagAt 17 = .ok (.iadd, 1) := by decide +kernel
theorem dX1_hasFlagAt_18 : decode cX1_hasFlagAt 18 = .ok (.invokevirtual 19, 3) := by decide +kernel
theorem dX1_hasFlagAt_21 : decode cX1_hasFlagAt 21 = .ok (.bipush 126, 2) := by decide +kernel
theorem dX1_hasFlagAt_23 : decode cX1_hasFlagAt 23 = .ok (.iload_n 3, 1) := by decide +kernel
theorem dX1_hasFlagAt_24 : decode cX1_hasFlagAt 24 = .ok (.ishr, 1) := by decide +kernel
theorem dX1_hasFlagAt_25 : decode cX1_hasFlagAt 25 = .ok (.iconst 1, 1) := by decide +kernel
theorem dX1_hasFlagAt_26 : decode cX1_hasFlagAt 26 = .ok (.iand, 1) := by decide +kernel
theorem dX1_hasFlagAt_27 : decode cX1_hasFlagAt 27 = .ok (.if_icmp .ne 7, 3) := by decide +kernel
theorem dX1_hasFlagAt_30 : decode cX1_hasFlagAt 30 = .ok (.iconst 1, 1) := by decide +kernel
theorem dX1_hasFlagAt_31 : decode cX1_hasFlagAt 31 = .ok (.goto 4, 3) := by decide +kernel
theorem dX1_hasFlagAt_34 : decode cX1_hasFlagAt 34 = .ok (.iconst 0, 1) := by decide +kernel
theorem dX1_hasFlagAt_35 : decode cX1_hasFlagAt 35 = .ok (.istore_n 2, 1) := by decide +kernel
theorem dX1_hasFlagAt_36 : decode cX1_hasFlagAt 36 = .ok (.iinc 3 1, 3) := by decide +kernel
theorem dX1_hasFlagAt_39 : decode cX1_hasFlagAt 39 = .ok (.goto (-35), 3) := by decide +kernel
theorem dX1_hasFlagAt_42 : decode cX1_hasFlagAt 42 = .ok (.iload_n 2, 1) := by decide +kernel
theorem dX1_hasFlagAt_43 : decode cX1_hasFlagAt 43 = .ok (.ireturn, 1) := by decide +kernel
set_option maxRecDepth 20000 in
theorem ggX1_isBetweenFlags_X1_hasFlagAt : GoodIn wsX1_isBetweenFlags wsX1_hasFlagAt := goodIn_r _ [6, 7, 8, 9, 5, 10, 11, 12, 13] (by decide +kernel) (by decide +kernel)
set_option maxRecDepth 20000 in
theorem gX1_isBetweenFlags_X1_hasFlagAt : GoodIn wsX1_isBetweenFlags (wsV RX1 30 RX1 yX1_hasFlagAt wsX1_hasFlagAt) := goodIn_app (goodIn_of _ (by decide +kernel)) ggX1_isBetweenFlags_X1_hasFlagAt
theorem dX1_isBetweenFlags_0 : decode cX1_isBetweenFlags 0 = .ok (.aload_n 0, 1) := by decide +kernel
theorem dX1_isBetweenFlags_1 : decode cX1_isBetweenFlags 1 = .ok (.getfield 15, 3) := by decide +kernel
theorem dX1_isBetweenFlags_4 : decode cX1_isBetweenFlags 4 = .ok (.bipush 16, 2) := by decide +kernel
theorem dX1_isBetweenFlags_6 : decode cX1_isBetweenFlags 6 = .ok (.if_icmp .lt 29, 3) := by decide +kernel
theorem dX1_isBetweenFlags_9 : decode cX1_isBetweenFlags 9 = .ok (.aload_n 0, 1) := by decide +kernel
theorem dX1_isBetweenFlags_10 : decode cX1_isBetweenFlags 10 = .ok (.iconst 0, 1) := by decide +kernel
theorem dX1_isBetweenFlags_11 : decode cX1_isBetweenFlags 11 = .ok (.invokevirtual 30, 3) := by decide +kernel
theorem dX1_isBetweenFlags_14 : decode cX1_isBetweenFlags 14 = .ok (.ifCond .eq 21, 3) := by decide +kernel
theorem dX1_isBetweenFlags_17 : decode cX1_isBetweenFlags 17 = .ok (.aload_n 0, 1) := by decide +kernel
theorem dX1_isBetweenFlags_18 : decode cX1_isBetweenFlags 18 = .ok (.aload_n 0, 1) := by decide +kernel
theorem dX1_isBetweenFlags_19 : decode cX1_isBetweenFlags 19 = .ok (.getfield 15, 3) := by decide +kernel
theorem dX1_isBetweenFlags_22 : decode cX1_isBetweenFlags 22 = .ok (.bipush 8, 2) := by decide +kernel
theorem dX1_isBetweenFlags_24 : decode cX1_isBetweenFlags 24 = .ok (.isub, 1) := by decide +kernel
theorem dX1_isBetweenFlags_25 : decode cX1_isBetweenFlags 25 = .ok (.invokevirtual 30, 3) := by decide +kernel
theorem dX1_isBetweenFlags_28 : decode cX1_isBetweenFlags 28 = .ok (.ifCond .eq 7, 3) := by decide +kernel
theorem dX1_isBetweenFlags_31 : decode cX1_isBetweenFlags 31 = .ok (.iconst 1, 1) := by decide +kernel
theorem dX1_isBetweenFlags_32 : decode cX1_isBetweenFlags 32 = .ok (.goto 4, 3) := by decide +kernel
theorem dX1_isBetweenFlags_35 : decode cX1_isBetweenFlags 35 = .ok (.iconst 0, 1) := by decide +kernel
theorem dX1_isBetweenFlags_36 : decode cX1_isBetweenFlags 36 = .ok (.ireturn, 1) := by decide +kernel
set_option maxRecDepth 20000 in
theorem ggX1_hasSixOnesBetweenFlags_X1_valueAt : GoodIn wsX1_hasSixOnesBetweenFlags wsX1_valueAt := goodIn_r _ [6, 7, 8, 9] (by decide +kernel) (by decide +kernel)
set_option maxRecDepth 20000 in
theorem gX1_hasSixOnesBetweenFlags_X1_valueAt : GoodIn wsX1_hasSixOnesBetweenFlags (wsV RX1 19 RX1 yX1_valueAt wsX1_valueAt) := goodIn_app (goodIn_of _ (by decide +kernel)) ggX1_hasSixOnesBetweenFlags_X1_valueAt
theorem dX1_hasSixOnesBetweenFlags_0 : decode cX1_hasSixOnesBetweenFlags 0 = .ok (.iconst 0, 1) := by decide +kernel
theorem dX1_hasSixOnesBetweenFlags_1 : decode cX1_hasSixOnesBetweenFlags 1 = .ok (.istore_n 1, 1) := by decide +kernel
theorem dX1_hasSixOnesBetweenFlags_2 : decode cX1_hasSixOnesBetweenFlags 2 = .ok (.bipush 8, 2) := by decide +kernel
theorem dX1_hasSixOnesBetweenFlags_4 : decode cX1_hasSixOnesBetweenFlags 4 = .ok (.istore_n 2, 1) := by decide +kernel
theorem dX1_hasSixOnesBetweenFlags_5 : decode cX1_hasSixOnesBetweenFlags 5 = .ok (.iload_n 2, 1) := by decide +kernel
theorem dX1_hasSixOnesBetweenFlags_6 : decode cX1_hasSixOnesBetweenFlags 6 = .ok (.aload_n 0, 1) := by decide +kernel
theorem dX1_hasSixOnesBetweenFlags_7 : decode cX1_hasSixOnesBetweenFlags 7 = .ok (.getfield 15, 3) := by decide +kernel
theorem dX1_hasSixOnesBetweenFlags_10 : decode cX1_hasSixOnesBetweenFlags 10 = .ok (.bipush 8, 2) := by decide +kernel
theorem dX1_hasSixOnesBetweenFlags_12 : decode cX1_hasSixOnesBetweenFlags 12 = .ok (.isub, 1) := by decide +kernel
theorem dX1_hasSixOnesBetweenFlags_13 : decode cX1_hasSixOnesBetweenFlags 13 = .ok (.if_icmp .ge 33, 3) := by decide +kernel
theorem dX1_hasSixOnesBetweenFlags_16 : decode cX1_hasSixOnesBetweenFlags 16 = .ok (.aload_n 0, 1) := by decide +kernel
theorem dX1_hasSixOnesBetweenFlags_17 : decode cX1_hasSixOnesBetweenFlags 17 = .ok (.iload_n 2, 1) := by decide +kernel
theorem dX1_hasSixOnesBetweenFlags_18 : decode cX1_hasSixOnesBetweenFlags 18 = .ok (.invokevirtual 19, 3) := by decide +kernel
theorem dX1_hasSixOnesBetweenFlags_21 : decode cX1_hasSixOnesBetweenFlags 21 = .ok (.iconst 1, 1) := by decide +kernel
theorem dX1_hasSixOnesBetweenFlags_22 : decode cX1_hasSixOnesBetweenFlags 22 = .ok (.if_icmp .ne 9, 3) := by decide +kernel
theorem dX1_hasSixOnesBetweenFlags_25 : decode cX1_hasSixOnesBetweenFlags 25 = .ok (.iload_n 1, 1) := by decide +kernel
theorem dX1_hasSixOnesBetweenFlags_26 : decode cX1_hasSixOnesBetweenFlags 26 = .ok (.iconst 1, 1) := by decide +kernel
theorem dX1_hasSixOnesBetweenFlags_27 : decode cX1_hasSixOnesBetweenFlags 27 = .ok (.iadd, 1) := by decide +kernel
theorem dX1_hasSixOnesBetweenFlags_28 : decode cX1_hasSixOnesBetweenFlags 28 = .ok (.goto 4, 3) := by decide +kernel
theorem dX1_hasSixOnesBetweenFlags_31 : decode cX1_hasSixOnesBetweenFlags 31 = .ok (.iconst 0, 1) := by decide +kernel
theorem dX1_hasSixOnesBetweenFlags_32 : decode cX1_hasSixOnesBetweenFlags 32 = .ok (.istore_n 1, 1) := by decide +kernel
theorem dX1_hasSixOnesBetweenFlags_33 : decode cX1_hasSixOnesBetweenFlags 33 = .ok (.iload_n 1, 1) := by decide +kernel
theorem dX1_hasSixOnesBetweenFlags_34 : decode cX1_hasSixOnesBetweenFlags 34 = .ok (.iconst 5, 1) := by decide +kernel
theorem dX1_hasSixOnesBetweenFlags_35 : decode cX1_hasSixOnesBetweenFlags 35 = .ok (.if_icmp .le 5, 3) := by decide +kernel
theorem dX1_hasSixOnesBetweenFlags_38 : decode cX1_hasSixOnesBetweenFlags 38 = .ok (.iconst 1, 1) := by decide +kernel
theorem dX1_hasSixOnesBetweenFlags_39 : decode cX1_hasSixOnesBetweenFlags 39 = .ok (.ireturn, 1) := by decide +kernel
theorem dX1_hasSixOnesBetweenFlags_40 : decode cX1_hasSixOnesBetweenFlags 40 = .ok (.iinc 2 1, 3) := by decide +kernel
theorem dX1_hasSixOnesBetweenFlags_43 : decode cX1_hasSixOnesBetweenFlags 43 = .ok (.goto (-38), 3) := by decide +kernel
theorem dX1_hasSixOnesBetweenFlags_46 : decode cX1_hasSixOnesBetweenFlags 46 = .ok (.iconst 0, 1) := by decide +kernel
theorem dX1_hasSixOnesBetweenFlags_47 : decode cX1_hasSixOnesBetweenFlags 47 = .ok (.ireturn, 1) := by decide +kernel
set_option maxRecDepth 20000 in
theorem ggX2_init_X1_init : GoodIn wsX2_init wsX1_init := goodIn_r _ [9, 10, 2, 3, 11, 12, 15, 16] (by decide +kernel) (by decide +kernel)
set_option maxRecDepth 20000 in
theorem gX2_init_X1_init_n17 : GoodIn wsX2_init (wsX1_init) := ggX2_init_X1_init
theorem dX2_init_0 : decode cX2_init 0 = .ok (.aload_n 0, 1) := by decide +kernel
theorem dX2_init_1 : decode cX2_init 1 = .ok (.invokespecial 3, 3) := by decide +kernel
theorem dX2_init_4 : decode cX2_init 4 = .ok (.aload_n 0, 1) := by decide +kernel
theorem dX2_init_5 : decode cX2_init 5 = .ok (.bipush 40, 2) := by decide +kernel
theorem dX2_init_7 : decode cX2_init 7 = .ok (.anewarray 9, 3) := by decide +kernel
theorem dX2_init_10 : decode cX2_init 10 = .ok (.putfield 11, 3) := by decide +kernel
theorem dX2_init_13 : decode cX2_init 13 = .ok (.iconst 0, 1) := by decide +kernel
theorem dX2_init_14 : decode cX2_init 14 = .ok (.istore_n 1, 1) := by decide +kernel
theorem dX2_init_15 : decode cX2_init 15 = .ok (.iload_n 1, 1) := by decide +kernel
theorem dX2_init_16 : decode cX2_init 16 = .ok (.bipush 40, 2) := by decide +kernel
theorem dX2_init_18 : decode cX2_init 18 = .ok (.if_icmp .ge 22, 3) := by decide +kernel
theorem dX2_init_21 : decode cX2_init 21 = .ok (.aload_n 0, 1) := by decide +kernel
theorem dX2_init_22 : decode cX2_init 22 = .ok (.getfield 11, 3) := by decide +kernel
theorem dX2_init_25 : decode cX2_init 25 = .ok (.iload_n 1, 1) := by decide +kernel
theorem dX2_init_26 : decode cX2_init 26 = .ok (.new 9, 3) := by decide +kernel
theorem dX2_init_29 : decode cX2_init 29 = .ok (.dup, 1) := by decide +kernel
theorem dX2_init_30 : decode cX2_init 30 = .ok (.invokespecial 17, 3) := by decide +kernel
theorem dX2_init_33 : decode cX2_init 33 = .ok (.aastore, 1) := by decide +kernel
theorem dX2_init_34 : decode cX2_init 34 = .ok (.iinc 1 1, 3) := by decide +kernel
theorem dX2_init_37 : decode cX2_init 37 = .ok (.goto (-22), 3) := by decide +kernel
theorem dX2_init_40 : decode cX2_init 40 = .ok (.return_, 1) := by decide +kernel
theorem dX2_isFull_0 : decode cX2_isFull 0 = .ok (.aload_n 0, 1) := by decide +kernel
theorem dX2_isFull_1 : decode cX2_isFull 1 = .ok (.getfield 18, 3) := by decide +kernel
theorem dX2_isFull_4 : decode cX2_isFull 4 = .ok (.bipush 40, 2) := by decide +kernel
theorem dX2_isFull_6 : decode cX2_isFull 6 = .ok (.if_icmp .ne 7, 3) := by decide +kernel
theorem dX2_isFull_9 : decode cX2_isFull 9 = .ok (.iconst 1, 1) := by decide +kernel
theorem dX2_isFull_10 : decode cX2_isFull 10 = .ok (.goto 4, 3) := by decide +kernel
theorem dX2_isFull_13 : decode cX2_isFull 13 = .ok (.iconst 0, 1) := by decide +kernel
theorem dX2_isFull_14 : decode cX2_isFull 14 = .ok (.ireturn, 1) := by decide +kernel
theorem dX2_last_0 : decode cX2_last 0 = .ok (.aload_n 0, 1) := by decide +kernel
theorem dX2_last_1 : decode cX2_last 1 = .ok (.getfield 11, 3) := by decide +kernel
theorem dX2_last_4 : decode cX2_last 4 = .ok (.aload_n 0, 1) := by decide +kernel
theorem dX2_last_5 : decode cX2_last 5 = .ok (.getfield 18, 3) := by decide +kernel
theorem dX2_last_8 : decode cX2_last 8 = .ok (.iconst 1, 1) := by decide +kernel
theorem dX2_last_9 : decode cX2_last 9 = .ok (.isub, 1) := by decide +kernel
theorem dX2_last_10 : decode cX2_last 10 = .ok (.aaload, 1) := by decide +kernel
theorem dX2_last_11 : decode cX2_last 11 = .ok (.areturn, 1) := by decide +kernel
set_option maxRecDepth 20000 in
theorem ggX2_open_X2_last : GoodIn wsX2_open wsX2_last := goodIn_r _ [6, 7, 1, 8, 9] (by decide +kernel) (by decide +kernel)
set_option maxRecDepth 20000 in
theorem gX2_open_X2_last : GoodIn wsX2_open (wsV RX2 22 RX2 yX2_last wsX2_last) := goodIn_app (goodIn_of _ (by decide +kernel)) ggX2_open_X2_last
theorem dX2_open_0 : decode cX2_open 0 = .ok (.aload_n 0, 1) := by decide +kernel
theorem dX2_open_1 : decode cX2_open 1 = .ok (.dup, 1) := by decide +kernel
theorem dX2_open_2 : decode cX2_open 2 = .ok (.getfield 18, 3) := by decide +kernel
theorem dX2_open_5 : decode cX2_open 5 = .ok (.iconst 1, 1) := by decide +kernel
theorem dX2_open_6 : decode cX2_open 6 = .ok (.iadd, 1) := by decide +kernel
theorem dX2_open_7 : decode cX2_open 7 = .ok (.putfield 18, 3) := by decide +kernel
theorem dX2_open_10 : decode cX2_open 10 = .ok (.aload_n 0, 1) := by decide +kernel
theorem dX2_open_11 : decode cX2_open 11 = .ok (.invokevirtual 22, 3) := by decide +kernel
theorem dX2_open_14 : decode cX2_open 14 = .ok (.iconst 0, 1) := by decide +kernel
theorem dX2_open_15 : decode cX2_open 15 = .ok (.putfield 26, 3) := by decide +kernel
theorem dX2_open_18 : decode cX2_open 18 = .ok (.aload_n 0, 1) := by decide +kernel
theorem dX2_open_19 : decode cX2_open 19 = .ok (.invokevirtual 22, 3) := by decide +kernel
theorem dX2_open_22 : decode cX2_open 22 = .ok (.areturn, 1) := by decide +kernel
theorem dX2_lose_0 : decode cX2_lose 0 = .ok (.aload_n 0, 1) := by decide +kernel
theorem dX2_lose_1 : decode cX2_lose 1 = .ok (.getfield 11, 3) := by decide +kernel
theorem dX2_lose_4 : decode cX2_lose 4 = .ok (.iload_n 1, 1) := by decide +kernel
theorem dX2_lose_5 : decode cX2_lose 5 = .ok (.aaload, 1) := by decide +kernel
theorem dX2_lose_6 : decode cX2_lose 6 = .ok (.astore_n 2, 1) := by decide +kernel
theorem dX2_lose_7 : decode cX2_lose 7 = .ok (.iload_n 1, 1) := by decide +kernel
theorem dX2_lose_8 : decode cX2_lose 8 = .ok (.istore_n 3, 1) := by decide +kernel
theorem dX2_lose_9 : decode cX2_lose 9 = .ok (.iload_n 3, 1) := by decide +kernel
theorem dX2_lose_10 : decode cX2_lose 10 = .ok (.aload_n 0, 1) := by decide +kernel
theorem dX2_lose_11 : decode cX2_lose 11 = .ok (.getfield 18, 3) := by decide +kernel
theorem dX2_lose_14 : decode cX2_lose 14 = .ok (.iconst 1, 1) := by decide +kernel
theorem dX2_lose_15 : decode cX2_lose 15 = .ok (.isub, 1) := by decide +kernel
theorem dX2_lose_16 : decode cX2_lose 16 = .ok (.if_icmp .ge 23, 3) := by decide +kernel
theorem dX2_lose_19 : decode cX2_lose 19 = .ok (.aload_n 0, 1) := by decide +kernel
theorem dX2_lose_20 : decode cX2_lose 20 = .ok (.getfield 11, 3) := by decide +kernel
theorem dX2_lose_23 : decode cX2_lose 23 = .ok (.iload_n 3, 1) := by decide +kernel
theorem dX2_lose_24 : decode cX2_lose 24 = .ok (.aload_n 0, 1) := by decide +kernel
theorem dX2_lose_25 : decode cX2_lose 25 = .ok (.getfield 11, 3) := by decide +kernel
theorem dX2_lose_28 : decode cX2_lose 28 = .ok (.iload_n 3, 1) := by decide +kernel
theorem dX2_lose_29 : decode cX2_lose 29 = .ok (.iconst 1, 1) := by decide +kernel
theorem dX2_lose_30 : decode cX2_lose 30 = .ok (.iadd, 1) := by decide +kernel
theorem dX2_lose_31 : decode cX2_lose 31 = .ok (.aaload, 1) := by decide +kernel
theorem dX2_lose_32 : decode cX2_lose 32 = .ok (.aastore, 1) := by decide +kernel
theorem dX2_lose_33 : decode cX2_lose 33 = .ok (.iinc 3 1, 3) := by decide +kernel
theorem dX2_lose_36 : decode cX2_lose 36 = .ok (.goto (-27), 3) := by decide +kernel
theorem dX2_lose_39 : decode cX2_lose 39 = .ok (.aload_n 0, 1) := by decide +kernel
theorem dX2_lose_40 : decode cX2_lose 40 = .ok (.dup, 1) := by decide +kernel
theorem dX2_lose_41 : decode cX2_lose 41 = .ok (.getfield 18, 3) := by decide +kernel
theorem dX2_lose_44 : decode cX2_lose 44 = .ok (.iconst 1, 1) := by decide +kernel
theorem dX2_lose_45 : decode cX2_lose 45 = .ok (.isub, 1) := by decide +kernel
theorem dX2_lose_46 : decode cX2_lose 46 = .ok (.putfield 18, 3) := by decide +kernel
theorem dX2_lose_49 : decode cX2_lose 49 = .ok (.aload_n 0, 1) := by decide +kernel
theorem dX2_lose_50 : decode cX2_lose 50 = .ok (.getfield 11, 3) := by decide +kernel
theorem dX2_lose_53 : decode cX2_lose 53 = .ok (.aload_n 0, 1) := by decide +kernel
theorem dX2_lose_54 : decode cX2_lose 54 = .ok (.getfield 18, 3) := by decide +kernel
theorem dX2_lose_57 : decode cX2_lose 57 = .ok (.aload_n 2, 1) := by decide +kernel
theorem dX2_lose_58 : decode cX2_lose 58 = .ok (.aastore, 1) := by decide +kernel
theorem dX2_lose_59 : decode cX2_lose 59 = .ok (.return_, 1) := by decide +kernel
theorem dX3_init_0 : decode cX3_init 0 = .ok (.aload_n 0, 1) := by decide +kernel
theorem dX3_init_1 : decode cX3_init 1 = .ok (.invokespecial 3, 3) := by decide +kernel
theorem dX3_init_4 : decode cX3_init 4 = .ok (.aload_n 0, 1) := by decide +kernel
theorem dX3_init_5 : decode cX3_init 5 = .ok (.sipush 187, 3) := by decide +kernel
theorem dX3_init_8 : decode cX3_init 8 = .ok (.newarray .int, 2) := by decide +kernel
theorem dX3_init_10 : decode cX3_init 10 = .ok (.putfield 9, 3) := by decide +kernel
theorem dX3_init_13 : decode cX3_init 13 = .ok (.aload_n 0, 1) := by decide +kernel
theorem dX3_init_14 : decode cX3_init 14 = .ok (.sipush 187, 3) := by decide +kernel
theorem dX3_init_17 : decode cX3_init 17 = .ok (.newarray .int, 2) := by decide +kernel
theorem dX3_init_19 : decode cX3_init 19 = .ok (.putfield 15, 3) := by decide +kernel
theorem dX3_init_22 : decode cX3_init 22 = .ok (.return_, 1) := by decide +kernel
theorem dX3_placeOf_0 : decode cX3_placeOf 0 = .ok (.aload_n 0, 1) := by decide +kernel
theorem dX3_placeOf_1 : decode cX3_placeOf 1 = .ok (.getfield 18, 3) := by decide +kernel
theorem dX3_placeOf_4 : decode cX3_placeOf 4 = .ok (.iload_n 1, 1) := by decide +kernel
theorem dX3_placeOf_5 : decode cX3_placeOf 5 = .ok (.iadd, 1) := by decide +kernel
theorem dX3_placeOf_6 : decode cX3_placeOf 6 = .ok (.aload_n 0, 1) := by decide +kernel
theorem dX3_placeOf_7 : decode cX3_placeOf 7 = .ok (.getfield 9, 3) := by decide +kernel
theorem dX3_placeOf_10 : decode cX3_placeOf 10 = .ok (.arraylength, 1) := by decide +kernel
theorem dX3_placeOf_11 : decode cX3_placeOf 11 = .ok (.irem, 1) := by decide +kernel
theorem dX3_placeOf_12 : decode cX3_placeOf 12 = .ok (.ireturn, 1) := by decide +kernel
set_option maxRecDepth 20000 in
theorem ggX3_join_X3_placeOf : GoodIn wsX3_join wsX3_placeOf := goodIn_r _ [9, 10, 3, 11, 12, 13, 14, 15, 16] (by decide +kernel) (by decide +kernel)
set_option maxRecDepth 20000 in
theorem gX3_join_X3_placeOf : GoodIn wsX3_join (wsV RX3 28 RX3 yX3_placeOf wsX3_placeOf) := goodIn_app (goodIn_of _ (by decide +kernel)) ggX3_join_X3_placeOf
theorem dX3_join_0 : decode cX3_join 0 = .ok (.aload_n 0, 1) := by decide +kernel
theorem dX3_join_1 : decode cX3_join 1 = .ok (.aload_n 0, 1) := by decide +kernel
theorem dX3_join_2 : decode cX3_join 2 = .ok (.getfield 22, 3) := by decide +kernel
theorem dX3_join_5 : decode cX3_join 5 = .ok (.aload_n 0, 1) := by decide +kernel
theorem dX3_join_6 : decode cX3_join 6 = .ok (.getfield 25, 3) := by decide +kernel
theorem dX3_join_9 : decode cX3_join 9 = .ok (.iadd, 1) := by decide +kernel
theorem dX3_join_10 : decode cX3_join 10 = .ok (.invokevirtual 28, 3) := by decide +kernel
theorem dX3_join_13 : decode cX3_join 13 = .ok (.istore_n 3, 1) := by decide +kernel
theorem dX3_join_14 : decode cX3_join 14 = .ok (.aload_n 0, 1) := by decide +kernel
theorem dX3_join_15 : decode cX3_join 15 = .ok (.getfield 9, 3) := by decide +kernel
theorem dX3_join_18 : decode cX3_join 18 = .ok (.iload_n 3, 1) := by decide +kernel
theorem dX3_join_19 : decode cX3_join 19 = .ok (.iload_n 1, 1) := by decide +kernel
theorem dX3_join_20 : decode cX3_join 20 = .ok (.iastore, 1) := by decide +kernel
theorem dX3_join_21 : decode cX3_join 21 = .ok (.aload_n 0, 1) := by decide +kernel
theorem dX3_join_22 : decode cX3_join 22 = .ok (.getfield 15, 3) := by decide +kernel
theorem dX3_join_25 : decode cX3_join 25 = .ok (.iload_n 3, 1) := by decide +kernel
theorem dX3_join_26 : decode cX3_join 26 = .ok (.iload_n 2, 1) := by decide +kernel
theorem dX3_join_27 : decode cX3_join 27 = .ok (.iastore, 1) := by decide +kernel
theorem dX3_join_28 : decode cX3_join 28 = .ok (.aload_n 0, 1) := by decide +kernel
theorem dX3_join_29 : decode cX3_join 29 = .ok (.dup, 1) := by decide +kernel
theorem dX3_join_30 : decode cX3_join 30 = .ok (.getfield 25, 3) := by decide +kernel
theorem dX3_join_33 : decode cX3_join 33 = .ok (.iconst 1, 1) := by decide +kernel
theorem dX3_join_34 : decode cX3_join 34 = .ok (.iadd, 1) := by decide +kernel
theorem dX3_join_35 : decode cX3_join 35 = .ok (.putfield 25, 3) := by decide +kernel
theorem dX3_join_38 : decode cX3_join 38 = .ok (.return_, 1) := by decide +kernel
theorem dX3_mayGoFirstTime_0 : decode cX3_mayGoFirstTime 0 = .ok (.aload_n 0, 1) := by decide +kernel
theorem dX3_mayGoFirstTime_1 : decode cX3_mayGoFirstTime 1 = .ok (.getfield 25, 3) := by decide +kernel
theorem dX3_mayGoFirstTime_4 : decode cX3_mayGoFirstTime 4 = .ok (.ifCond .le 16, 3) := by decide +kernel
theorem dX3_mayGoFirstTime_7 : decode cX3_mayGoFirstTime 7 = .ok (.aload_n 0, 1) := by decide +kernel
theorem dX3_mayGoFirstTime_8 : decode cX3_mayGoFirstTime 8 = .ok (.getfield 22, 3) := by decide +kernel
theorem dX3_mayGoFirstTime_11 : decode cX3_mayGoFirstTime 11 = .ok (.bipush 127, 2) := by decide +kernel
theorem dX3_mayGoFirstTime_13 : decode cX3_mayGoFirstTime 13 = .ok (.if_icmp .ge 7, 3) := by decide +kernel
theorem dX3_mayGoFirstTime_16 : decode cX3_mayGoFirstTime 16 = .ok (.iconst 1, 1) := by decide +kernel
theorem dX3_mayGoFirstTime_17 : decode cX3_mayGoFirstTime 17 = .ok (.goto 4, 3) := by decide +kernel
theorem dX3_mayGoFirstTime_20 : decode cX3_mayGoFirstTime 20 = .ok (.iconst 0, 1) := by decide +kernel
theorem dX3_mayGoFirstTime_21 : decode cX3_mayGoFirstTime 21 = .ok (.ireturn, 1) := by decide +kernel
theorem dX3_goFirstTime_0 : decode cX3_goFirstTime 0 = .ok (.aload_n 0, 1) := by decide +kernel
theorem dX3_goFirstTime_1 : decode cX3_goFirstTime 1 = .ok (.dup, 1) := by decide +kernel
theorem dX3_goFirstTime_2 : decode cX3_goFirstTime 2 = .ok (.getfield 25, 3) := by decide +kernel
theorem dX3_goFirstTime_5 : decode cX3_goFirstTime 5 = .ok (.iconst 1, 1) := by decide +kernel
theorem dX3_goFirstTime_6 : decode cX3_goFirstTime 6 = .ok (.isub, 1) := by decide +kernel
theorem dX3_goFirstTime_7 : decode cX3_goFirstTime 7 = .ok (.putfield 25, 3) := by decide +kernel
theorem dX3_goFirstTime_10 : decode cX3_goFirstTime 10 = .ok (.aload_n 0, 1) := by decide +kernel
theorem dX3_goFirstTime_11 : decode cX3_goFirstTime 11 = .ok (.dup, 1) := by decide +kernel
theorem dX3_goFirstTime_12 : decode cX3_goFirstTime 12 = .ok (.getfield 22, 3) := by decide +kernel
theorem dX3_goFirstTime_15 : decode cX3_goFirstTime 15 = .ok (.iconst 1, 1) := by decide +kernel
theorem dX3_goFirstTime_16 : decode cX3_goFirstTime 16 = .ok (.iadd, 1) := by decide +kernel
theorem dX3_goFirstTime_17 : decode cX3_goFirstTime 17 = .ok (.putfield 22, 3) := by decide +kernel
theorem dX3_goFirstTime_20 : decode cX3_goFirstTime 20 = .ok (.return_, 1) := by decide +kernel
set_option maxRecDepth 20000 in
theorem ggX3_forget_X3_placeOf : GoodIn wsX3_forget wsX3_placeOf := goodIn_r _ [12, 1, 13, 14, 15, 16, 17, 18, 19] (by decide +kernel) (by decide +kernel)
set_option maxRecDepth 20000 in
theorem gX3_forget_X3_placeOf : GoodIn wsX3_forget (wsV RX3 28 RX3 yX3_placeOf wsX3_placeOf) := goodIn_app (goodIn_of _ (by decide +kernel)) ggX3_forget_X3_placeOf
theorem dX3_forget_0 : decode cX3_forget 0 = .ok (.aload_n 0, 1) := by decide +kernel
theorem dX3_forget_1 : decode cX3_forget 1 = .ok (.aload_n 0, 1) := by decide +kernel
theorem dX3_forget_2 : decode cX3_forget 2 = .ok (.iload_n 1, 1) := by decide +kernel
theorem dX3_forget_3 : decode cX3_forget 3 = .ok (.invokevirtual 28, 3) := by decide +kernel
theorem dX3_forget_6 : decode cX3_forget 6 = .ok (.putfield 18, 3) := by decide +kernel
theorem dX3_forget_9 : decode cX3_forget 9 = .ok (.aload_n 0, 1) := by decide +kernel
theorem dX3_forget_10 : decode cX3_forget 10 = .ok (.dup, 1) := by decide +kernel
theorem dX3_forget_11 : decode cX3_forget 11 = .ok (.getfield 22, 3) := by decide +kernel
theorem dX3_forget_14 : decode cX3_forget 14 = .ok (.iload_n 1, 1) := by decide +kernel
theorem dX3_forget_15 : decode cX3_forget 15 = .ok (.isub, 1) := by decide +kernel
theorem dX3_forget_16 : decode cX3_forget 16 = .ok (.putfield 22, 3) := by decide +kernel
theorem dX3_forget_19 : decode cX3_forget 19 = .ok (.aload_n 0, 1) := by decide +kernel
theorem dX3_forget_20 : decode cX3_forget 20 = .ok (.aload_n 0, 1) := by decide +kernel
theorem dX3_forget_21 : decode cX3_forget 21 = .ok (.getfield 32, 3) := by decide +kernel
theorem dX3_forget_24 : decode cX3_forget 24 = .ok (.aload_n 0, 1) := by decide +kernel
theorem dX3_forget_25 : decode cX3_forget 25 = .ok (.getfield 22, 3) := by decide +kernel
theorem dX3_forget_28 : decode cX3_forget 28 = .ok (.invokestatic 35, 3) := by decide +kernel
theorem dX3_forget_31 : decode cX3_forget 31 = .ok (.putfield 32, 3) := by decide +kernel
theorem dX3_forget_34 : decode cX3_forget 34 = .ok (.return_, 1) := by decide +kernel
theorem dX3_empty_0 : decode cX3_empty 0 = .ok (.aload_n 0, 1) := by decide +kernel
theorem dX3_empty_1 : decode cX3_empty 1 = .ok (.iconst 0, 1) := by decide +kernel
theorem dX3_empty_2 : decode cX3_empty 2 = .ok (.putfield 22, 3) := by decide +kernel
theorem dX3_empty_5 : decode cX3_empty 5 = .ok (.aload_n 0, 1) := by decide +kernel
theorem dX3_empty_6 : decode cX3_empty 6 = .ok (.iconst 0, 1) := by decide +kernel
theorem dX3_empty_7 : decode cX3_empty 7 = .ok (.putfield 32, 3) := by decide +kernel
theorem dX3_empty_10 : decode cX3_empty 10 = .ok (.aload_n 0, 1) := by decide +kernel
theorem dX3_empty_11 : decode cX3_empty 11 = .ok (.iconst 0, 1) := by decide +kernel
theorem dX3_empty_12 : decode cX3_empty 12 = .ok (.putfield 25, 3) := by decide +kernel
theorem dX3_empty_15 : decode cX3_empty 15 = .ok (.return_, 1) := by decide +kernel
theorem dX4_init_0 : decode cX4_init 0 = .ok (.aload_n 0, 1) := by decide +kernel
theorem dX4_init_1 : decode cX4_init 1 = .ok (.invokespecial 3, 3) := by decide +kernel
theorem dX4_init_4 : decode cX4_init 4 = .ok (.aload_n 0, 1) := by decide +kernel
theorem dX4_init_5 : decode cX4_init 5 = .ok (.sipush 13600, 3) := by decide +kernel
theorem dX4_init_8 : decode cX4_init 8 = .ok (.newarray .byte, 2) := by decide +kernel
theorem dX4_init_10 : decode cX4_init 10 = .ok (.putfield 9, 3) := by decide +kernel
theorem dX4_init_13 : decode cX4_init 13 = .ok (.aload_n 0, 1) := by decide +kernel
theorem dX4_init_14 : decode cX4_init 14 = .ok (.bipush 50, 2) := by decide +kernel
theorem dX4_init_16 : decode cX4_init 16 = .ok (.newarray .int, 2) := by decide +kernel
theorem dX4_init_18 : decode cX4_init 18 = .ok (.putfield 15, 3) := by decide +kernel
theorem dX4_init_21 : decode cX4_init 21 = .ok (.return_, 1) := by decide +kernel
set_option maxRecDepth 20000 in
theorem ggX4_keep_X5_bodyLength : GoodIn wsX4_keep wsX5_bodyLength := goodIn_r _ [8, 9, 18, 19] (by decide +kernel) (by decide +kernel)
set_option maxRecDepth 20000 in
theorem gX4_keep_X5_bodyLength : GoodIn wsX4_keep (wsV RX4 23 RX5 yX5_bodyLength wsX5_bodyLength) := goodIn_app (goodIn_of _ (by decide +kernel)) ggX4_keep_X5_bodyLength
set_option maxRecDepth 20000 in
theorem ggX4_keep_X5_bodyByte : GoodIn wsX4_keep wsX5_bodyByte := goodIn_r _ [13, 14, 18, 19] (by decide +kernel) (by decide +kernel)
set_option maxRecDepth 20000 in
theorem gX4_keep_X5_bodyByte : GoodIn wsX4_keep (wsV RX4 29 RX5 yX5_bodyByte wsX5_bodyByte) := goodIn_app (goodIn_of _ (by decide +kernel)) ggX4_keep_X5_bodyByte
theorem dX4_keep_0 : decode cX4_keep 0 = .ok (.aload_n 0, 1) := by decide +kernel
theorem dX4_keep_1 : decode cX4_keep 1 = .ok (.getfield 19, 3) := by decide +kernel
theorem dX4_keep_4 : decode cX4_keep 4 = .ok (.bipush 50, 2) := by decide +kernel
theorem dX4_keep_6 : decode cX4_keep 6 = .ok (.irem, 1) := by decide +kernel
theorem dX4_keep_7 : decode cX4_keep 7 = .ok (.istore_n 2, 1) := by decide +kernel
theorem dX4_keep_8 : decode cX4_keep 8 = .ok (.aload_n 0, 1) := by decide +kernel
theorem dX4_keep_9 : decode cX4_keep 9 = .ok (.getfield 15, 3) := by decide +kernel
theorem dX4_keep_12 : decode cX4_keep 12 = .ok (.iload_n 2, 1) := by decide +kernel
theorem dX4_keep_13 : decode cX4_keep 13 = .ok (.aload_n 1, 1) := by decide +kernel
theorem dX4_keep_14 : decode cX4_keep 14 = .ok (.invokevirtual 23, 3) := by decide +kernel
theorem dX4_keep_17 : decode cX4_keep 17 = .ok (.iastore, 1) := by decide +kernel
theorem dX4_keep_18 : decode cX4_keep 18 = .ok (.iconst 0, 1) := by decide +kernel
theorem dX4_keep_19 : decode cX4_keep 19 = .ok (.istore_n 3, 1) := by decide +kernel
theorem dX4_keep_20 : decode cX4_keep 20 = .ok (.iload_n 3, 1) := by decide +kernel
theorem dX4_keep_21 : decode cX4_keep 21 = .ok (.aload_n 0, 1) := by decide +kernel
theorem dX4_keep_22 : decode cX4_keep 22 = .ok (.getfield 15, 3) := by decide +kernel
theorem dX4_keep_25 : decode cX4_keep 25 = .ok (.iload_n 2, 1) := by decide +kernel
theorem dX4_keep_26 : decode cX4_keep 26 = .ok (.iaload, 1) := by decide +kernel
theorem dX4_keep_27 : decode cX4_keep 27 = .ok (.if_icmp .ge 27, 3) := by decide +kernel
theorem dX4_keep_30 : decode cX4_keep 30 = .ok (.aload_n 0, 1) := by decide +kernel
theorem dX4_keep_31 : decode cX4_keep 31 = .ok (.getfield 9, 3) := by decide +kernel
theorem dX4_keep_34 : decode cX4_keep 34 = .ok (.iload_n 2, 1) := by decide +kernel
theorem dX4_keep_35 : decode cX4_keep 35 = .ok (.sipush 272, 3) := by decide +kernel
theorem dX4_keep_38 : decode cX4_keep 38 = .ok (.imul, 1) := by decide +kernel
theorem dX4_keep_39 : decode cX4_keep 39 = .ok (.iload_n 3, 1) := by decide +kernel
theorem dX4_keep_40 : decode cX4_keep 40 = .ok (.iadd, 1) := by decide +kernel
theorem dX4_keep_41 : decode cX4_keep 41 = .ok (.aload_n 1, 1) := by decide +kernel
theorem dX4_keep_42 : decode cX4_keep 42 = .ok (.iload_n 3, 1) := by decide +kernel
theorem dX4_keep_43 : decode cX4_keep 43 = .ok (.invokevirtual 29, 3) := by decide +kernel
theorem dX4_keep_46 : decode cX4_keep 46 = .ok (.i2b, 1) := by decide +kernel
theorem dX4_keep_47 : decode cX4_keep 47 = .ok (.bastore, 1) := by decide +kernel
theorem dX4_keep_48 : decode cX4_keep 48 = .ok (.iinc 3 1, 3) := by decide +kernel
theorem dX4_keep_51 : decode cX4_keep 51 = .ok (.goto (-31), 3) := by decide +kernel
theorem dX4_keep_54 : decode cX4_keep 54 = .ok (.aload_n 0, 1) := by decide +kernel

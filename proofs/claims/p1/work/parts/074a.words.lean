/-! ===== the words of what the law calls lie in the tables ===== -/
theorem gi_cons {big : List Cond} {w : Cond} {ws : List Cond} (h1 : GoodIn big [w]) (h2 : GoodIn big ws) : GoodIn big (w :: ws) := fun v hv => by
  rcases List.mem_cons.mp hv with h | h
  · exact h1 v (by rw [h]; exact List.mem_cons_self)
  · exact h2 v h
theorem gt_wsX6_init_r1 : GoodIn lw_tbl (wsX6_init_r1) := goodIn_of _ (by decide +kernel)
theorem gt_wsX6_init_r2 : GoodIn lw_tbl (wsX6_init_r2) := goodIn_of _ (by decide +kernel)
theorem gt_wsX6_init_r3 : GoodIn lw_tbl (wsX6_init_r3) := goodIn_of _ (by decide +kernel)
theorem gt_wsX00 : GoodIn lw_tbl (wsX00) := goodIn_of _ (by decide +kernel)
theorem gt_wsX60 : GoodIn lw_tbl (wsX60) := goodIn_of _ (by decide +kernel)
theorem gt_wsX50 : GoodIn lw_tbl (wsX50) := goodIn_of _ (by decide +kernel)
theorem gt_wsX20 : GoodIn lw_tbl (wsX20) := goodIn_of _ (by decide +kernel)
theorem gt_wsX30 : GoodIn lw_tbl (wsX30) := goodIn_of _ (by decide +kernel)
theorem gt_wsX40 : GoodIn lw_tbl (wsX40) := goodIn_of _ (by decide +kernel)
theorem gt_wsX10 : GoodIn lw_tbl (wsX10) := goodIn_of _ (by decide +kernel)
theorem gt_wsX6_init : GoodIn lw_tbl wsX6_init := gi_cons (goodIn_of [.code yX6_init cX6_init 1 none] (by decide +kernel)) ((goodIn_app (goodIn_app (goodIn_app (goodIn_app (goodIn_app (goodIn_app (goodIn_app (goodIn_app gt_wsX6_init_r1 (goodIn_app gt_wsX6_init_r2 gt_wsX6_init_r3)) gt_wsX00) gt_wsX60) gt_wsX50) gt_wsX20) gt_wsX30) gt_wsX40) gt_wsX10))
theorem gt_wsX7_init_r1 : GoodIn lw_tbl (wsX7_init_r1) := goodIn_of _ (by decide +kernel)
theorem gt_wsX7_init_r2 : GoodIn lw_tbl (wsX7_init_r2) := goodIn_of _ (by decide +kernel)
theorem gt_wsX70 : GoodIn lw_tbl (wsX70) := goodIn_of _ (by decide +kernel)
theorem gt_wsX7_init : GoodIn lw_tbl wsX7_init := gi_cons (goodIn_of [.code yX7_init cX7_init 1 none] (by decide +kernel)) ((goodIn_app (goodIn_app gt_wsX7_init_r1 gt_wsX7_init_r2) gt_wsX70))
theorem gt_wsL_put_r1 : GoodIn lw_tbl (wsL_put_r1) := goodIn_of _ (by decide +kernel)
theorem gt_wsL_put_r2 : GoodIn lw_tbl (wsL_put_r2) := goodIn_of _ (by decide +kernel)
theorem gt_16 : GoodIn lw_tbl ((vx_at0 RX6 29 "java/lang/IllegalArgumentException" ["java/lang/RuntimeException", "java/lang/Exception"]).filter goodWord) := goodIn_of _ (by decide +kernel)
theorem gt_17 : GoodIn lw_tbl ((vx_at0 RX6 46 "java/lang/IllegalStateException" ["java/lang/RuntimeException", "java/lang/Exception"]).filter goodWord) := goodIn_of _ (by decide +kernel)
theorem gt_wsL_put : GoodIn lw_tbl wsL_put := gi_cons (goodIn_of [.codeWith yL_put cL_put 6 (some .int) [(0, 12, 15, 13), (0, 12, 19, 15)]] (by decide +kernel)) ((goodIn_app (goodIn_app (goodIn_app (goodIn_app (goodIn_app (goodIn_app gt_wsL_put_r1 gt_wsL_put_r2) gt_wsX00) gt_wsX30) gt_wsX60) gt_16) gt_17))
theorem gw_L_put : GoodIn lw_tbl (va_wsS RL 56 yL_put wsL_put) := goodIn_app (goodIn_of _ (by decide +kernel)) gt_wsL_put
theorem gt_18 : GoodIn lw_tbl ([.fieldLink RX7 35 "LinkPairModel" "waits" "[I", .fieldLink RX7 68 "LinkPairModel" "failed" "[Z", .fieldLink RX7 38 "LinkPairModel" "waitLength" "[I", .fieldLink RX7 41 "LinkPairModel" "waitSeed" "[I", .methodLink RX7 107 yX7_isEnd, .static yX7_isEnd, .initialized RX7, .code yX7_isEnd cX7_isEnd 1 (some .boolean), .methodLink RX7 101 yX7_refuses, .instanceMethod yX7_refuses, .selects RX7 yX7_refuses yX7_refuses, .code yX7_refuses cX7_refuses 2 (some .boolean), .fieldLink RX7 91 "LinkPairModel" "code" "I"]) := goodIn_of _ (by decide +kernel)
theorem gt_wsX7_put : GoodIn lw_tbl wsX7_put := gi_cons (goodIn_of [.code yX7_put cX7_put 5 (some .int)] (by decide +kernel)) ((goodIn_app gt_18 gt_wsX70))
theorem gw_X7_put : GoodIn lw_tbl (wsV RL 61 RX7 yX7_put wsX7_put) := goodIn_app (goodIn_of _ (by decide +kernel)) gt_wsX7_put
theorem gt_19 : GoodIn lw_tbl ([.fieldLink RX7 91 "LinkPairModel" "code" "I"]) := goodIn_of _ (by decide +kernel)
theorem gt_wsX7_thrown : GoodIn lw_tbl wsX7_thrown := gi_cons (goodIn_of [.code yX7_thrown cX7_thrown 1 (some .int)] (by decide +kernel)) ((goodIn_app gt_19 gt_wsX70))
theorem gw_X7_thrown : GoodIn lw_tbl (wsV RL 62 RX7 yX7_thrown wsX7_thrown) := goodIn_app (goodIn_of _ (by decide +kernel)) gt_wsX7_thrown
theorem gt_wsL_send_r1 : GoodIn lw_tbl (wsL_send_r1) := goodIn_of _ (by decide +kernel)
theorem gt_wsL_send_r2 : GoodIn lw_tbl (wsL_send_r2) := goodIn_of _ (by decide +kernel)
theorem gt_wsL_send_r3 : GoodIn lw_tbl (wsL_send_r3) := goodIn_of _ (by decide +kernel)
theorem gt_wsL_send_r4 : GoodIn lw_tbl (wsL_send_r4) := goodIn_of _ (by decide +kernel)
theorem gt_wsL_send_r5 : GoodIn lw_tbl (wsL_send_r5) := goodIn_of _ (by decide +kernel)
theorem gt_wsL_send_r6 : GoodIn lw_tbl (wsL_send_r6) := goodIn_of _ (by decide +kernel)
theorem gt_wsL_send : GoodIn lw_tbl wsL_send := gi_cons (goodIn_of [.codeWith yL_send cL_send 4 (some .int) [(0, 9, 12, 13), (0, 9, 15, 15)]] (by decide +kernel)) ((goodIn_app (goodIn_app (goodIn_app (goodIn_app (goodIn_app (goodIn_app (goodIn_app (goodIn_app (goodIn_app gt_wsL_send_r1 (goodIn_app gt_wsL_send_r2 (goodIn_app gt_wsL_send_r3 (goodIn_app gt_wsL_send_r4 (goodIn_app gt_wsL_send_r5 gt_wsL_send_r6))))) gt_wsX00) gt_wsX60) gt_wsX20) gt_wsX30) gt_wsX50) gt_wsX10) gt_17) gt_16))
theorem gw_L_send : GoodIn lw_tbl (va_wsS RL 66 yL_send wsL_send) := goodIn_app (goodIn_of _ (by decide +kernel)) gt_wsL_send
theorem gt_wsX7_send_r1 : GoodIn lw_tbl (wsX7_send_r1) := goodIn_of _ (by decide +kernel)
theorem gt_wsX7_send_r2 : GoodIn lw_tbl (wsX7_send_r2) := goodIn_of _ (by decide +kernel)
theorem gt_wsX7_send : GoodIn lw_tbl wsX7_send := gi_cons (goodIn_of [.code yX7_send cX7_send 5 (some .int)] (by decide +kernel)) ((goodIn_app (goodIn_app gt_wsX7_send_r1 gt_wsX7_send_r2) gt_wsX70))
theorem gw_X7_send : GoodIn lw_tbl (wsV RL 69 RX7 yX7_send wsX7_send) := goodIn_app (goodIn_of _ (by decide +kernel)) gt_wsX7_send
theorem gt_wsL_take_r1 : GoodIn lw_tbl (wsL_take_r1) := goodIn_of _ (by decide +kernel)

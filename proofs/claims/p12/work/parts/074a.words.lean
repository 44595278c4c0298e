/-! ===== the words of what the law calls lie in the tables ===== -/
theorem gi_cons {big : List Cond} {w : Cond} {ws : List Cond} (h1 : GoodIn big [w]) (h2 : GoodIn big ws) : GoodIn big (w :: ws) := fun v hv => by
  rcases List.mem_cons.mp hv with h | h
  · exact h1 v (by rw [h]; exact List.mem_cons_self)
  · exact h2 v h
theorem gi_ix {big ws : List Cond} (ps : List Nat) (h : ws = ps.filterMap (fun i => big[i]?)) (hg : ws.all goodWord = true) : GoodIn big ws := fun w hw => ⟨by rw [h] at hw; obtain ⟨i, -, hi⟩ := List.mem_filterMap.mp hw; exact List.mem_of_getElem? hi, good_of_word (List.all_eq_true.mp hg w hw)⟩
theorem gt_wsX6_init_r1 : GoodIn lw_tbl (wsX6_init_r1) := gi_ix [42, 43, 44, 45, 47, 24, 190, 177, 178, 29, 191, 49, 50, 51, 52, 53, 25, 136, 86, 87, 27, 138, 118, 119] (by decide +kernel) (by decide +kernel)
theorem gt_wsX6_init_r2 : GoodIn lw_tbl (wsX6_init_r2) := gi_ix [28, 140, 142, 143, 144, 145, 54, 55, 56, 57, 58, 76, 60, 26, 62, 63, 64, 75, 65, 89, 90, 91, 117, 92] (by decide +kernel) (by decide +kernel)
theorem gt_wsX6_init_r3 : GoodIn lw_tbl (wsX6_init_r3) := gi_ix [94, 121, 122, 123, 135, 124, 125, 180, 181, 182, 183] (by decide +kernel) (by decide +kernel)
theorem gt_wsX00 : GoodIn lw_tbl (wsX00) := goodIn_of _ (by decide +kernel)
theorem gt_wsX60 : GoodIn lw_tbl (wsX60) := goodIn_of _ (by decide +kernel)
theorem gt_wsX50 : GoodIn lw_tbl (wsX50) := goodIn_of _ (by decide +kernel)
theorem gt_wsX20 : GoodIn lw_tbl (wsX20) := goodIn_of _ (by decide +kernel)
theorem gt_wsX30 : GoodIn lw_tbl (wsX30) := goodIn_of _ (by decide +kernel)
theorem gt_wsX40 : GoodIn lw_tbl (wsX40) := goodIn_of _ (by decide +kernel)
theorem gt_wsX10 : GoodIn lw_tbl (wsX10) := goodIn_of _ (by decide +kernel)
theorem gt_wsX6_init : GoodIn lw_tbl wsX6_init := gi_cons (ws := _) (gi_ix [41] (by decide +kernel) (by decide +kernel)) ((goodIn_app (goodIn_app (goodIn_app (goodIn_app (goodIn_app (goodIn_app (goodIn_app (goodIn_app gt_wsX6_init_r1 (goodIn_app gt_wsX6_init_r2 gt_wsX6_init_r3)) gt_wsX00) gt_wsX60) gt_wsX50) gt_wsX20) gt_wsX30) gt_wsX40) gt_wsX10))
theorem gt_wsX7_init_r1 : GoodIn lw_tbl (wsX7_init_r1) := gi_ix [565, 43, 44, 117, 572, 573, 566, 574, 575, 576, 577, 578, 579, 580, 581, 582, 583, 584, 585, 586, 587, 588, 589, 590] (by decide +kernel) (by decide +kernel)
theorem gt_wsX7_init_r2 : GoodIn lw_tbl (wsX7_init_r2) := gi_ix [653, 591, 592, 593, 594, 595, 597, 567, 569, 11, 30, 570] (by decide +kernel) (by decide +kernel)
theorem gt_wsX70 : GoodIn lw_tbl (wsX70) := goodIn_of _ (by decide +kernel)
theorem gt_wsX7_init : GoodIn lw_tbl wsX7_init := gi_cons (ws := _) (gi_ix [564] (by decide +kernel) (by decide +kernel)) ((goodIn_app (goodIn_app gt_wsX7_init_r1 gt_wsX7_init_r2) gt_wsX70))
theorem gt_wsL_put_r1 : GoodIn lw_tbl (wsL_put_r1) := gi_ix [200, 201, 202, 203, 204, 23, 205, 210, 34, 272, 35, 206, 208, 0, 209, 190, 287, 288, 289, 27, 290, 97, 102, 92] (by decide +kernel) (by decide +kernel)
theorem gt_wsL_put_r2 : GoodIn lw_tbl (wsL_put_r2) := gi_ix [94, 291, 292, 293, 294, 96] (by decide +kernel) (by decide +kernel)
theorem gt_16 : GoodIn lw_tbl ((vx_at0 RX6 29 "java/lang/IllegalArgumentException" ["java/lang/RuntimeException", "java/lang/Exception"]).filter goodWord) := goodIn_of _ (by decide +kernel)
theorem gt_17 : GoodIn lw_tbl ((vx_at0 RX6 46 "java/lang/IllegalStateException" ["java/lang/RuntimeException", "java/lang/Exception"]).filter goodWord) := goodIn_of _ (by decide +kernel)
theorem gt_wsL_put : GoodIn lw_tbl wsL_put := gi_cons (ws := _) (gi_ix [199] (by decide +kernel) (by decide +kernel)) ((goodIn_app (goodIn_app (goodIn_app (goodIn_app (goodIn_app (goodIn_app gt_wsL_put_r1 gt_wsL_put_r2) gt_wsX00) gt_wsX30) gt_wsX60) gt_16) gt_17))
theorem gw_L_put : GoodIn lw_tbl (va_wsS RL 56 yL_put wsL_put) := goodIn_app (goodIn_of _ (by decide +kernel)) gt_wsL_put
theorem gt_18 : GoodIn lw_tbl ([.fieldLink RX7 35 "LinkPairModel" "waits" "[I", .fieldLink RX7 68 "LinkPairModel" "failed" "[Z", .fieldLink RX7 38 "LinkPairModel" "waitLength" "[I", .fieldLink RX7 41 "LinkPairModel" "waitSeed" "[I", .methodLink RX7 107 yX7_isEnd, .static yX7_isEnd, .initialized RX7, .code yX7_isEnd cX7_isEnd 1 (some .boolean), .methodLink RX7 101 yX7_refuses, .instanceMethod yX7_refuses, .selects RX7 yX7_refuses yX7_refuses, .code yX7_refuses cX7_refuses 2 (some .boolean), .fieldLink RX7 91 "LinkPairModel" "code" "I"]) := gi_ix [580, 591, 581, 582, 676, 677, 30, 678, 662, 664, 12, 665, 571] (by decide +kernel) (by decide +kernel)
theorem gt_wsX7_put : GoodIn lw_tbl wsX7_put := gi_cons (ws := _) (gi_ix [675] (by decide +kernel) (by decide +kernel)) ((goodIn_app gt_18 gt_wsX70))
theorem gw_X7_put : GoodIn lw_tbl (wsV RL 61 RX7 yX7_put wsX7_put) := goodIn_app (goodIn_of _ (by decide +kernel)) gt_wsX7_put
theorem gt_wsL_send_r1 : GoodIn lw_tbl (wsL_send_r1) := gi_ix [200, 201, 298, 299, 300, 23, 301, 272, 35, 191, 206, 208, 0, 209, 210, 34, 190, 302, 303, 304, 25, 305, 78, 306] (by decide +kernel) (by decide +kernel)
theorem gt_wsL_send_r2 : GoodIn lw_tbl (wsL_send_r2) := gi_ix [307, 308, 24, 309, 138, 144, 310, 312, 2, 313, 314, 292, 293, 27, 294, 96, 92, 315, 317, 3, 318, 145, 143, 142] (by decide +kernel) (by decide +kernel)
theorem gt_wsL_send_r3 : GoodIn lw_tbl (wsL_send_r3) := gi_ix [319, 320, 321, 29, 322, 183, 323, 324, 36, 325, 184, 326, 327, 328, 329, 330, 331, 332, 333, 334, 335, 336, 337, 338] (by decide +kernel) (by decide +kernel)
theorem gt_wsL_send_r4 : GoodIn lw_tbl (wsL_send_r4) := gi_ix [339, 340, 341, 342, 344, 345, 346, 347, 348, 349, 350, 102, 97, 351, 352, 353, 354, 356, 357, 358, 359, 360, 361, 362] (by decide +kernel) (by decide +kernel)
theorem gt_wsL_send_r5 : GoodIn lw_tbl (wsL_send_r5) := gi_ix [363, 364, 365, 76, 366, 367, 368, 369, 370, 371, 372, 26, 373, 374, 375, 376, 377, 66, 378, 379, 380, 381, 65, 382] (by decide +kernel) (by decide +kernel)
theorem gt_wsL_send_r6 : GoodIn lw_tbl (wsL_send_r6) := gi_ix [383, 384, 385, 386] (by decide +kernel) (by decide +kernel)
theorem gt_wsL_send : GoodIn lw_tbl wsL_send := gi_cons (ws := _) (gi_ix [297] (by decide +kernel) (by decide +kernel)) ((goodIn_app (goodIn_app (goodIn_app (goodIn_app (goodIn_app (goodIn_app (goodIn_app (goodIn_app (goodIn_app gt_wsL_send_r1 (goodIn_app gt_wsL_send_r2 (goodIn_app gt_wsL_send_r3 (goodIn_app gt_wsL_send_r4 (goodIn_app gt_wsL_send_r5 gt_wsL_send_r6))))) gt_wsX00) gt_wsX60) gt_wsX20) gt_wsX30) gt_wsX50) gt_wsX10) gt_17) gt_16))
theorem gw_L_send : GoodIn lw_tbl (va_wsS RL 62 yL_send wsL_send) := goodIn_app (goodIn_of _ (by decide +kernel)) gt_wsL_send
theorem gt_wsX7_send_r1 : GoodIn lw_tbl (wsX7_send_r1) := gi_ix [572, 591, 587, 583, 584, 585, 586, 580, 577, 581, 582, 676, 677, 30, 678, 662, 664, 12, 665, 571, 683, 685, 13, 686] (by decide +kernel) (by decide +kernel)
theorem gt_wsX7_send_r2 : GoodIn lw_tbl (wsX7_send_r2) := gi_ix [595, 578, 576, 575, 573, 687, 689, 14, 690, 666, 668, 669, 670, 671, 691, 693, 15, 694, 695, 697, 16, 698, 574] (by decide +kernel) (by decide +kernel)
theorem gt_wsX7_send : GoodIn lw_tbl wsX7_send := gi_cons (ws := _) (gi_ix [682] (by decide +kernel) (by decide +kernel)) ((goodIn_app (goodIn_app gt_wsX7_send_r1 gt_wsX7_send_r2) gt_wsX70))
theorem gw_X7_send : GoodIn lw_tbl (wsV RL 65 RX7 yX7_send wsX7_send) := goodIn_app (goodIn_of _ (by decide +kernel)) gt_wsX7_send
theorem gt_wsL_take_r1 : GoodIn lw_tbl (wsL_take_r1) := gi_ix [200, 201, 390, 391, 392, 23, 393, 272, 35, 190, 191, 206, 208, 0, 209, 210, 34, 394, 395, 396, 29, 397, 184, 183] (by decide +kernel) (by decide +kernel)
theorem gt_wsL_take_r2 : GoodIn lw_tbl (wsL_take_r2) := gi_ix [323, 324, 36, 325, 398, 399, 400, 26, 401, 66, 402, 403, 404, 405, 378, 379, 380, 381, 65, 406, 407, 408, 409, 410] (by decide +kernel) (by decide +kernel)
theorem gt_wsL_take_r3 : GoodIn lw_tbl (wsL_take_r3) := gi_ix [412, 4, 413, 414, 415, 417, 5, 418, 338, 339, 340, 341, 342, 344, 345, 346, 330, 331, 332, 333, 419, 420, 421, 25] (by decide +kernel) (by decide +kernel)
theorem gt_wsL_take_r4 : GoodIn lw_tbl (wsL_take_r4) := gi_ix [422, 76, 78, 423, 424, 425, 24, 426, 147, 146, 149, 150, 151, 427, 429, 6, 430, 138, 431, 433, 7, 434, 144, 435] (by decide +kernel) (by decide +kernel)

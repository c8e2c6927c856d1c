set_option maxRecDepth 20000 in
theorem ggL_law_X2_init : GoodIn wsL_law wsX2_init := goodIn_r _ [9, 10, 11, 12, 13, 14, 15, 16, 17, 18, 19, 20, 21, 22, 23, 24, 25, 26, 27, 28, 29, 30, 31, 32, 33, 34, 35, 510, 511, 512, 498, 499, 500, 501, 502, 513, 514, 515] (by decide +kernel) (by decide +kernel)
set_option maxRecDepth 20000 in
theorem gL_law_X2_init : GoodIn wsL_law (wsX2_init) := ggL_law_X2_init
set_option maxRecDepth 20000 in
theorem ggL_law_X3_init : GoodIn wsL_law wsX3_init := goodIn_r _ [38, 39, 11, 12, 28, 40, 41, 42, 18, 43, 44, 45, 503, 504, 505, 506, 507, 508, 509] (by decide +kernel) (by decide +kernel)
set_option maxRecDepth 20000 in
theorem gL_law_X3_init : GoodIn wsL_law (wsX3_init) := ggL_law_X3_init
set_option maxRecDepth 20000 in
theorem ggL_law_L_put : GoodIn wsL_law wsL_put := goodIn_ca (goodIn_r _ [49, 50, 51, 52, 53, 2, 54, 55, 56, 16, 57, 58, 59, 60, 61, 15, 62, 63, 29, 64, 65, 66, 67, 68, 69, 70, 71, 72, 73, 74, 75, 76, 77, 78, 79, 30, 498, 499, 500, 501, 502, 510, 511, 512] (by decide +kernel) (by decide +kernel)) (goodIn_sub (fun _ h => List.mem_append_left _ (List.mem_append_left _ (List.mem_append_left _ (List.mem_append_right _ h)))) (by decide +kernel))
set_option maxRecDepth 20000 in
theorem gL_law_L_put : GoodIn wsL_law (va_wsS RL 92 yL_put wsL_put) := goodIn_app (goodIn_of _ (by decide +kernel)) ggL_law_L_put
set_option maxRecDepth 20000 in
theorem ggL_law_X3_put : GoodIn wsL_law wsX3_put := goodIn_r _ [83, 42, 84, 41, 85, 86, 87, 5, 88, 40, 89, 90, 91, 92, 93, 94, 95, 96, 503, 504, 505, 506, 507, 508, 509] (by decide +kernel) (by decide +kernel)
set_option maxRecDepth 20000 in
theorem gL_law_X3_put : GoodIn wsL_law (wsV RL 97 RX3 yX3_put wsX3_put) := goodIn_app (goodIn_of _ (by decide +kernel)) ggL_law_X3_put
set_option maxRecDepth 20000 in
theorem ggL_law_X3_thrown : GoodIn wsL_law wsX3_thrown := goodIn_r _ [100, 84, 503, 504, 505, 506, 507, 508, 509] (by decide +kernel) (by decide +kernel)
set_option maxRecDepth 20000 in
theorem gL_law_X3_thrown : GoodIn wsL_law (wsV RL 98 RX3 yX3_thrown wsX3_thrown) := goodIn_app (goodIn_of _ (by decide +kernel)) ggL_law_X3_thrown
set_option maxRecDepth 20000 in
theorem ggL_law_L_remove : GoodIn wsL_law wsL_remove := goodIn_ca (goodIn_r _ [103, 104, 105, 106, 107, 2, 108, 109, 110, 16, 57, 59, 60, 61, 15, 62, 63, 29, 64, 65, 66, 67, 68, 69, 70, 71, 111, 112, 113, 114, 76, 77, 78, 79, 30, 498, 499, 500, 501, 502, 510, 511, 512] (by decide +kernel) (by decide +kernel)) (goodIn_sub (fun _ h => List.mem_append_left _ (List.mem_append_left _ (List.mem_append_right _ h))) (by decide +kernel))
set_option maxRecDepth 20000 in
theorem gL_law_L_remove : GoodIn wsL_law (va_wsS RL 101 yL_remove wsL_remove) := goodIn_app (goodIn_of _ (by decide +kernel)) ggL_law_L_remove
set_option maxRecDepth 20000 in
theorem ggL_law_X3_remove : GoodIn wsL_law wsX3_remove := goodIn_r _ [118, 84, 41, 85, 86, 87, 5, 88, 42, 40, 89, 90, 91, 92, 119, 120, 121, 122, 503, 504, 505, 506, 507, 508, 509] (by decide +kernel) (by decide +kernel)
set_option maxRecDepth 20000 in
theorem gL_law_X3_remove : GoodIn wsL_law (wsV RL 104 RX3 yX3_remove wsX3_remove) := goodIn_app (goodIn_of _ (by decide +kernel)) ggL_law_X3_remove
set_option maxRecDepth 20000 in
theorem ggL_law_L_load : GoodIn wsL_law wsL_load := goodIn_ca (goodIn_r _ [125, 126, 127, 128, 129, 2, 130, 131, 132, 133, 16, 58, 134, 135, 136, 15, 137, 29, 30, 63, 498, 499, 500, 501, 502, 510, 511, 512] (by decide +kernel) (by decide +kernel)) (goodIn_sub (fun _ h => List.mem_append_left _ (List.mem_append_right _ h)) (by decide +kernel))
set_option maxRecDepth 20000 in
theorem gL_law_L_load : GoodIn wsL_law (va_wsS RL 105 yL_load wsL_load) := goodIn_app (goodIn_of _ (by decide +kernel)) ggL_law_L_load
set_option maxRecDepth 20000 in
theorem ggL_law_X3_load : GoodIn wsL_law wsX3_load := goodIn_r _ [141, 142, 84, 42, 40, 41, 503, 504, 505, 506, 507, 508, 509] (by decide +kernel) (by decide +kernel)
set_option maxRecDepth 20000 in
theorem gL_law_X3_load : GoodIn wsL_law (wsV RL 108 RX3 yX3_load wsX3_load) := goodIn_app (goodIn_of _ (by decide +kernel)) ggL_law_X3_load
set_option maxRecDepth 20000 in
theorem ggL_law_X2_cut : GoodIn wsL_law wsX2_cut := goodIn_r _ [146, 16, 59, 60, 61, 15, 62, 63, 29, 147, 148, 149, 150, 151, 152, 65, 66, 67, 68, 69, 70, 71, 111, 112, 113, 114, 76, 77, 78, 79, 30, 498, 499, 500, 501, 502, 510, 511, 512] (by decide +kernel) (by decide +kernel)
set_option maxRecDepth 20000 in
theorem gL_law_X2_cut : GoodIn wsL_law (wsV RL 109 RX2 yX2_cut wsX2_cut) := goodIn_app (goodIn_of _ (by decide +kernel)) ggL_law_X2_cut
set_option maxRecDepth 20000 in
theorem ggL_law_X3_cut : GoodIn wsL_law wsX3_cut := goodIn_r _ [156, 84, 157, 158, 159, 5, 160, 161, 162, 163, 164, 89, 90, 91, 92, 42, 40, 85, 86, 87, 88, 119, 120, 121, 122, 41, 503, 504, 505, 506, 507, 508, 509] (by decide +kernel) (by decide +kernel)
set_option maxRecDepth 20000 in
theorem gL_law_X3_cut : GoodIn wsL_law (wsV RL 112 RX3 yX3_cut wsX3_cut) := goodIn_app (goodIn_of _ (by decide +kernel)) ggL_law_X3_cut
set_option maxRecDepth 20000 in
theorem ggL_law_L_merge : GoodIn wsL_law wsL_merge := goodIn_ca (goodIn_ca (goodIn_r _ [167, 168, 50, 169, 170, 171, 2, 172, 55, 56, 58, 16, 173, 174, 175, 176, 177, 178, 19, 17, 179, 180, 181, 182, 183, 184, 15, 185, 63, 29, 30, 152, 65, 66, 67, 68, 69, 70, 71, 186, 187, 188, 189, 510, 511, 512, 498, 499, 500, 501, 502] (by decide +kernel) (by decide +kernel)) (goodIn_sub (fun _ h => List.mem_append_left _ (List.mem_append_left _ (List.mem_append_left _ (List.mem_append_right _ h)))) (by decide +kernel))) (goodIn_sub (fun _ h => List.mem_append_right _ h) (by decide +kernel))
set_option maxRecDepth 20000 in
theorem gL_law_L_merge : GoodIn wsL_law (va_wsS RL 113 yL_merge wsL_merge) := goodIn_app (goodIn_of _ (by decide +kernel)) ggL_law_L_merge
set_option maxRecDepth 20000 in
theorem ggL_law_X3_merge : GoodIn wsL_law wsX3_merge := goodIn_r _ [193, 84, 42, 40, 41, 194, 195, 196, 5, 197, 43, 85, 86, 87, 88, 89, 90, 91, 92, 93, 94, 95, 96, 503, 504, 505, 506, 507, 508, 509] (by decide +kernel) (by decide +kernel)
set_option maxRecDepth 20000 in
theorem gL_law_X3_merge : GoodIn wsL_law (wsV RL 115 RX3 yX3_merge wsX3_merge) := goodIn_app (goodIn_of _ (by decide +kernel)) ggL_law_X3_merge
set_option maxRecDepth 20000 in
theorem ggL_law_L_snapshot : GoodIn wsL_law wsL_snapshot := goodIn_ca (goodIn_r _ [200, 50, 201, 202, 203, 2, 204, 55, 56, 19, 17, 16, 205, 206, 207, 208, 209, 210, 15, 211, 29, 63, 76, 77, 78, 79, 30, 498, 499, 500, 501, 502, 510, 511, 512] (by decide +kernel) (by decide +kernel)) (goodIn_sub (fun _ h => List.mem_append_left _ (List.mem_append_left _ (List.mem_append_left _ (List.mem_append_right _ h)))) (by decide +kernel))
set_option maxRecDepth 20000 in
theorem gL_law_L_snapshot : GoodIn wsL_law (va_wsS RL 116 yL_snapshot wsL_snapshot) := goodIn_app (goodIn_of _ (by decide +kernel)) ggL_law_L_snapshot
set_option maxRecDepth 20000 in
theorem ggL_law_X3_snapshot : GoodIn wsL_law wsX3_snapshot := goodIn_r _ [215, 84, 43, 216, 217, 218, 5, 219, 220, 221, 222, 223, 42, 40, 41, 503, 504, 505, 506, 507, 508, 509] (by decide +kernel) (by decide +kernel)
set_option maxRecDepth 20000 in
theorem gL_law_X3_snapshot : GoodIn wsL_law (wsV RL 119 RX3 yX3_snapshot wsX3_snapshot) := goodIn_app (goodIn_of _ (by decide +kernel)) ggL_law_X3_snapshot
set_option maxRecDepth 20000 in
theorem ggL_law_L_release : GoodIn wsL_law wsL_release := goodIn_ca (goodIn_r _ [226, 168, 227, 228, 229, 2, 230, 58, 19, 231, 232, 233, 234, 177, 178, 173, 174, 175, 176, 17, 179, 180, 181, 235, 236, 237, 510, 511, 512, 498, 499, 500, 501, 502] (by decide +kernel) (by decide +kernel)) (goodIn_sub (fun _ h => List.mem_append_right _ h) (by decide +kernel))
set_option maxRecDepth 20000 in
theorem gL_law_L_release : GoodIn wsL_law (va_wsS RL 120 yL_release wsL_release) := goodIn_app (goodIn_of _ (by decide +kernel)) ggL_law_L_release
set_option maxRecDepth 20000 in
theorem ggL_law_X3_release : GoodIn wsL_law wsX3_release := goodIn_r _ [241, 84, 43, 242, 243, 244, 5, 245, 194, 195, 196, 197, 503, 504, 505, 506, 507, 508, 509] (by decide +kernel) (by decide +kernel)
set_option maxRecDepth 20000 in
theorem gL_law_X3_release : GoodIn wsL_law (wsV RL 122 RX3 yX3_release wsX3_release) := goodIn_app (goodIn_of _ (by decide +kernel)) ggL_law_X3_release
set_option maxRecDepth 20000 in
theorem ggL_law_L_restore : GoodIn wsL_law wsL_restore := goodIn_ca (goodIn_r _ [248, 168, 249, 250, 251, 2, 252, 16, 58, 231, 232, 233, 234, 177, 178, 173, 174, 175, 176, 19, 17, 179, 180, 181, 208, 209, 210, 15, 211, 29, 63, 76, 77, 78, 79, 30, 498, 499, 500, 501, 502, 510, 511, 512] (by decide +kernel) (by decide +kernel)) (goodIn_sub (fun _ h => List.mem_append_right _ h) (by decide +kernel))
set_option maxRecDepth 20000 in
theorem gL_law_L_restore : GoodIn wsL_law (va_wsS RL 123 yL_restore wsL_restore) := goodIn_app (goodIn_of _ (by decide +kernel)) ggL_law_L_restore
set_option maxRecDepth 20000 in
theorem ggL_law_X3_restore : GoodIn wsL_law wsX3_restore := goodIn_r _ [256, 84, 42, 242, 243, 244, 5, 245, 194, 195, 196, 197, 43, 220, 221, 222, 223, 40, 41, 503, 504, 505, 506, 507, 508, 509] (by decide +kernel) (by decide +kernel)
set_option maxRecDepth 20000 in
theorem gL_law_X3_restore : GoodIn wsL_law (wsV RL 125 RX3 yX3_restore wsX3_restore) := goodIn_app (goodIn_of _ (by decide +kernel)) ggL_law_X3_restore
set_option maxRecDepth 20000 in
theorem ggL_law_L_size : GoodIn wsL_law wsL_size := goodIn_ca (goodIn_r _ [259, 168, 260, 261, 262, 2, 263, 58, 173, 174, 175, 176, 177, 178, 19, 17, 179, 180, 181, 510, 511, 512, 498, 499, 500, 501, 502] (by decide +kernel) (by decide +kernel)) (goodIn_sub (fun _ h => List.mem_append_right _ h) (by decide +kernel))
set_option maxRecDepth 20000 in
theorem gL_law_L_size : GoodIn wsL_law (va_wsS RL 126 yL_size wsL_size) := goodIn_app (goodIn_of _ (by decide +kernel)) ggL_law_L_size
set_option maxRecDepth 20000 in
theorem ggL_law_X3_size : GoodIn wsL_law wsX3_size := goodIn_r _ [267, 84, 42, 194, 195, 196, 5, 197, 43, 503, 504, 505, 506, 507, 508, 509] (by decide +kernel) (by decide +kernel)
set_option maxRecDepth 20000 in
theorem gL_law_X3_size : GoodIn wsL_law (wsV RL 128 RX3 yX3_size wsX3_size) := goodIn_app (goodIn_of _ (by decide +kernel)) ggL_law_X3_size
set_option maxRecDepth 20000 in
theorem ggL_law_L_get : GoodIn wsL_law wsL_get := goodIn_ca (goodIn_ca (goodIn_r _ [270, 168, 104, 271, 272, 273, 2, 274, 109, 110, 57, 173, 174, 175, 176, 177, 178, 19, 17, 179, 180, 181, 59, 60, 61, 15, 62, 63, 29, 64, 65, 66, 67, 68, 69, 70, 71, 510, 511, 512, 498, 499, 500, 501, 502] (by decide +kernel) (by decide +kernel)) (goodIn_sub (fun _ h => List.mem_append_left _ (List.mem_append_left _ (List.mem_append_right _ h))) (by decide +kernel))) (goodIn_sub (fun _ h => List.mem_append_right _ h) (by decide +kernel))
set_option maxRecDepth 20000 in
theorem gL_law_L_get : GoodIn wsL_law (va_wsS RL 129 yL_get wsL_get) := goodIn_app (goodIn_of _ (by decide +kernel)) ggL_law_L_get
set_option maxRecDepth 20000 in
theorem ggL_law_X3_get : GoodIn wsL_law wsX3_get := goodIn_r _ [278, 84, 41, 194, 195, 196, 5, 197, 43, 85, 86, 87, 88, 42, 40, 89, 90, 91, 92, 503, 504, 505, 506, 507, 508, 509] (by decide +kernel) (by decide +kernel)
set_option maxRecDepth 20000 in
theorem gL_law_X3_get : GoodIn wsL_law (wsV RL 131 RX3 yX3_get wsX3_get) := goodIn_app (goodIn_of _ (by decide +kernel)) ggL_law_X3_get
set_option maxRecDepth 20000 in
theorem ggL_law_L_rank : GoodIn wsL_law wsL_rank := goodIn_ca (goodIn_r _ [281, 168, 282, 283, 284, 2, 285, 173, 174, 175, 176, 177, 178, 19, 17, 179, 180, 181, 59, 60, 61, 15, 62, 63, 29, 498, 499, 500, 501, 502, 510, 511, 512] (by decide +kernel) (by decide +kernel)) (goodIn_sub (fun _ h => List.mem_append_right _ h) (by decide +kernel))
set_option maxRecDepth 20000 in
theorem gL_law_L_rank : GoodIn wsL_law (va_wsS RL 132 yL_rank wsL_rank) := goodIn_app (goodIn_of _ (by decide +kernel)) ggL_law_L_rank
set_option maxRecDepth 20000 in
theorem ggL_law_X3_rank : GoodIn wsL_law wsX3_rank := goodIn_r _ [289, 84, 194, 195, 196, 5, 197, 43, 89, 90, 91, 92, 42, 40, 503, 504, 505, 506, 507, 508, 509] (by decide +kernel) (by decide +kernel)
set_option maxRecDepth 20000 in
theorem gL_law_X3_rank : GoodIn wsL_law (wsV RL 134 RX3 yX3_rank wsX3_rank) := goodIn_app (goodIn_of _ (by decide +kernel)) ggL_law_X3_rank
set_option maxRecDepth 20000 in
theorem ggL_law_L_select : GoodIn wsL_law wsL_select := goodIn_ca (goodIn_ca (goodIn_r _ [292, 168, 104, 293, 294, 295, 2, 296, 173, 174, 175, 176, 177, 178, 19, 17, 179, 180, 181, 297, 298, 299, 109, 110, 300, 301, 69, 70, 15, 71, 63, 498, 499, 500, 501, 502, 510, 511, 512] (by decide +kernel) (by decide +kernel)) (goodIn_sub (fun _ h => List.mem_append_right _ h) (by decide +kernel))) (goodIn_sub (fun _ h => List.mem_append_left _ (List.mem_append_left _ (List.mem_append_right _ h))) (by decide +kernel))
set_option maxRecDepth 20000 in
theorem gL_law_L_select : GoodIn wsL_law (va_wsS RL 135 yL_select wsL_select) := goodIn_app (goodIn_of _ (by decide +kernel)) ggL_law_L_select
set_option maxRecDepth 20000 in
theorem ggL_law_X3_select : GoodIn wsL_law wsX3_select := goodIn_r _ [305, 42, 84, 40, 194, 195, 196, 5, 197, 43, 503, 504, 505, 506, 507, 508, 509] (by decide +kernel) (by decide +kernel)
set_option maxRecDepth 20000 in
theorem gL_law_X3_select : GoodIn wsL_law (wsV RL 137 RX3 yX3_select wsX3_select) := goodIn_app (goodIn_of _ (by decide +kernel)) ggL_law_X3_select
set_option maxRecDepth 20000 in
theorem ggL_law_L_near : GoodIn wsL_law wsL_near := goodIn_ca (goodIn_ca (goodIn_r _ [308, 168, 104, 309, 310, 311, 2, 312, 173, 174, 175, 176, 177, 178, 19, 17, 179, 180, 181, 313, 314, 315, 15, 316, 151, 60, 61, 62, 63, 29, 317, 148, 149, 150, 152, 65, 66, 67, 68, 69, 70, 71, 297, 298, 299, 109, 110, 300, 301, 498, 499, 500, 501, 502, 510, 511, 512] (by decide +kernel) (by decide +kernel)) (goodIn_sub (fun _ h => List.mem_append_right _ h) (by decide +kernel))) (goodIn_sub (fun _ h => List.mem_append_left _ (List.mem_append_left _ (List.mem_append_right _ h))) (by decide +kernel))
set_option maxRecDepth 20000 in
theorem gL_law_L_near : GoodIn wsL_law (va_wsS RL 138 yL_near wsL_near) := goodIn_app (goodIn_of _ (by decide +kernel)) ggL_law_L_near
set_option maxRecDepth 20000 in
theorem ggL_law_X3_near : GoodIn wsL_law wsX3_near := goodIn_r _ [321, 84, 42, 40, 194, 195, 196, 5, 197, 43, 89, 90, 91, 92, 161, 162, 163, 164, 85, 86, 87, 88, 503, 504, 505, 506, 507, 508, 509] (by decide +kernel) (by decide +kernel)
set_option maxRecDepth 20000 in
theorem gL_law_X3_near : GoodIn wsL_law (wsV RL 141 RX3 yX3_near wsX3_near) := goodIn_app (goodIn_of _ (by decide +kernel)) ggL_law_X3_near
set_option maxRecDepth 20000 in
theorem ggL_law_L_sum : GoodIn wsL_law wsL_sum := goodIn_ca (goodIn_r _ [324, 168, 325, 326, 327, 2, 328, 57, 173, 174, 175, 176, 177, 178, 19, 17, 179, 180, 181, 147, 148, 149, 15, 150, 151, 60, 61, 62, 63, 29, 152, 65, 66, 67, 68, 69, 70, 71, 59, 510, 511, 512, 498, 499, 500, 501, 502] (by decide +kernel) (by decide +kernel)) (goodIn_sub (fun _ h => List.mem_append_right _ h) (by decide +kernel))
set_option maxRecDepth 20000 in
theorem gL_law_L_sum : GoodIn wsL_law (va_wsS RL 142 yL_sum wsL_sum) := goodIn_app (goodIn_of _ (by decide +kernel)) ggL_law_L_sum
set_option maxRecDepth 20000 in
theorem ggL_law_X3_sum : GoodIn wsL_law wsX3_sum := goodIn_r _ [332, 84, 42, 40, 41, 194, 195, 196, 5, 197, 43, 503, 504, 505, 506, 507, 508, 509] (by decide +kernel) (by decide +kernel)
set_option maxRecDepth 20000 in
theorem gL_law_X3_sum : GoodIn wsL_law (wsV RL 145 RX3 yX3_sum wsX3_sum) := goodIn_app (goodIn_of _ (by decide +kernel)) ggL_law_X3_sum
set_option maxRecDepth 20000 in
theorem ggL_law_L_greatest : GoodIn wsL_law wsL_greatest := goodIn_ca (goodIn_ca (goodIn_r _ [335, 168, 104, 336, 337, 338, 2, 339, 109, 110, 57, 340, 341, 342, 343, 173, 174, 175, 176, 177, 178, 19, 17, 179, 180, 181, 59, 60, 61, 15, 62, 63, 29, 147, 148, 149, 150, 151, 152, 65, 66, 67, 68, 69, 70, 71, 510, 511, 512, 498, 499, 500, 501, 502] (by decide +kernel) (by decide +kernel)) (goodIn_sub (fun _ h => List.mem_append_left _ (List.mem_append_left _ (List.mem_append_right _ h))) (by decide +kernel))) (goodIn_sub (fun _ h => List.mem_append_right _ h) (by decide +kernel))
set_option maxRecDepth 20000 in
theorem gL_law_L_greatest : GoodIn wsL_law (va_wsS RL 146 yL_greatest wsL_greatest) := goodIn_app (goodIn_of _ (by decide +kernel)) ggL_law_L_greatest
set_option maxRecDepth 20000 in
theorem ggL_law_X3_greatest : GoodIn wsL_law wsX3_greatest := goodIn_r _ [347, 84, 348, 42, 40, 41, 194, 195, 196, 5, 197, 43, 157, 158, 159, 160, 161, 162, 163, 164, 89, 90, 91, 92, 85, 86, 87, 88, 503, 504, 505, 506, 507, 508, 509] (by decide +kernel) (by decide +kernel)
set_option maxRecDepth 20000 in
theorem gL_law_X3_greatest : GoodIn wsL_law (wsV RL 148 RX3 yX3_greatest wsX3_greatest) := goodIn_app (goodIn_of _ (by decide +kernel)) ggL_law_X3_greatest
set_option maxRecDepth 20000 in
theorem ggL_law_L_differs : GoodIn wsL_law wsL_differs := goodIn_ca (goodIn_r _ [351, 168, 352, 353, 354, 2, 355, 58, 173, 174, 175, 176, 177, 178, 19, 17, 179, 180, 181, 182, 183, 184, 15, 185, 63, 29, 30, 152, 65, 66, 67, 68, 69, 70, 71, 510, 511, 512, 498, 499, 500, 501, 502] (by decide +kernel) (by decide +kernel)) (goodIn_sub (fun _ h => List.mem_append_right _ h) (by decide +kernel))
set_option maxRecDepth 20000 in
theorem gL_law_L_differs : GoodIn wsL_law (va_wsS RL 149 yL_differs wsL_differs) := goodIn_app (goodIn_of _ (by decide +kernel)) ggL_law_L_differs
set_option maxRecDepth 20000 in
theorem ggL_law_X3_differs : GoodIn wsL_law wsX3_differs := goodIn_r _ [359, 84, 42, 40, 194, 195, 196, 5, 197, 43, 360, 361, 362, 363, 41, 85, 86, 87, 88, 89, 90, 91, 92, 503, 504, 505, 506, 507, 508, 509] (by decide +kernel) (by decide +kernel)
set_option maxRecDepth 20000 in
theorem gL_law_X3_differs : GoodIn wsL_law (wsV RL 151 RX3 yX3_differs wsX3_differs) := goodIn_app (goodIn_of _ (by decide +kernel)) ggL_law_X3_differs
set_option maxRecDepth 20000 in
theorem ggL_law_L_firstDifference : GoodIn wsL_law wsL_firstDifference := goodIn_ca (goodIn_ca (goodIn_r _ [366, 168, 104, 367, 368, 369, 2, 370, 58, 300, 371, 372, 342, 373, 173, 174, 175, 176, 177, 178, 19, 17, 179, 180, 181, 374, 375, 376, 15, 377, 63, 378, 29, 30, 297, 298, 299, 109, 110, 301, 69, 70, 71, 510, 511, 512, 498, 499, 500, 501, 502] (by decide +kernel) (by decide +kernel)) (goodIn_sub (fun _ h => List.mem_append_right _ h) (by decide +kernel))) (goodIn_sub (fun _ h => List.mem_append_left _ (List.mem_append_left _ (List.mem_append_right _ h))) (by decide +kernel))
set_option maxRecDepth 20000 in
theorem gL_law_L_firstDifference : GoodIn wsL_law (va_wsS RL 152 yL_firstDifference wsL_firstDifference) := goodIn_app (goodIn_of _ (by decide +kernel)) ggL_law_L_firstDifference
set_option maxRecDepth 20000 in
theorem ggL_law_X3_firstDifference : GoodIn wsL_law wsX3_firstDifference := goodIn_r _ [382, 84, 42, 40, 194, 195, 196, 5, 197, 43, 383, 384, 385, 386, 360, 361, 362, 363, 41, 85, 86, 87, 88, 89, 90, 91, 92, 503, 504, 505, 506, 507, 508, 509] (by decide +kernel) (by decide +kernel)
set_option maxRecDepth 20000 in
theorem gL_law_X3_firstDifference : GoodIn wsL_law (wsV RL 154 RX3 yX3_firstDifference wsX3_firstDifference) := goodIn_app (goodIn_of _ (by decide +kernel)) ggL_law_X3_firstDifference
set_option maxRecDepth 20000 in
theorem ggL_law_L_open : GoodIn wsL_law wsL_open := goodIn_ca (goodIn_ca (goodIn_r _ [389, 168, 50, 390, 391, 392, 2, 393, 55, 56, 22, 21, 173, 174, 175, 176, 177, 178, 19, 17, 179, 180, 181, 205, 206, 207, 394, 395, 396, 24, 397, 35, 398, 399, 400, 209, 210, 15, 211, 29, 63, 76, 77, 78, 79, 30, 401, 314, 315, 316, 151, 60, 61, 62, 317, 148, 149, 150, 152, 65, 66, 67, 68, 69, 70, 71, 498, 499, 500, 501, 502, 513, 514, 515, 510, 511, 512] (by decide +kernel) (by decide +kernel)) (goodIn_sub (fun _ h => List.mem_append_left _ (List.mem_append_left _ (List.mem_append_left _ (List.mem_append_right _ h)))) (by decide +kernel))) (goodIn_sub (fun _ h => List.mem_append_right _ h) (by decide +kernel))
set_option maxRecDepth 20000 in
theorem gL_law_L_open : GoodIn wsL_law (va_wsS RL 155 yL_open wsL_open) := goodIn_app (goodIn_of _ (by decide +kernel)) ggL_law_L_open
set_option maxRecDepth 20000 in
theorem ggL_law_X3_open : GoodIn wsL_law wsX3_open := goodIn_r _ [405, 84, 43, 44, 45, 216, 217, 218, 5, 219, 194, 195, 196, 197, 220, 221, 222, 223, 42, 40, 41, 161, 162, 163, 164, 89, 90, 91, 92, 85, 86, 87, 88, 503, 504, 505, 506, 507, 508, 509] (by decide +kernel) (by decide +kernel)
set_option maxRecDepth 20000 in
theorem gL_law_X3_open : GoodIn wsL_law (wsV RL 157 RX3 yX3_open wsX3_open) := goodIn_app (goodIn_of _ (by decide +kernel)) ggL_law_X3_open
set_option maxRecDepth 20000 in
theorem ggL_law_L_next : GoodIn wsL_law wsL_next := goodIn_ca (goodIn_ca (goodIn_r _ [408, 168, 104, 409, 410, 411, 2, 412, 413, 414, 415, 416, 417, 418, 177, 178, 22, 21, 179, 180, 181, 297, 298, 299, 109, 110, 300, 301, 69, 70, 15, 71, 63, 419, 420, 421, 24, 422, 399, 398, 513, 514, 515, 498, 499, 500, 501, 502, 510, 511, 512] (by decide +kernel) (by decide +kernel)) (goodIn_sub (fun _ h => List.mem_append_right _ h) (by decide +kernel))) (goodIn_sub (fun _ h => List.mem_append_left _ (List.mem_append_left _ (List.mem_append_right _ h))) (by decide +kernel))
set_option maxRecDepth 20000 in
theorem gL_law_L_next : GoodIn wsL_law (va_wsS RL 158 yL_next wsL_next) := goodIn_app (goodIn_of _ (by decide +kernel)) ggL_law_L_next
set_option maxRecDepth 20000 in
theorem ggL_law_X3_next : GoodIn wsL_law wsX3_next := goodIn_r _ [426, 84, 40, 44, 427, 428, 429, 5, 430, 43, 431, 432, 433, 434, 42, 435, 436, 437, 438, 45, 503, 504, 505, 506, 507, 508, 509] (by decide +kernel) (by decide +kernel)
set_option maxRecDepth 20000 in
theorem gL_law_X3_next : GoodIn wsL_law (wsV RL 160 RX3 yX3_next wsX3_next) := goodIn_app (goodIn_of _ (by decide +kernel)) ggL_law_X3_next
set_option maxRecDepth 20000 in
theorem ggL_law_L_skip : GoodIn wsL_law wsL_skip := goodIn_ca (goodIn_ca (goodIn_r _ [441, 168, 126, 442, 443, 444, 2, 445, 131, 132, 371, 372, 342, 373, 415, 416, 417, 418, 177, 178, 22, 21, 179, 180, 181, 446, 447, 448, 24, 449, 398, 399, 35, 450, 419, 420, 421, 422, 498, 499, 500, 501, 502, 513, 514, 515, 510, 511, 512] (by decide +kernel) (by decide +kernel)) (goodIn_sub (fun _ h => List.mem_append_left _ (List.mem_append_right _ h)) (by decide +kernel))) (goodIn_sub (fun _ h => List.mem_append_right _ h) (by decide +kernel))
set_option maxRecDepth 20000 in
theorem gL_law_L_skip : GoodIn wsL_law (va_wsS RL 161 yL_skip wsL_skip) := goodIn_app (goodIn_of _ (by decide +kernel)) ggL_law_L_skip
set_option maxRecDepth 20000 in
theorem ggL_law_X3_skip : GoodIn wsL_law wsX3_skip := goodIn_r _ [454, 84, 427, 428, 429, 5, 430, 43, 431, 432, 433, 434, 44, 42, 435, 436, 437, 438, 45, 503, 504, 505, 506, 507, 508, 509] (by decide +kernel) (by decide +kernel)
set_option maxRecDepth 20000 in
theorem gL_law_X3_skip : GoodIn wsL_law (wsV RL 163 RX3 yX3_skip wsX3_skip) := goodIn_app (goodIn_of _ (by decide +kernel)) ggL_law_X3_skip
set_option maxRecDepth 20000 in
theorem ggL_law_L_peek : GoodIn wsL_law wsL_peek := goodIn_ca (goodIn_ca (goodIn_r _ [457, 168, 104, 458, 459, 460, 2, 461, 109, 110, 413, 414, 57, 415, 416, 417, 418, 177, 178, 22, 21, 179, 180, 181, 301, 69, 70, 15, 71, 63, 513, 514, 515, 510, 511, 512, 498, 499, 500, 501, 502] (by decide +kernel) (by decide +kernel)) (goodIn_sub (fun _ h => List.mem_append_left _ (List.mem_append_left _ (List.mem_append_right _ h))) (by decide +kernel))) (goodIn_sub (fun _ h => List.mem_append_right _ h) (by decide +kernel))
set_option maxRecDepth 20000 in
theorem gL_law_L_peek : GoodIn wsL_law (va_wsS RL 164 yL_peek wsL_peek) := goodIn_app (goodIn_of _ (by decide +kernel)) ggL_law_L_peek
set_option maxRecDepth 20000 in
theorem ggL_law_X3_peek : GoodIn wsL_law wsX3_peek := goodIn_r _ [465, 84, 41, 44, 427, 428, 429, 5, 430, 43, 431, 432, 433, 434, 42, 503, 504, 505, 506, 507, 508, 509] (by decide +kernel) (by decide +kernel)
set_option maxRecDepth 20000 in
theorem gL_law_X3_peek : GoodIn wsL_law (wsV RL 166 RX3 yX3_peek wsX3_peek) := goodIn_app (goodIn_of _ (by decide +kernel)) ggL_law_X3_peek
set_option maxRecDepth 20000 in
theorem ggL_law_L_close : GoodIn wsL_law wsL_close := goodIn_ca (goodIn_r _ [468, 168, 469, 470, 471, 2, 472, 22, 415, 416, 417, 418, 177, 178, 21, 179, 180, 181, 473, 474, 475, 24, 476, 35, 450, 399, 235, 236, 237, 498, 499, 500, 501, 502, 513, 514, 515, 510, 511, 512] (by decide +kernel) (by decide +kernel)) (goodIn_sub (fun _ h => List.mem_append_right _ h) (by decide +kernel))
set_option maxRecDepth 20000 in
theorem gL_law_L_close : GoodIn wsL_law (va_wsS RL 167 yL_close wsL_close) := goodIn_app (goodIn_of _ (by decide +kernel)) ggL_law_L_close
set_option maxRecDepth 20000 in
theorem ggL_law_X3_close : GoodIn wsL_law wsX3_close := goodIn_r _ [480, 84, 43, 427, 428, 429, 5, 430, 503, 504, 505, 506, 507, 508, 509] (by decide +kernel) (by decide +kernel)
set_option maxRecDepth 20000 in
theorem gL_law_X3_close : GoodIn wsL_law (wsV RL 169 RX3 yX3_close wsX3_close) := goodIn_app (goodIn_of _ (by decide +kernel)) ggL_law_X3_close
set_option maxRecDepth 20000 in
theorem ggL_law_X2_astray : GoodIn wsL_law wsX2_astray := goodIn_r _ [484, 19, 17, 21, 22, 485, 486, 487, 15, 488, 63, 29, 489, 490, 491, 24, 492, 399, 35, 450, 493, 498, 499, 500, 501, 502, 510, 511, 512, 513, 514, 515] (by decide +kernel) (by decide +kernel)
set_option maxRecDepth 20000 in
theorem gL_law_X2_astray : GoodIn wsL_law (wsV RL 170 RX2 yX2_astray wsX2_astray) := goodIn_app (goodIn_of _ (by decide +kernel)) ggL_law_X2_astray
set_option maxRecDepth 20000 in
theorem ggL_law_X3_astray : GoodIn wsL_law wsX3_astray := goodIn_r _ [497, 84, 503, 504, 505, 506, 507, 508, 509] (by decide +kernel) (by decide +kernel)
set_option maxRecDepth 20000 in
theorem gL_law_X3_astray : GoodIn wsL_law (wsV RL 173 RX3 yX3_astray wsX3_astray) := goodIn_app (goodIn_of _ (by decide +kernel)) ggL_law_X3_astray

set_option maxRecDepth 20000 in
theorem ggL_pass_X2_pass : GoodIn wsL_pass wsX2_pass := goodIn_ca (goodIn_ca (goodIn_r _ [7, 8, 9, 10, 11, 12, 13, 6, 14, 15, 16, 17, 18, 19, 20, 21, 22] (by decide +kernel) (by decide +kernel)) (goodIn_sub (fun _ h => List.mem_cons_of_mem _ (List.mem_append_left _ (List.mem_append_right _ h))) (by decide +kernel))) (goodIn_sub (fun _ h => List.mem_cons_of_mem _ (List.mem_append_right _ h)) (by decide +kernel))
set_option maxRecDepth 20000 in
theorem gL_pass_X2_pass : GoodIn wsL_pass (wsV RL 7 RX2 yX2_pass wsX2_pass) := goodIn_app (goodIn_of _ (by decide +kernel)) ggL_pass_X2_pass
theorem dL_pass_0 : decode cL_pass 0 = .ok (.aload_n 2, 1) := by decide +kernel
theorem dL_pass_1 : decode cL_pass 1 = .ok (.iconst 0, 1) := by decide +kernel
theorem dL_pass_2 : decode cL_pass 2 = .ok (.aload_n 0, 1) := by decide +kernel
theorem dL_pass_3 : decode cL_pass 3 = .ok (.iload_n 1, 1) := by decide +kernel
theorem dL_pass_4 : decode cL_pass 4 = .ok (.invokevirtual 7, 3) := by decide +kernel
theorem dL_pass_7 : decode cL_pass 7 = .ok (.i2l, 1) := by decide +kernel
theorem dL_pass_8 : decode cL_pass 8 = .ok (.lastore, 1) := by decide +kernel
theorem dL_pass_9 : decode cL_pass 9 = .ok (.goto 9, 3) := by decide +kernel
theorem dL_pass_12 : decode cL_pass 12 = .ok (.astore_n 3, 1) := by decide +kernel
theorem dL_pass_13 : decode cL_pass 13 = .ok (.iconst 1, 1) := by decide +kernel
theorem dL_pass_14 : decode cL_pass 14 = .ok (.ireturn, 1) := by decide +kernel
theorem dL_pass_15 : decode cL_pass 15 = .ok (.astore_n 3, 1) := by decide +kernel
theorem dL_pass_16 : decode cL_pass 16 = .ok (.iconst 2, 1) := by decide +kernel
theorem dL_pass_17 : decode cL_pass 17 = .ok (.ireturn, 1) := by decide +kernel
theorem dL_pass_18 : decode cL_pass 18 = .ok (.iconst 0, 1) := by decide +kernel
theorem dL_pass_19 : decode cL_pass 19 = .ok (.ireturn, 1) := by decide +kernel
set_option maxRecDepth 20000 in
theorem ggL_rent_X2_rent : GoodIn wsL_rent wsX2_rent := goodIn_ca (goodIn_ca (goodIn_r _ [7, 8, 9, 10, 11, 12, 13, 6, 14, 15, 16, 17, 18, 19, 20, 21, 22, 23, 24, 25, 26, 27, 28, 29, 30, 31, 32, 33, 34, 35, 36, 37, 38, 39, 40, 41, 42, 43, 44, 45, 46, 47, 48, 49, 50, 51, 52, 53, 54, 55, 56, 57, 58, 59] (by decide +kernel) (by decide +kernel)) (goodIn_sub (fun _ h => List.mem_cons_of_mem _ (List.mem_append_left _ (List.mem_append_right _ h))) (by decide +kernel))) (goodIn_sub (fun _ h => List.mem_cons_of_mem _ (List.mem_append_right _ h)) (by decide +kernel))
set_option maxRecDepth 20000 in
theorem gL_rent_X2_rent : GoodIn wsL_rent (wsV RL 17 RX2 yX2_rent wsX2_rent) := goodIn_app (goodIn_of _ (by decide +kernel)) ggL_rent_X2_rent
theorem dL_rent_0 : decode cL_rent 0 = .ok (.aload 4, 2) := by decide +kernel
theorem dL_rent_2 : decode cL_rent 2 = .ok (.iconst 0, 1) := by decide +kernel
theorem dL_rent_3 : decode cL_rent 3 = .ok (.aload_n 0, 1) := by decide +kernel
theorem dL_rent_4 : decode cL_rent 4 = .ok (.iload_n 1, 1) := by decide +kernel
theorem dL_rent_5 : decode cL_rent 5 = .ok (.iload_n 2, 1) := by decide +kernel
theorem dL_rent_6 : decode cL_rent 6 = .ok (.iload_n 3, 1) := by decide +kernel
theorem dL_rent_7 : decode cL_rent 7 = .ok (.invokevirtual 17, 3) := by decide +kernel
theorem dL_rent_10 : decode cL_rent 10 = .ok (.i2l, 1) := by decide +kernel
theorem dL_rent_11 : decode cL_rent 11 = .ok (.lastore, 1) := by decide +kernel
theorem dL_rent_12 : decode cL_rent 12 = .ok (.goto 11, 3) := by decide +kernel
theorem dL_rent_15 : decode cL_rent 15 = .ok (.astore 5, 2) := by decide +kernel
theorem dL_rent_17 : decode cL_rent 17 = .ok (.iconst 1, 1) := by decide +kernel
theorem dL_rent_18 : decode cL_rent 18 = .ok (.ireturn, 1) := by decide +kernel
theorem dL_rent_19 : decode cL_rent 19 = .ok (.astore 5, 2) := by decide +kernel
theorem dL_rent_21 : decode cL_rent 21 = .ok (.iconst 2, 1) := by decide +kernel
theorem dL_rent_22 : decode cL_rent 22 = .ok (.ireturn, 1) := by decide +kernel
theorem dL_rent_23 : decode cL_rent 23 = .ok (.iconst 0, 1) := by decide +kernel
theorem dL_rent_24 : decode cL_rent 24 = .ok (.ireturn, 1) := by decide +kernel
set_option maxRecDepth 20000 in
theorem ggL_extend_X2_extend : GoodIn wsL_extend wsX2_extend := goodIn_ca (goodIn_ca (goodIn_r _ [7, 8, 9, 10, 6, 11, 12, 13, 14, 15, 16, 17, 18, 19, 20, 21, 22, 23, 24, 25, 26, 27, 28, 29, 30, 31, 32, 33, 34, 35, 36, 37, 38, 39, 40, 41, 42, 43] (by decide +kernel) (by decide +kernel)) (goodIn_sub (fun _ h => List.mem_cons_of_mem _ (List.mem_append_left _ (List.mem_append_right _ h))) (by decide +kernel))) (goodIn_sub (fun _ h => List.mem_cons_of_mem _ (List.mem_append_right _ h)) (by decide +kernel))
set_option maxRecDepth 20000 in
theorem gL_extend_X2_extend : GoodIn wsL_extend (wsV RL 21 RX2 yX2_extend wsX2_extend) := goodIn_app (goodIn_of _ (by decide +kernel)) ggL_extend_X2_extend
theorem dL_extend_0 : decode cL_extend 0 = .ok (.aload_n 3, 1) := by decide +kernel
theorem dL_extend_1 : decode cL_extend 1 = .ok (.iconst 0, 1) := by decide +kernel
theorem dL_extend_2 : decode cL_extend 2 = .ok (.aload_n 0, 1) := by decide +kernel
theorem dL_extend_3 : decode cL_extend 3 = .ok (.iload_n 1, 1) := by decide +kernel
theorem dL_extend_4 : decode cL_extend 4 = .ok (.iload_n 2, 1) := by decide +kernel
theorem dL_extend_5 : decode cL_extend 5 = .ok (.invokevirtual 21, 3) := by decide +kernel
theorem dL_extend_8 : decode cL_extend 8 = .ok (.i2l, 1) := by decide +kernel
theorem dL_extend_9 : decode cL_extend 9 = .ok (.lastore, 1) := by decide +kernel
theorem dL_extend_10 : decode cL_extend 10 = .ok (.goto 11, 3) := by decide +kernel
theorem dL_extend_13 : decode cL_extend 13 = .ok (.astore 4, 2) := by decide +kernel
theorem dL_extend_15 : decode cL_extend 15 = .ok (.iconst 1, 1) := by decide +kernel
theorem dL_extend_16 : decode cL_extend 16 = .ok (.ireturn, 1) := by decide +kernel
theorem dL_extend_17 : decode cL_extend 17 = .ok (.astore 4, 2) := by decide +kernel
theorem dL_extend_19 : decode cL_extend 19 = .ok (.iconst 2, 1) := by decide +kernel
theorem dL_extend_20 : decode cL_extend 20 = .ok (.ireturn, 1) := by decide +kernel
theorem dL_extend_21 : decode cL_extend 21 = .ok (.iconst 0, 1) := by decide +kernel
theorem dL_extend_22 : decode cL_extend 22 = .ok (.ireturn, 1) := by decide +kernel
set_option maxRecDepth 20000 in
theorem ggL_giveBack_X2_giveBack : GoodIn wsL_giveBack wsX2_giveBack := goodIn_ca (goodIn_ca (goodIn_r _ [7, 8, 9, 10, 11, 12, 6, 13, 14, 15, 16, 17, 18, 19, 20, 21, 22, 23, 24, 25, 26, 27, 28, 29, 30, 31, 32, 33, 34, 35, 36, 37, 38, 39, 40, 41, 42, 43, 44, 45, 46, 47, 48, 49, 50, 51, 52, 53, 54, 55, 56, 57, 58, 59, 60, 61, 62, 63, 64, 65, 66, 67, 68, 69, 70, 71, 72, 73, 74, 75, 76, 77, 78, 79, 80, 81, 82, 83, 84, 85, 86, 87, 88, 89, 90, 91, 92, 93, 94, 95, 96, 97, 98, 99, 100, 101, 102, 103, 104, 105, 106, 107, 108, 109, 110, 111, 112, 113, 114, 115, 116, 117, 118, 119, 120, 121, 122, 123, 124, 125, 126, 127, 128, 129, 130, 131, 132, 133, 134, 135, 136, 137, 138, 139, 140] (by decide +kernel) (by decide +kernel)) (goodIn_sub (fun _ h => List.mem_cons_of_mem _ (List.mem_append_left _ (List.mem_append_right _ h))) (by decide +kernel))) (goodIn_sub (fun _ h => List.mem_cons_of_mem _ (List.mem_append_right _ h)) (by decide +kernel))
set_option maxRecDepth 20000 in
theorem gL_giveBack_X2_giveBack : GoodIn wsL_giveBack (wsV RL 25 RX2 yX2_giveBack wsX2_giveBack) := goodIn_app (goodIn_of _ (by decide +kernel)) ggL_giveBack_X2_giveBack
theorem dL_giveBack_0 : decode cL_giveBack 0 = .ok (.aload_n 3, 1) := by decide +kernel
theorem dL_giveBack_1 : decode cL_giveBack 1 = .ok (.iconst 0, 1) := by decide +kernel
theorem dL_giveBack_2 : decode cL_giveBack 2 = .ok (.aload_n 0, 1) := by decide +kernel
theorem dL_giveBack_3 : decode cL_giveBack 3 = .ok (.iload_n 1, 1) := by decide +kernel
theorem dL_giveBack_4 : decode cL_giveBack 4 = .ok (.iload_n 2, 1) := by decide +kernel
theorem dL_giveBack_5 : decode cL_giveBack 5 = .ok (.invokevirtual 25, 3) := by decide +kernel
theorem dL_giveBack_8 : decode cL_giveBack 8 = .ok (.i2l, 1) := by decide +kernel
theorem dL_giveBack_9 : decode cL_giveBack 9 = .ok (.lastore, 1) := by decide +kernel
theorem dL_giveBack_10 : decode cL_giveBack 10 = .ok (.goto 11, 3) := by decide +kernel
theorem dL_giveBack_13 : decode cL_giveBack 13 = .ok (.astore 4, 2) := by decide +kernel
theorem dL_giveBack_15 : decode cL_giveBack 15 = .ok (.iconst 1, 1) := by decide +kernel
theorem dL_giveBack_16 : decode cL_giveBack 16 = .ok (.ireturn, 1) := by decide +kernel
theorem dL_giveBack_17 : decode cL_giveBack 17 = .ok (.astore 4, 2) := by decide +kernel
theorem dL_giveBack_19 : decode cL_giveBack 19 = .ok (.iconst 2, 1) := by decide +kernel
theorem dL_giveBack_20 : decode cL_giveBack 20 = .ok (.ireturn, 1) := by decide +kernel
theorem dL_giveBack_21 : decode cL_giveBack 21 = .ok (.iconst 0, 1) := by decide +kernel
theorem dL_giveBack_22 : decode cL_giveBack 22 = .ok (.ireturn, 1) := by decide +kernel
set_option maxRecDepth 20000 in
theorem ggL_drill_X2_drill : GoodIn wsL_drill wsX2_drill := goodIn_ca (goodIn_ca (goodIn_r _ [7, 8, 9, 10, 11, 12, 13, 14, 15, 16, 6, 17, 18, 19, 20, 21, 22, 23, 24, 25, 26, 27, 28, 29, 30, 31, 32, 33, 34, 35, 36, 37, 38, 39, 40, 41, 42, 43, 44, 45, 46, 47, 48, 49, 50, 51, 52, 53, 54, 55, 56, 57, 58, 59, 60, 61, 62, 63, 64, 65, 66, 67, 68, 69, 70, 71, 72, 73, 74, 75, 76, 77, 78, 79, 80, 81, 82, 83, 84, 85, 86, 87, 88, 89, 90, 91, 92, 93, 94, 95, 96, 97, 98, 99, 100, 101] (by decide +kernel) (by decide +kernel)) (goodIn_sub (fun _ h => List.mem_cons_of_mem _ (List.mem_append_left _ (List.mem_append_right _ h))) (by decide +kernel))) (goodIn_sub (fun _ h => List.mem_cons_of_mem _ (List.mem_append_right _ h)) (by decide +kernel))
set_option maxRecDepth 20000 in
theorem gL_drill_X2_drill : GoodIn wsL_drill (wsV RL 28 RX2 yX2_drill wsX2_drill) := goodIn_app (goodIn_of _ (by decide +kernel)) ggL_drill_X2_drill
theorem dL_drill_0 : decode cL_drill 0 = .ok (.aload 4, 2) := by decide +kernel
theorem dL_drill_2 : decode cL_drill 2 = .ok (.iconst 0, 1) := by decide +kernel
theorem dL_drill_3 : decode cL_drill 3 = .ok (.aload_n 0, 1) := by decide +kernel
theorem dL_drill_4 : decode cL_drill 4 = .ok (.iload_n 1, 1) := by decide +kernel
theorem dL_drill_5 : decode cL_drill 5 = .ok (.iload_n 2, 1) := by decide +kernel
theorem dL_drill_6 : decode cL_drill 6 = .ok (.iload_n 3, 1) := by decide +kernel
theorem dL_drill_7 : decode cL_drill 7 = .ok (.invokevirtual 28, 3) := by decide +kernel
theorem dL_drill_10 : decode cL_drill 10 = .ok (.i2l, 1) := by decide +kernel
theorem dL_drill_11 : decode cL_drill 11 = .ok (.lastore, 1) := by decide +kernel
theorem dL_drill_12 : decode cL_drill 12 = .ok (.goto 11, 3) := by decide +kernel
theorem dL_drill_15 : decode cL_drill 15 = .ok (.astore 5, 2) := by decide +kernel
theorem dL_drill_17 : decode cL_drill 17 = .ok (.iconst 1, 1) := by decide +kernel
theorem dL_drill_18 : decode cL_drill 18 = .ok (.ireturn, 1) := by decide +kernel
theorem dL_drill_19 : decode cL_drill 19 = .ok (.astore 5, 2) := by decide +kernel
theorem dL_drill_21 : decode cL_drill 21 = .ok (.iconst 2, 1) := by decide +kernel
theorem dL_drill_22 : decode cL_drill 22 = .ok (.ireturn, 1) := by decide +kernel
theorem dL_drill_23 : decode cL_drill 23 = .ok (.iconst 0, 1) := by decide +kernel
theorem dL_drill_24 : decode cL_drill 24 = .ok (.ireturn, 1) := by decide +kernel
set_option maxRecDepth 20000 in
theorem ggL_fetch_X2_fetch : GoodIn wsL_fetch wsX2_fetch := goodIn_ca (goodIn_ca (goodIn_r _ [7, 8, 9, 10, 11, 12, 6, 13, 14, 15, 16, 17, 18, 19, 20, 21, 22, 23, 24, 25, 26, 27, 28, 29, 30, 31, 32, 33, 34, 35, 36, 37, 38, 39, 40, 41, 42, 43, 44, 45, 46, 47, 48, 49, 50, 51, 52, 53, 54, 55, 56, 57, 58, 59, 60, 61, 62, 63, 64, 65, 66, 67, 68, 69, 70, 71, 72, 73, 74, 75, 76, 77, 78, 79, 80, 81, 82, 83, 84, 85, 86, 87, 88, 89, 90, 91, 92, 93, 94, 95, 96, 97, 98, 99, 100, 101, 102, 103, 104, 105, 106, 107, 108] (by decide +kernel) (by decide +kernel)) (goodIn_sub (fun _ h => List.mem_cons_of_mem _ (List.mem_append_left _ (List.mem_append_right _ h))) (by decide +kernel))) (goodIn_sub (fun _ h => List.mem_cons_of_mem _ (List.mem_append_right _ h)) (by decide +kernel))
set_option maxRecDepth 20000 in
theorem gL_fetch_X2_fetch : GoodIn wsL_fetch (wsV RL 31 RX2 yX2_fetch wsX2_fetch) := goodIn_app (goodIn_of _ (by decide +kernel)) ggL_fetch_X2_fetch
theorem dL_fetch_0 : decode cL_fetch 0 = .ok (.aload_n 3, 1) := by decide +kernel
theorem dL_fetch_1 : decode cL_fetch 1 = .ok (.iconst 0, 1) := by decide +kernel
theorem dL_fetch_2 : decode cL_fetch 2 = .ok (.aload_n 0, 1) := by decide +kernel
theorem dL_fetch_3 : decode cL_fetch 3 = .ok (.iload_n 1, 1) := by decide +kernel
theorem dL_fetch_4 : decode cL_fetch 4 = .ok (.iload_n 2, 1) := by decide +kernel
theorem dL_fetch_5 : decode cL_fetch 5 = .ok (.invokevirtual 31, 3) := by decide +kernel
theorem dL_fetch_8 : decode cL_fetch 8 = .ok (.i2l, 1) := by decide +kernel
theorem dL_fetch_9 : decode cL_fetch 9 = .ok (.lastore, 1) := by decide +kernel
theorem dL_fetch_10 : decode cL_fetch 10 = .ok (.goto 11, 3) := by decide +kernel
theorem dL_fetch_13 : decode cL_fetch 13 = .ok (.astore 4, 2) := by decide +kernel
theorem dL_fetch_15 : decode cL_fetch 15 = .ok (.iconst 1, 1) := by decide +kernel
theorem dL_fetch_16 : decode cL_fetch 16 = .ok (.ireturn, 1) := by decide +kernel
theorem dL_fetch_17 : decode cL_fetch 17 = .ok (.astore 4, 2) := by decide +kernel
theorem dL_fetch_19 : decode cL_fetch 19 = .ok (.iconst 2, 1) := by decide +kernel
theorem dL_fetch_20 : decode cL_fetch 20 = .ok (.ireturn, 1) := by decide +kernel
theorem dL_fetch_21 : decode cL_fetch 21 = .ok (.iconst 0, 1) := by decide +kernel
theorem dL_fetch_22 : decode cL_fetch 22 = .ok (.ireturn, 1) := by decide +kernel
set_option maxRecDepth 20000 in
theorem ggL_proxy_X2_proxy : GoodIn wsL_proxy wsX2_proxy := goodIn_ca (goodIn_ca (goodIn_r _ [7, 8, 9, 10, 11, 12, 13, 6, 14, 15, 16, 17, 18, 19, 20, 21, 22, 23, 24, 25, 26, 27, 28, 29, 30, 31, 32, 33, 34, 35, 36, 37, 38, 39, 40, 41, 42, 43, 44, 45, 46, 47, 48, 49, 50, 51, 52, 53, 54, 55, 56, 57, 58, 59, 60, 61, 62] (by decide +kernel) (by decide +kernel)) (goodIn_sub (fun _ h => List.mem_cons_of_mem _ (List.mem_append_left _ (List.mem_append_right _ h))) (by decide +kernel))) (goodIn_sub (fun _ h => List.mem_cons_of_mem _ (List.mem_append_right _ h)) (by decide +kernel))
set_option maxRecDepth 20000 in
theorem gL_proxy_X2_proxy : GoodIn wsL_proxy (wsV RL 34 RX2 yX2_proxy wsX2_proxy) := goodIn_app (goodIn_of _ (by decide +kernel)) ggL_proxy_X2_proxy
theorem dL_proxy_0 : decode cL_proxy 0 = .ok (.aload 5, 2) := by decide +kernel
theorem dL_proxy_2 : decode cL_proxy 2 = .ok (.iconst 0, 1) := by decide +kernel
theorem dL_proxy_3 : decode cL_proxy 3 = .ok (.aload_n 0, 1) := by decide +kernel
theorem dL_proxy_4 : decode cL_proxy 4 = .ok (.iload_n 1, 1) := by decide +kernel
theorem dL_proxy_5 : decode cL_proxy 5 = .ok (.iload_n 2, 1) := by decide +kernel
theorem dL_proxy_6 : decode cL_proxy 6 = .ok (.iload_n 3, 1) := by decide +kernel
theorem dL_proxy_7 : decode cL_proxy 7 = .ok (.iload 4, 2) := by decide +kernel
theorem dL_proxy_9 : decode cL_proxy 9 = .ok (.invokevirtual 34, 3) := by decide +kernel
theorem dL_proxy_12 : decode cL_proxy 12 = .ok (.i2l, 1) := by decide +kernel
theorem dL_proxy_13 : decode cL_proxy 13 = .ok (.lastore, 1) := by decide +kernel
theorem dL_proxy_14 : decode cL_proxy 14 = .ok (.goto 11, 3) := by decide +kernel
theorem dL_proxy_17 : decode cL_proxy 17 = .ok (.astore 6, 2) := by decide +kernel
theorem dL_proxy_19 : decode cL_proxy 19 = .ok (.iconst 1, 1) := by decide +kernel
theorem dL_proxy_20 : decode cL_proxy 20 = .ok (.ireturn, 1) := by decide +kernel
theorem dL_proxy_21 : decode cL_proxy 21 = .ok (.astore 6, 2) := by decide +kernel
theorem dL_proxy_23 : decode cL_proxy 23 = .ok (.iconst 2, 1) := by decide +kernel
theorem dL_proxy_24 : decode cL_proxy 24 = .ok (.ireturn, 1) := by decide +kernel
theorem dL_proxy_25 : decode cL_proxy 25 = .ok (.iconst 0, 1) := by decide +kernel
theorem dL_proxy_26 : decode cL_proxy 26 = .ok (.ireturn, 1) := by decide +kernel
set_option maxRecDepth 20000 in
theorem ggL_heir_X2_heir : GoodIn wsL_heir wsX2_heir := goodIn_ca (goodIn_r _ [6, 7, 8, 9, 10, 11, 5, 12, 13, 14, 15, 16, 17, 18, 19, 20, 21, 22, 23, 24, 25, 26, 27, 28] (by decide +kernel) (by decide +kernel)) (goodIn_sub (fun _ h => List.mem_cons_of_mem _ (List.mem_append_right _ h)) (by decide +kernel))
set_option maxRecDepth 20000 in
theorem gL_heir_X2_heir : GoodIn wsL_heir (wsV RL 38 RX2 yX2_heir wsX2_heir) := goodIn_app (goodIn_of _ (by decide +kernel)) ggL_heir_X2_heir
theorem dL_heir_0 : decode cL_heir 0 = .ok (.aload 4, 2) := by decide +kernel
theorem dL_heir_2 : decode cL_heir 2 = .ok (.iconst 0, 1) := by decide +kernel
theorem dL_heir_3 : decode cL_heir 3 = .ok (.aload_n 0, 1) := by decide +kernel
theorem dL_heir_4 : decode cL_heir 4 = .ok (.iload_n 1, 1) := by decide +kernel
theorem dL_heir_5 : decode cL_heir 5 = .ok (.iload_n 2, 1) := by decide +kernel
theorem dL_heir_6 : decode cL_heir 6 = .ok (.iload_n 3, 1) := by decide +kernel
theorem dL_heir_7 : decode cL_heir 7 = .ok (.invokevirtual 38, 3) := by decide +kernel
theorem dL_heir_10 : decode cL_heir 10 = .ok (.ifCond .eq 7, 3) := by decide +kernel
theorem dL_heir_13 : decode cL_heir 13 = .ok (.lconst 1, 1) := by decide +kernel
theorem dL_heir_14 : decode cL_heir 14 = .ok (.goto 4, 3) := by decide +kernel
theorem dL_heir_17 : decode cL_heir 17 = .ok (.lconst 0, 1) := by decide +kernel
theorem dL_heir_18 : decode cL_heir 18 = .ok (.lastore, 1) := by decide +kernel
theorem dL_heir_19 : decode cL_heir 19 = .ok (.goto 7, 3) := by decide +kernel
theorem dL_heir_22 : decode cL_heir 22 = .ok (.astore 5, 2) := by decide +kernel
theorem dL_heir_24 : decode cL_heir 24 = .ok (.iconst 1, 1) := by decide +kernel
theorem dL_heir_25 : decode cL_heir 25 = .ok (.ireturn, 1) := by decide +kernel
theorem dL_heir_26 : decode cL_heir 26 = .ok (.iconst 0, 1) := by decide +kernel
theorem dL_heir_27 : decode cL_heir 27 = .ok (.ireturn, 1) := by decide +kernel
set_option maxRecDepth 20000 in
theorem ggL_die_X2_die : GoodIn wsL_die wsX2_die := goodIn_ca (goodIn_ca (goodIn_r _ [7, 8, 9, 10, 11, 12, 13, 6, 14, 15, 16, 17, 18, 19, 20, 21, 22, 23, 24, 25, 26, 27, 28, 29, 30, 31, 32, 33, 34, 35, 36, 37, 38, 39, 40, 41, 42, 43, 44] (by decide +kernel) (by decide +kernel)) (goodIn_sub (fun _ h => List.mem_cons_of_mem _ (List.mem_append_left _ (List.mem_append_right _ h))) (by decide +kernel))) (goodIn_sub (fun _ h => List.mem_cons_of_mem _ (List.mem_append_right _ h)) (by decide +kernel))
set_option maxRecDepth 20000 in
theorem gL_die_X2_die : GoodIn wsL_die (wsV RL 42 RX2 yX2_die wsX2_die) := goodIn_app (goodIn_of _ (by decide +kernel)) ggL_die_X2_die
theorem dL_die_0 : decode cL_die 0 = .ok (.aload_n 2, 1) := by decide +kernel
theorem dL_die_1 : decode cL_die 1 = .ok (.iconst 0, 1) := by decide +kernel
theorem dL_die_2 : decode cL_die 2 = .ok (.aload_n 0, 1) := by decide +kernel
theorem dL_die_3 : decode cL_die 3 = .ok (.iload_n 1, 1) := by decide +kernel
theorem dL_die_4 : decode cL_die 4 = .ok (.invokevirtual 42, 3) := by decide +kernel
theorem dL_die_7 : decode cL_die 7 = .ok (.i2l, 1) := by decide +kernel
theorem dL_die_8 : decode cL_die 8 = .ok (.lastore, 1) := by decide +kernel
theorem dL_die_9 : decode cL_die 9 = .ok (.goto 9, 3) := by decide +kernel
theorem dL_die_12 : decode cL_die 12 = .ok (.astore_n 3, 1) := by decide +kernel
theorem dL_die_13 : decode cL_die 13 = .ok (.iconst 1, 1) := by decide +kernel
theorem dL_die_14 : decode cL_die 14 = .ok (.ireturn, 1) := by decide +kernel
theorem dL_die_15 : decode cL_die 15 = .ok (.astore_n 3, 1) := by decide +kernel
theorem dL_die_16 : decode cL_die 16 = .ok (.iconst 2, 1) := by decide +kernel
theorem dL_die_17 : decode cL_die 17 = .ok (.ireturn, 1) := by decide +kernel
theorem dL_die_18 : decode cL_die 18 = .ok (.iconst 0, 1) := by decide +kernel
theorem dL_die_19 : decode cL_die 19 = .ok (.ireturn, 1) := by decide +kernel
set_option maxRecDepth 20000 in
theorem ggL_order_X2_order : GoodIn wsL_order wsX2_order := goodIn_ca (goodIn_ca (goodIn_r _ [7, 8, 9, 10, 11, 12, 13, 6, 14, 15, 16, 17, 18, 19, 20, 21, 22, 23, 24, 25, 26, 27, 28, 29, 30, 31, 32, 33, 34, 35, 36, 37, 38, 39, 40, 41, 42, 43, 44, 45, 46, 47, 48, 49, 50, 51, 52, 53, 54, 55, 56, 57, 58, 59, 60, 61, 62, 63] (by decide +kernel) (by decide +kernel)) (goodIn_sub (fun _ h => List.mem_cons_of_mem _ (List.mem_append_left _ (List.mem_append_right _ h))) (by decide +kernel))) (goodIn_sub (fun _ h => List.mem_cons_of_mem _ (List.mem_append_right _ h)) (by decide +kernel))
set_option maxRecDepth 20000 in
theorem gL_order_X2_order : GoodIn wsL_order (wsV RL 45 RX2 yX2_order wsX2_order) := goodIn_app (goodIn_of _ (by decide +kernel)) ggL_order_X2_order
theorem dL_order_0 : decode cL_order 0 = .ok (.aload 5, 2) := by decide +kernel
theorem dL_order_2 : decode cL_order 2 = .ok (.iconst 0, 1) := by decide +kernel
theorem dL_order_3 : decode cL_order 3 = .ok (.aload_n 0, 1) := by decide +kernel
theorem dL_order_4 : decode cL_order 4 = .ok (.iload_n 1, 1) := by decide +kernel
theorem dL_order_5 : decode cL_order 5 = .ok (.iload_n 2, 1) := by decide +kernel
theorem dL_order_6 : decode cL_order 6 = .ok (.iload_n 3, 1) := by decide +kernel
theorem dL_order_7 : decode cL_order 7 = .ok (.iload 4, 2) := by decide +kernel
theorem dL_order_9 : decode cL_order 9 = .ok (.invokevirtual 45, 3) := by decide +kernel
theorem dL_order_12 : decode cL_order 12 = .ok (.i2l, 1) := by decide +kernel
theorem dL_order_13 : decode cL_order 13 = .ok (.lastore, 1) := by decide +kernel
theorem dL_order_14 : decode cL_order 14 = .ok (.goto 11, 3) := by decide +kernel
theorem dL_order_17 : decode cL_order 17 = .ok (.astore 6, 2) := by decide +kernel
theorem dL_order_19 : decode cL_order 19 = .ok (.iconst 1, 1) := by decide +kernel
theorem dL_order_20 : decode cL_order 20 = .ok (.ireturn, 1) := by decide +kernel
theorem dL_order_21 : decode cL_order 21 = .ok (.astore 6, 2) := by decide +kernel
theorem dL_order_23 : decode cL_order 23 = .ok (.iconst 2, 1) := by decide +kernel
theorem dL_order_24 : decode cL_order 24 = .ok (.ireturn, 1) := by decide +kernel
theorem dL_order_25 : decode cL_order 25 = .ok (.iconst 0, 1) := by decide +kernel
theorem dL_order_26 : decode cL_order 26 = .ok (.ireturn, 1) := by decide +kernel
set_option maxRecDepth 20000 in
theorem ggL_lift_X2_lift : GoodIn wsL_lift wsX2_lift := goodIn_ca (goodIn_ca (goodIn_r _ [7, 8, 9, 10, 11, 12, 13, 14, 15, 16, 17, 18, 19, 20, 21, 22, 23, 24, 25, 26, 27, 28, 29, 30, 31, 32, 33, 34, 35, 36, 37, 38, 39, 40, 41, 42, 43, 44, 45, 46] (by decide +kernel) (by decide +kernel)) (goodIn_sub (fun _ h => List.mem_cons_of_mem _ (List.mem_append_left _ (List.mem_append_right _ h))) (by decide +kernel))) (goodIn_sub (fun _ h => List.mem_cons_of_mem _ (List.mem_append_right _ h)) (by decide +kernel))
set_option maxRecDepth 20000 in
theorem gL_lift_X2_lift : GoodIn wsL_lift (wsV RL 48 RX2 yX2_lift wsX2_lift) := goodIn_app (goodIn_of _ (by decide +kernel)) ggL_lift_X2_lift
theorem dL_lift_0 : decode cL_lift 0 = .ok (.aload_n 2, 1) := by decide +kernel
theorem dL_lift_1 : decode cL_lift 1 = .ok (.iconst 0, 1) := by decide +kernel
theorem dL_lift_2 : decode cL_lift 2 = .ok (.aload_n 0, 1) := by decide +kernel
theorem dL_lift_3 : decode cL_lift 3 = .ok (.iload_n 1, 1) := by decide +kernel
theorem dL_lift_4 : decode cL_lift 4 = .ok (.invokevirtual 48, 3) := by decide +kernel
theorem dL_lift_7 : decode cL_lift 7 = .ok (.ifCond .eq 7, 3) := by decide +kernel
theorem dL_lift_10 : decode cL_lift 10 = .ok (.lconst 1, 1) := by decide +kernel
theorem dL_lift_11 : decode cL_lift 11 = .ok (.goto 4, 3) := by decide +kernel
theorem dL_lift_14 : decode cL_lift 14 = .ok (.lconst 0, 1) := by decide +kernel
theorem dL_lift_15 : decode cL_lift 15 = .ok (.lastore, 1) := by decide +kernel
theorem dL_lift_16 : decode cL_lift 16 = .ok (.goto 9, 3) := by decide +kernel
theorem dL_lift_19 : decode cL_lift 19 = .ok (.astore_n 3, 1) := by decide +kernel
theorem dL_lift_20 : decode cL_lift 20 = .ok (.iconst 1, 1) := by decide +kernel
theorem dL_lift_21 : decode cL_lift 21 = .ok (.ireturn, 1) := by decide +kernel
theorem dL_lift_22 : decode cL_lift 22 = .ok (.astore_n 3, 1) := by decide +kernel
theorem dL_lift_23 : decode cL_lift 23 = .ok (.iconst 2, 1) := by decide +kernel
theorem dL_lift_24 : decode cL_lift 24 = .ok (.ireturn, 1) := by decide +kernel
theorem dL_lift_25 : decode cL_lift 25 = .ok (.iconst 0, 1) := by decide +kernel
theorem dL_lift_26 : decode cL_lift 26 = .ok (.ireturn, 1) := by decide +kernel
set_option maxRecDepth 20000 in
theorem ggL_enter_X2_enter : GoodIn wsL_enter wsX2_enter := goodIn_ca (goodIn_ca (goodIn_r _ [7, 8, 9, 10, 11, 6, 12, 13, 14, 15, 16, 17, 18, 19, 20, 21, 22, 23, 24, 25, 26, 27, 28, 29, 30, 31, 32, 33, 34, 35, 36, 37, 38, 39, 40, 41, 42, 43, 44, 45, 46, 47, 48, 49, 50, 51, 52, 53, 54, 55, 56, 57, 58, 59, 60, 61, 62, 63, 64, 65, 66, 67, 68, 69, 70, 71, 72, 73, 74, 75, 76, 77, 78, 79, 80, 81, 82, 83, 84, 85, 86, 87, 88, 89, 90, 91, 92, 93, 94, 95, 96, 97, 98, 99, 100, 101, 102, 103, 104, 105, 106, 107, 108, 109, 110, 111, 112, 113, 114, 115, 116, 117, 118, 119, 120, 121, 122, 123, 124, 125, 126] (by decide +kernel) (by decide +kernel)) (goodIn_sub (fun _ h => List.mem_cons_of_mem _ (List.mem_append_left _ (List.mem_append_right _ h))) (by decide +kernel))) (goodIn_sub (fun _ h => List.mem_cons_of_mem _ (List.mem_append_right _ h)) (by decide +kernel))
set_option maxRecDepth 20000 in
theorem gL_enter_X2_enter : GoodIn wsL_enter (wsV RL 54 RX2 yX2_enter wsX2_enter) := goodIn_app (goodIn_of _ (by decide +kernel)) ggL_enter_X2_enter
theorem dL_enter_0 : decode cL_enter 0 = .ok (.aload 4, 2) := by decide +kernel
theorem dL_enter_2 : decode cL_enter 2 = .ok (.iconst 0, 1) := by decide +kernel
theorem dL_enter_3 : decode cL_enter 3 = .ok (.aload_n 0, 1) := by decide +kernel
theorem dL_enter_4 : decode cL_enter 4 = .ok (.iload_n 1, 1) := by decide +kernel
theorem dL_enter_5 : decode cL_enter 5 = .ok (.iload_n 2, 1) := by decide +kernel
theorem dL_enter_6 : decode cL_enter 6 = .ok (.iload_n 3, 1) := by decide +kernel
theorem dL_enter_7 : decode cL_enter 7 = .ok (.invokevirtual 54, 3) := by decide +kernel
theorem dL_enter_10 : decode cL_enter 10 = .ok (.i2l, 1) := by decide +kernel
theorem dL_enter_11 : decode cL_enter 11 = .ok (.lastore, 1) := by decide +kernel
theorem dL_enter_12 : decode cL_enter 12 = .ok (.goto 11, 3) := by decide +kernel
theorem dL_enter_15 : decode cL_enter 15 = .ok (.astore 5, 2) := by decide +kernel
theorem dL_enter_17 : decode cL_enter 17 = .ok (.iconst 1, 1) := by decide +kernel
theorem dL_enter_18 : decode cL_enter 18 = .ok (.ireturn, 1) := by decide +kernel
theorem dL_enter_19 : decode cL_enter 19 = .ok (.astore 5, 2) := by decide +kernel
theorem dL_enter_21 : decode cL_enter 21 = .ok (.iconst 2, 1) := by decide +kernel
theorem dL_enter_22 : decode cL_enter 22 = .ok (.ireturn, 1) := by decide +kernel
theorem dL_enter_23 : decode cL_enter 23 = .ok (.iconst 0, 1) := by decide +kernel
theorem dL_enter_24 : decode cL_enter 24 = .ok (.ireturn, 1) := by decide +kernel
set_option maxRecDepth 20000 in
theorem ggL_may_X2_may : GoodIn wsL_may wsX2_may := goodIn_ca (goodIn_r _ [6, 7, 8, 9, 5, 10, 11, 12, 13, 14, 15, 16, 17, 18, 19, 20, 21, 22, 23, 24, 25, 26, 27, 28, 29, 30, 31, 32, 33, 34, 35, 36, 37, 38, 39, 40, 41, 42, 43, 44, 45, 46, 47, 48, 49, 50, 51, 52, 53, 54, 55, 56, 57, 58, 59, 60, 61, 62, 63, 64, 65, 66, 67, 68, 69, 70, 71, 72, 73, 74, 75, 76, 77, 78, 79, 80, 81, 82, 83, 84, 85, 86, 87, 88, 89, 90, 91, 92, 93, 94, 95, 96, 97, 98, 99, 100, 101, 102, 103, 104, 105, 106, 107, 108, 109, 110, 111, 112, 113, 114, 115, 116, 117, 118, 119] (by decide +kernel) (by decide +kernel)) (goodIn_sub (fun _ h => List.mem_cons_of_mem _ (List.mem_append_right _ h)) (by decide +kernel))
set_option maxRecDepth 20000 in
theorem gL_may_X2_may : GoodIn wsL_may (wsV RL 57 RX2 yX2_may wsX2_may) := goodIn_app (goodIn_of _ (by decide +kernel)) ggL_may_X2_may
theorem dL_may_0 : decode cL_may 0 = .ok (.aload_n 3, 1) := by decide +kernel
theorem dL_may_1 : decode cL_may 1 = .ok (.iconst 0, 1) := by decide +kernel
theorem dL_may_2 : decode cL_may 2 = .ok (.aload_n 0, 1) := by decide +kernel
theorem dL_may_3 : decode cL_may 3 = .ok (.iload_n 1, 1) := by decide +kernel
theorem dL_may_4 : decode cL_may 4 = .ok (.iload_n 2, 1) := by decide +kernel
theorem dL_may_5 : decode cL_may 5 = .ok (.invokevirtual 57, 3) := by decide +kernel
theorem dL_may_8 : decode cL_may 8 = .ok (.i2l, 1) := by decide +kernel
theorem dL_may_9 : decode cL_may 9 = .ok (.lastore, 1) := by decide +kernel
theorem dL_may_10 : decode cL_may 10 = .ok (.goto 7, 3) := by decide +kernel
theorem dL_may_13 : decode cL_may 13 = .ok (.astore 4, 2) := by decide +kernel
theorem dL_may_15 : decode cL_may 15 = .ok (.iconst 1, 1) := by decide +kernel
theorem dL_may_16 : decode cL_may 16 = .ok (.ireturn, 1) := by decide +kernel
theorem dL_may_17 : decode cL_may 17 = .ok (.iconst 0, 1) := by decide +kernel
theorem dL_may_18 : decode cL_may 18 = .ok (.ireturn, 1) := by decide +kernel
set_option maxRecDepth 20000 in
theorem ggL_mayAll_X2_mayAll : GoodIn wsL_mayAll wsX2_mayAll := goodIn_ca (goodIn_r _ [6, 7, 8, 9, 5, 10, 11, 12, 13, 14, 15, 16, 17, 18, 19, 20, 21, 22, 23, 24, 25, 26, 27, 28, 29, 30, 31, 32, 33, 34, 35, 36, 37, 38, 39, 40, 41, 42, 43, 44, 45, 46, 47, 48, 49, 50, 51, 52, 53, 54, 55, 56, 57, 58, 59, 60, 61, 62, 63, 64, 65, 66, 67, 68, 69, 70, 71, 72, 73, 74, 75, 76, 77, 78, 79, 80, 81, 82, 83, 84, 85, 86, 87, 88, 89, 90, 91, 92, 93, 94, 95, 96, 97, 98, 99, 100, 101, 102, 103, 104, 105, 106, 107, 108, 109, 110, 111, 112, 113, 114, 115, 116] (by decide +kernel) (by decide +kernel)) (goodIn_sub (fun _ h => List.mem_cons_of_mem _ (List.mem_append_right _ h)) (by decide +kernel))
set_option maxRecDepth 20000 in
theorem gL_mayAll_X2_mayAll : GoodIn wsL_mayAll (wsV RL 60 RX2 yX2_mayAll wsX2_mayAll) := goodIn_app (goodIn_of _ (by decide +kernel)) ggL_mayAll_X2_mayAll
theorem dL_mayAll_0 : decode cL_mayAll 0 = .ok (.aload_n 2, 1) := by decide +kernel
theorem dL_mayAll_1 : decode cL_mayAll 1 = .ok (.iconst 0, 1) := by decide +kernel
theorem dL_mayAll_2 : decode cL_mayAll 2 = .ok (.aload_n 0, 1) := by decide +kernel
theorem dL_mayAll_3 : decode cL_mayAll 3 = .ok (.iload_n 1, 1) := by decide +kernel
theorem dL_mayAll_4 : decode cL_mayAll 4 = .ok (.invokevirtual 60, 3) := by decide +kernel
theorem dL_mayAll_7 : decode cL_mayAll 7 = .ok (.i2l, 1) := by decide +kernel
theorem dL_mayAll_8 : decode cL_mayAll 8 = .ok (.lastore, 1) := by decide +kernel
theorem dL_mayAll_9 : decode cL_mayAll 9 = .ok (.goto 6, 3) := by decide +kernel
theorem dL_mayAll_12 : decode cL_mayAll 12 = .ok (.astore_n 3, 1) := by decide +kernel
theorem dL_mayAll_13 : decode cL_mayAll 13 = .ok (.iconst 1, 1) := by decide +kernel
theorem dL_mayAll_14 : decode cL_mayAll 14 = .ok (.ireturn, 1) := by decide +kernel
theorem dL_mayAll_15 : decode cL_mayAll 15 = .ok (.iconst 0, 1) := by decide +kernel
theorem dL_mayAll_16 : decode cL_mayAll 16 = .ok (.ireturn, 1) := by decide +kernel
set_option maxRecDepth 20000 in
theorem ggL_holder_X2_holder : GoodIn wsL_holder wsX2_holder := goodIn_ca (goodIn_r _ [6, 7, 8, 9, 5, 10, 11, 12, 13, 14, 15, 16, 17, 18, 19, 20, 21, 22, 23, 24, 25, 26, 27, 28, 29, 30, 31, 32] (by decide +kernel) (by decide +kernel)) (goodIn_sub (fun _ h => List.mem_cons_of_mem _ (List.mem_append_right _ h)) (by decide +kernel))
set_option maxRecDepth 20000 in
theorem gL_holder_X2_holder : GoodIn wsL_holder (wsV RL 63 RX2 yX2_holder wsX2_holder) := goodIn_app (goodIn_of _ (by decide +kernel)) ggL_holder_X2_holder
theorem dL_holder_0 : decode cL_holder 0 = .ok (.aload_n 2, 1) := by decide +kernel
theorem dL_holder_1 : decode cL_holder 1 = .ok (.iconst 0, 1) := by decide +kernel
theorem dL_holder_2 : decode cL_holder 2 = .ok (.aload_n 0, 1) := by decide +kernel
theorem dL_holder_3 : decode cL_holder 3 = .ok (.iload_n 1, 1) := by decide +kernel
theorem dL_holder_4 : decode cL_holder 4 = .ok (.invokevirtual 63, 3) := by decide +kernel
theorem dL_holder_7 : decode cL_holder 7 = .ok (.i2l, 1) := by decide +kernel
theorem dL_holder_8 : decode cL_holder 8 = .ok (.lastore, 1) := by decide +kernel
theorem dL_holder_9 : decode cL_holder 9 = .ok (.goto 6, 3) := by decide +kernel
theorem dL_holder_12 : decode cL_holder 12 = .ok (.astore_n 3, 1) := by decide +kernel
theorem dL_holder_13 : decode cL_holder 13 = .ok (.iconst 1, 1) := by decide +kernel
theorem dL_holder_14 : decode cL_holder 14 = .ok (.ireturn, 1) := by decide +kernel
theorem dL_holder_15 : decode cL_holder 15 = .ok (.iconst 0, 1) := by decide +kernel
theorem dL_holder_16 : decode cL_holder 16 = .ok (.ireturn, 1) := by decide +kernel
set_option maxRecDepth 20000 in
theorem ggL_notices_X2_notices : GoodIn wsL_notices wsX2_notices := goodIn_ca (goodIn_r _ [6, 7, 8, 9, 10, 5, 11, 12, 13, 14, 15, 16, 17, 18, 19, 20, 21, 22, 23, 24, 25, 26, 27, 28, 29, 30, 31, 32, 33, 34, 35, 36, 37, 38, 39, 40, 41, 42, 43, 44, 45, 46, 47, 48, 49, 50, 51, 52, 53] (by decide +kernel) (by decide +kernel)) (goodIn_sub (fun _ h => List.mem_cons_of_mem _ (List.mem_append_right _ h)) (by decide +kernel))
set_option maxRecDepth 20000 in
theorem gL_notices_X2_notices : GoodIn wsL_notices (wsV RL 66 RX2 yX2_notices wsX2_notices) := goodIn_app (goodIn_of _ (by decide +kernel)) ggL_notices_X2_notices
theorem dL_notices_0 : decode cL_notices 0 = .ok (.aload_n 2, 1) := by decide +kernel
theorem dL_notices_1 : decode cL_notices 1 = .ok (.iconst 0, 1) := by decide +kernel
theorem dL_notices_2 : decode cL_notices 2 = .ok (.aload_n 0, 1) := by decide +kernel
theorem dL_notices_3 : decode cL_notices 3 = .ok (.iload_n 1, 1) := by decide +kernel
theorem dL_notices_4 : decode cL_notices 4 = .ok (.invokevirtual 66, 3) := by decide +kernel
theorem dL_notices_7 : decode cL_notices 7 = .ok (.i2l, 1) := by decide +kernel
theorem dL_notices_8 : decode cL_notices 8 = .ok (.lastore, 1) := by decide +kernel
theorem dL_notices_9 : decode cL_notices 9 = .ok (.goto 6, 3) := by decide +kernel
theorem dL_notices_12 : decode cL_notices 12 = .ok (.astore_n 3, 1) := by decide +kernel
theorem dL_notices_13 : decode cL_notices 13 = .ok (.iconst 1, 1) := by decide +kernel
theorem dL_notices_14 : decode cL_notices 14 = .ok (.ireturn, 1) := by decide +kernel
theorem dL_notices_15 : decode cL_notices 15 = .ok (.iconst 0, 1) := by decide +kernel
theorem dL_notices_16 : decode cL_notices 16 = .ok (.ireturn, 1) := by decide +kernel
set_option maxRecDepth 20000 in
theorem ggL_refusals_X2_refusals : GoodIn wsL_refusals wsX2_refusals := goodIn_ca (goodIn_r _ [6, 7, 8, 9, 5, 10, 11, 12, 13, 14, 15, 16, 17, 18, 19, 20, 21] (by decide +kernel) (by decide +kernel)) (goodIn_sub (fun _ h => List.mem_cons_of_mem _ (List.mem_append_right _ h)) (by decide +kernel))
set_option maxRecDepth 20000 in
theorem gL_refusals_X2_refusals : GoodIn wsL_refusals (wsV RL 69 RX2 yX2_refusals wsX2_refusals) := goodIn_app (goodIn_of _ (by decide +kernel)) ggL_refusals_X2_refusals
theorem dL_refusals_0 : decode cL_refusals 0 = .ok (.aload_n 2, 1) := by decide +kernel
theorem dL_refusals_1 : decode cL_refusals 1 = .ok (.iconst 0, 1) := by decide +kernel
theorem dL_refusals_2 : decode cL_refusals 2 = .ok (.aload_n 0, 1) := by decide +kernel
theorem dL_refusals_3 : decode cL_refusals 3 = .ok (.iload_n 1, 1) := by decide +kernel
theorem dL_refusals_4 : decode cL_refusals 4 = .ok (.invokevirtual 69, 3) := by decide +kernel
theorem dL_refusals_7 : decode cL_refusals 7 = .ok (.i2l, 1) := by decide +kernel
theorem dL_refusals_8 : decode cL_refusals 8 = .ok (.lastore, 1) := by decide +kernel
theorem dL_refusals_9 : decode cL_refusals 9 = .ok (.goto 6, 3) := by decide +kernel
theorem dL_refusals_12 : decode cL_refusals 12 = .ok (.astore_n 3, 1) := by decide +kernel
theorem dL_refusals_13 : decode cL_refusals 13 = .ok (.iconst 1, 1) := by decide +kernel
theorem dL_refusals_14 : decode cL_refusals 14 = .ok (.ireturn, 1) := by decide +kernel
theorem dL_refusals_15 : decode cL_refusals 15 = .ok (.iconst 0, 1) := by decide +kernel
theorem dL_refusals_16 : decode cL_refusals 16 = .ok (.ireturn, 1) := by decide +kernel
set_option maxRecDepth 20000 in
theorem ggL_binding_X2_binding : GoodIn wsL_binding wsX2_binding := goodIn_ca (goodIn_r _ [6, 7, 8, 9, 5, 10, 11, 12, 13, 14, 15, 16, 17, 18, 19, 20, 21, 22, 23, 24, 25, 26, 27, 28, 29, 30, 31, 32] (by decide +kernel) (by decide +kernel)) (goodIn_sub (fun _ h => List.mem_cons_of_mem _ (List.mem_append_right _ h)) (by decide +kernel))
set_option maxRecDepth 20000 in
theorem gL_binding_X2_binding : GoodIn wsL_binding (wsV RL 72 RX2 yX2_binding wsX2_binding) := goodIn_app (goodIn_of _ (by decide +kernel)) ggL_binding_X2_binding
theorem dL_binding_0 : decode cL_binding 0 = .ok (.aload_n 2, 1) := by decide +kernel
theorem dL_binding_1 : decode cL_binding 1 = .ok (.iconst 0, 1) := by decide +kernel
theorem dL_binding_2 : decode cL_binding 2 = .ok (.aload_n 0, 1) := by decide +kernel
theorem dL_binding_3 : decode cL_binding 3 = .ok (.iload_n 1, 1) := by decide +kernel
theorem dL_binding_4 : decode cL_binding 4 = .ok (.invokevirtual 72, 3) := by decide +kernel
theorem dL_binding_7 : decode cL_binding 7 = .ok (.i2l, 1) := by decide +kernel
theorem dL_binding_8 : decode cL_binding 8 = .ok (.lastore, 1) := by decide +kernel
theorem dL_binding_9 : decode cL_binding 9 = .ok (.goto 6, 3) := by decide +kernel
theorem dL_binding_12 : decode cL_binding 12 = .ok (.astore_n 3, 1) := by decide +kernel
theorem dL_binding_13 : decode cL_binding 13 = .ok (.iconst 1, 1) := by decide +kernel
theorem dL_binding_14 : decode cL_binding 14 = .ok (.ireturn, 1) := by decide +kernel
theorem dL_binding_15 : decode cL_binding 15 = .ok (.iconst 0, 1) := by decide +kernel
theorem dL_binding_16 : decode cL_binding 16 = .ok (.ireturn, 1) := by decide +kernel

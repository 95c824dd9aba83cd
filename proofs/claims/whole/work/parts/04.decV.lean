theorem inlX0 : ∀ w ∈ wsX00, w ∈ wsL_law := fun _ h => List.mem_append_left _ (List.mem_append_left _ (List.mem_append_left _ (List.mem_append_left _ (List.mem_append_right _ h))))
theorem inX0 : ∀ w ∈ wsX00, w ∈ lw_tbl := fun w h => wsL_law_in w (inlX0 w h)
theorem inlX1 : ∀ w ∈ wsX10, w ∈ wsL_law := fun _ h => List.mem_append_left _ (List.mem_append_left _ (List.mem_append_left _ (List.mem_append_left _ (List.mem_append_left _ (List.mem_append_right _ h)))))
theorem inX1 : ∀ w ∈ wsX10, w ∈ lw_tbl := fun w h => wsL_law_in w (inlX1 w h)
theorem inlX2 : ∀ w ∈ wsX20, w ∈ wsL_law := fun _ h => List.mem_append_left _ (List.mem_append_left _ (List.mem_append_left _ (List.mem_append_left _ (List.mem_append_left _ (List.mem_append_left _ (List.mem_append_left _ (List.mem_append_right _ h)))))))
theorem inX2 : ∀ w ∈ wsX20, w ∈ lw_tbl := fun w h => wsL_law_in w (inlX2 w h)
theorem inlX3 : ∀ w ∈ wsX30, w ∈ wsL_law := fun _ h => List.mem_append_left _ (List.mem_append_left _ (List.mem_append_left _ (List.mem_append_left _ (List.mem_append_left _ (List.mem_append_left _ (List.mem_append_right _ h))))))
theorem inX3 : ∀ w ∈ wsX30, w ∈ lw_tbl := fun w h => wsL_law_in w (inlX3 w h)
theorem inJ9 : ∀ w ∈ wsJ90, w ∈ lw_tbl := by decide +kernel
theorem inJ0 : ∀ w ∈ wsJ00, w ∈ lw_tbl := by decide +kernel
theorem dX0_init_0 : decode cX0_init 0 = .ok (.aload_n 0, 1) := by decide +kernel
theorem dX0_init_1 : decode cX0_init 1 = .ok (.invokespecial 3, 3) := by decide +kernel
theorem dX0_init_4 : decode cX0_init 4 = .ok (.aload_n 0, 1) := by decide +kernel
theorem dX0_init_5 : decode cX0_init 5 = .ok (.iconst 0, 1) := by decide +kernel
theorem dX0_init_6 : decode cX0_init 6 = .ok (.putfield 11, 3) := by decide +kernel
theorem dX0_init_9 : decode cX0_init 9 = .ok (.aload_n 0, 1) := by decide +kernel
theorem dX0_init_10 : decode cX0_init 10 = .ok (.iconst (-1), 1) := by decide +kernel
theorem dX0_init_11 : decode cX0_init 11 = .ok (.putfield 15, 3) := by decide +kernel
theorem dX0_init_14 : decode cX0_init 14 = .ok (.aload_n 0, 1) := by decide +kernel
theorem dX0_init_15 : decode cX0_init 15 = .ok (.iconst 0, 1) := by decide +kernel
theorem dX0_init_16 : decode cX0_init 16 = .ok (.putfield 18, 3) := by decide +kernel
theorem dX0_init_19 : decode cX0_init 19 = .ok (.aload_n 0, 1) := by decide +kernel
theorem dX0_init_20 : decode cX0_init 20 = .ok (.iconst 0, 1) := by decide +kernel
theorem dX0_init_21 : decode cX0_init 21 = .ok (.putfield 21, 3) := by decide +kernel
theorem dX0_init_24 : decode cX0_init 24 = .ok (.aload_n 0, 1) := by decide +kernel
theorem dX0_init_25 : decode cX0_init 25 = .ok (.iconst 0, 1) := by decide +kernel
theorem dX0_init_26 : decode cX0_init 26 = .ok (.putfield 24, 3) := by decide +kernel
theorem dX0_init_29 : decode cX0_init 29 = .ok (.aload_n 0, 1) := by decide +kernel
theorem dX0_init_30 : decode cX0_init 30 = .ok (.iconst 0, 1) := by decide +kernel
theorem dX0_init_31 : decode cX0_init 31 = .ok (.putfield 27, 3) := by decide +kernel
theorem dX0_init_34 : decode cX0_init 34 = .ok (.aload_n 0, 1) := by decide +kernel
theorem dX0_init_35 : decode cX0_init 35 = .ok (.iconst 0, 1) := by decide +kernel
theorem dX0_init_36 : decode cX0_init 36 = .ok (.putfield 31, 3) := by decide +kernel
theorem dX0_init_39 : decode cX0_init 39 = .ok (.aload_n 0, 1) := by decide +kernel
theorem dX0_init_40 : decode cX0_init 40 = .ok (.iconst 5, 1) := by decide +kernel
theorem dX0_init_41 : decode cX0_init 41 = .ok (.newarray .int, 2) := by decide +kernel
theorem dX0_init_43 : decode cX0_init 43 = .ok (.putfield 34, 3) := by decide +kernel
theorem dX0_init_46 : decode cX0_init 46 = .ok (.aload_n 0, 1) := by decide +kernel
theorem dX0_init_47 : decode cX0_init 47 = .ok (.iconst 5, 1) := by decide +kernel
theorem dX0_init_48 : decode cX0_init 48 = .ok (.newarray .int, 2) := by decide +kernel
theorem dX0_init_50 : decode cX0_init 50 = .ok (.putfield 38, 3) := by decide +kernel
theorem dX0_init_53 : decode cX0_init 53 = .ok (.aload_n 0, 1) := by decide +kernel
theorem dX0_init_54 : decode cX0_init 54 = .ok (.iconst 5, 1) := by decide +kernel
theorem dX0_init_55 : decode cX0_init 55 = .ok (.newarray .int, 2) := by decide +kernel
theorem dX0_init_57 : decode cX0_init 57 = .ok (.putfield 41, 3) := by decide +kernel
theorem dX0_init_60 : decode cX0_init 60 = .ok (.return_, 1) := by decide +kernel
theorem dX0_isFree_0 : decode cX0_isFree 0 = .ok (.aload_n 0, 1) := by decide +kernel
theorem dX0_isFree_1 : decode cX0_isFree 1 = .ok (.getfield 11, 3) := by decide +kernel
theorem dX0_isFree_4 : decode cX0_isFree 4 = .ok (.ifCond .ne 7, 3) := by decide +kernel
theorem dX0_isFree_7 : decode cX0_isFree 7 = .ok (.iconst 1, 1) := by decide +kernel
theorem dX0_isFree_8 : decode cX0_isFree 8 = .ok (.goto 4, 3) := by decide +kernel
theorem dX0_isFree_11 : decode cX0_isFree 11 = .ok (.iconst 0, 1) := by decide +kernel
theorem dX0_isFree_12 : decode cX0_isFree 12 = .ok (.ireturn, 1) := by decide +kernel
theorem dX0_isRented_0 : decode cX0_isRented 0 = .ok (.aload_n 0, 1) := by decide +kernel
theorem dX0_isRented_1 : decode cX0_isRented 1 = .ok (.getfield 11, 3) := by decide +kernel
theorem dX0_isRented_4 : decode cX0_isRented 4 = .ok (.iconst 1, 1) := by decide +kernel
theorem dX0_isRented_5 : decode cX0_isRented 5 = .ok (.if_icmp .ne 7, 3) := by decide +kernel
theorem dX0_isRented_8 : decode cX0_isRented 8 = .ok (.iconst 1, 1) := by decide +kernel
theorem dX0_isRented_9 : decode cX0_isRented 9 = .ok (.goto 4, 3) := by decide +kernel
theorem dX0_isRented_12 : decode cX0_isRented 12 = .ok (.iconst 0, 1) := by decide +kernel
theorem dX0_isRented_13 : decode cX0_isRented 13 = .ok (.ireturn, 1) := by decide +kernel
theorem dX0_startRent_0 : decode cX0_startRent 0 = .ok (.aload_n 0, 1) := by decide +kernel
theorem dX0_startRent_1 : decode cX0_startRent 1 = .ok (.iconst 1, 1) := by decide +kernel
theorem dX0_startRent_2 : decode cX0_startRent 2 = .ok (.putfield 11, 3) := by decide +kernel
theorem dX0_startRent_5 : decode cX0_startRent 5 = .ok (.aload_n 0, 1) := by decide +kernel
theorem dX0_startRent_6 : decode cX0_startRent 6 = .ok (.iload_n 1, 1) := by decide +kernel
theorem dX0_startRent_7 : decode cX0_startRent 7 = .ok (.putfield 15, 3) := by decide +kernel
theorem dX0_startRent_10 : decode cX0_startRent 10 = .ok (.aload_n 0, 1) := by decide +kernel
theorem dX0_startRent_11 : decode cX0_startRent 11 = .ok (.iload_n 2, 1) := by decide +kernel
theorem dX0_startRent_12 : decode cX0_startRent 12 = .ok (.putfield 18, 3) := by decide +kernel
theorem dX0_startRent_15 : decode cX0_startRent 15 = .ok (.aload_n 0, 1) := by decide +kernel
theorem dX0_startRent_16 : decode cX0_startRent 16 = .ok (.iconst 0, 1) := by decide +kernel
theorem dX0_startRent_17 : decode cX0_startRent 17 = .ok (.putfield 24, 3) := by decide +kernel
theorem dX0_startRent_20 : decode cX0_startRent 20 = .ok (.aload_n 0, 1) := by decide +kernel
theorem dX0_startRent_21 : decode cX0_startRent 21 = .ok (.iconst 0, 1) := by decide +kernel
theorem dX0_startRent_22 : decode cX0_startRent 22 = .ok (.putfield 27, 3) := by decide +kernel
theorem dX0_startRent_25 : decode cX0_startRent 25 = .ok (.return_, 1) := by decide +kernel
set_option maxRecDepth 20000 in
theorem ggX0_breakOpen_X0_overdueOn : GoodIn wsX0_breakOpen wsX0_overdueOn := goodIn_r _ [7, 8, 9, 10, 11, 12, 13, 14, 15, 16, 17, 18, 19, 20, 21, 22] (by decide +kernel) (by decide +kernel)
set_option maxRecDepth 20000 in
theorem gX0_breakOpen_X0_overdueOn : GoodIn wsX0_breakOpen (wsV RX0 44 RX0 yX0_overdueOn wsX0_overdueOn) := goodIn_app (goodIn_of _ (by decide +kernel)) ggX0_breakOpen_X0_overdueOn
theorem dX0_breakOpen_0 : decode cX0_breakOpen 0 = .ok (.aload_n 0, 1) := by decide +kernel
theorem dX0_breakOpen_1 : decode cX0_breakOpen 1 = .ok (.iconst 2, 1) := by decide +kernel
theorem dX0_breakOpen_2 : decode cX0_breakOpen 2 = .ok (.putfield 11, 3) := by decide +kernel
theorem dX0_breakOpen_5 : decode cX0_breakOpen 5 = .ok (.aload_n 0, 1) := by decide +kernel
theorem dX0_breakOpen_6 : decode cX0_breakOpen 6 = .ok (.aload_n 0, 1) := by decide +kernel
theorem dX0_breakOpen_7 : decode cX0_breakOpen 7 = .ok (.iload_n 1, 1) := by decide +kernel
theorem dX0_breakOpen_8 : decode cX0_breakOpen 8 = .ok (.invokevirtual 44, 3) := by decide +kernel
theorem dX0_breakOpen_11 : decode cX0_breakOpen 11 = .ok (.putfield 21, 3) := by decide +kernel
theorem dX0_breakOpen_14 : decode cX0_breakOpen 14 = .ok (.return_, 1) := by decide +kernel
set_option maxRecDepth 20000 in
theorem ggX0_empty_X0_endProxies : GoodIn wsX0_empty wsX0_endProxies := goodIn_r _ [7, 8, 9, 10, 11, 12, 13, 14, 15, 16, 17, 18] (by decide +kernel) (by decide +kernel)
set_option maxRecDepth 20000 in
theorem gX0_empty_X0_endProxies : GoodIn wsX0_empty (wsV RX0 48 RX0 yX0_endProxies wsX0_endProxies) := goodIn_app (goodIn_of _ (by decide +kernel)) ggX0_empty_X0_endProxies
theorem dX0_empty_0 : decode cX0_empty 0 = .ok (.aload_n 0, 1) := by decide +kernel
theorem dX0_empty_1 : decode cX0_empty 1 = .ok (.iconst 0, 1) := by decide +kernel
theorem dX0_empty_2 : decode cX0_empty 2 = .ok (.putfield 11, 3) := by decide +kernel
theorem dX0_empty_5 : decode cX0_empty 5 = .ok (.aload_n 0, 1) := by decide +kernel
theorem dX0_empty_6 : decode cX0_empty 6 = .ok (.iconst (-1), 1) := by decide +kernel
theorem dX0_empty_7 : decode cX0_empty 7 = .ok (.putfield 15, 3) := by decide +kernel
theorem dX0_empty_10 : decode cX0_empty 10 = .ok (.aload_n 0, 1) := by decide +kernel
theorem dX0_empty_11 : decode cX0_empty 11 = .ok (.invokevirtual 48, 3) := by decide +kernel
theorem dX0_empty_14 : decode cX0_empty 14 = .ok (.return_, 1) := by decide +kernel
theorem dX0_overdueOn_0 : decode cX0_overdueOn 0 = .ok (.iconst 0, 1) := by decide +kernel
theorem dX0_overdueOn_1 : decode cX0_overdueOn 1 = .ok (.iload_n 1, 1) := by decide +kernel
theorem dX0_overdueOn_2 : decode cX0_overdueOn 2 = .ok (.aload_n 0, 1) := by decide +kernel
theorem dX0_overdueOn_3 : decode cX0_overdueOn 3 = .ok (.getfield 18, 3) := by decide +kernel
theorem dX0_overdueOn_6 : decode cX0_overdueOn 6 = .ok (.isub, 1) := by decide +kernel
theorem dX0_overdueOn_7 : decode cX0_overdueOn 7 = .ok (.invokestatic 51, 3) := by decide +kernel
theorem dX0_overdueOn_10 : decode cX0_overdueOn 10 = .ok (.ireturn, 1) := by decide +kernel
set_option maxRecDepth 20000 in
theorem ggX0_noticesOn_X0_overdueOn : GoodIn wsX0_noticesOn wsX0_overdueOn := goodIn_r _ [9, 10, 11, 12, 3, 13, 14, 15, 16, 17, 18, 19, 20, 21, 22, 23] (by decide +kernel) (by decide +kernel)
set_option maxRecDepth 20000 in
theorem gX0_noticesOn_X0_overdueOn : GoodIn wsX0_noticesOn (wsV RX0 44 RX0 yX0_overdueOn wsX0_overdueOn) := goodIn_app (goodIn_of _ (by decide +kernel)) ggX0_noticesOn_X0_overdueOn
theorem dX0_noticesOn_0 : decode cX0_noticesOn 0 = .ok (.iconst 3, 1) := by decide +kernel
theorem dX0_noticesOn_1 : decode cX0_noticesOn 1 = .ok (.aload_n 0, 1) := by decide +kernel
theorem dX0_noticesOn_2 : decode cX0_noticesOn 2 = .ok (.iload_n 1, 1) := by decide +kernel
theorem dX0_noticesOn_3 : decode cX0_noticesOn 3 = .ok (.invokevirtual 44, 3) := by decide +kernel
theorem dX0_noticesOn_6 : decode cX0_noticesOn 6 = .ok (.bipush 30, 2) := by decide +kernel
theorem dX0_noticesOn_8 : decode cX0_noticesOn 8 = .ok (.idiv, 1) := by decide +kernel
theorem dX0_noticesOn_9 : decode cX0_noticesOn 9 = .ok (.invokestatic 57, 3) := by decide +kernel
theorem dX0_noticesOn_12 : decode cX0_noticesOn 12 = .ok (.ireturn, 1) := by decide +kernel
theorem dX0_addProxy_0 : decode cX0_addProxy 0 = .ok (.aload_n 0, 1) := by decide +kernel
theorem dX0_addProxy_1 : decode cX0_addProxy 1 = .ok (.getfield 31, 3) := by decide +kernel
theorem dX0_addProxy_4 : decode cX0_addProxy 4 = .ok (.ifCond .lt 11, 3) := by decide +kernel
theorem dX0_addProxy_7 : decode cX0_addProxy 7 = .ok (.aload_n 0, 1) := by decide +kernel
theorem dX0_addProxy_8 : decode cX0_addProxy 8 = .ok (.getfield 31, 3) := by decide +kernel
theorem dX0_addProxy_11 : decode cX0_addProxy 11 = .ok (.iconst 5, 1) := by decide +kernel
theorem dX0_addProxy_12 : decode cX0_addProxy 12 = .ok (.if_icmp .lt 4, 3) := by decide +kernel
theorem dX0_addProxy_15 : decode cX0_addProxy 15 = .ok (.return_, 1) := by decide +kernel
theorem dX0_addProxy_16 : decode cX0_addProxy 16 = .ok (.aload_n 0, 1) := by decide +kernel
theorem dX0_addProxy_17 : decode cX0_addProxy 17 = .ok (.getfield 34, 3) := by decide +kernel
theorem dX0_addProxy_20 : decode cX0_addProxy 20 = .ok (.aload_n 0, 1) := by decide +kernel
theorem dX0_addProxy_21 : decode cX0_addProxy 21 = .ok (.getfield 31, 3) := by decide +kernel
theorem dX0_addProxy_24 : decode cX0_addProxy 24 = .ok (.iload_n 1, 1) := by decide +kernel
theorem dX0_addProxy_25 : decode cX0_addProxy 25 = .ok (.iastore, 1) := by decide +kernel
theorem dX0_addProxy_26 : decode cX0_addProxy 26 = .ok (.aload_n 0, 1) := by decide +kernel
theorem dX0_addProxy_27 : decode cX0_addProxy 27 = .ok (.getfield 38, 3) := by decide +kernel
theorem dX0_addProxy_30 : decode cX0_addProxy 30 = .ok (.aload_n 0, 1) := by decide +kernel
theorem dX0_addProxy_31 : decode cX0_addProxy 31 = .ok (.getfield 31, 3) := by decide +kernel
theorem dX0_addProxy_34 : decode cX0_addProxy 34 = .ok (.iload_n 2, 1) := by decide +kernel
theorem dX0_addProxy_35 : decode cX0_addProxy 35 = .ok (.iastore, 1) := by decide +kernel
theorem dX0_addProxy_36 : decode cX0_addProxy 36 = .ok (.aload_n 0, 1) := by decide +kernel
theorem dX0_addProxy_37 : decode cX0_addProxy 37 = .ok (.getfield 41, 3) := by decide +kernel
theorem dX0_addProxy_40 : decode cX0_addProxy 40 = .ok (.aload_n 0, 1) := by decide +kernel
theorem dX0_addProxy_41 : decode cX0_addProxy 41 = .ok (.getfield 31, 3) := by decide +kernel
theorem dX0_addProxy_44 : decode cX0_addProxy 44 = .ok (.iload_n 3, 1) := by decide +kernel
theorem dX0_addProxy_45 : decode cX0_addProxy 45 = .ok (.iastore, 1) := by decide +kernel
theorem dX0_addProxy_46 : decode cX0_addProxy 46 = .ok (.aload_n 0, 1) := by decide +kernel
theorem dX0_addProxy_47 : decode cX0_addProxy 47 = .ok (.dup, 1) := by decide +kernel
theorem dX0_addProxy_48 : decode cX0_addProxy 48 = .ok (.getfield 31, 3) := by decide +kernel
theorem dX0_addProxy_51 : decode cX0_addProxy 51 = .ok (.iconst 1, 1) := by decide +kernel
theorem dX0_addProxy_52 : decode cX0_addProxy 52 = .ok (.iadd, 1) := by decide +kernel
theorem dX0_addProxy_53 : decode cX0_addProxy 53 = .ok (.putfield 31, 3) := by decide +kernel
theorem dX0_addProxy_56 : decode cX0_addProxy 56 = .ok (.return_, 1) := by decide +kernel
theorem dX0_endProxies_0 : decode cX0_endProxies 0 = .ok (.aload_n 0, 1) := by decide +kernel
theorem dX0_endProxies_1 : decode cX0_endProxies 1 = .ok (.iconst 0, 1) := by decide +kernel
theorem dX0_endProxies_2 : decode cX0_endProxies 2 = .ok (.putfield 31, 3) := by decide +kernel
theorem dX0_endProxies_5 : decode cX0_endProxies 5 = .ok (.return_, 1) := by decide +kernel
theorem dX0_hasProxyOn_0 : decode cX0_hasProxyOn 0 = .ok (.iconst 0, 1) := by decide +kernel
theorem dX0_hasProxyOn_1 : decode cX0_hasProxyOn 1 = .ok (.istore_n 3, 1) := by decide +kernel
theorem dX0_hasProxyOn_2 : decode cX0_hasProxyOn 2 = .ok (.iload_n 3, 1) := by decide +kernel
theorem dX0_hasProxyOn_3 : decode cX0_hasProxyOn 3 = .ok (.aload_n 0, 1) := by decide +kernel
theorem dX0_hasProxyOn_4 : decode cX0_hasProxyOn 4 = .ok (.getfield 31, 3) := by decide +kernel
theorem dX0_hasProxyOn_7 : decode cX0_hasProxyOn 7 = .ok (.if_icmp .ge 46, 3) := by decide +kernel
theorem dX0_hasProxyOn_10 : decode cX0_hasProxyOn 10 = .ok (.iload_n 3, 1) := by decide +kernel
theorem dX0_hasProxyOn_11 : decode cX0_hasProxyOn 11 = .ok (.iconst 5, 1) := by decide +kernel
theorem dX0_hasProxyOn_12 : decode cX0_hasProxyOn 12 = .ok (.if_icmp .ge 41, 3) := by decide +kernel
theorem dX0_hasProxyOn_15 : decode cX0_hasProxyOn 15 = .ok (.aload_n 0, 1) := by decide +kernel
theorem dX0_hasProxyOn_16 : decode cX0_hasProxyOn 16 = .ok (.getfield 34, 3) := by decide +kernel
theorem dX0_hasProxyOn_19 : decode cX0_hasProxyOn 19 = .ok (.iload_n 3, 1) := by decide +kernel
theorem dX0_hasProxyOn_20 : decode cX0_hasProxyOn 20 = .ok (.iaload, 1) := by decide +kernel
theorem dX0_hasProxyOn_21 : decode cX0_hasProxyOn 21 = .ok (.iload_n 2, 1) := by decide +kernel
theorem dX0_hasProxyOn_22 : decode cX0_hasProxyOn 22 = .ok (.if_icmp .ne 25, 3) := by decide +kernel
theorem dX0_hasProxyOn_25 : decode cX0_hasProxyOn 25 = .ok (.aload_n 0, 1) := by decide +kernel
theorem dX0_hasProxyOn_26 : decode cX0_hasProxyOn 26 = .ok (.getfield 38, 3) := by decide +kernel
theorem dX0_hasProxyOn_29 : decode cX0_hasProxyOn 29 = .ok (.iload_n 3, 1) := by decide +kernel
theorem dX0_hasProxyOn_30 : decode cX0_hasProxyOn 30 = .ok (.iaload, 1) := by decide +kernel
theorem dX0_hasProxyOn_31 : decode cX0_hasProxyOn 31 = .ok (.iload_n 1, 1) := by decide +kernel
theorem dX0_hasProxyOn_32 : decode cX0_hasProxyOn 32 = .ok (.if_icmp .gt 15, 3) := by decide +kernel
theorem dX0_hasProxyOn_35 : decode cX0_hasProxyOn 35 = .ok (.iload_n 1, 1) := by decide +kernel
theorem dX0_hasProxyOn_36 : decode cX0_hasProxyOn 36 = .ok (.aload_n 0, 1) := by decide +kernel
theorem dX0_hasProxyOn_37 : decode cX0_hasProxyOn 37 = .ok (.getfield 41, 3) := by decide +kernel
theorem dX0_hasProxyOn_40 : decode cX0_hasProxyOn 40 = .ok (.iload_n 3, 1) := by decide +kernel
theorem dX0_hasProxyOn_41 : decode cX0_hasProxyOn 41 = .ok (.iaload, 1) := by decide +kernel
theorem dX0_hasProxyOn_42 : decode cX0_hasProxyOn 42 = .ok (.if_icmp .gt 5, 3) := by decide +kernel
theorem dX0_hasProxyOn_45 : decode cX0_hasProxyOn 45 = .ok (.iconst 1, 1) := by decide +kernel
theorem dX0_hasProxyOn_46 : decode cX0_hasProxyOn 46 = .ok (.ireturn, 1) := by decide +kernel
theorem dX0_hasProxyOn_47 : decode cX0_hasProxyOn 47 = .ok (.iinc 3 1, 3) := by decide +kernel
theorem dX0_hasProxyOn_50 : decode cX0_hasProxyOn 50 = .ok (.goto (-48), 3) := by decide +kernel
theorem dX0_hasProxyOn_53 : decode cX0_hasProxyOn 53 = .ok (.iconst 0, 1) := by decide +kernel
theorem dX0_hasProxyOn_54 : decode cX0_hasProxyOn 54 = .ok (.ireturn, 1) := by decide +kernel
theorem dX1_init_0 : decode cX1_init 0 = .ok (.aload_n 0, 1) := by decide +kernel
theorem dX1_init_1 : decode cX1_init 1 = .ok (.invokespecial 3, 3) := by decide +kernel
theorem dX1_init_4 : decode cX1_init 4 = .ok (.aload_n 0, 1) := by decide +kernel
theorem dX1_init_5 : decode cX1_init 5 = .ok (.iconst 0, 1) := by decide +kernel
theorem dX1_init_6 : decode cX1_init 6 = .ok (.putfield 9, 3) := by decide +kernel
theorem dX1_init_9 : decode cX1_init 9 = .ok (.aload_n 0, 1) := by decide +kernel
theorem dX1_init_10 : decode cX1_init 10 = .ok (.bipush 30, 2) := by decide +kernel
theorem dX1_init_12 : decode cX1_init 12 = .ok (.newarray .int, 2) := by decide +kernel
theorem dX1_init_14 : decode cX1_init 14 = .ok (.putfield 15, 3) := by decide +kernel
theorem dX1_init_17 : decode cX1_init 17 = .ok (.aload_n 0, 1) := by decide +kernel
theorem dX1_init_18 : decode cX1_init 18 = .ok (.bipush 30, 2) := by decide +kernel
theorem dX1_init_20 : decode cX1_init 20 = .ok (.newarray .int, 2) := by decide +kernel
theorem dX1_init_22 : decode cX1_init 22 = .ok (.putfield 19, 3) := by decide +kernel
theorem dX1_init_25 : decode cX1_init 25 = .ok (.aload_n 0, 1) := by decide +kernel
theorem dX1_init_26 : decode cX1_init 26 = .ok (.bipush 30, 2) := by decide +kernel
theorem dX1_init_28 : decode cX1_init 28 = .ok (.newarray .int, 2) := by decide +kernel
theorem dX1_init_30 : decode cX1_init 30 = .ok (.putfield 22, 3) := by decide +kernel
theorem dX1_init_33 : decode cX1_init 33 = .ok (.aload_n 0, 1) := by decide +kernel
theorem dX1_init_34 : decode cX1_init 34 = .ok (.bipush 30, 2) := by decide +kernel
theorem dX1_init_36 : decode cX1_init 36 = .ok (.newarray .int, 2) := by decide +kernel
theorem dX1_init_38 : decode cX1_init 38 = .ok (.putfield 25, 3) := by decide +kernel
theorem dX1_init_41 : decode cX1_init 41 = .ok (.aload_n 0, 1) := by decide +kernel
theorem dX1_init_42 : decode cX1_init 42 = .ok (.bipush 30, 2) := by decide +kernel
theorem dX1_init_44 : decode cX1_init 44 = .ok (.newarray .boolean, 2) := by decide +kernel
theorem dX1_init_46 : decode cX1_init 46 = .ok (.putfield 28, 3) := by decide +kernel
theorem dX1_init_49 : decode cX1_init 49 = .ok (.return_, 1) := by decide +kernel
theorem dX1_isFull_0 : decode cX1_isFull 0 = .ok (.aload_n 0, 1) := by decide +kernel
theorem dX1_isFull_1 : decode cX1_isFull 1 = .ok (.getfield 9, 3) := by decide +kernel
theorem dX1_isFull_4 : decode cX1_isFull 4 = .ok (.bipush 30, 2) := by decide +kernel
theorem dX1_isFull_6 : decode cX1_isFull 6 = .ok (.if_icmp .lt 7, 3) := by decide +kernel
theorem dX1_isFull_9 : decode cX1_isFull 9 = .ok (.iconst 1, 1) := by decide +kernel
theorem dX1_isFull_10 : decode cX1_isFull 10 = .ok (.goto 4, 3) := by decide +kernel
theorem dX1_isFull_13 : decode cX1_isFull 13 = .ok (.iconst 0, 1) := by decide +kernel
theorem dX1_isFull_14 : decode cX1_isFull 14 = .ok (.ireturn, 1) := by decide +kernel
theorem dX1_has_0 : decode cX1_has 0 = .ok (.iload_n 1, 1) := by decide +kernel
theorem dX1_has_1 : decode cX1_has 1 = .ok (.ifCond .lt 21, 3) := by decide +kernel
theorem dX1_has_4 : decode cX1_has 4 = .ok (.iload_n 1, 1) := by decide +kernel
theorem dX1_has_5 : decode cX1_has 5 = .ok (.aload_n 0, 1) := by decide +kernel
theorem dX1_has_6 : decode cX1_has 6 = .ok (.getfield 9, 3) := by decide +kernel
theorem dX1_has_9 : decode cX1_has 9 = .ok (.if_icmp .ge 13, 3) := by decide +kernel
theorem dX1_has_12 : decode cX1_has 12 = .ok (.iload_n 1, 1) := by decide +kernel
theorem dX1_has_13 : decode cX1_has 13 = .ok (.bipush 30, 2) := by decide +kernel
theorem dX1_has_15 : decode cX1_has 15 = .ok (.if_icmp .ge 7, 3) := by decide +kernel
theorem dX1_has_18 : decode cX1_has 18 = .ok (.iconst 1, 1) := by decide +kernel
theorem dX1_has_19 : decode cX1_has 19 = .ok (.goto 4, 3) := by decide +kernel
theorem dX1_has_22 : decode cX1_has 22 = .ok (.iconst 0, 1) := by decide +kernel
theorem dX1_has_23 : decode cX1_has 23 = .ok (.ireturn, 1) := by decide +kernel
theorem dX1_add_0 : decode cX1_add 0 = .ok (.aload_n 0, 1) := by decide +kernel
theorem dX1_add_1 : decode cX1_add 1 = .ok (.getfield 9, 3) := by decide +kernel
theorem dX1_add_4 : decode cX1_add 4 = .ok (.ifCond .lt 12, 3) := by decide +kernel
theorem dX1_add_7 : decode cX1_add 7 = .ok (.aload_n 0, 1) := by decide +kernel
theorem dX1_add_8 : decode cX1_add 8 = .ok (.getfield 9, 3) := by decide +kernel
theorem dX1_add_11 : decode cX1_add 11 = .ok (.bipush 30, 2) := by decide +kernel
theorem dX1_add_13 : decode cX1_add 13 = .ok (.if_icmp .lt 5, 3) := by decide +kernel
theorem dX1_add_16 : decode cX1_add 16 = .ok (.iconst (-1), 1) := by decide +kernel
theorem dX1_add_17 : decode cX1_add 17 = .ok (.ireturn, 1) := by decide +kernel
theorem dX1_add_18 : decode cX1_add 18 = .ok (.aload_n 0, 1) := by decide +kernel
theorem dX1_add_19 : decode cX1_add 19 = .ok (.getfield 9, 3) := by decide +kernel
theorem dX1_add_22 : decode cX1_add 22 = .ok (.istore 5, 2) := by decide +kernel
theorem dX1_add_24 : decode cX1_add 24 = .ok (.aload_n 0, 1) := by decide +kernel
theorem dX1_add_25 : decode cX1_add 25 = .ok (.getfield 15, 3) := by decide +kernel
theorem dX1_add_28 : decode cX1_add 28 = .ok (.iload 5, 2) := by decide +kernel
theorem dX1_add_30 : decode cX1_add 30 = .ok (.iload_n 1, 1) := by decide +kernel
theorem dX1_add_31 : decode cX1_add 31 = .ok (.iastore, 1) := by decide +kernel
theorem dX1_add_32 : decode cX1_add 32 = .ok (.aload_n 0, 1) := by decide +kernel
theorem dX1_add_33 : decode cX1_add 33 = .ok (.getfield 19, 3) := by decide +kernel
theorem dX1_add_36 : decode cX1_add 36 = .ok (.iload 5, 2) := by decide +kernel
theorem dX1_add_38 : decode cX1_add 38 = .ok (.iload_n 2, 1) := by decide +kernel
theorem dX1_add_39 : decode cX1_add 39 = .ok (.iastore, 1) := by decide +kernel
theorem dX1_add_40 : decode cX1_add 40 = .ok (.aload_n 0, 1) := by decide +kernel
theorem dX1_add_41 : decode cX1_add 41 = .ok (.getfield 22, 3) := by decide +kernel
theorem dX1_add_44 : decode cX1_add 44 = .ok (.iload 5, 2) := by decide +kernel
theorem dX1_add_46 : decode cX1_add 46 = .ok (.iload_n 3, 1) := by decide +kernel
theorem dX1_add_47 : decode cX1_add 47 = .ok (.iastore, 1) := by decide +kernel
theorem dX1_add_48 : decode cX1_add 48 = .ok (.aload_n 0, 1) := by decide +kernel
theorem dX1_add_49 : decode cX1_add 49 = .ok (.getfield 25, 3) := by decide +kernel
theorem dX1_add_52 : decode cX1_add 52 = .ok (.iload 5, 2) := by decide +kernel
theorem dX1_add_54 : decode cX1_add 54 = .ok (.iload 4, 2) := by decide +kernel
theorem dX1_add_56 : decode cX1_add 56 = .ok (.iastore, 1) := by decide +kernel
theorem dX1_add_57 : decode cX1_add 57 = .ok (.aload_n 0, 1) := by decide +kernel
theorem dX1_add_58 : decode cX1_add 58 = .ok (.getfield 28, 3) := by decide +kernel
theorem dX1_add_61 : decode cX1_add 61 = .ok (.iload 5, 2) := by decide +kernel
theorem dX1_add_63 : decode cX1_add 63 = .ok (.iconst 1, 1) := by decide +kernel
theorem dX1_add_64 : decode cX1_add 64 = .ok (.bastore, 1) := by decide +kernel
theorem dX1_add_65 : decode cX1_add 65 = .ok (.aload_n 0, 1) := by decide +kernel
theorem dX1_add_66 : decode cX1_add 66 = .ok (.dup, 1) := by decide +kernel
theorem dX1_add_67 : decode cX1_add 67 = .ok (.getfield 9, 3) := by decide +kernel
theorem dX1_add_70 : decode cX1_add 70 = .ok (.iconst 1, 1) := by decide +kernel
theorem dX1_add_71 : decode cX1_add 71 = .ok (.iadd, 1) := by decide +kernel
theorem dX1_add_72 : decode cX1_add 72 = .ok (.putfield 9, 3) := by decide +kernel
theorem dX1_add_75 : decode cX1_add 75 = .ok (.iload 5, 2) := by decide +kernel
theorem dX1_add_77 : decode cX1_add 77 = .ok (.ireturn, 1) := by decide +kernel
set_option maxRecDepth 20000 in
theorem ggX1_isInForce_X1_has : GoodIn wsX1_isInForce wsX1_has := goodIn_r _ [6, 7, 8, 9, 10, 11, 12, 13] (by decide +kernel) (by decide +kernel)
set_option maxRecDepth 20000 in
theorem gX1_isInForce_X1_has : GoodIn wsX1_isInForce (wsV RX1 32 RX1 yX1_has wsX1_has) := goodIn_app (goodIn_of _ (by decide +kernel)) ggX1_isInForce_X1_has
theorem dX1_isInForce_0 : decode cX1_isInForce 0 = .ok (.aload_n 0, 1) := by decide +kernel
theorem dX1_isInForce_1 : decode cX1_isInForce 1 = .ok (.iload_n 1, 1) := by decide +kernel
theorem dX1_isInForce_2 : decode cX1_isInForce 2 = .ok (.invokevirtual 32, 3) := by decide +kernel
theorem dX1_isInForce_5 : decode cX1_isInForce 5 = .ok (.ifCond .eq 16, 3) := by decide +kernel
theorem dX1_isInForce_8 : decode cX1_isInForce 8 = .ok (.aload_n 0, 1) := by decide +kernel
theorem dX1_isInForce_9 : decode cX1_isInForce 9 = .ok (.getfield 28, 3) := by decide +kernel
theorem dX1_isInForce_12 : decode cX1_isInForce 12 = .ok (.iload_n 1, 1) := by decide +kernel
theorem dX1_isInForce_13 : decode cX1_isInForce 13 = .ok (.baload, 1) := by decide +kernel
theorem dX1_isInForce_14 : decode cX1_isInForce 14 = .ok (.ifCond .eq 7, 3) := by decide +kernel
theorem dX1_isInForce_17 : decode cX1_isInForce 17 = .ok (.iconst 1, 1) := by decide +kernel
theorem dX1_isInForce_18 : decode cX1_isInForce 18 = .ok (.goto 4, 3) := by decide +kernel
theorem dX1_isInForce_21 : decode cX1_isInForce 21 = .ok (.iconst 0, 1) := by decide +kernel
theorem dX1_isInForce_22 : decode cX1_isInForce 22 = .ok (.ireturn, 1) := by decide +kernel
set_option maxRecDepth 20000 in
theorem ggX1_isBinding_X1_has : GoodIn wsX1_isBinding wsX1_has := goodIn_r _ [6, 7, 14, 15, 16, 17, 18, 19] (by decide +kernel) (by decide +kernel)
set_option maxRecDepth 20000 in
theorem gX1_isBinding_X1_has : GoodIn wsX1_isBinding (wsV RX1 32 RX1 yX1_has wsX1_has) := goodIn_app (goodIn_of _ (by decide +kernel)) ggX1_isBinding_X1_has
set_option maxRecDepth 20000 in
theorem ggX1_isBinding_X1_bindingOn : GoodIn wsX1_isBinding wsX1_bindingOn := goodIn_r _ [11, 7, 12, 1, 13, 14, 15, 16, 17, 18, 19] (by decide +kernel) (by decide +kernel)
set_option maxRecDepth 20000 in
theorem gX1_isBinding_X1_bindingOn : GoodIn wsX1_isBinding (wsV RX1 36 RX1 yX1_bindingOn wsX1_bindingOn) := goodIn_app (goodIn_of _ (by decide +kernel)) ggX1_isBinding_X1_bindingOn
theorem dX1_isBinding_0 : decode cX1_isBinding 0 = .ok (.aload_n 0, 1) := by decide +kernel
theorem dX1_isBinding_1 : decode cX1_isBinding 1 = .ok (.iload_n 1, 1) := by decide +kernel
theorem dX1_isBinding_2 : decode cX1_isBinding 2 = .ok (.invokevirtual 32, 3) := by decide +kernel
theorem dX1_isBinding_5 : decode cX1_isBinding 5 = .ok (.ifCond .eq 21, 3) := by decide +kernel
theorem dX1_isBinding_8 : decode cX1_isBinding 8 = .ok (.aload_n 0, 1) := by decide +kernel
theorem dX1_isBinding_9 : decode cX1_isBinding 9 = .ok (.aload_n 0, 1) := by decide +kernel
theorem dX1_isBinding_10 : decode cX1_isBinding 10 = .ok (.getfield 15, 3) := by decide +kernel
theorem dX1_isBinding_13 : decode cX1_isBinding 13 = .ok (.iload_n 1, 1) := by decide +kernel
theorem dX1_isBinding_14 : decode cX1_isBinding 14 = .ok (.iaload, 1) := by decide +kernel
theorem dX1_isBinding_15 : decode cX1_isBinding 15 = .ok (.invokevirtual 36, 3) := by decide +kernel
theorem dX1_isBinding_18 : decode cX1_isBinding 18 = .ok (.iload_n 1, 1) := by decide +kernel
theorem dX1_isBinding_19 : decode cX1_isBinding 19 = .ok (.if_icmp .ne 7, 3) := by decide +kernel
theorem dX1_isBinding_22 : decode cX1_isBinding 22 = .ok (.iconst 1, 1) := by decide +kernel
theorem dX1_isBinding_23 : decode cX1_isBinding 23 = .ok (.goto 4, 3) := by decide +kernel
theorem dX1_isBinding_26 : decode cX1_isBinding 26 = .ok (.iconst 0, 1) := by decide +kernel
theorem dX1_isBinding_27 : decode cX1_isBinding 27 = .ok (.ireturn, 1) := by decide +kernel
set_option maxRecDepth 20000 in
theorem ggX1_end_X1_has : GoodIn wsX1_end wsX1_has := goodIn_r _ [6, 7, 8, 9, 10, 11, 12, 13] (by decide +kernel) (by decide +kernel)
set_option maxRecDepth 20000 in
theorem gX1_end_X1_has : GoodIn wsX1_end (wsV RX1 32 RX1 yX1_has wsX1_has) := goodIn_app (goodIn_of _ (by decide +kernel)) ggX1_end_X1_has
theorem dX1_end_0 : decode cX1_end 0 = .ok (.aload_n 0, 1) := by decide +kernel
theorem dX1_end_1 : decode cX1_end 1 = .ok (.iload_n 1, 1) := by decide +kernel
theorem dX1_end_2 : decode cX1_end 2 = .ok (.invokevirtual 32, 3) := by decide +kernel
theorem dX1_end_5 : decode cX1_end 5 = .ok (.ifCond .eq 10, 3) := by decide +kernel
theorem dX1_end_8 : decode cX1_end 8 = .ok (.aload_n 0, 1) := by decide +kernel
theorem dX1_end_9 : decode cX1_end 9 = .ok (.getfield 28, 3) := by decide +kernel
theorem dX1_end_12 : decode cX1_end 12 = .ok (.iload_n 1, 1) := by decide +kernel
theorem dX1_end_13 : decode cX1_end 13 = .ok (.iconst 0, 1) := by decide +kernel
theorem dX1_end_14 : decode cX1_end 14 = .ok (.bastore, 1) := by decide +kernel
theorem dX1_end_15 : decode cX1_end 15 = .ok (.return_, 1) := by decide +kernel
set_option maxRecDepth 20000 in
theorem ggX1_kindOf_X1_has : GoodIn wsX1_kindOf wsX1_has := goodIn_r _ [6, 7, 8, 9, 10, 11, 12, 13] (by decide +kernel) (by decide +kernel)
set_option maxRecDepth 20000 in
theorem gX1_kindOf_X1_has : GoodIn wsX1_kindOf (wsV RX1 32 RX1 yX1_has wsX1_has) := goodIn_app (goodIn_of _ (by decide +kernel)) ggX1_kindOf_X1_has
theorem dX1_kindOf_0 : decode cX1_kindOf 0 = .ok (.aload_n 0, 1) := by decide +kernel
theorem dX1_kindOf_1 : decode cX1_kindOf 1 = .ok (.iload_n 1, 1) := by decide +kernel
theorem dX1_kindOf_2 : decode cX1_kindOf 2 = .ok (.invokevirtual 32, 3) := by decide +kernel
theorem dX1_kindOf_5 : decode cX1_kindOf 5 = .ok (.ifCond .eq 12, 3) := by decide +kernel
theorem dX1_kindOf_8 : decode cX1_kindOf 8 = .ok (.aload_n 0, 1) := by decide +kernel
theorem dX1_kindOf_9 : decode cX1_kindOf 9 = .ok (.getfield 22, 3) := by decide +kernel
theorem dX1_kindOf_12 : decode cX1_kindOf 12 = .ok (.iload_n 1, 1) := by decide +kernel
theorem dX1_kindOf_13 : decode cX1_kindOf 13 = .ok (.iaload, 1) := by decide +kernel
theorem dX1_kindOf_14 : decode cX1_kindOf 14 = .ok (.goto 4, 3) := by decide +kernel
theorem dX1_kindOf_17 : decode cX1_kindOf 17 = .ok (.iconst (-1), 1) := by decide +kernel
theorem dX1_kindOf_18 : decode cX1_kindOf 18 = .ok (.ireturn, 1) := by decide +kernel
set_option maxRecDepth 20000 in
theorem ggX1_personOf_X1_has : GoodIn wsX1_personOf wsX1_has := goodIn_r _ [6, 7, 8, 9, 10, 11, 12, 13] (by decide +kernel) (by decide +kernel)
set_option maxRecDepth 20000 in
theorem gX1_personOf_X1_has : GoodIn wsX1_personOf (wsV RX1 32 RX1 yX1_has wsX1_has) := goodIn_app (goodIn_of _ (by decide +kernel)) ggX1_personOf_X1_has
theorem dX1_personOf_0 : decode cX1_personOf 0 = .ok (.aload_n 0, 1) := by decide +kernel
theorem dX1_personOf_1 : decode cX1_personOf 1 = .ok (.iload_n 1, 1) := by decide +kernel
theorem dX1_personOf_2 : decode cX1_personOf 2 = .ok (.invokevirtual 32, 3) := by decide +kernel
theorem dX1_personOf_5 : decode cX1_personOf 5 = .ok (.ifCond .eq 12, 3) := by decide +kernel
theorem dX1_personOf_8 : decode cX1_personOf 8 = .ok (.aload_n 0, 1) := by decide +kernel
theorem dX1_personOf_9 : decode cX1_personOf 9 = .ok (.getfield 25, 3) := by decide +kernel
theorem dX1_personOf_12 : decode cX1_personOf 12 = .ok (.iload_n 1, 1) := by decide +kernel
theorem dX1_personOf_13 : decode cX1_personOf 13 = .ok (.iaload, 1) := by decide +kernel
theorem dX1_personOf_14 : decode cX1_personOf 14 = .ok (.goto 4, 3) := by decide +kernel
theorem dX1_personOf_17 : decode cX1_personOf 17 = .ok (.iconst (-1), 1) := by decide +kernel
theorem dX1_personOf_18 : decode cX1_personOf 18 = .ok (.ireturn, 1) := by decide +kernel
theorem dX1_bindingOn_0 : decode cX1_bindingOn 0 = .ok (.iconst (-1), 1) := by decide +kernel
theorem dX1_bindingOn_1 : decode cX1_bindingOn 1 = .ok (.istore_n 2, 1) := by decide +kernel
theorem dX1_bindingOn_2 : decode cX1_bindingOn 2 = .ok (.iconst 0, 1) := by decide +kernel
theorem dX1_bindingOn_3 : decode cX1_bindingOn 3 = .ok (.istore_n 3, 1) := by decide +kernel
theorem dX1_bindingOn_4 : decode cX1_bindingOn 4 = .ok (.iload_n 3, 1) := by decide +kernel
theorem dX1_bindingOn_5 : decode cX1_bindingOn 5 = .ok (.aload_n 0, 1) := by decide +kernel
theorem dX1_bindingOn_6 : decode cX1_bindingOn 6 = .ok (.getfield 9, 3) := by decide +kernel
theorem dX1_bindingOn_9 : decode cX1_bindingOn 9 = .ok (.if_icmp .ge 56, 3) := by decide +kernel
theorem dX1_bindingOn_12 : decode cX1_bindingOn 12 = .ok (.iload_n 3, 1) := by decide +kernel
theorem dX1_bindingOn_13 : decode cX1_bindingOn 13 = .ok (.bipush 30, 2) := by decide +kernel
theorem dX1_bindingOn_15 : decode cX1_bindingOn 15 = .ok (.if_icmp .ge 50, 3) := by decide +kernel
theorem dX1_bindingOn_18 : decode cX1_bindingOn 18 = .ok (.aload_n 0, 1) := by decide +kernel
theorem dX1_bindingOn_19 : decode cX1_bindingOn 19 = .ok (.getfield 28, 3) := by decide +kernel
theorem dX1_bindingOn_22 : decode cX1_bindingOn 22 = .ok (.iload_n 3, 1) := by decide +kernel
theorem dX1_bindingOn_23 : decode cX1_bindingOn 23 = .ok (.baload, 1) := by decide +kernel
theorem dX1_bindingOn_24 : decode cX1_bindingOn 24 = .ok (.ifCond .eq 35, 3) := by decide +kernel
theorem dX1_bindingOn_27 : decode cX1_bindingOn 27 = .ok (.aload_n 0, 1) := by decide +kernel
theorem dX1_bindingOn_28 : decode cX1_bindingOn 28 = .ok (.getfield 15, 3) := by decide +kernel
theorem dX1_bindingOn_31 : decode cX1_bindingOn 31 = .ok (.iload_n 3, 1) := by decide +kernel
theorem dX1_bindingOn_32 : decode cX1_bindingOn 32 = .ok (.iaload, 1) := by decide +kernel
theorem dX1_bindingOn_33 : decode cX1_bindingOn 33 = .ok (.iload_n 1, 1) := by decide +kernel
theorem dX1_bindingOn_34 : decode cX1_bindingOn 34 = .ok (.if_icmp .ne 25, 3) := by decide +kernel
theorem dX1_bindingOn_37 : decode cX1_bindingOn 37 = .ok (.iload_n 2, 1) := by decide +kernel
theorem dX1_bindingOn_38 : decode cX1_bindingOn 38 = .ok (.iconst (-1), 1) := by decide +kernel
theorem dX1_bindingOn_39 : decode cX1_bindingOn 39 = .ok (.if_icmp .eq 18, 3) := by decide +kernel
theorem dX1_bindingOn_42 : decode cX1_bindingOn 42 = .ok (.aload_n 0, 1) := by decide +kernel
theorem dX1_bindingOn_43 : decode cX1_bindingOn 43 = .ok (.getfield 19, 3) := by decide +kernel
theorem dX1_bindingOn_46 : decode cX1_bindingOn 46 = .ok (.iload_n 3, 1) := by decide +kernel
theorem dX1_bindingOn_47 : decode cX1_bindingOn 47 = .ok (.iaload, 1) := by decide +kernel
theorem dX1_bindingOn_48 : decode cX1_bindingOn 48 = .ok (.aload_n 0, 1) := by decide +kernel
theorem dX1_bindingOn_49 : decode cX1_bindingOn 49 = .ok (.getfield 19, 3) := by decide +kernel
theorem dX1_bindingOn_52 : decode cX1_bindingOn 52 = .ok (.iload_n 2, 1) := by decide +kernel
theorem dX1_bindingOn_53 : decode cX1_bindingOn 53 = .ok (.iaload, 1) := by decide +kernel
theorem dX1_bindingOn_54 : decode cX1_bindingOn 54 = .ok (.if_icmp .lt 5, 3) := by decide +kernel
theorem dX1_bindingOn_57 : decode cX1_bindingOn 57 = .ok (.iload_n 3, 1) := by decide +kernel
theorem dX1_bindingOn_58 : decode cX1_bindingOn 58 = .ok (.istore_n 2, 1) := by decide +kernel
theorem dX1_bindingOn_59 : decode cX1_bindingOn 59 = .ok (.iinc 3 1, 3) := by decide +kernel
theorem dX1_bindingOn_62 : decode cX1_bindingOn 62 = .ok (.goto (-58), 3) := by decide +kernel
theorem dX1_bindingOn_65 : decode cX1_bindingOn 65 = .ok (.iload_n 2, 1) := by decide +kernel
theorem dX1_bindingOn_66 : decode cX1_bindingOn 66 = .ok (.ireturn, 1) := by decide +kernel
theorem dX1_endAllOn_0 : decode cX1_endAllOn 0 = .ok (.iconst 0, 1) := by decide +kernel
theorem dX1_endAllOn_1 : decode cX1_endAllOn 1 = .ok (.istore_n 2, 1) := by decide +kernel
theorem dX1_endAllOn_2 : decode cX1_endAllOn 2 = .ok (.iload_n 2, 1) := by decide +kernel
theorem dX1_endAllOn_3 : decode cX1_endAllOn 3 = .ok (.aload_n 0, 1) := by decide +kernel
theorem dX1_endAllOn_4 : decode cX1_endAllOn 4 = .ok (.getfield 9, 3) := by decide +kernel
theorem dX1_endAllOn_7 : decode cX1_endAllOn 7 = .ok (.if_icmp .ge 32, 3) := by decide +kernel
theorem dX1_endAllOn_10 : decode cX1_endAllOn 10 = .ok (.iload_n 2, 1) := by decide +kernel
theorem dX1_endAllOn_11 : decode cX1_endAllOn 11 = .ok (.bipush 30, 2) := by decide +kernel
theorem dX1_endAllOn_13 : decode cX1_endAllOn 13 = .ok (.if_icmp .ge 26, 3) := by decide +kernel
theorem dX1_endAllOn_16 : decode cX1_endAllOn 16 = .ok (.aload_n 0, 1) := by decide +kernel
theorem dX1_endAllOn_17 : decode cX1_endAllOn 17 = .ok (.getfield 15, 3) := by decide +kernel
theorem dX1_endAllOn_20 : decode cX1_endAllOn 20 = .ok (.iload_n 2, 1) := by decide +kernel
theorem dX1_endAllOn_21 : decode cX1_endAllOn 21 = .ok (.iaload, 1) := by decide +kernel
theorem dX1_endAllOn_22 : decode cX1_endAllOn 22 = .ok (.iload_n 1, 1) := by decide +kernel
theorem dX1_endAllOn_23 : decode cX1_endAllOn 23 = .ok (.if_icmp .ne 10, 3) := by decide +kernel
theorem dX1_endAllOn_26 : decode cX1_endAllOn 26 = .ok (.aload_n 0, 1) := by decide +kernel
theorem dX1_endAllOn_27 : decode cX1_endAllOn 27 = .ok (.getfield 28, 3) := by decide +kernel
theorem dX1_endAllOn_30 : decode cX1_endAllOn 30 = .ok (.iload_n 2, 1) := by decide +kernel
theorem dX1_endAllOn_31 : decode cX1_endAllOn 31 = .ok (.iconst 0, 1) := by decide +kernel
theorem dX1_endAllOn_32 : decode cX1_endAllOn 32 = .ok (.bastore, 1) := by decide +kernel
theorem dX1_endAllOn_33 : decode cX1_endAllOn 33 = .ok (.iinc 2 1, 3) := by decide +kernel
theorem dX1_endAllOn_36 : decode cX1_endAllOn 36 = .ok (.goto (-34), 3) := by decide +kernel
theorem dX1_endAllOn_39 : decode cX1_endAllOn 39 = .ok (.return_, 1) := by decide +kernel
set_option maxRecDepth 20000 in
theorem ggX2_init_X1_init : GoodIn wsX2_init wsX1_init := goodIn_r _ [19, 20, 2, 3, 21, 12, 22, 23, 24, 25, 10, 26, 46, 47, 48, 49, 50, 51] (by decide +kernel) (by decide +kernel)
set_option maxRecDepth 20000 in
theorem gX2_init_X1_init_n17 : GoodIn wsX2_init (wsX1_init) := ggX2_init_X1_init
set_option maxRecDepth 20000 in
theorem ggX2_init_X0_init : GoodIn wsX2_init wsX0_init := goodIn_r _ [28, 29, 2, 3, 30, 31, 32, 33, 34, 35, 36, 12, 37, 38, 39, 52, 53, 54, 55, 56, 57, 58, 59, 60, 61] (by decide +kernel) (by decide +kernel)
set_option maxRecDepth 20000 in
theorem gX2_init_X0_init_n37 : GoodIn wsX2_init (wsX0_init) := ggX2_init_X0_init
theorem dX2_init_0 : decode cX2_init 0 = .ok (.aload_n 0, 1) := by decide +kernel
theorem dX2_init_1 : decode cX2_init 1 = .ok (.invokespecial 1, 3) := by decide +kernel
theorem dX2_init_4 : decode cX2_init 4 = .ok (.aload_n 0, 1) := by decide +kernel
theorem dX2_init_5 : decode cX2_init 5 = .ok (.bipush 8, 2) := by decide +kernel
theorem dX2_init_7 : decode cX2_init 7 = .ok (.anewarray 9, 3) := by decide +kernel
theorem dX2_init_10 : decode cX2_init 10 = .ok (.putfield 11, 3) := by decide +kernel
theorem dX2_init_13 : decode cX2_init 13 = .ok (.aload_n 0, 1) := by decide +kernel
theorem dX2_init_14 : decode cX2_init 14 = .ok (.new 15, 3) := by decide +kernel
theorem dX2_init_17 : decode cX2_init 17 = .ok (.dup, 1) := by decide +kernel
theorem dX2_init_18 : decode cX2_init 18 = .ok (.invokespecial 17, 3) := by decide +kernel
theorem dX2_init_21 : decode cX2_init 21 = .ok (.putfield 18, 3) := by decide +kernel
theorem dX2_init_24 : decode cX2_init 24 = .ok (.aload_n 0, 1) := by decide +kernel
theorem dX2_init_25 : decode cX2_init 25 = .ok (.bipush 16, 2) := by decide +kernel
theorem dX2_init_27 : decode cX2_init 27 = .ok (.newarray .boolean, 2) := by decide +kernel
theorem dX2_init_29 : decode cX2_init 29 = .ok (.putfield 22, 3) := by decide +kernel
theorem dX2_init_32 : decode cX2_init 32 = .ok (.aload_n 0, 1) := by decide +kernel
theorem dX2_init_33 : decode cX2_init 33 = .ok (.bipush 16, 2) := by decide +kernel
theorem dX2_init_35 : decode cX2_init 35 = .ok (.newarray .int, 2) := by decide +kernel
theorem dX2_init_37 : decode cX2_init 37 = .ok (.putfield 26, 3) := by decide +kernel
theorem dX2_init_40 : decode cX2_init 40 = .ok (.aload_n 0, 1) := by decide +kernel
theorem dX2_init_41 : decode cX2_init 41 = .ok (.bipush 16, 2) := by decide +kernel
theorem dX2_init_43 : decode cX2_init 43 = .ok (.newarray .int, 2) := by decide +kernel
theorem dX2_init_45 : decode cX2_init 45 = .ok (.putfield 30, 3) := by decide +kernel
theorem dX2_init_48 : decode cX2_init 48 = .ok (.aload_n 0, 1) := by decide +kernel
theorem dX2_init_49 : decode cX2_init 49 = .ok (.iconst 0, 1) := by decide +kernel
theorem dX2_init_50 : decode cX2_init 50 = .ok (.putfield 33, 3) := by decide +kernel
theorem dX2_init_53 : decode cX2_init 53 = .ok (.iconst 0, 1) := by decide +kernel
theorem dX2_init_54 : decode cX2_init 54 = .ok (.istore_n 1, 1) := by decide +kernel
theorem dX2_init_55 : decode cX2_init 55 = .ok (.iload_n 1, 1) := by decide +kernel
theorem dX2_init_56 : decode cX2_init 56 = .ok (.bipush 8, 2) := by decide +kernel
theorem dX2_init_58 : decode cX2_init 58 = .ok (.if_icmp .ge 22, 3) := by decide +kernel
theorem dX2_init_61 : decode cX2_init 61 = .ok (.aload_n 0, 1) := by decide +kernel
theorem dX2_init_62 : decode cX2_init 62 = .ok (.getfield 11, 3) := by decide +kernel
theorem dX2_init_65 : decode cX2_init 65 = .ok (.iload_n 1, 1) := by decide +kernel
theorem dX2_init_66 : decode cX2_init 66 = .ok (.new 9, 3) := by decide +kernel
theorem dX2_init_69 : decode cX2_init 69 = .ok (.dup, 1) := by decide +kernel
theorem dX2_init_70 : decode cX2_init 70 = .ok (.invokespecial 37, 3) := by decide +kernel
theorem dX2_init_73 : decode cX2_init 73 = .ok (.aastore, 1) := by decide +kernel
theorem dX2_init_74 : decode cX2_init 74 = .ok (.iinc 1 1, 3) := by decide +kernel
theorem dX2_init_77 : decode cX2_init 77 = .ok (.goto (-22), 3) := by decide +kernel
theorem dX2_init_80 : decode cX2_init 80 = .ok (.return_, 1) := by decide +kernel
set_option maxRecDepth 20000 in
theorem ggX2_pass_X2_requireRange : GoodIn wsX2_pass wsX2_requireRange := goodIn_ca (goodIn_r _ [8, 9, 10] (by decide +kernel) (by decide +kernel)) (goodIn_sub (fun _ h => List.mem_cons_of_mem _ (List.mem_append_right _ h)) (by decide +kernel))
set_option maxRecDepth 20000 in
theorem gX2_pass_X2_requireRange : GoodIn wsX2_pass (va_wsS RX2 38 yX2_requireRange wsX2_requireRange) := goodIn_app (goodIn_of _ (by decide +kernel)) ggX2_pass_X2_requireRange
theorem dX2_pass_0 : decode cX2_pass 0 = .ok (.iload_n 1, 1) := by decide +kernel
theorem dX2_pass_1 : decode cX2_pass 1 = .ok (.iconst 1, 1) := by decide +kernel
theorem dX2_pass_2 : decode cX2_pass 2 = .ok (.sipush 1000, 3) := by decide +kernel
theorem dX2_pass_5 : decode cX2_pass 5 = .ok (.invokestatic 38, 3) := by decide +kernel
theorem dX2_pass_8 : decode cX2_pass 8 = .ok (.iload_n 1, 1) := by decide +kernel
theorem dX2_pass_9 : decode cX2_pass 9 = .ok (.ldc 42, 2) := by decide +kernel
theorem dX2_pass_11 : decode cX2_pass 11 = .ok (.aload_n 0, 1) := by decide +kernel
theorem dX2_pass_12 : decode cX2_pass 12 = .ok (.getfield 33, 3) := by decide +kernel
theorem dX2_pass_15 : decode cX2_pass 15 = .ok (.isub, 1) := by decide +kernel
theorem dX2_pass_16 : decode cX2_pass 16 = .ok (.if_icmp .le 13, 3) := by decide +kernel
theorem dX2_pass_19 : decode cX2_pass 19 = .ok (.new 43, 3) := by decide +kernel
theorem dX2_pass_22 : decode cX2_pass 22 = .ok (.dup, 1) := by decide +kernel
theorem dX2_pass_23 : decode cX2_pass 23 = .ok (.ldc 45, 2) := by decide +kernel
theorem dX2_pass_25 : decode cX2_pass 25 = .ok (.invokespecial 47, 3) := by decide +kernel
theorem dX2_pass_28 : decode cX2_pass 28 = .ok (.athrow, 1) := by decide +kernel
theorem dX2_pass_29 : decode cX2_pass 29 = .ok (.aload_n 0, 1) := by decide +kernel
theorem dX2_pass_30 : decode cX2_pass 30 = .ok (.dup, 1) := by decide +kernel
theorem dX2_pass_31 : decode cX2_pass 31 = .ok (.getfield 33, 3) := by decide +kernel
theorem dX2_pass_34 : decode cX2_pass 34 = .ok (.iload_n 1, 1) := by decide +kernel
theorem dX2_pass_35 : decode cX2_pass 35 = .ok (.iadd, 1) := by decide +kernel
theorem dX2_pass_36 : decode cX2_pass 36 = .ok (.putfield 33, 3) := by decide +kernel
theorem dX2_pass_39 : decode cX2_pass 39 = .ok (.aload_n 0, 1) := by decide +kernel
theorem dX2_pass_40 : decode cX2_pass 40 = .ok (.getfield 33, 3) := by decide +kernel
theorem dX2_pass_43 : decode cX2_pass 43 = .ok (.ireturn, 1) := by decide +kernel
set_option maxRecDepth 20000 in
theorem ggX2_rent_X2_boxAt : GoodIn wsX2_rent wsX2_boxAt := goodIn_ca (goodIn_r _ [8, 9, 10, 11, 7, 12, 13, 14, 38, 39, 40, 41, 42, 43] (by decide +kernel) (by decide +kernel)) (goodIn_sub (fun _ h => List.mem_cons_of_mem _ (List.mem_append_right _ h)) (by decide +kernel))
set_option maxRecDepth 20000 in
theorem gX2_rent_X2_boxAt : GoodIn wsX2_rent (wsV RX2 50 RX2 yX2_boxAt wsX2_boxAt) := goodIn_app (goodIn_of _ (by decide +kernel)) ggX2_rent_X2_boxAt
set_option maxRecDepth 20000 in
theorem ggX2_rent_X2_requirePerson : GoodIn wsX2_rent wsX2_requirePerson := goodIn_ca (goodIn_r _ [17, 10, 11, 7, 12, 13, 14] (by decide +kernel) (by decide +kernel)) (goodIn_sub (fun _ h => List.mem_cons_of_mem _ (List.mem_append_right _ h)) (by decide +kernel))
set_option maxRecDepth 20000 in
theorem gX2_rent_X2_requirePerson : GoodIn wsX2_rent (va_wsS RX2 54 yX2_requirePerson wsX2_requirePerson) := goodIn_app (goodIn_of _ (by decide +kernel)) ggX2_rent_X2_requirePerson
set_option maxRecDepth 20000 in
theorem ggX2_rent_X2_requireRange : GoodIn wsX2_rent wsX2_requireRange := goodIn_ca (goodIn_r _ [12, 13, 14] (by decide +kernel) (by decide +kernel)) (goodIn_sub (fun _ h => List.mem_cons_of_mem _ (List.mem_append_right _ h)) (by decide +kernel))
set_option maxRecDepth 20000 in
theorem gX2_rent_X2_requireRange : GoodIn wsX2_rent (va_wsS RX2 38 yX2_requireRange wsX2_requireRange) := goodIn_app (goodIn_of _ (by decide +kernel)) ggX2_rent_X2_requireRange
set_option maxRecDepth 20000 in
theorem ggX2_rent_X0_isFree : GoodIn wsX2_rent wsX0_isFree := goodIn_r _ [21, 22, 44, 45, 46, 47, 48, 49, 50, 51, 52, 53] (by decide +kernel) (by decide +kernel)
set_option maxRecDepth 20000 in
theorem gX2_rent_X0_isFree_n58 : GoodIn wsX2_rent (wsX0_isFree) := ggX2_rent_X0_isFree
set_option maxRecDepth 20000 in
theorem ggX2_rent_X2_isAlive : GoodIn wsX2_rent wsX2_isAlive := goodIn_r _ [26, 27, 28, 29, 7, 30, 38, 39, 40, 41, 42, 43] (by decide +kernel) (by decide +kernel)
set_option maxRecDepth 20000 in
theorem gX2_rent_X2_isAlive : GoodIn wsX2_rent (wsV RX2 64 RX2 yX2_isAlive wsX2_isAlive) := goodIn_app (goodIn_of _ (by decide +kernel)) ggX2_rent_X2_isAlive
set_option maxRecDepth 20000 in
theorem ggX2_rent_X0_startRent : GoodIn wsX2_rent wsX0_startRent := goodIn_r _ [33, 22, 34, 35, 36, 37, 44, 45, 46, 47, 48, 49, 50, 51, 52, 53] (by decide +kernel) (by decide +kernel)
set_option maxRecDepth 20000 in
theorem gX2_rent_X0_startRent_n70 : GoodIn wsX2_rent (wsX0_startRent) := ggX2_rent_X0_startRent
theorem dX2_rent_0 : decode cX2_rent 0 = .ok (.aload_n 0, 1) := by decide +kernel
theorem dX2_rent_1 : decode cX2_rent 1 = .ok (.iload_n 1, 1) := by decide +kernel
theorem dX2_rent_2 : decode cX2_rent 2 = .ok (.invokevirtual 50, 3) := by decide +kernel
theorem dX2_rent_5 : decode cX2_rent 5 = .ok (.astore 4, 2) := by decide +kernel
theorem dX2_rent_7 : decode cX2_rent 7 = .ok (.iload_n 2, 1) := by decide +kernel
theorem dX2_rent_8 : decode cX2_rent 8 = .ok (.invokestatic 54, 3) := by decide +kernel
theorem dX2_rent_11 : decode cX2_rent 11 = .ok (.iload_n 3, 1) := by decide +kernel
theorem dX2_rent_12 : decode cX2_rent 12 = .ok (.iconst 1, 1) := by decide +kernel
theorem dX2_rent_13 : decode cX2_rent 13 = .ok (.sipush 1000, 3) := by decide +kernel
theorem dX2_rent_16 : decode cX2_rent 16 = .ok (.invokestatic 38, 3) := by decide +kernel
theorem dX2_rent_19 : decode cX2_rent 19 = .ok (.aload 4, 2) := by decide +kernel
theorem dX2_rent_21 : decode cX2_rent 21 = .ok (.invokevirtual 58, 3) := by decide +kernel
theorem dX2_rent_24 : decode cX2_rent 24 = .ok (.ifCond .ne 13, 3) := by decide +kernel
theorem dX2_rent_27 : decode cX2_rent 27 = .ok (.new 43, 3) := by decide +kernel
theorem dX2_rent_30 : decode cX2_rent 30 = .ok (.dup, 1) := by decide +kernel
theorem dX2_rent_31 : decode cX2_rent 31 = .ok (.ldc 62, 2) := by decide +kernel
theorem dX2_rent_33 : decode cX2_rent 33 = .ok (.invokespecial 47, 3) := by decide +kernel
theorem dX2_rent_36 : decode cX2_rent 36 = .ok (.athrow, 1) := by decide +kernel
theorem dX2_rent_37 : decode cX2_rent 37 = .ok (.aload_n 0, 1) := by decide +kernel
theorem dX2_rent_38 : decode cX2_rent 38 = .ok (.iload_n 2, 1) := by decide +kernel
theorem dX2_rent_39 : decode cX2_rent 39 = .ok (.invokevirtual 64, 3) := by decide +kernel
theorem dX2_rent_42 : decode cX2_rent 42 = .ok (.ifCond .ne 13, 3) := by decide +kernel
theorem dX2_rent_45 : decode cX2_rent 45 = .ok (.new 43, 3) := by decide +kernel
theorem dX2_rent_48 : decode cX2_rent 48 = .ok (.dup, 1) := by decide +kernel
theorem dX2_rent_49 : decode cX2_rent 49 = .ok (.ldc 68, 2) := by decide +kernel
theorem dX2_rent_51 : decode cX2_rent 51 = .ok (.invokespecial 47, 3) := by decide +kernel
theorem dX2_rent_54 : decode cX2_rent 54 = .ok (.athrow, 1) := by decide +kernel
theorem dX2_rent_55 : decode cX2_rent 55 = .ok (.aload 4, 2) := by decide +kernel
theorem dX2_rent_57 : decode cX2_rent 57 = .ok (.iload_n 2, 1) := by decide +kernel
theorem dX2_rent_58 : decode cX2_rent 58 = .ok (.aload_n 0, 1) := by decide +kernel
theorem dX2_rent_59 : decode cX2_rent 59 = .ok (.getfield 33, 3) := by decide +kernel
theorem dX2_rent_62 : decode cX2_rent 62 = .ok (.iload_n 3, 1) := by decide +kernel
theorem dX2_rent_63 : decode cX2_rent 63 = .ok (.iadd, 1) := by decide +kernel
theorem dX2_rent_64 : decode cX2_rent 64 = .ok (.invokevirtual 70, 3) := by decide +kernel
theorem dX2_rent_67 : decode cX2_rent 67 = .ok (.aload 4, 2) := by decide +kernel
theorem dX2_rent_69 : decode cX2_rent 69 = .ok (.getfield 74, 3) := by decide +kernel
theorem dX2_rent_72 : decode cX2_rent 72 = .ok (.ireturn, 1) := by decide +kernel
set_option maxRecDepth 20000 in
theorem ggX2_extend_X2_boxAt : GoodIn wsX2_extend wsX2_boxAt := goodIn_ca (goodIn_r _ [5, 6, 7, 8, 4, 9, 10, 11, 32, 33, 34, 35, 36, 37] (by decide +kernel) (by decide +kernel)) (goodIn_sub (fun _ h => List.mem_cons_of_mem _ (List.mem_append_left _ (List.mem_append_right _ h))) (by decide +kernel))
set_option maxRecDepth 20000 in
theorem gX2_extend_X2_boxAt : GoodIn wsX2_extend (wsV RX2 50 RX2 yX2_boxAt wsX2_boxAt) := goodIn_app (goodIn_of _ (by decide +kernel)) ggX2_extend_X2_boxAt
set_option maxRecDepth 20000 in
theorem ggX2_extend_X2_requireRange : GoodIn wsX2_extend wsX2_requireRange := goodIn_ca (goodIn_r _ [9, 10, 11] (by decide +kernel) (by decide +kernel)) (goodIn_sub (fun _ h => List.mem_cons_of_mem _ (List.mem_append_left _ (List.mem_append_right _ h))) (by decide +kernel))
set_option maxRecDepth 20000 in
theorem gX2_extend_X2_requireRange : GoodIn wsX2_extend (va_wsS RX2 38 yX2_requireRange wsX2_requireRange) := goodIn_app (goodIn_of _ (by decide +kernel)) ggX2_extend_X2_requireRange
set_option maxRecDepth 20000 in
theorem ggX2_extend_X2_requireRented : GoodIn wsX2_extend wsX2_requireRented := goodIn_ca (goodIn_r _ [14, 15, 16, 17, 18, 19, 20, 21, 22, 23, 24, 25, 26, 27, 28, 29, 30, 31] (by decide +kernel) (by decide +kernel)) (goodIn_sub (fun _ h => List.mem_cons_of_mem _ (List.mem_append_right _ h)) (by decide +kernel))
set_option maxRecDepth 20000 in
theorem gX2_extend_X2_requireRented : GoodIn wsX2_extend (va_wsS RX2 77 yX2_requireRented wsX2_requireRented) := goodIn_app (goodIn_of _ (by decide +kernel)) ggX2_extend_X2_requireRented
theorem dX2_extend_0 : decode cX2_extend 0 = .ok (.aload_n 0, 1) := by decide +kernel
theorem dX2_extend_1 : decode cX2_extend 1 = .ok (.iload_n 1, 1) := by decide +kernel
theorem dX2_extend_2 : decode cX2_extend 2 = .ok (.invokevirtual 50, 3) := by decide +kernel
theorem dX2_extend_5 : decode cX2_extend 5 = .ok (.astore_n 3, 1) := by decide +kernel
theorem dX2_extend_6 : decode cX2_extend 6 = .ok (.iload_n 2, 1) := by decide +kernel
theorem dX2_extend_7 : decode cX2_extend 7 = .ok (.iconst 1, 1) := by decide +kernel
theorem dX2_extend_8 : decode cX2_extend 8 = .ok (.sipush 1000, 3) := by decide +kernel
theorem dX2_extend_11 : decode cX2_extend 11 = .ok (.invokestatic 38, 3) := by decide +kernel
theorem dX2_extend_14 : decode cX2_extend 14 = .ok (.aload_n 3, 1) := by decide +kernel
theorem dX2_extend_15 : decode cX2_extend 15 = .ok (.invokestatic 77, 3) := by decide +kernel
theorem dX2_extend_18 : decode cX2_extend 18 = .ok (.aload_n 3, 1) := by decide +kernel
theorem dX2_extend_19 : decode cX2_extend 19 = .ok (.dup, 1) := by decide +kernel
theorem dX2_extend_20 : decode cX2_extend 20 = .ok (.getfield 74, 3) := by decide +kernel
theorem dX2_extend_23 : decode cX2_extend 23 = .ok (.iload_n 2, 1) := by decide +kernel
theorem dX2_extend_24 : decode cX2_extend 24 = .ok (.iadd, 1) := by decide +kernel
theorem dX2_extend_25 : decode cX2_extend 25 = .ok (.putfield 74, 3) := by decide +kernel
theorem dX2_extend_28 : decode cX2_extend 28 = .ok (.aload_n 3, 1) := by decide +kernel
theorem dX2_extend_29 : decode cX2_extend 29 = .ok (.getfield 74, 3) := by decide +kernel
theorem dX2_extend_32 : decode cX2_extend 32 = .ok (.ireturn, 1) := by decide +kernel
set_option maxRecDepth 20000 in
theorem ggX2_giveBack_X2_boxAt : GoodIn wsX2_giveBack wsX2_boxAt := goodIn_ca (goodIn_r _ [7, 8, 9, 10, 6, 11, 12, 13, 123, 124, 125, 126, 127, 128] (by decide +kernel) (by decide +kernel)) (goodIn_sub (fun _ h => List.mem_cons_of_mem _ (List.mem_append_right _ h)) (by decide +kernel))
set_option maxRecDepth 20000 in
theorem gX2_giveBack_X2_boxAt : GoodIn wsX2_giveBack (wsV RX2 50 RX2 yX2_boxAt wsX2_boxAt) := goodIn_app (goodIn_of _ (by decide +kernel)) ggX2_giveBack_X2_boxAt
set_option maxRecDepth 20000 in
theorem ggX2_giveBack_X2_requirePerson : GoodIn wsX2_giveBack wsX2_requirePerson := goodIn_ca (goodIn_r _ [16, 9, 10, 6, 11, 12, 13] (by decide +kernel) (by decide +kernel)) (goodIn_sub (fun _ h => List.mem_cons_of_mem _ (List.mem_append_right _ h)) (by decide +kernel))
set_option maxRecDepth 20000 in
theorem gX2_giveBack_X2_requirePerson : GoodIn wsX2_giveBack (va_wsS RX2 54 yX2_requirePerson wsX2_requirePerson) := goodIn_app (goodIn_of _ (by decide +kernel)) ggX2_giveBack_X2_requirePerson
set_option maxRecDepth 20000 in
theorem ggX2_giveBack_X2_requireRented : GoodIn wsX2_giveBack wsX2_requireRented := goodIn_ca (goodIn_r _ [19, 1, 2, 20, 21, 22, 23, 24, 113, 114, 115, 116, 117, 118, 119, 120, 121, 122] (by decide +kernel) (by decide +kernel)) (goodIn_sub (fun _ h => List.mem_cons_of_mem _ (List.mem_append_left _ (List.mem_append_right _ h))) (by decide +kernel))
set_option maxRecDepth 20000 in
theorem gX2_giveBack_X2_requireRented : GoodIn wsX2_giveBack (va_wsS RX2 77 yX2_requireRented wsX2_requireRented) := goodIn_app (goodIn_of _ (by decide +kernel)) ggX2_giveBack_X2_requireRented
set_option maxRecDepth 20000 in
theorem ggX2_giveBack_X2_rightOf : GoodIn wsX2_giveBack wsX2_rightOf := goodIn_r _ [28, 29, 20, 21, 22, 23, 24, 30, 31, 32, 6, 33, 34, 35, 36, 37, 38, 39, 40, 41, 42, 43, 44, 45, 46, 47, 48, 49, 50, 51, 52, 53, 54, 55, 56, 57, 58, 59, 60, 61, 62, 63, 64, 65, 66, 67, 68, 69, 70, 71, 72, 73, 74, 75, 76, 77, 78, 79, 80, 81, 82, 83, 84, 85, 86, 87, 88, 89, 90, 91, 92, 93, 94, 95, 96, 97, 123, 124, 125, 126, 127, 128, 113, 114, 115, 116, 117, 118, 119, 120, 121, 122, 129, 130, 131, 132, 133, 134] (by decide +kernel) (by decide +kernel)
set_option maxRecDepth 20000 in
theorem gX2_giveBack_X2_rightOf : GoodIn wsX2_giveBack (wsV RX2 81 RX2 yX2_rightOf wsX2_rightOf) := goodIn_app (goodIn_of _ (by decide +kernel)) ggX2_giveBack_X2_rightOf
set_option maxRecDepth 20000 in
theorem ggX2_giveBack_X2_makeFree : GoodIn wsX2_giveBack wsX2_makeFree := goodIn_r _ [101, 29, 102, 21, 103, 104, 24, 105, 106, 107, 108, 109, 94, 110, 39, 111, 112, 42, 44, 43, 123, 124, 125, 126, 127, 128, 113, 114, 115, 116, 117, 118, 119, 120, 121, 122, 129, 130, 131, 132, 133, 134] (by decide +kernel) (by decide +kernel)
set_option maxRecDepth 20000 in
theorem gX2_giveBack_X2_makeFree : GoodIn wsX2_giveBack (wsV RX2 90 RX2 yX2_makeFree wsX2_makeFree) := goodIn_app (goodIn_of _ (by decide +kernel)) ggX2_giveBack_X2_makeFree
theorem dX2_giveBack_0 : decode cX2_giveBack 0 = .ok (.aload_n 0, 1) := by decide +kernel
theorem dX2_giveBack_1 : decode cX2_giveBack 1 = .ok (.iload_n 1, 1) := by decide +kernel
theorem dX2_giveBack_2 : decode cX2_giveBack 2 = .ok (.invokevirtual 50, 3) := by decide +kernel
theorem dX2_giveBack_5 : decode cX2_giveBack 5 = .ok (.astore_n 3, 1) := by decide +kernel
theorem dX2_giveBack_6 : decode cX2_giveBack 6 = .ok (.iload_n 2, 1) := by decide +kernel
theorem dX2_giveBack_7 : decode cX2_giveBack 7 = .ok (.invokestatic 54, 3) := by decide +kernel
theorem dX2_giveBack_10 : decode cX2_giveBack 10 = .ok (.aload_n 3, 1) := by decide +kernel
theorem dX2_giveBack_11 : decode cX2_giveBack 11 = .ok (.invokestatic 77, 3) := by decide +kernel
theorem dX2_giveBack_14 : decode cX2_giveBack 14 = .ok (.aload_n 0, 1) := by decide +kernel
theorem dX2_giveBack_15 : decode cX2_giveBack 15 = .ok (.iload_n 1, 1) := by decide +kernel
theorem dX2_giveBack_16 : decode cX2_giveBack 16 = .ok (.aload_n 3, 1) := by decide +kernel
theorem dX2_giveBack_17 : decode cX2_giveBack 17 = .ok (.iload_n 2, 1) := by decide +kernel
theorem dX2_giveBack_18 : decode cX2_giveBack 18 = .ok (.invokevirtual 81, 3) := by decide +kernel
theorem dX2_giveBack_21 : decode cX2_giveBack 21 = .ok (.ifCond .eq 13, 3) := by decide +kernel
theorem dX2_giveBack_24 : decode cX2_giveBack 24 = .ok (.new 43, 3) := by decide +kernel
theorem dX2_giveBack_27 : decode cX2_giveBack 27 = .ok (.dup, 1) := by decide +kernel
theorem dX2_giveBack_28 : decode cX2_giveBack 28 = .ok (.ldc 85, 2) := by decide +kernel
theorem dX2_giveBack_30 : decode cX2_giveBack 30 = .ok (.invokespecial 47, 3) := by decide +kernel
theorem dX2_giveBack_33 : decode cX2_giveBack 33 = .ok (.athrow, 1) := by decide +kernel
theorem dX2_giveBack_34 : decode cX2_giveBack 34 = .ok (.aload_n 3, 1) := by decide +kernel
theorem dX2_giveBack_35 : decode cX2_giveBack 35 = .ok (.getfield 87, 3) := by decide +kernel
theorem dX2_giveBack_38 : decode cX2_giveBack 38 = .ok (.istore 4, 2) := by decide +kernel
theorem dX2_giveBack_40 : decode cX2_giveBack 40 = .ok (.aload_n 0, 1) := by decide +kernel
theorem dX2_giveBack_41 : decode cX2_giveBack 41 = .ok (.iload_n 1, 1) := by decide +kernel
theorem dX2_giveBack_42 : decode cX2_giveBack 42 = .ok (.aload_n 3, 1) := by decide +kernel
theorem dX2_giveBack_43 : decode cX2_giveBack 43 = .ok (.invokevirtual 90, 3) := by decide +kernel
theorem dX2_giveBack_46 : decode cX2_giveBack 46 = .ok (.iload 4, 2) := by decide +kernel
theorem dX2_giveBack_48 : decode cX2_giveBack 48 = .ok (.ireturn, 1) := by decide +kernel
set_option maxRecDepth 20000 in
theorem ggX2_drill_X2_boxAt : GoodIn wsX2_drill wsX2_boxAt := goodIn_ca (goodIn_r _ [11, 12, 13, 14, 10, 15, 1, 2, 74, 75, 76, 77, 78, 79] (by decide +kernel) (by decide +kernel)) (goodIn_sub (fun _ h => List.mem_cons_of_mem _ (List.mem_append_left _ (List.mem_append_right _ h))) (by decide +kernel))
set_option maxRecDepth 20000 in
theorem gX2_drill_X2_boxAt : GoodIn wsX2_drill (wsV RX2 50 RX2 yX2_boxAt wsX2_boxAt) := goodIn_app (goodIn_of _ (by decide +kernel)) ggX2_drill_X2_boxAt
set_option maxRecDepth 20000 in
theorem ggX2_drill_X2_requirePerson : GoodIn wsX2_drill wsX2_requirePerson := goodIn_ca (goodIn_r _ [18, 13, 14, 10, 15, 1, 2] (by decide +kernel) (by decide +kernel)) (goodIn_sub (fun _ h => List.mem_cons_of_mem _ (List.mem_append_left _ (List.mem_append_right _ h))) (by decide +kernel))
set_option maxRecDepth 20000 in
theorem gX2_drill_X2_requirePerson : GoodIn wsX2_drill (va_wsS RX2 54 yX2_requirePerson wsX2_requirePerson) := goodIn_app (goodIn_of _ (by decide +kernel)) ggX2_drill_X2_requirePerson
set_option maxRecDepth 20000 in
theorem ggX2_drill_X2_requireRented : GoodIn wsX2_drill wsX2_requireRented := goodIn_ca (goodIn_r _ [21, 3, 4, 22, 23, 24, 25, 26, 80, 81, 82, 83, 84, 85, 86, 87, 88, 89] (by decide +kernel) (by decide +kernel)) (goodIn_sub (fun _ h => List.mem_cons_of_mem _ (List.mem_append_right _ h)) (by decide +kernel))
set_option maxRecDepth 20000 in
theorem gX2_drill_X2_requireRented : GoodIn wsX2_drill (va_wsS RX2 77 yX2_requireRented wsX2_requireRented) := goodIn_app (goodIn_of _ (by decide +kernel)) ggX2_drill_X2_requireRented
set_option maxRecDepth 20000 in
theorem ggX2_drill_X0_noticesOn : GoodIn wsX2_drill wsX0_noticesOn := goodIn_r _ [29, 30, 31, 32, 33, 34, 35, 36, 23, 37, 38, 39, 40, 41, 80, 81, 82, 83, 84, 85, 86, 87, 88, 89] (by decide +kernel) (by decide +kernel)
set_option maxRecDepth 20000 in
theorem gX2_drill_X0_noticesOn_n99 : GoodIn wsX2_drill (wsX0_noticesOn) := ggX2_drill_X0_noticesOn
set_option maxRecDepth 20000 in
theorem ggX2_drill_X2_canWitness : GoodIn wsX2_drill wsX2_canWitness := goodIn_r _ [45, 46, 47, 48, 10, 49, 50, 51, 52, 53, 80, 81, 82, 83, 84, 85, 86, 87, 88, 89, 74, 75, 76, 77, 78, 79] (by decide +kernel) (by decide +kernel)
set_option maxRecDepth 20000 in
theorem gX2_drill_X2_canWitness : GoodIn wsX2_drill (wsV RX2 105 RX2 yX2_canWitness wsX2_canWitness) := goodIn_app (goodIn_of _ (by decide +kernel)) ggX2_drill_X2_canWitness
set_option maxRecDepth 20000 in
theorem ggX2_drill_X1_bindingOn : GoodIn wsX2_drill wsX1_bindingOn := goodIn_r _ [57, 58, 59, 60, 61, 90, 91, 92, 93, 94, 95] (by decide +kernel) (by decide +kernel)
set_option maxRecDepth 20000 in
theorem gX2_drill_X1_bindingOn_n111 : GoodIn wsX2_drill (wsX1_bindingOn) := ggX2_drill_X1_bindingOn
set_option maxRecDepth 20000 in
theorem ggX2_drill_X1_kindOf : GoodIn wsX2_drill wsX1_kindOf := goodIn_r _ [64, 65, 66, 67, 68, 55, 69, 58, 90, 91, 92, 93, 94, 95] (by decide +kernel) (by decide +kernel)
set_option maxRecDepth 20000 in
theorem gX2_drill_X1_kindOf_n114 : GoodIn wsX2_drill (wsX1_kindOf) := ggX2_drill_X1_kindOf
set_option maxRecDepth 20000 in
theorem ggX2_drill_X0_breakOpen : GoodIn wsX2_drill wsX0_breakOpen := goodIn_r _ [72, 26, 73, 34, 35, 36, 23, 37, 38, 39, 40, 32, 41, 80, 81, 82, 83, 84, 85, 86, 87, 88, 89] (by decide +kernel) (by decide +kernel)
set_option maxRecDepth 20000 in
theorem gX2_drill_X0_breakOpen_n119 : GoodIn wsX2_drill (wsX0_breakOpen) := ggX2_drill_X0_breakOpen
theorem dX2_drill_0 : decode cX2_drill 0 = .ok (.aload_n 0, 1) := by decide +kernel
theorem dX2_drill_1 : decode cX2_drill 1 = .ok (.iload_n 1, 1) := by decide +kernel
theorem dX2_drill_2 : decode cX2_drill 2 = .ok (.invokevirtual 50, 3) := by decide +kernel
theorem dX2_drill_5 : decode cX2_drill 5 = .ok (.astore 4, 2) := by decide +kernel
theorem dX2_drill_7 : decode cX2_drill 7 = .ok (.iload_n 2, 1) := by decide +kernel
theorem dX2_drill_8 : decode cX2_drill 8 = .ok (.invokestatic 54, 3) := by decide +kernel
theorem dX2_drill_11 : decode cX2_drill 11 = .ok (.iload_n 3, 1) := by decide +kernel
theorem dX2_drill_12 : decode cX2_drill 12 = .ok (.invokestatic 54, 3) := by decide +kernel
theorem dX2_drill_15 : decode cX2_drill 15 = .ok (.iload_n 2, 1) := by decide +kernel
theorem dX2_drill_16 : decode cX2_drill 16 = .ok (.iload_n 3, 1) := by decide +kernel
theorem dX2_drill_17 : decode cX2_drill 17 = .ok (.if_icmp .ne 13, 3) := by decide +kernel
theorem dX2_drill_20 : decode cX2_drill 20 = .ok (.new 94, 3) := by decide +kernel
theorem dX2_drill_23 : decode cX2_drill 23 = .ok (.dup, 1) := by decide +kernel
theorem dX2_drill_24 : decode cX2_drill 24 = .ok (.ldc 96, 2) := by decide +kernel
theorem dX2_drill_26 : decode cX2_drill 26 = .ok (.invokespecial 98, 3) := by decide +kernel
theorem dX2_drill_29 : decode cX2_drill 29 = .ok (.athrow, 1) := by decide +kernel
theorem dX2_drill_30 : decode cX2_drill 30 = .ok (.aload 4, 2) := by decide +kernel
theorem dX2_drill_32 : decode cX2_drill 32 = .ok (.invokestatic 77, 3) := by decide +kernel
theorem dX2_drill_35 : decode cX2_drill 35 = .ok (.aload 4, 2) := by decide +kernel
theorem dX2_drill_37 : decode cX2_drill 37 = .ok (.aload_n 0, 1) := by decide +kernel
theorem dX2_drill_38 : decode cX2_drill 38 = .ok (.getfield 33, 3) := by decide +kernel
theorem dX2_drill_41 : decode cX2_drill 41 = .ok (.invokevirtual 99, 3) := by decide +kernel
theorem dX2_drill_44 : decode cX2_drill 44 = .ok (.iconst 3, 1) := by decide +kernel
theorem dX2_drill_45 : decode cX2_drill 45 = .ok (.if_icmp .ge 13, 3) := by decide +kernel
theorem dX2_drill_48 : decode cX2_drill 48 = .ok (.new 43, 3) := by decide +kernel
theorem dX2_drill_51 : decode cX2_drill 51 = .ok (.dup, 1) := by decide +kernel
theorem dX2_drill_52 : decode cX2_drill 52 = .ok (.ldc 103, 2) := by decide +kernel
theorem dX2_drill_54 : decode cX2_drill 54 = .ok (.invokespecial 47, 3) := by decide +kernel
theorem dX2_drill_57 : decode cX2_drill 57 = .ok (.athrow, 1) := by decide +kernel
theorem dX2_drill_58 : decode cX2_drill 58 = .ok (.aload_n 0, 1) := by decide +kernel
theorem dX2_drill_59 : decode cX2_drill 59 = .ok (.aload 4, 2) := by decide +kernel
theorem dX2_drill_61 : decode cX2_drill 61 = .ok (.iload_n 2, 1) := by decide +kernel
theorem dX2_drill_62 : decode cX2_drill 62 = .ok (.invokevirtual 105, 3) := by decide +kernel
theorem dX2_drill_65 : decode cX2_drill 65 = .ok (.ifCond .eq 13, 3) := by decide +kernel
theorem dX2_drill_68 : decode cX2_drill 68 = .ok (.aload_n 0, 1) := by decide +kernel
theorem dX2_drill_69 : decode cX2_drill 69 = .ok (.aload 4, 2) := by decide +kernel
theorem dX2_drill_71 : decode cX2_drill 71 = .ok (.iload_n 3, 1) := by decide +kernel
theorem dX2_drill_72 : decode cX2_drill 72 = .ok (.invokevirtual 105, 3) := by decide +kernel
theorem dX2_drill_75 : decode cX2_drill 75 = .ok (.ifCond .ne 13, 3) := by decide +kernel
theorem dX2_drill_78 : decode cX2_drill 78 = .ok (.new 43, 3) := by decide +kernel
theorem dX2_drill_81 : decode cX2_drill 81 = .ok (.dup, 1) := by decide +kernel
theorem dX2_drill_82 : decode cX2_drill 82 = .ok (.ldc 109, 2) := by decide +kernel
theorem dX2_drill_84 : decode cX2_drill 84 = .ok (.invokespecial 47, 3) := by decide +kernel
theorem dX2_drill_87 : decode cX2_drill 87 = .ok (.athrow, 1) := by decide +kernel
theorem dX2_drill_88 : decode cX2_drill 88 = .ok (.aload_n 0, 1) := by decide +kernel
theorem dX2_drill_89 : decode cX2_drill 89 = .ok (.getfield 18, 3) := by decide +kernel
theorem dX2_drill_92 : decode cX2_drill 92 = .ok (.aload_n 0, 1) := by decide +kernel
theorem dX2_drill_93 : decode cX2_drill 93 = .ok (.getfield 18, 3) := by decide +kernel
theorem dX2_drill_96 : decode cX2_drill 96 = .ok (.iload_n 1, 1) := by decide +kernel
theorem dX2_drill_97 : decode cX2_drill 97 = .ok (.invokevirtual 111, 3) := by decide +kernel
theorem dX2_drill_100 : decode cX2_drill 100 = .ok (.invokevirtual 114, 3) := by decide +kernel
theorem dX2_drill_103 : decode cX2_drill 103 = .ok (.ifCond .ne 13, 3) := by decide +kernel
theorem dX2_drill_106 : decode cX2_drill 106 = .ok (.new 43, 3) := by decide +kernel
theorem dX2_drill_109 : decode cX2_drill 109 = .ok (.dup, 1) := by decide +kernel
theorem dX2_drill_110 : decode cX2_drill 110 = .ok (.ldc 117, 2) := by decide +kernel
theorem dX2_drill_112 : decode cX2_drill 112 = .ok (.invokespecial 47, 3) := by decide +kernel
theorem dX2_drill_115 : decode cX2_drill 115 = .ok (.athrow, 1) := by decide +kernel
theorem dX2_drill_116 : decode cX2_drill 116 = .ok (.aload 4, 2) := by decide +kernel
theorem dX2_drill_118 : decode cX2_drill 118 = .ok (.aload_n 0, 1) := by decide +kernel
theorem dX2_drill_119 : decode cX2_drill 119 = .ok (.getfield 33, 3) := by decide +kernel
theorem dX2_drill_122 : decode cX2_drill 122 = .ok (.invokevirtual 119, 3) := by decide +kernel
theorem dX2_drill_125 : decode cX2_drill 125 = .ok (.aload 4, 2) := by decide +kernel
theorem dX2_drill_127 : decode cX2_drill 127 = .ok (.getfield 122, 3) := by decide +kernel
theorem dX2_drill_130 : decode cX2_drill 130 = .ok (.ireturn, 1) := by decide +kernel
set_option maxRecDepth 20000 in
theorem ggX2_fetch_X2_boxAt : GoodIn wsX2_fetch wsX2_boxAt := goodIn_ca (goodIn_r _ [7, 8, 9, 10, 6, 11, 12, 13, 91, 92, 93, 94, 95, 96] (by decide +kernel) (by decide +kernel)) (goodIn_sub (fun _ h => List.mem_cons_of_mem _ (List.mem_append_right _ h)) (by decide +kernel))
set_option maxRecDepth 20000 in
theorem gX2_fetch_X2_boxAt : GoodIn wsX2_fetch (wsV RX2 50 RX2 yX2_boxAt wsX2_boxAt) := goodIn_app (goodIn_of _ (by decide +kernel)) ggX2_fetch_X2_boxAt
set_option maxRecDepth 20000 in
theorem ggX2_fetch_X2_requirePerson : GoodIn wsX2_fetch wsX2_requirePerson := goodIn_ca (goodIn_r _ [16, 9, 10, 6, 11, 12, 13] (by decide +kernel) (by decide +kernel)) (goodIn_sub (fun _ h => List.mem_cons_of_mem _ (List.mem_append_right _ h)) (by decide +kernel))
set_option maxRecDepth 20000 in
theorem gX2_fetch_X2_requirePerson : GoodIn wsX2_fetch (va_wsS RX2 54 yX2_requirePerson wsX2_requirePerson) := goodIn_app (goodIn_of _ (by decide +kernel)) ggX2_fetch_X2_requirePerson
set_option maxRecDepth 20000 in
theorem ggX2_fetch_X2_mayFetch : GoodIn wsX2_fetch wsX2_mayFetch := goodIn_r _ [20, 21, 22, 23, 24, 6, 25, 26, 27, 28, 29, 30, 31, 32, 33, 34, 35, 36, 37, 38, 39, 40, 41, 42, 43, 44, 45, 46, 47, 48, 49, 50, 51, 52, 53, 54, 55, 56, 57, 58, 59, 60, 61, 62, 91, 92, 93, 94, 95, 96, 81, 82, 83, 84, 85, 86, 87, 88, 89, 90, 97, 98, 99, 100, 101, 102] (by decide +kernel) (by decide +kernel)
set_option maxRecDepth 20000 in
theorem gX2_fetch_X2_mayFetch : GoodIn wsX2_fetch (wsV RX2 130 RX2 yX2_mayFetch wsX2_mayFetch) := goodIn_app (goodIn_of _ (by decide +kernel)) ggX2_fetch_X2_mayFetch
set_option maxRecDepth 20000 in
theorem ggX2_fetch_X2_makeFree : GoodIn wsX2_fetch wsX2_makeFree := goodIn_r _ [66, 21, 67, 68, 69, 70, 71, 72, 73, 74, 75, 76, 77, 78, 31, 79, 80, 34, 36, 35, 91, 92, 93, 94, 95, 96, 81, 82, 83, 84, 85, 86, 87, 88, 89, 90, 97, 98, 99, 100, 101, 102] (by decide +kernel) (by decide +kernel)
set_option maxRecDepth 20000 in
theorem gX2_fetch_X2_makeFree : GoodIn wsX2_fetch (wsV RX2 90 RX2 yX2_makeFree wsX2_makeFree) := goodIn_app (goodIn_of _ (by decide +kernel)) ggX2_fetch_X2_makeFree
theorem dX2_fetch_0 : decode cX2_fetch 0 = .ok (.aload_n 0, 1) := by decide +kernel
theorem dX2_fetch_1 : decode cX2_fetch 1 = .ok (.iload_n 1, 1) := by decide +kernel
theorem dX2_fetch_2 : decode cX2_fetch 2 = .ok (.invokevirtual 50, 3) := by decide +kernel
theorem dX2_fetch_5 : decode cX2_fetch 5 = .ok (.astore_n 3, 1) := by decide +kernel
theorem dX2_fetch_6 : decode cX2_fetch 6 = .ok (.iload_n 2, 1) := by decide +kernel
theorem dX2_fetch_7 : decode cX2_fetch 7 = .ok (.invokestatic 54, 3) := by decide +kernel
theorem dX2_fetch_10 : decode cX2_fetch 10 = .ok (.aload_n 3, 1) := by decide +kernel
theorem dX2_fetch_11 : decode cX2_fetch 11 = .ok (.getfield 125, 3) := by decide +kernel
theorem dX2_fetch_14 : decode cX2_fetch 14 = .ok (.iconst 2, 1) := by decide +kernel
theorem dX2_fetch_15 : decode cX2_fetch 15 = .ok (.if_icmp .eq 13, 3) := by decide +kernel
theorem dX2_fetch_18 : decode cX2_fetch 18 = .ok (.new 43, 3) := by decide +kernel
theorem dX2_fetch_21 : decode cX2_fetch 21 = .ok (.dup, 1) := by decide +kernel
theorem dX2_fetch_22 : decode cX2_fetch 22 = .ok (.ldc 128, 2) := by decide +kernel
theorem dX2_fetch_24 : decode cX2_fetch 24 = .ok (.invokespecial 47, 3) := by decide +kernel
theorem dX2_fetch_27 : decode cX2_fetch 27 = .ok (.athrow, 1) := by decide +kernel
theorem dX2_fetch_28 : decode cX2_fetch 28 = .ok (.aload_n 0, 1) := by decide +kernel
theorem dX2_fetch_29 : decode cX2_fetch 29 = .ok (.iload_n 1, 1) := by decide +kernel
theorem dX2_fetch_30 : decode cX2_fetch 30 = .ok (.aload_n 3, 1) := by decide +kernel
theorem dX2_fetch_31 : decode cX2_fetch 31 = .ok (.iload_n 2, 1) := by decide +kernel
theorem dX2_fetch_32 : decode cX2_fetch 32 = .ok (.invokevirtual 130, 3) := by decide +kernel
theorem dX2_fetch_35 : decode cX2_fetch 35 = .ok (.ifCond .ne 13, 3) := by decide +kernel
theorem dX2_fetch_38 : decode cX2_fetch 38 = .ok (.new 43, 3) := by decide +kernel
theorem dX2_fetch_41 : decode cX2_fetch 41 = .ok (.dup, 1) := by decide +kernel
theorem dX2_fetch_42 : decode cX2_fetch 42 = .ok (.ldc 134, 2) := by decide +kernel
theorem dX2_fetch_44 : decode cX2_fetch 44 = .ok (.invokespecial 47, 3) := by decide +kernel
theorem dX2_fetch_47 : decode cX2_fetch 47 = .ok (.athrow, 1) := by decide +kernel
theorem dX2_fetch_48 : decode cX2_fetch 48 = .ok (.aload_n 3, 1) := by decide +kernel
theorem dX2_fetch_49 : decode cX2_fetch 49 = .ok (.getfield 122, 3) := by decide +kernel
theorem dX2_fetch_52 : decode cX2_fetch 52 = .ok (.istore 4, 2) := by decide +kernel
theorem dX2_fetch_54 : decode cX2_fetch 54 = .ok (.aload_n 0, 1) := by decide +kernel
theorem dX2_fetch_55 : decode cX2_fetch 55 = .ok (.iload_n 1, 1) := by decide +kernel
theorem dX2_fetch_56 : decode cX2_fetch 56 = .ok (.aload_n 3, 1) := by decide +kernel
theorem dX2_fetch_57 : decode cX2_fetch 57 = .ok (.invokevirtual 90, 3) := by decide +kernel
theorem dX2_fetch_60 : decode cX2_fetch 60 = .ok (.iload 4, 2) := by decide +kernel
theorem dX2_fetch_62 : decode cX2_fetch 62 = .ok (.ireturn, 1) := by decide +kernel
set_option maxRecDepth 20000 in
theorem ggX2_proxy_X2_boxAt : GoodIn wsX2_proxy wsX2_boxAt := goodIn_ca (goodIn_r _ [8, 9, 10, 11, 7, 12, 13, 14, 51, 52, 53, 54, 55, 56] (by decide +kernel) (by decide +kernel)) (goodIn_sub (fun _ h => List.mem_cons_of_mem _ (List.mem_append_right _ h)) (by decide +kernel))
set_option maxRecDepth 20000 in
theorem gX2_proxy_X2_boxAt : GoodIn wsX2_proxy (wsV RX2 50 RX2 yX2_boxAt wsX2_boxAt) := goodIn_app (goodIn_of _ (by decide +kernel)) ggX2_proxy_X2_boxAt
set_option maxRecDepth 20000 in
theorem ggX2_proxy_X2_requirePerson : GoodIn wsX2_proxy wsX2_requirePerson := goodIn_ca (goodIn_r _ [17, 10, 11, 7, 12, 13, 14] (by decide +kernel) (by decide +kernel)) (goodIn_sub (fun _ h => List.mem_cons_of_mem _ (List.mem_append_right _ h)) (by decide +kernel))
set_option maxRecDepth 20000 in
theorem gX2_proxy_X2_requirePerson : GoodIn wsX2_proxy (va_wsS RX2 54 yX2_requirePerson wsX2_requirePerson) := goodIn_app (goodIn_of _ (by decide +kernel)) ggX2_proxy_X2_requirePerson
set_option maxRecDepth 20000 in
theorem ggX2_proxy_X2_requireRange : GoodIn wsX2_proxy wsX2_requireRange := goodIn_ca (goodIn_r _ [12, 13, 14] (by decide +kernel) (by decide +kernel)) (goodIn_sub (fun _ h => List.mem_cons_of_mem _ (List.mem_append_right _ h)) (by decide +kernel))
set_option maxRecDepth 20000 in
theorem gX2_proxy_X2_requireRange : GoodIn wsX2_proxy (va_wsS RX2 38 yX2_requireRange wsX2_requireRange) := goodIn_app (goodIn_of _ (by decide +kernel)) ggX2_proxy_X2_requireRange
set_option maxRecDepth 20000 in
theorem ggX2_proxy_X2_requireRented : GoodIn wsX2_proxy wsX2_requireRented := goodIn_ca (goodIn_r _ [20, 1, 2, 21, 22, 23, 24, 25, 41, 42, 43, 44, 45, 46, 47, 48, 49, 50] (by decide +kernel) (by decide +kernel)) (goodIn_sub (fun _ h => List.mem_cons_of_mem _ (List.mem_append_left _ (List.mem_append_right _ h))) (by decide +kernel))
set_option maxRecDepth 20000 in
theorem gX2_proxy_X2_requireRented : GoodIn wsX2_proxy (va_wsS RX2 77 yX2_requireRented wsX2_requireRented) := goodIn_app (goodIn_of _ (by decide +kernel)) ggX2_proxy_X2_requireRented
set_option maxRecDepth 20000 in
theorem ggX2_proxy_X2_isAlive : GoodIn wsX2_proxy wsX2_isAlive := goodIn_r _ [29, 30, 31, 32, 7, 33, 51, 52, 53, 54, 55, 56] (by decide +kernel) (by decide +kernel)
set_option maxRecDepth 20000 in
theorem gX2_proxy_X2_isAlive : GoodIn wsX2_proxy (wsV RX2 64 RX2 yX2_isAlive wsX2_isAlive) := goodIn_app (goodIn_of _ (by decide +kernel)) ggX2_proxy_X2_isAlive
set_option maxRecDepth 20000 in
theorem ggX2_proxy_X0_addProxy : GoodIn wsX2_proxy wsX0_addProxy := goodIn_r _ [36, 37, 38, 39, 40, 41, 42, 43, 44, 45, 46, 47, 48, 49, 50] (by decide +kernel) (by decide +kernel)
set_option maxRecDepth 20000 in
theorem gX2_proxy_X0_addProxy_n148 : GoodIn wsX2_proxy (wsX0_addProxy) := ggX2_proxy_X0_addProxy
theorem dX2_proxy_0 : decode cX2_proxy 0 = .ok (.aload_n 0, 1) := by decide +kernel
theorem dX2_proxy_1 : decode cX2_proxy 1 = .ok (.iload_n 1, 1) := by decide +kernel
theorem dX2_proxy_2 : decode cX2_proxy 2 = .ok (.invokevirtual 50, 3) := by decide +kernel
theorem dX2_proxy_5 : decode cX2_proxy 5 = .ok (.astore 5, 2) := by decide +kernel
theorem dX2_proxy_7 : decode cX2_proxy 7 = .ok (.iload_n 2, 1) := by decide +kernel
theorem dX2_proxy_8 : decode cX2_proxy 8 = .ok (.invokestatic 54, 3) := by decide +kernel
theorem dX2_proxy_11 : decode cX2_proxy 11 = .ok (.iload_n 3, 1) := by decide +kernel
theorem dX2_proxy_12 : decode cX2_proxy 12 = .ok (.iconst 0, 1) := by decide +kernel
theorem dX2_proxy_13 : decode cX2_proxy 13 = .ok (.ldc 42, 2) := by decide +kernel
theorem dX2_proxy_15 : decode cX2_proxy 15 = .ok (.invokestatic 38, 3) := by decide +kernel
theorem dX2_proxy_18 : decode cX2_proxy 18 = .ok (.iload 4, 2) := by decide +kernel
theorem dX2_proxy_20 : decode cX2_proxy 20 = .ok (.iload_n 3, 1) := by decide +kernel
theorem dX2_proxy_21 : decode cX2_proxy 21 = .ok (.ldc 42, 2) := by decide +kernel
theorem dX2_proxy_23 : decode cX2_proxy 23 = .ok (.invokestatic 38, 3) := by decide +kernel
theorem dX2_proxy_26 : decode cX2_proxy 26 = .ok (.aload 5, 2) := by decide +kernel
theorem dX2_proxy_28 : decode cX2_proxy 28 = .ok (.invokestatic 77, 3) := by decide +kernel
theorem dX2_proxy_31 : decode cX2_proxy 31 = .ok (.aload_n 0, 1) := by decide +kernel
theorem dX2_proxy_32 : decode cX2_proxy 32 = .ok (.aload 5, 2) := by decide +kernel
theorem dX2_proxy_34 : decode cX2_proxy 34 = .ok (.getfield 136, 3) := by decide +kernel
theorem dX2_proxy_37 : decode cX2_proxy 37 = .ok (.invokevirtual 64, 3) := by decide +kernel
theorem dX2_proxy_40 : decode cX2_proxy 40 = .ok (.ifCond .ne 13, 3) := by decide +kernel
theorem dX2_proxy_43 : decode cX2_proxy 43 = .ok (.new 43, 3) := by decide +kernel
theorem dX2_proxy_46 : decode cX2_proxy 46 = .ok (.dup, 1) := by decide +kernel
theorem dX2_proxy_47 : decode cX2_proxy 47 = .ok (.ldc 139, 2) := by decide +kernel
theorem dX2_proxy_49 : decode cX2_proxy 49 = .ok (.invokespecial 47, 3) := by decide +kernel
theorem dX2_proxy_52 : decode cX2_proxy 52 = .ok (.athrow, 1) := by decide +kernel
theorem dX2_proxy_53 : decode cX2_proxy 53 = .ok (.iload_n 2, 1) := by decide +kernel
theorem dX2_proxy_54 : decode cX2_proxy 54 = .ok (.aload 5, 2) := by decide +kernel
theorem dX2_proxy_56 : decode cX2_proxy 56 = .ok (.getfield 136, 3) := by decide +kernel
theorem dX2_proxy_59 : decode cX2_proxy 59 = .ok (.if_icmp .ne 13, 3) := by decide +kernel
theorem dX2_proxy_62 : decode cX2_proxy 62 = .ok (.new 43, 3) := by decide +kernel
theorem dX2_proxy_65 : decode cX2_proxy 65 = .ok (.dup, 1) := by decide +kernel
theorem dX2_proxy_66 : decode cX2_proxy 66 = .ok (.ldc 141, 2) := by decide +kernel
theorem dX2_proxy_68 : decode cX2_proxy 68 = .ok (.invokespecial 47, 3) := by decide +kernel
theorem dX2_proxy_71 : decode cX2_proxy 71 = .ok (.athrow, 1) := by decide +kernel
theorem dX2_proxy_72 : decode cX2_proxy 72 = .ok (.aload 5, 2) := by decide +kernel
theorem dX2_proxy_74 : decode cX2_proxy 74 = .ok (.getfield 143, 3) := by decide +kernel
theorem dX2_proxy_77 : decode cX2_proxy 77 = .ok (.iconst 5, 1) := by decide +kernel
theorem dX2_proxy_78 : decode cX2_proxy 78 = .ok (.if_icmp .lt 13, 3) := by decide +kernel
theorem dX2_proxy_81 : decode cX2_proxy 81 = .ok (.new 43, 3) := by decide +kernel
theorem dX2_proxy_84 : decode cX2_proxy 84 = .ok (.dup, 1) := by decide +kernel
theorem dX2_proxy_85 : decode cX2_proxy 85 = .ok (.ldc 146, 2) := by decide +kernel
theorem dX2_proxy_87 : decode cX2_proxy 87 = .ok (.invokespecial 47, 3) := by decide +kernel
theorem dX2_proxy_90 : decode cX2_proxy 90 = .ok (.athrow, 1) := by decide +kernel
theorem dX2_proxy_91 : decode cX2_proxy 91 = .ok (.aload 5, 2) := by decide +kernel
theorem dX2_proxy_93 : decode cX2_proxy 93 = .ok (.iload_n 2, 1) := by decide +kernel
theorem dX2_proxy_94 : decode cX2_proxy 94 = .ok (.iload_n 3, 1) := by decide +kernel
theorem dX2_proxy_95 : decode cX2_proxy 95 = .ok (.iload 4, 2) := by decide +kernel
theorem dX2_proxy_97 : decode cX2_proxy 97 = .ok (.invokevirtual 148, 3) := by decide +kernel
theorem dX2_proxy_100 : decode cX2_proxy 100 = .ok (.aload 5, 2) := by decide +kernel
theorem dX2_proxy_102 : decode cX2_proxy 102 = .ok (.getfield 143, 3) := by decide +kernel
theorem dX2_proxy_105 : decode cX2_proxy 105 = .ok (.ireturn, 1) := by decide +kernel
set_option maxRecDepth 20000 in
theorem ggX2_heir_X2_requirePerson : GoodIn wsX2_heir wsX2_requirePerson := goodIn_ca (goodIn_r _ [7, 8, 9, 6, 10, 1, 2] (by decide +kernel) (by decide +kernel)) (goodIn_sub (fun _ h => List.mem_cons_of_mem _ (List.mem_append_right _ h)) (by decide +kernel))
set_option maxRecDepth 20000 in
theorem gX2_heir_X2_requirePerson : GoodIn wsX2_heir (va_wsS RX2 54 yX2_requirePerson wsX2_requirePerson) := goodIn_app (goodIn_of _ (by decide +kernel)) ggX2_heir_X2_requirePerson
set_option maxRecDepth 20000 in
theorem ggX2_heir_X2_isHeir : GoodIn wsX2_heir wsX2_isHeir := goodIn_r _ [14, 3, 15, 16, 6, 17, 18, 19, 20, 21, 22, 23] (by decide +kernel) (by decide +kernel)
set_option maxRecDepth 20000 in
theorem gX2_heir_X2_isHeir : GoodIn wsX2_heir (wsV RX2 153 RX2 yX2_isHeir wsX2_isHeir) := goodIn_app (goodIn_of _ (by decide +kernel)) ggX2_heir_X2_isHeir
theorem dX2_heir_0 : decode cX2_heir 0 = .ok (.iload_n 1, 1) := by decide +kernel
theorem dX2_heir_1 : decode cX2_heir 1 = .ok (.invokestatic 54, 3) := by decide +kernel
theorem dX2_heir_4 : decode cX2_heir 4 = .ok (.iload_n 2, 1) := by decide +kernel
theorem dX2_heir_5 : decode cX2_heir 5 = .ok (.invokestatic 54, 3) := by decide +kernel
theorem dX2_heir_8 : decode cX2_heir 8 = .ok (.iload_n 1, 1) := by decide +kernel
theorem dX2_heir_9 : decode cX2_heir 9 = .ok (.iload_n 2, 1) := by decide +kernel
theorem dX2_heir_10 : decode cX2_heir 10 = .ok (.if_icmp .ne 13, 3) := by decide +kernel
theorem dX2_heir_13 : decode cX2_heir 13 = .ok (.new 94, 3) := by decide +kernel
theorem dX2_heir_16 : decode cX2_heir 16 = .ok (.dup, 1) := by decide +kernel
theorem dX2_heir_17 : decode cX2_heir 17 = .ok (.ldc 151, 2) := by decide +kernel
theorem dX2_heir_19 : decode cX2_heir 19 = .ok (.invokespecial 98, 3) := by decide +kernel
theorem dX2_heir_22 : decode cX2_heir 22 = .ok (.athrow, 1) := by decide +kernel
theorem dX2_heir_23 : decode cX2_heir 23 = .ok (.aload_n 0, 1) := by decide +kernel
theorem dX2_heir_24 : decode cX2_heir 24 = .ok (.iload_n 2, 1) := by decide +kernel
theorem dX2_heir_25 : decode cX2_heir 25 = .ok (.iload_n 1, 1) := by decide +kernel
theorem dX2_heir_26 : decode cX2_heir 26 = .ok (.invokevirtual 153, 3) := by decide +kernel
theorem dX2_heir_29 : decode cX2_heir 29 = .ok (.istore 4, 2) := by decide +kernel
theorem dX2_heir_31 : decode cX2_heir 31 = .ok (.iconst 1, 1) := by decide +kernel
theorem dX2_heir_32 : decode cX2_heir 32 = .ok (.iload_n 2, 1) := by decide +kernel
theorem dX2_heir_33 : decode cX2_heir 33 = .ok (.ishl, 1) := by decide +kernel
theorem dX2_heir_34 : decode cX2_heir 34 = .ok (.istore 5, 2) := by decide +kernel
theorem dX2_heir_36 : decode cX2_heir 36 = .ok (.aload_n 0, 1) := by decide +kernel
theorem dX2_heir_37 : decode cX2_heir 37 = .ok (.getfield 26, 3) := by decide +kernel
theorem dX2_heir_40 : decode cX2_heir 40 = .ok (.iload_n 1, 1) := by decide +kernel
theorem dX2_heir_41 : decode cX2_heir 41 = .ok (.iload_n 3, 1) := by decide +kernel
theorem dX2_heir_42 : decode cX2_heir 42 = .ok (.ifCond .eq 15, 3) := by decide +kernel
theorem dX2_heir_45 : decode cX2_heir 45 = .ok (.aload_n 0, 1) := by decide +kernel
theorem dX2_heir_46 : decode cX2_heir 46 = .ok (.getfield 26, 3) := by decide +kernel
theorem dX2_heir_49 : decode cX2_heir 49 = .ok (.iload_n 1, 1) := by decide +kernel
theorem dX2_heir_50 : decode cX2_heir 50 = .ok (.iaload, 1) := by decide +kernel
theorem dX2_heir_51 : decode cX2_heir 51 = .ok (.iload 5, 2) := by decide +kernel
theorem dX2_heir_53 : decode cX2_heir 53 = .ok (.ior, 1) := by decide +kernel
theorem dX2_heir_54 : decode cX2_heir 54 = .ok (.goto 14, 3) := by decide +kernel
theorem dX2_heir_57 : decode cX2_heir 57 = .ok (.aload_n 0, 1) := by decide +kernel
theorem dX2_heir_58 : decode cX2_heir 58 = .ok (.getfield 26, 3) := by decide +kernel
theorem dX2_heir_61 : decode cX2_heir 61 = .ok (.iload_n 1, 1) := by decide +kernel
theorem dX2_heir_62 : decode cX2_heir 62 = .ok (.iaload, 1) := by decide +kernel
theorem dX2_heir_63 : decode cX2_heir 63 = .ok (.iload 5, 2) := by decide +kernel
theorem dX2_heir_65 : decode cX2_heir 65 = .ok (.iconst (-1), 1) := by decide +kernel
theorem dX2_heir_66 : decode cX2_heir 66 = .ok (.ixor, 1) := by decide +kernel
theorem dX2_heir_67 : decode cX2_heir 67 = .ok (.iand, 1) := by decide +kernel
theorem dX2_heir_68 : decode cX2_heir 68 = .ok (.iastore, 1) := by decide +kernel
theorem dX2_heir_69 : decode cX2_heir 69 = .ok (.iload 4, 2) := by decide +kernel
theorem dX2_heir_71 : decode cX2_heir 71 = .ok (.ireturn, 1) := by decide +kernel
set_option maxRecDepth 20000 in
theorem ggX2_die_X2_requirePerson : GoodIn wsX2_die wsX2_requirePerson := goodIn_ca (goodIn_r _ [8, 9, 10, 7, 11, 12, 13] (by decide +kernel) (by decide +kernel)) (goodIn_sub (fun _ h => List.mem_cons_of_mem _ (List.mem_append_right _ h)) (by decide +kernel))
set_option maxRecDepth 20000 in
theorem gX2_die_X2_requirePerson : GoodIn wsX2_die (va_wsS RX2 54 yX2_requirePerson wsX2_requirePerson) := goodIn_app (goodIn_of _ (by decide +kernel)) ggX2_die_X2_requirePerson
set_option maxRecDepth 20000 in
theorem ggX2_die_X0_endProxies : GoodIn wsX2_die wsX0_endProxies := goodIn_r _ [17, 18, 29, 30, 31, 32, 33, 34, 35, 36, 37, 38] (by decide +kernel) (by decide +kernel)
set_option maxRecDepth 20000 in
theorem gX2_die_X0_endProxies_n157 : GoodIn wsX2_die (wsX0_endProxies) := ggX2_die_X0_endProxies
set_option maxRecDepth 20000 in
theorem ggX2_die_X0_isRented : GoodIn wsX2_die wsX0_isRented := goodIn_r _ [21, 22, 29, 30, 31, 32, 33, 34, 35, 36, 37, 38] (by decide +kernel) (by decide +kernel)
set_option maxRecDepth 20000 in
theorem gX2_die_X0_isRented_n160 : GoodIn wsX2_die (wsX0_isRented) := ggX2_die_X0_isRented
theorem dX2_die_0 : decode cX2_die 0 = .ok (.iload_n 1, 1) := by decide +kernel
theorem dX2_die_1 : decode cX2_die 1 = .ok (.invokestatic 54, 3) := by decide +kernel
theorem dX2_die_4 : decode cX2_die 4 = .ok (.aload_n 0, 1) := by decide +kernel
theorem dX2_die_5 : decode cX2_die 5 = .ok (.getfield 22, 3) := by decide +kernel
theorem dX2_die_8 : decode cX2_die 8 = .ok (.iload_n 1, 1) := by decide +kernel
theorem dX2_die_9 : decode cX2_die 9 = .ok (.baload, 1) := by decide +kernel
theorem dX2_die_10 : decode cX2_die 10 = .ok (.ifCond .eq 13, 3) := by decide +kernel
theorem dX2_die_13 : decode cX2_die 13 = .ok (.new 43, 3) := by decide +kernel
theorem dX2_die_16 : decode cX2_die 16 = .ok (.dup, 1) := by decide +kernel
theorem dX2_die_17 : decode cX2_die 17 = .ok (.ldc 68, 2) := by decide +kernel
theorem dX2_die_19 : decode cX2_die 19 = .ok (.invokespecial 47, 3) := by decide +kernel
theorem dX2_die_22 : decode cX2_die 22 = .ok (.athrow, 1) := by decide +kernel
theorem dX2_die_23 : decode cX2_die 23 = .ok (.aload_n 0, 1) := by decide +kernel
theorem dX2_die_24 : decode cX2_die 24 = .ok (.getfield 22, 3) := by decide +kernel
theorem dX2_die_27 : decode cX2_die 27 = .ok (.iload_n 1, 1) := by decide +kernel
theorem dX2_die_28 : decode cX2_die 28 = .ok (.iconst 1, 1) := by decide +kernel
theorem dX2_die_29 : decode cX2_die 29 = .ok (.bastore, 1) := by decide +kernel
theorem dX2_die_30 : decode cX2_die 30 = .ok (.iconst 0, 1) := by decide +kernel
theorem dX2_die_31 : decode cX2_die 31 = .ok (.istore_n 2, 1) := by decide +kernel
theorem dX2_die_32 : decode cX2_die 32 = .ok (.iconst 0, 1) := by decide +kernel
theorem dX2_die_33 : decode cX2_die 33 = .ok (.istore_n 3, 1) := by decide +kernel
theorem dX2_die_34 : decode cX2_die 34 = .ok (.iload_n 3, 1) := by decide +kernel
theorem dX2_die_35 : decode cX2_die 35 = .ok (.bipush 8, 2) := by decide +kernel
theorem dX2_die_37 : decode cX2_die 37 = .ok (.if_icmp .ge 51, 3) := by decide +kernel
theorem dX2_die_40 : decode cX2_die 40 = .ok (.aload_n 0, 1) := by decide +kernel
theorem dX2_die_41 : decode cX2_die 41 = .ok (.getfield 11, 3) := by decide +kernel
theorem dX2_die_44 : decode cX2_die 44 = .ok (.iload_n 3, 1) := by decide +kernel
theorem dX2_die_45 : decode cX2_die 45 = .ok (.aaload, 1) := by decide +kernel
theorem dX2_die_46 : decode cX2_die 46 = .ok (.getfield 136, 3) := by decide +kernel
theorem dX2_die_49 : decode cX2_die 49 = .ok (.iload_n 1, 1) := by decide +kernel
theorem dX2_die_50 : decode cX2_die 50 = .ok (.if_icmp .ne 32, 3) := by decide +kernel
theorem dX2_die_53 : decode cX2_die 53 = .ok (.aload_n 0, 1) := by decide +kernel
theorem dX2_die_54 : decode cX2_die 54 = .ok (.getfield 11, 3) := by decide +kernel
theorem dX2_die_57 : decode cX2_die 57 = .ok (.iload_n 3, 1) := by decide +kernel
theorem dX2_die_58 : decode cX2_die 58 = .ok (.aaload, 1) := by decide +kernel
theorem dX2_die_59 : decode cX2_die 59 = .ok (.invokevirtual 157, 3) := by decide +kernel
theorem dX2_die_62 : decode cX2_die 62 = .ok (.iload_n 2, 1) := by decide +kernel
theorem dX2_die_63 : decode cX2_die 63 = .ok (.aload_n 0, 1) := by decide +kernel
theorem dX2_die_64 : decode cX2_die 64 = .ok (.getfield 11, 3) := by decide +kernel
theorem dX2_die_67 : decode cX2_die 67 = .ok (.iload_n 3, 1) := by decide +kernel
theorem dX2_die_68 : decode cX2_die 68 = .ok (.aaload, 1) := by decide +kernel
theorem dX2_die_69 : decode cX2_die 69 = .ok (.invokevirtual 160, 3) := by decide +kernel
theorem dX2_die_72 : decode cX2_die 72 = .ok (.ifCond .eq 7, 3) := by decide +kernel
theorem dX2_die_75 : decode cX2_die 75 = .ok (.iconst 1, 1) := by decide +kernel
theorem dX2_die_76 : decode cX2_die 76 = .ok (.goto 4, 3) := by decide +kernel
theorem dX2_die_79 : decode cX2_die 79 = .ok (.iconst 0, 1) := by decide +kernel
theorem dX2_die_80 : decode cX2_die 80 = .ok (.iadd, 1) := by decide +kernel
theorem dX2_die_81 : decode cX2_die 81 = .ok (.istore_n 2, 1) := by decide +kernel
theorem dX2_die_82 : decode cX2_die 82 = .ok (.iinc 3 1, 3) := by decide +kernel
theorem dX2_die_85 : decode cX2_die 85 = .ok (.goto (-51), 3) := by decide +kernel
theorem dX2_die_88 : decode cX2_die 88 = .ok (.iload_n 2, 1) := by decide +kernel
theorem dX2_die_89 : decode cX2_die 89 = .ok (.ireturn, 1) := by decide +kernel
set_option maxRecDepth 20000 in
theorem ggX2_order_X2_boxAt : GoodIn wsX2_order wsX2_boxAt := goodIn_ca (goodIn_r _ [8, 9, 10, 11, 7, 12, 13, 14, 36, 37, 38, 39, 40, 41] (by decide +kernel) (by decide +kernel)) (goodIn_sub (fun _ h => List.mem_cons_of_mem _ (List.mem_append_right _ h)) (by decide +kernel))
set_option maxRecDepth 20000 in
theorem gX2_order_X2_boxAt : GoodIn wsX2_order (wsV RX2 50 RX2 yX2_boxAt wsX2_boxAt) := goodIn_app (goodIn_of _ (by decide +kernel)) ggX2_order_X2_boxAt
set_option maxRecDepth 20000 in
theorem ggX2_order_X2_requireRange : GoodIn wsX2_order wsX2_requireRange := goodIn_ca (goodIn_r _ [12, 13, 14] (by decide +kernel) (by decide +kernel)) (goodIn_sub (fun _ h => List.mem_cons_of_mem _ (List.mem_append_right _ h)) (by decide +kernel))
set_option maxRecDepth 20000 in
theorem gX2_order_X2_requireRange : GoodIn wsX2_order (va_wsS RX2 38 yX2_requireRange wsX2_requireRange) := goodIn_app (goodIn_of _ (by decide +kernel)) ggX2_order_X2_requireRange
set_option maxRecDepth 20000 in
theorem ggX2_order_X2_requirePerson : GoodIn wsX2_order wsX2_requirePerson := goodIn_ca (goodIn_r _ [17, 10, 11, 7, 12, 13, 14] (by decide +kernel) (by decide +kernel)) (goodIn_sub (fun _ h => List.mem_cons_of_mem _ (List.mem_append_right _ h)) (by decide +kernel))
set_option maxRecDepth 20000 in
theorem gX2_order_X2_requirePerson : GoodIn wsX2_order (va_wsS RX2 54 yX2_requirePerson wsX2_requirePerson) := goodIn_app (goodIn_of _ (by decide +kernel)) ggX2_order_X2_requirePerson
set_option maxRecDepth 20000 in
theorem ggX2_order_X0_isFree : GoodIn wsX2_order wsX0_isFree := goodIn_r _ [21, 22, 42, 43, 44, 45, 46, 47, 48, 49, 50, 51] (by decide +kernel) (by decide +kernel)
set_option maxRecDepth 20000 in
theorem gX2_order_X0_isFree_n58 : GoodIn wsX2_order (wsX0_isFree) := ggX2_order_X0_isFree
set_option maxRecDepth 20000 in
theorem ggX2_order_X1_isFull : GoodIn wsX2_order wsX1_isFull := goodIn_r _ [26, 27, 52, 53, 54, 55, 56, 57] (by decide +kernel) (by decide +kernel)
set_option maxRecDepth 20000 in
theorem gX2_order_X1_isFull_n165 : GoodIn wsX2_order (wsX1_isFull) := ggX2_order_X1_isFull
set_option maxRecDepth 20000 in
theorem ggX2_order_X1_add : GoodIn wsX2_order wsX1_add := goodIn_r _ [30, 27, 31, 32, 33, 34, 35, 52, 53, 54, 55, 56, 57] (by decide +kernel) (by decide +kernel)
set_option maxRecDepth 20000 in
theorem gX2_order_X1_add_n170 : GoodIn wsX2_order (wsX1_add) := ggX2_order_X1_add
theorem dX2_order_0 : decode cX2_order 0 = .ok (.aload_n 0, 1) := by decide +kernel
theorem dX2_order_1 : decode cX2_order 1 = .ok (.iload_n 1, 1) := by decide +kernel
theorem dX2_order_2 : decode cX2_order 2 = .ok (.invokevirtual 50, 3) := by decide +kernel
theorem dX2_order_5 : decode cX2_order 5 = .ok (.astore 5, 2) := by decide +kernel
theorem dX2_order_7 : decode cX2_order 7 = .ok (.iload_n 2, 1) := by decide +kernel
theorem dX2_order_8 : decode cX2_order 8 = .ok (.iconst 0, 1) := by decide +kernel
theorem dX2_order_9 : decode cX2_order 9 = .ok (.iconst 1, 1) := by decide +kernel
theorem dX2_order_10 : decode cX2_order 10 = .ok (.invokestatic 38, 3) := by decide +kernel
theorem dX2_order_13 : decode cX2_order 13 = .ok (.iload_n 3, 1) := by decide +kernel
theorem dX2_order_14 : decode cX2_order 14 = .ok (.iconst 0, 1) := by decide +kernel
theorem dX2_order_15 : decode cX2_order 15 = .ok (.iconst 2, 1) := by decide +kernel
theorem dX2_order_16 : decode cX2_order 16 = .ok (.invokestatic 38, 3) := by decide +kernel
theorem dX2_order_19 : decode cX2_order 19 = .ok (.iload_n 3, 1) := by decide +kernel
theorem dX2_order_20 : decode cX2_order 20 = .ok (.iconst 1, 1) := by decide +kernel
theorem dX2_order_21 : decode cX2_order 21 = .ok (.if_icmp .ne 8, 3) := by decide +kernel
theorem dX2_order_24 : decode cX2_order 24 = .ok (.iload 4, 2) := by decide +kernel
theorem dX2_order_26 : decode cX2_order 26 = .ok (.invokestatic 54, 3) := by decide +kernel
theorem dX2_order_29 : decode cX2_order 29 = .ok (.aload 5, 2) := by decide +kernel
theorem dX2_order_31 : decode cX2_order 31 = .ok (.invokevirtual 58, 3) := by decide +kernel
theorem dX2_order_34 : decode cX2_order 34 = .ok (.ifCond .eq 13, 3) := by decide +kernel
theorem dX2_order_37 : decode cX2_order 37 = .ok (.new 43, 3) := by decide +kernel
theorem dX2_order_40 : decode cX2_order 40 = .ok (.dup, 1) := by decide +kernel
theorem dX2_order_41 : decode cX2_order 41 = .ok (.ldc 163, 2) := by decide +kernel
theorem dX2_order_43 : decode cX2_order 43 = .ok (.invokespecial 47, 3) := by decide +kernel
theorem dX2_order_46 : decode cX2_order 46 = .ok (.athrow, 1) := by decide +kernel
theorem dX2_order_47 : decode cX2_order 47 = .ok (.aload_n 0, 1) := by decide +kernel
theorem dX2_order_48 : decode cX2_order 48 = .ok (.getfield 18, 3) := by decide +kernel
theorem dX2_order_51 : decode cX2_order 51 = .ok (.invokevirtual 165, 3) := by decide +kernel
theorem dX2_order_54 : decode cX2_order 54 = .ok (.ifCond .eq 13, 3) := by decide +kernel
theorem dX2_order_57 : decode cX2_order 57 = .ok (.new 43, 3) := by decide +kernel
theorem dX2_order_60 : decode cX2_order 60 = .ok (.dup, 1) := by decide +kernel
theorem dX2_order_61 : decode cX2_order 61 = .ok (.ldc 168, 2) := by decide +kernel
theorem dX2_order_63 : decode cX2_order 63 = .ok (.invokespecial 47, 3) := by decide +kernel
theorem dX2_order_66 : decode cX2_order 66 = .ok (.athrow, 1) := by decide +kernel
theorem dX2_order_67 : decode cX2_order 67 = .ok (.aload_n 0, 1) := by decide +kernel
theorem dX2_order_68 : decode cX2_order 68 = .ok (.getfield 18, 3) := by decide +kernel
theorem dX2_order_71 : decode cX2_order 71 = .ok (.iload_n 1, 1) := by decide +kernel
theorem dX2_order_72 : decode cX2_order 72 = .ok (.iload_n 2, 1) := by decide +kernel
theorem dX2_order_73 : decode cX2_order 73 = .ok (.iload_n 3, 1) := by decide +kernel
theorem dX2_order_74 : decode cX2_order 74 = .ok (.iload 4, 2) := by decide +kernel
theorem dX2_order_76 : decode cX2_order 76 = .ok (.invokevirtual 170, 3) := by decide +kernel
theorem dX2_order_79 : decode cX2_order 79 = .ok (.ireturn, 1) := by decide +kernel
set_option maxRecDepth 20000 in
theorem ggX2_lift_X1_has : GoodIn wsX2_lift wsX1_has := goodIn_r _ [9, 10, 34, 35, 36, 37, 38, 39] (by decide +kernel) (by decide +kernel)
set_option maxRecDepth 20000 in
theorem gX2_lift_X1_has_n174 : GoodIn wsX2_lift (wsX1_has) := ggX2_lift_X1_has
set_option maxRecDepth 20000 in
theorem ggX2_lift_X1_isInForce : GoodIn wsX2_lift wsX1_isInForce := goodIn_r _ [13, 14, 15, 6, 8, 7, 9, 10, 34, 35, 36, 37, 38, 39] (by decide +kernel) (by decide +kernel)
set_option maxRecDepth 20000 in
theorem gX2_lift_X1_isInForce_n182 : GoodIn wsX2_lift (wsX1_isInForce) := ggX2_lift_X1_isInForce
set_option maxRecDepth 20000 in
theorem ggX2_lift_X1_isBinding : GoodIn wsX2_lift wsX1_isBinding := goodIn_r _ [18, 19, 15, 6, 8, 7, 9, 10, 20, 21, 22, 23, 14, 24, 34, 35, 36, 37, 38, 39] (by decide +kernel) (by decide +kernel)
set_option maxRecDepth 20000 in
theorem gX2_lift_X1_isBinding_n187 : GoodIn wsX2_lift (wsX1_isBinding) := ggX2_lift_X1_isBinding
set_option maxRecDepth 20000 in
theorem ggX2_lift_X1_end : GoodIn wsX2_lift wsX1_end := goodIn_r _ [27, 14, 15, 6, 8, 7, 9, 10, 34, 35, 36, 37, 38, 39] (by decide +kernel) (by decide +kernel)
set_option maxRecDepth 20000 in
theorem gX2_lift_X1_end_n190 : GoodIn wsX2_lift (wsX1_end) := ggX2_lift_X1_end
theorem dX2_lift_0 : decode cX2_lift 0 = .ok (.aload_n 0, 1) := by decide +kernel
theorem dX2_lift_1 : decode cX2_lift 1 = .ok (.getfield 18, 3) := by decide +kernel
theorem dX2_lift_4 : decode cX2_lift 4 = .ok (.iload_n 1, 1) := by decide +kernel
theorem dX2_lift_5 : decode cX2_lift 5 = .ok (.invokevirtual 174, 3) := by decide +kernel
theorem dX2_lift_8 : decode cX2_lift 8 = .ok (.ifCond .ne 13, 3) := by decide +kernel
theorem dX2_lift_11 : decode cX2_lift 11 = .ok (.new 177, 3) := by decide +kernel
theorem dX2_lift_14 : decode cX2_lift 14 = .ok (.dup, 1) := by decide +kernel
theorem dX2_lift_15 : decode cX2_lift 15 = .ok (.ldc 179, 2) := by decide +kernel
theorem dX2_lift_17 : decode cX2_lift 17 = .ok (.invokespecial 181, 3) := by decide +kernel
theorem dX2_lift_20 : decode cX2_lift 20 = .ok (.athrow, 1) := by decide +kernel
theorem dX2_lift_21 : decode cX2_lift 21 = .ok (.aload_n 0, 1) := by decide +kernel
theorem dX2_lift_22 : decode cX2_lift 22 = .ok (.getfield 18, 3) := by decide +kernel
theorem dX2_lift_25 : decode cX2_lift 25 = .ok (.iload_n 1, 1) := by decide +kernel
theorem dX2_lift_26 : decode cX2_lift 26 = .ok (.invokevirtual 182, 3) := by decide +kernel
theorem dX2_lift_29 : decode cX2_lift 29 = .ok (.ifCond .ne 13, 3) := by decide +kernel
theorem dX2_lift_32 : decode cX2_lift 32 = .ok (.new 43, 3) := by decide +kernel
theorem dX2_lift_35 : decode cX2_lift 35 = .ok (.dup, 1) := by decide +kernel
theorem dX2_lift_36 : decode cX2_lift 36 = .ok (.ldc 185, 2) := by decide +kernel
theorem dX2_lift_38 : decode cX2_lift 38 = .ok (.invokespecial 47, 3) := by decide +kernel
theorem dX2_lift_41 : decode cX2_lift 41 = .ok (.athrow, 1) := by decide +kernel
theorem dX2_lift_42 : decode cX2_lift 42 = .ok (.aload_n 0, 1) := by decide +kernel
theorem dX2_lift_43 : decode cX2_lift 43 = .ok (.getfield 18, 3) := by decide +kernel
theorem dX2_lift_46 : decode cX2_lift 46 = .ok (.iload_n 1, 1) := by decide +kernel
theorem dX2_lift_47 : decode cX2_lift 47 = .ok (.invokevirtual 187, 3) := by decide +kernel
theorem dX2_lift_50 : decode cX2_lift 50 = .ok (.istore_n 2, 1) := by decide +kernel
theorem dX2_lift_51 : decode cX2_lift 51 = .ok (.aload_n 0, 1) := by decide +kernel
theorem dX2_lift_52 : decode cX2_lift 52 = .ok (.getfield 18, 3) := by decide +kernel
theorem dX2_lift_55 : decode cX2_lift 55 = .ok (.iload_n 1, 1) := by decide +kernel
theorem dX2_lift_56 : decode cX2_lift 56 = .ok (.invokevirtual 190, 3) := by decide +kernel
theorem dX2_lift_59 : decode cX2_lift 59 = .ok (.iload_n 2, 1) := by decide +kernel
theorem dX2_lift_60 : decode cX2_lift 60 = .ok (.ireturn, 1) := by decide +kernel
set_option maxRecDepth 20000 in
theorem ggX2_enter_X2_boxAt : GoodIn wsX2_enter wsX2_boxAt := goodIn_ca (goodIn_r _ [6, 7, 8, 9, 5, 10, 11, 12, 99, 100, 101, 102, 103, 104] (by decide +kernel) (by decide +kernel)) (goodIn_sub (fun _ h => List.mem_cons_of_mem _ (List.mem_append_left _ (List.mem_append_right _ h))) (by decide +kernel))
set_option maxRecDepth 20000 in
theorem gX2_enter_X2_boxAt : GoodIn wsX2_enter (wsV RX2 50 RX2 yX2_boxAt wsX2_boxAt) := goodIn_app (goodIn_of _ (by decide +kernel)) ggX2_enter_X2_boxAt
set_option maxRecDepth 20000 in
theorem ggX2_enter_X2_requirePerson : GoodIn wsX2_enter wsX2_requirePerson := goodIn_ca (goodIn_r _ [15, 8, 9, 5, 10, 11, 12] (by decide +kernel) (by decide +kernel)) (goodIn_sub (fun _ h => List.mem_cons_of_mem _ (List.mem_append_left _ (List.mem_append_right _ h))) (by decide +kernel))
set_option maxRecDepth 20000 in
theorem gX2_enter_X2_requirePerson : GoodIn wsX2_enter (va_wsS RX2 54 yX2_requirePerson wsX2_requirePerson) := goodIn_app (goodIn_of _ (by decide +kernel)) ggX2_enter_X2_requirePerson
set_option maxRecDepth 20000 in
theorem ggX2_enter_X2_requireRange : GoodIn wsX2_enter wsX2_requireRange := goodIn_ca (goodIn_r _ [10, 11, 12] (by decide +kernel) (by decide +kernel)) (goodIn_sub (fun _ h => List.mem_cons_of_mem _ (List.mem_append_left _ (List.mem_append_right _ h))) (by decide +kernel))
set_option maxRecDepth 20000 in
theorem gX2_enter_X2_requireRange : GoodIn wsX2_enter (va_wsS RX2 38 yX2_requireRange wsX2_requireRange) := goodIn_app (goodIn_of _ (by decide +kernel)) ggX2_enter_X2_requireRange
set_option maxRecDepth 20000 in
theorem ggX2_enter_X2_requireRented : GoodIn wsX2_enter wsX2_requireRented := goodIn_ca (goodIn_r _ [18, 19, 20, 21, 22, 23, 24, 25, 105, 106, 107, 108, 109, 110, 111, 112, 113, 114] (by decide +kernel) (by decide +kernel)) (goodIn_sub (fun _ h => List.mem_cons_of_mem _ (List.mem_append_right _ h)) (by decide +kernel))
set_option maxRecDepth 20000 in
theorem gX2_enter_X2_requireRented : GoodIn wsX2_enter (va_wsS RX2 77 yX2_requireRented wsX2_requireRented) := goodIn_app (goodIn_of _ (by decide +kernel)) ggX2_enter_X2_requireRented
set_option maxRecDepth 20000 in
theorem ggX2_enter_X2_rightOf : GoodIn wsX2_enter wsX2_rightOf := goodIn_r _ [29, 30, 21, 22, 23, 24, 25, 31, 32, 33, 5, 34, 35, 36, 37, 38, 39, 40, 41, 42, 43, 44, 45, 46, 47, 48, 49, 50, 51, 52, 53, 54, 55, 56, 57, 58, 59, 60, 61, 62, 63, 64, 65, 66, 67, 68, 69, 70, 71, 72, 73, 74, 75, 76, 77, 78, 79, 80, 81, 82, 83, 84, 85, 86, 87, 88, 89, 90, 91, 92, 93, 94, 95, 96, 97, 98, 99, 100, 101, 102, 103, 104, 105, 106, 107, 108, 109, 110, 111, 112, 113, 114, 115, 116, 117, 118, 119, 120] (by decide +kernel) (by decide +kernel)
set_option maxRecDepth 20000 in
theorem gX2_enter_X2_rightOf : GoodIn wsX2_enter (wsV RX2 81 RX2 yX2_rightOf wsX2_rightOf) := goodIn_app (goodIn_of _ (by decide +kernel)) ggX2_enter_X2_rightOf
theorem dX2_enter_0 : decode cX2_enter 0 = .ok (.aload_n 0, 1) := by decide +kernel
theorem dX2_enter_1 : decode cX2_enter 1 = .ok (.iload_n 1, 1) := by decide +kernel
theorem dX2_enter_2 : decode cX2_enter 2 = .ok (.invokevirtual 50, 3) := by decide +kernel
theorem dX2_enter_5 : decode cX2_enter 5 = .ok (.astore 4, 2) := by decide +kernel
theorem dX2_enter_7 : decode cX2_enter 7 = .ok (.iload_n 2, 1) := by decide +kernel
theorem dX2_enter_8 : decode cX2_enter 8 = .ok (.invokestatic 54, 3) := by decide +kernel
theorem dX2_enter_11 : decode cX2_enter 11 = .ok (.iload_n 3, 1) := by decide +kernel
theorem dX2_enter_12 : decode cX2_enter 12 = .ok (.iconst 0, 1) := by decide +kernel
theorem dX2_enter_13 : decode cX2_enter 13 = .ok (.bipush 100, 2) := by decide +kernel
theorem dX2_enter_15 : decode cX2_enter 15 = .ok (.invokestatic 38, 3) := by decide +kernel
theorem dX2_enter_18 : decode cX2_enter 18 = .ok (.aload 4, 2) := by decide +kernel
theorem dX2_enter_20 : decode cX2_enter 20 = .ok (.invokestatic 77, 3) := by decide +kernel
theorem dX2_enter_23 : decode cX2_enter 23 = .ok (.aload_n 0, 1) := by decide +kernel
theorem dX2_enter_24 : decode cX2_enter 24 = .ok (.iload_n 1, 1) := by decide +kernel
theorem dX2_enter_25 : decode cX2_enter 25 = .ok (.aload 4, 2) := by decide +kernel
theorem dX2_enter_27 : decode cX2_enter 27 = .ok (.iload_n 2, 1) := by decide +kernel
theorem dX2_enter_28 : decode cX2_enter 28 = .ok (.invokevirtual 81, 3) := by decide +kernel
theorem dX2_enter_31 : decode cX2_enter 31 = .ok (.istore 5, 2) := by decide +kernel
theorem dX2_enter_33 : decode cX2_enter 33 = .ok (.iload 5, 2) := by decide +kernel
theorem dX2_enter_35 : decode cX2_enter 35 = .ok (.iconst 3, 1) := by decide +kernel
theorem dX2_enter_36 : decode cX2_enter 36 = .ok (.if_icmp .eq 12, 3) := by decide +kernel
theorem dX2_enter_39 : decode cX2_enter 39 = .ok (.iload_n 3, 1) := by decide +kernel
theorem dX2_enter_40 : decode cX2_enter 40 = .ok (.bipush 60, 2) := by decide +kernel
theorem dX2_enter_42 : decode cX2_enter 42 = .ok (.if_icmp .ge 6, 3) := by decide +kernel
theorem dX2_enter_45 : decode cX2_enter 45 = .ok (.iconst 2, 1) := by decide +kernel
theorem dX2_enter_46 : decode cX2_enter 46 = .ok (.istore 5, 2) := by decide +kernel
theorem dX2_enter_48 : decode cX2_enter 48 = .ok (.iload 5, 2) := by decide +kernel
theorem dX2_enter_50 : decode cX2_enter 50 = .ok (.iconst 3, 1) := by decide +kernel
theorem dX2_enter_51 : decode cX2_enter 51 = .ok (.if_icmp .eq 9, 3) := by decide +kernel
theorem dX2_enter_54 : decode cX2_enter 54 = .ok (.iload 5, 2) := by decide +kernel
theorem dX2_enter_56 : decode cX2_enter 56 = .ok (.iconst 2, 1) := by decide +kernel
theorem dX2_enter_57 : decode cX2_enter 57 = .ok (.if_icmp .ne 16, 3) := by decide +kernel
theorem dX2_enter_60 : decode cX2_enter 60 = .ok (.aload_n 0, 1) := by decide +kernel
theorem dX2_enter_61 : decode cX2_enter 61 = .ok (.getfield 30, 3) := by decide +kernel
theorem dX2_enter_64 : decode cX2_enter 64 = .ok (.iload_n 2, 1) := by decide +kernel
theorem dX2_enter_65 : decode cX2_enter 65 = .ok (.dup2, 1) := by decide +kernel
theorem dX2_enter_66 : decode cX2_enter 66 = .ok (.iaload, 1) := by decide +kernel
theorem dX2_enter_67 : decode cX2_enter 67 = .ok (.iconst 1, 1) := by decide +kernel
theorem dX2_enter_68 : decode cX2_enter 68 = .ok (.iadd, 1) := by decide +kernel
theorem dX2_enter_69 : decode cX2_enter 69 = .ok (.iastore, 1) := by decide +kernel
theorem dX2_enter_70 : decode cX2_enter 70 = .ok (.iload 5, 2) := by decide +kernel
theorem dX2_enter_72 : decode cX2_enter 72 = .ok (.ireturn, 1) := by decide +kernel
theorem dX2_enter_73 : decode cX2_enter 73 = .ok (.aload 4, 2) := by decide +kernel
theorem dX2_enter_75 : decode cX2_enter 75 = .ok (.dup, 1) := by decide +kernel
theorem dX2_enter_76 : decode cX2_enter 76 = .ok (.getfield 87, 3) := by decide +kernel
theorem dX2_enter_79 : decode cX2_enter 79 = .ok (.iconst 1, 1) := by decide +kernel
theorem dX2_enter_80 : decode cX2_enter 80 = .ok (.iadd, 1) := by decide +kernel
theorem dX2_enter_81 : decode cX2_enter 81 = .ok (.putfield 87, 3) := by decide +kernel
theorem dX2_enter_84 : decode cX2_enter 84 = .ok (.iload 5, 2) := by decide +kernel
theorem dX2_enter_86 : decode cX2_enter 86 = .ok (.iconst 1, 1) := by decide +kernel
theorem dX2_enter_87 : decode cX2_enter 87 = .ok (.if_icmp .ne 9, 3) := by decide +kernel
theorem dX2_enter_90 : decode cX2_enter 90 = .ok (.aload 4, 2) := by decide +kernel
theorem dX2_enter_92 : decode cX2_enter 92 = .ok (.iconst 1, 1) := by decide +kernel
theorem dX2_enter_93 : decode cX2_enter 93 = .ok (.putfield 193, 3) := by decide +kernel
theorem dX2_enter_96 : decode cX2_enter 96 = .ok (.iload 5, 2) := by decide +kernel
theorem dX2_enter_98 : decode cX2_enter 98 = .ok (.ireturn, 1) := by decide +kernel
set_option maxRecDepth 20000 in
theorem ggX2_may_X2_boxAt : GoodIn wsX2_may wsX2_boxAt := goodIn_ca (goodIn_r _ [5, 6, 7, 8, 4, 9, 10, 11, 93, 94, 95, 96, 97, 98] (by decide +kernel) (by decide +kernel)) (goodIn_sub (fun _ h => List.mem_cons_of_mem _ (List.mem_append_right _ h)) (by decide +kernel))
set_option maxRecDepth 20000 in
theorem gX2_may_X2_boxAt : GoodIn wsX2_may (wsV RX2 50 RX2 yX2_boxAt wsX2_boxAt) := goodIn_app (goodIn_of _ (by decide +kernel)) ggX2_may_X2_boxAt
set_option maxRecDepth 20000 in
theorem ggX2_may_X2_requirePerson : GoodIn wsX2_may wsX2_requirePerson := goodIn_ca (goodIn_r _ [14, 7, 8, 4, 9, 10, 11] (by decide +kernel) (by decide +kernel)) (goodIn_sub (fun _ h => List.mem_cons_of_mem _ (List.mem_append_right _ h)) (by decide +kernel))
set_option maxRecDepth 20000 in
theorem gX2_may_X2_requirePerson : GoodIn wsX2_may (va_wsS RX2 54 yX2_requirePerson wsX2_requirePerson) := goodIn_app (goodIn_of _ (by decide +kernel)) ggX2_may_X2_requirePerson
set_option maxRecDepth 20000 in
theorem ggX2_may_X2_rightOf : GoodIn wsX2_may wsX2_rightOf := goodIn_r _ [18, 19, 20, 21, 22, 23, 24, 25, 26, 27, 4, 28, 29, 30, 31, 32, 33, 34, 35, 36, 37, 38, 39, 40, 41, 42, 43, 44, 45, 46, 47, 48, 49, 50, 51, 52, 53, 54, 55, 56, 57, 58, 59, 60, 61, 62, 63, 64, 65, 66, 67, 68, 69, 70, 71, 72, 73, 74, 75, 76, 77, 78, 79, 80, 81, 82, 83, 84, 85, 86, 87, 88, 89, 90, 91, 92, 93, 94, 95, 96, 97, 98, 99, 100, 101, 102, 103, 104, 105, 106, 107, 108, 109, 110, 111, 112, 113, 114] (by decide +kernel) (by decide +kernel)
set_option maxRecDepth 20000 in
theorem gX2_may_X2_rightOf : GoodIn wsX2_may (wsV RX2 81 RX2 yX2_rightOf wsX2_rightOf) := goodIn_app (goodIn_of _ (by decide +kernel)) ggX2_may_X2_rightOf
theorem dX2_may_0 : decode cX2_may 0 = .ok (.aload_n 0, 1) := by decide +kernel
theorem dX2_may_1 : decode cX2_may 1 = .ok (.iload_n 1, 1) := by decide +kernel
theorem dX2_may_2 : decode cX2_may 2 = .ok (.invokevirtual 50, 3) := by decide +kernel
theorem dX2_may_5 : decode cX2_may 5 = .ok (.astore_n 3, 1) := by decide +kernel
theorem dX2_may_6 : decode cX2_may 6 = .ok (.iload_n 2, 1) := by decide +kernel
theorem dX2_may_7 : decode cX2_may 7 = .ok (.invokestatic 54, 3) := by decide +kernel
theorem dX2_may_10 : decode cX2_may 10 = .ok (.aload_n 0, 1) := by decide +kernel
theorem dX2_may_11 : decode cX2_may 11 = .ok (.iload_n 1, 1) := by decide +kernel
theorem dX2_may_12 : decode cX2_may 12 = .ok (.aload_n 3, 1) := by decide +kernel
theorem dX2_may_13 : decode cX2_may 13 = .ok (.iload_n 2, 1) := by decide +kernel
theorem dX2_may_14 : decode cX2_may 14 = .ok (.invokevirtual 81, 3) := by decide +kernel
theorem dX2_may_17 : decode cX2_may 17 = .ok (.ireturn, 1) := by decide +kernel
set_option maxRecDepth 20000 in
theorem ggX2_mayAll_X2_boxAt : GoodIn wsX2_mayAll wsX2_boxAt := goodIn_ca (goodIn_r _ [5, 6, 7, 8, 4, 9, 10, 11, 90, 91, 92, 93, 94, 95] (by decide +kernel) (by decide +kernel)) (goodIn_sub (fun _ h => List.mem_cons_of_mem _ (List.mem_append_right _ h)) (by decide +kernel))
set_option maxRecDepth 20000 in
theorem gX2_mayAll_X2_boxAt : GoodIn wsX2_mayAll (wsV RX2 50 RX2 yX2_boxAt wsX2_boxAt) := goodIn_app (goodIn_of _ (by decide +kernel)) ggX2_mayAll_X2_boxAt
set_option maxRecDepth 20000 in
theorem ggX2_mayAll_X2_rightOf : GoodIn wsX2_mayAll wsX2_rightOf := goodIn_r _ [15, 16, 17, 18, 19, 20, 21, 22, 23, 24, 4, 25, 26, 27, 28, 29, 30, 31, 32, 33, 34, 35, 36, 37, 38, 39, 40, 41, 42, 43, 44, 45, 46, 47, 48, 49, 50, 51, 52, 53, 54, 55, 56, 57, 58, 59, 60, 61, 62, 63, 64, 65, 66, 67, 68, 69, 70, 71, 72, 73, 74, 75, 76, 77, 78, 79, 80, 81, 82, 83, 84, 85, 86, 87, 88, 89, 90, 91, 92, 93, 94, 95, 96, 97, 98, 99, 100, 101, 102, 103, 104, 105, 106, 107, 108, 109, 110, 111] (by decide +kernel) (by decide +kernel)
set_option maxRecDepth 20000 in
theorem gX2_mayAll_X2_rightOf : GoodIn wsX2_mayAll (wsV RX2 81 RX2 yX2_rightOf wsX2_rightOf) := goodIn_app (goodIn_of _ (by decide +kernel)) ggX2_mayAll_X2_rightOf
theorem dX2_mayAll_0 : decode cX2_mayAll 0 = .ok (.aload_n 0, 1) := by decide +kernel
theorem dX2_mayAll_1 : decode cX2_mayAll 1 = .ok (.iload_n 1, 1) := by decide +kernel
theorem dX2_mayAll_2 : decode cX2_mayAll 2 = .ok (.invokevirtual 50, 3) := by decide +kernel
theorem dX2_mayAll_5 : decode cX2_mayAll 5 = .ok (.astore_n 2, 1) := by decide +kernel
theorem dX2_mayAll_6 : decode cX2_mayAll 6 = .ok (.iconst 0, 1) := by decide +kernel
theorem dX2_mayAll_7 : decode cX2_mayAll 7 = .ok (.istore_n 3, 1) := by decide +kernel
theorem dX2_mayAll_8 : decode cX2_mayAll 8 = .ok (.iconst 0, 1) := by decide +kernel
theorem dX2_mayAll_9 : decode cX2_mayAll 9 = .ok (.istore 4, 2) := by decide +kernel
theorem dX2_mayAll_11 : decode cX2_mayAll 11 = .ok (.iload 4, 2) := by decide +kernel
theorem dX2_mayAll_13 : decode cX2_mayAll 13 = .ok (.bipush 16, 2) := by decide +kernel
theorem dX2_mayAll_15 : decode cX2_mayAll 15 = .ok (.if_icmp .ge 24, 3) := by decide +kernel
theorem dX2_mayAll_18 : decode cX2_mayAll 18 = .ok (.aload_n 0, 1) := by decide +kernel
theorem dX2_mayAll_19 : decode cX2_mayAll 19 = .ok (.iload_n 1, 1) := by decide +kernel
theorem dX2_mayAll_20 : decode cX2_mayAll 20 = .ok (.aload_n 2, 1) := by decide +kernel
theorem dX2_mayAll_21 : decode cX2_mayAll 21 = .ok (.iload 4, 2) := by decide +kernel
theorem dX2_mayAll_23 : decode cX2_mayAll 23 = .ok (.invokevirtual 81, 3) := by decide +kernel
theorem dX2_mayAll_26 : decode cX2_mayAll 26 = .ok (.iconst 3, 1) := by decide +kernel
theorem dX2_mayAll_27 : decode cX2_mayAll 27 = .ok (.if_icmp .eq 6, 3) := by decide +kernel
theorem dX2_mayAll_30 : decode cX2_mayAll 30 = .ok (.iinc 3 1, 3) := by decide +kernel
theorem dX2_mayAll_33 : decode cX2_mayAll 33 = .ok (.iinc 4 1, 3) := by decide +kernel
theorem dX2_mayAll_36 : decode cX2_mayAll 36 = .ok (.goto (-25), 3) := by decide +kernel
theorem dX2_mayAll_39 : decode cX2_mayAll 39 = .ok (.iload_n 3, 1) := by decide +kernel
theorem dX2_mayAll_40 : decode cX2_mayAll 40 = .ok (.ireturn, 1) := by decide +kernel
set_option maxRecDepth 20000 in
theorem ggX2_holder_X2_boxAt : GoodIn wsX2_holder wsX2_boxAt := goodIn_ca (goodIn_r _ [5, 6, 7, 8, 4, 9, 10, 11, 22, 23, 24, 25, 26, 27] (by decide +kernel) (by decide +kernel)) (goodIn_sub (fun _ h => List.mem_cons_of_mem _ (List.mem_append_right _ h)) (by decide +kernel))
set_option maxRecDepth 20000 in
theorem gX2_holder_X2_boxAt : GoodIn wsX2_holder (wsV RX2 50 RX2 yX2_boxAt wsX2_boxAt) := goodIn_app (goodIn_of _ (by decide +kernel)) ggX2_holder_X2_boxAt
theorem dX2_holder_0 : decode cX2_holder 0 = .ok (.aload_n 0, 1) := by decide +kernel
theorem dX2_holder_1 : decode cX2_holder 1 = .ok (.iload_n 1, 1) := by decide +kernel
theorem dX2_holder_2 : decode cX2_holder 2 = .ok (.invokevirtual 50, 3) := by decide +kernel
theorem dX2_holder_5 : decode cX2_holder 5 = .ok (.getfield 136, 3) := by decide +kernel
theorem dX2_holder_8 : decode cX2_holder 8 = .ok (.ireturn, 1) := by decide +kernel
set_option maxRecDepth 20000 in
theorem ggX2_notices_X2_boxAt : GoodIn wsX2_notices wsX2_boxAt := goodIn_ca (goodIn_r _ [6, 7, 8, 9, 5, 10, 11, 12, 33, 34, 35, 36, 37, 38] (by decide +kernel) (by decide +kernel)) (goodIn_sub (fun _ h => List.mem_cons_of_mem _ (List.mem_append_right _ h)) (by decide +kernel))
set_option maxRecDepth 20000 in
theorem gX2_notices_X2_boxAt : GoodIn wsX2_notices (wsV RX2 50 RX2 yX2_boxAt wsX2_boxAt) := goodIn_app (goodIn_of _ (by decide +kernel)) ggX2_notices_X2_boxAt
set_option maxRecDepth 20000 in
theorem ggX2_notices_X0_isRented : GoodIn wsX2_notices wsX0_isRented := goodIn_r _ [16, 17, 39, 40, 41, 42, 43, 44, 45, 46, 47, 48] (by decide +kernel) (by decide +kernel)
set_option maxRecDepth 20000 in
theorem gX2_notices_X0_isRented_n160 : GoodIn wsX2_notices (wsX0_isRented) := ggX2_notices_X0_isRented
set_option maxRecDepth 20000 in
theorem ggX2_notices_X0_noticesOn : GoodIn wsX2_notices wsX0_noticesOn := goodIn_r _ [20, 21, 22, 23, 24, 25, 26, 27, 14, 28, 29, 30, 31, 32, 39, 40, 41, 42, 43, 44, 45, 46, 47, 48] (by decide +kernel) (by decide +kernel)
set_option maxRecDepth 20000 in
theorem gX2_notices_X0_noticesOn_n99 : GoodIn wsX2_notices (wsX0_noticesOn) := ggX2_notices_X0_noticesOn
theorem dX2_notices_0 : decode cX2_notices 0 = .ok (.aload_n 0, 1) := by decide +kernel
theorem dX2_notices_1 : decode cX2_notices 1 = .ok (.iload_n 1, 1) := by decide +kernel
theorem dX2_notices_2 : decode cX2_notices 2 = .ok (.invokevirtual 50, 3) := by decide +kernel
theorem dX2_notices_5 : decode cX2_notices 5 = .ok (.astore_n 2, 1) := by decide +kernel
theorem dX2_notices_6 : decode cX2_notices 6 = .ok (.aload_n 2, 1) := by decide +kernel
theorem dX2_notices_7 : decode cX2_notices 7 = .ok (.invokevirtual 160, 3) := by decide +kernel
theorem dX2_notices_10 : decode cX2_notices 10 = .ok (.ifCond .eq 14, 3) := by decide +kernel
theorem dX2_notices_13 : decode cX2_notices 13 = .ok (.aload_n 2, 1) := by decide +kernel
theorem dX2_notices_14 : decode cX2_notices 14 = .ok (.aload_n 0, 1) := by decide +kernel
theorem dX2_notices_15 : decode cX2_notices 15 = .ok (.getfield 33, 3) := by decide +kernel
theorem dX2_notices_18 : decode cX2_notices 18 = .ok (.invokevirtual 99, 3) := by decide +kernel
theorem dX2_notices_21 : decode cX2_notices 21 = .ok (.goto 4, 3) := by decide +kernel
theorem dX2_notices_24 : decode cX2_notices 24 = .ok (.iconst 0, 1) := by decide +kernel
theorem dX2_notices_25 : decode cX2_notices 25 = .ok (.ireturn, 1) := by decide +kernel
set_option maxRecDepth 20000 in
theorem ggX2_refusals_X2_requirePerson : GoodIn wsX2_refusals wsX2_requirePerson := goodIn_ca (goodIn_r _ [5, 6, 7, 4, 8, 9, 10] (by decide +kernel) (by decide +kernel)) (goodIn_sub (fun _ h => List.mem_cons_of_mem _ (List.mem_append_right _ h)) (by decide +kernel))
set_option maxRecDepth 20000 in
theorem gX2_refusals_X2_requirePerson : GoodIn wsX2_refusals (va_wsS RX2 54 yX2_requirePerson wsX2_requirePerson) := goodIn_app (goodIn_of _ (by decide +kernel)) ggX2_refusals_X2_requirePerson
theorem dX2_refusals_0 : decode cX2_refusals 0 = .ok (.iload_n 1, 1) := by decide +kernel
theorem dX2_refusals_1 : decode cX2_refusals 1 = .ok (.invokestatic 54, 3) := by decide +kernel
theorem dX2_refusals_4 : decode cX2_refusals 4 = .ok (.aload_n 0, 1) := by decide +kernel
theorem dX2_refusals_5 : decode cX2_refusals 5 = .ok (.getfield 30, 3) := by decide +kernel
theorem dX2_refusals_8 : decode cX2_refusals 8 = .ok (.iload_n 1, 1) := by decide +kernel
theorem dX2_refusals_9 : decode cX2_refusals 9 = .ok (.iaload, 1) := by decide +kernel
theorem dX2_refusals_10 : decode cX2_refusals 10 = .ok (.ireturn, 1) := by decide +kernel
set_option maxRecDepth 20000 in
theorem ggX2_binding_X2_requireRange : GoodIn wsX2_binding wsX2_requireRange := goodIn_ca (goodIn_r _ [5, 6, 7] (by decide +kernel) (by decide +kernel)) (goodIn_sub (fun _ h => List.mem_cons_of_mem _ (List.mem_append_right _ h)) (by decide +kernel))
set_option maxRecDepth 20000 in
theorem gX2_binding_X2_requireRange : GoodIn wsX2_binding (va_wsS RX2 38 yX2_requireRange wsX2_requireRange) := goodIn_app (goodIn_of _ (by decide +kernel)) ggX2_binding_X2_requireRange
set_option maxRecDepth 20000 in
theorem ggX2_binding_X1_bindingOn : GoodIn wsX2_binding wsX1_bindingOn := goodIn_r _ [11, 12, 13, 14, 15, 22, 23, 24, 25, 26, 27] (by decide +kernel) (by decide +kernel)
set_option maxRecDepth 20000 in
theorem gX2_binding_X1_bindingOn_n111 : GoodIn wsX2_binding (wsX1_bindingOn) := ggX2_binding_X1_bindingOn
theorem dX2_binding_0 : decode cX2_binding 0 = .ok (.iload_n 1, 1) := by decide +kernel
theorem dX2_binding_1 : decode cX2_binding 1 = .ok (.iconst 0, 1) := by decide +kernel
theorem dX2_binding_2 : decode cX2_binding 2 = .ok (.bipush 7, 2) := by decide +kernel
theorem dX2_binding_4 : decode cX2_binding 4 = .ok (.invokestatic 38, 3) := by decide +kernel
theorem dX2_binding_7 : decode cX2_binding 7 = .ok (.aload_n 0, 1) := by decide +kernel
theorem dX2_binding_8 : decode cX2_binding 8 = .ok (.getfield 18, 3) := by decide +kernel
theorem dX2_binding_11 : decode cX2_binding 11 = .ok (.iload_n 1, 1) := by decide +kernel
theorem dX2_binding_12 : decode cX2_binding 12 = .ok (.invokevirtual 111, 3) := by decide +kernel
theorem dX2_binding_15 : decode cX2_binding 15 = .ok (.ireturn, 1) := by decide +kernel
theorem dX2_requireRange_0 : decode cX2_requireRange 0 = .ok (.iload_n 0, 1) := by decide +kernel
theorem dX2_requireRange_1 : decode cX2_requireRange 1 = .ok (.iload_n 1, 1) := by decide +kernel
theorem dX2_requireRange_2 : decode cX2_requireRange 2 = .ok (.if_icmp .lt 8, 3) := by decide +kernel
theorem dX2_requireRange_5 : decode cX2_requireRange 5 = .ok (.iload_n 0, 1) := by decide +kernel
theorem dX2_requireRange_6 : decode cX2_requireRange 6 = .ok (.iload_n 2, 1) := by decide +kernel
theorem dX2_requireRange_7 : decode cX2_requireRange 7 = .ok (.if_icmp .le 13, 3) := by decide +kernel
theorem dX2_requireRange_10 : decode cX2_requireRange 10 = .ok (.new 94, 3) := by decide +kernel
theorem dX2_requireRange_13 : decode cX2_requireRange 13 = .ok (.dup, 1) := by decide +kernel
theorem dX2_requireRange_14 : decode cX2_requireRange 14 = .ok (.ldc 197, 2) := by decide +kernel
theorem dX2_requireRange_16 : decode cX2_requireRange 16 = .ok (.invokespecial 98, 3) := by decide +kernel
theorem dX2_requireRange_19 : decode cX2_requireRange 19 = .ok (.athrow, 1) := by decide +kernel
theorem dX2_requireRange_20 : decode cX2_requireRange 20 = .ok (.return_, 1) := by decide +kernel
set_option maxRecDepth 20000 in
theorem ggX2_requirePerson_X2_requireRange : GoodIn wsX2_requirePerson wsX2_requireRange := goodIn_ca (goodIn_r _ [4, 5, 6] (by decide +kernel) (by decide +kernel)) (goodIn_sub (fun _ h => List.mem_cons_of_mem _ (List.mem_append_right _ h)) (by decide +kernel))
set_option maxRecDepth 20000 in
theorem gX2_requirePerson_X2_requireRange : GoodIn wsX2_requirePerson (va_wsS RX2 38 yX2_requireRange wsX2_requireRange) := goodIn_app (goodIn_of _ (by decide +kernel)) ggX2_requirePerson_X2_requireRange
theorem dX2_requirePerson_0 : decode cX2_requirePerson 0 = .ok (.iload_n 0, 1) := by decide +kernel
theorem dX2_requirePerson_1 : decode cX2_requirePerson 1 = .ok (.iconst 0, 1) := by decide +kernel
theorem dX2_requirePerson_2 : decode cX2_requirePerson 2 = .ok (.bipush 15, 2) := by decide +kernel
theorem dX2_requirePerson_4 : decode cX2_requirePerson 4 = .ok (.invokestatic 38, 3) := by decide +kernel
theorem dX2_requirePerson_7 : decode cX2_requirePerson 7 = .ok (.return_, 1) := by decide +kernel
set_option maxRecDepth 20000 in
theorem ggX2_requireRented_X0_isRented : GoodIn wsX2_requireRented wsX0_isRented := goodIn_r _ [6, 7, 8, 9, 10, 11, 12, 13, 14, 15, 16, 17] (by decide +kernel) (by decide +kernel)
set_option maxRecDepth 20000 in
theorem gX2_requireRented_X0_isRented_n160 : GoodIn wsX2_requireRented (wsX0_isRented) := ggX2_requireRented_X0_isRented
theorem dX2_requireRented_0 : decode cX2_requireRented 0 = .ok (.aload_n 0, 1) := by decide +kernel
theorem dX2_requireRented_1 : decode cX2_requireRented 1 = .ok (.invokevirtual 160, 3) := by decide +kernel
theorem dX2_requireRented_4 : decode cX2_requireRented 4 = .ok (.ifCond .ne 13, 3) := by decide +kernel
theorem dX2_requireRented_7 : decode cX2_requireRented 7 = .ok (.new 43, 3) := by decide +kernel
theorem dX2_requireRented_10 : decode cX2_requireRented 10 = .ok (.dup, 1) := by decide +kernel
theorem dX2_requireRented_11 : decode cX2_requireRented 11 = .ok (.ldc 199, 2) := by decide +kernel
theorem dX2_requireRented_13 : decode cX2_requireRented 13 = .ok (.invokespecial 47, 3) := by decide +kernel
theorem dX2_requireRented_16 : decode cX2_requireRented 16 = .ok (.athrow, 1) := by decide +kernel
theorem dX2_requireRented_17 : decode cX2_requireRented 17 = .ok (.return_, 1) := by decide +kernel
set_option maxRecDepth 20000 in
theorem ggX2_boxAt_X2_requireRange : GoodIn wsX2_boxAt wsX2_requireRange := goodIn_ca (goodIn_r _ [5, 6, 7] (by decide +kernel) (by decide +kernel)) (goodIn_sub (fun _ h => List.mem_cons_of_mem _ (List.mem_append_right _ h)) (by decide +kernel))
set_option maxRecDepth 20000 in
theorem gX2_boxAt_X2_requireRange : GoodIn wsX2_boxAt (va_wsS RX2 38 yX2_requireRange wsX2_requireRange) := goodIn_app (goodIn_of _ (by decide +kernel)) ggX2_boxAt_X2_requireRange
theorem dX2_boxAt_0 : decode cX2_boxAt 0 = .ok (.iload_n 1, 1) := by decide +kernel
theorem dX2_boxAt_1 : decode cX2_boxAt 1 = .ok (.iconst 0, 1) := by decide +kernel
theorem dX2_boxAt_2 : decode cX2_boxAt 2 = .ok (.bipush 7, 2) := by decide +kernel
theorem dX2_boxAt_4 : decode cX2_boxAt 4 = .ok (.invokestatic 38, 3) := by decide +kernel
theorem dX2_boxAt_7 : decode cX2_boxAt 7 = .ok (.aload_n 0, 1) := by decide +kernel
theorem dX2_boxAt_8 : decode cX2_boxAt 8 = .ok (.getfield 11, 3) := by decide +kernel
theorem dX2_boxAt_11 : decode cX2_boxAt 11 = .ok (.iload_n 1, 1) := by decide +kernel
theorem dX2_boxAt_12 : decode cX2_boxAt 12 = .ok (.aaload, 1) := by decide +kernel
theorem dX2_boxAt_13 : decode cX2_boxAt 13 = .ok (.areturn, 1) := by decide +kernel
theorem dX2_isPerson_0 : decode cX2_isPerson 0 = .ok (.iload_n 0, 1) := by decide +kernel
theorem dX2_isPerson_1 : decode cX2_isPerson 1 = .ok (.ifCond .lt 13, 3) := by decide +kernel
theorem dX2_isPerson_4 : decode cX2_isPerson 4 = .ok (.iload_n 0, 1) := by decide +kernel
theorem dX2_isPerson_5 : decode cX2_isPerson 5 = .ok (.bipush 16, 2) := by decide +kernel
theorem dX2_isPerson_7 : decode cX2_isPerson 7 = .ok (.if_icmp .ge 7, 3) := by decide +kernel
theorem dX2_isPerson_10 : decode cX2_isPerson 10 = .ok (.iconst 1, 1) := by decide +kernel
theorem dX2_isPerson_11 : decode cX2_isPerson 11 = .ok (.goto 4, 3) := by decide +kernel
theorem dX2_isPerson_14 : decode cX2_isPerson 14 = .ok (.iconst 0, 1) := by decide +kernel
theorem dX2_isPerson_15 : decode cX2_isPerson 15 = .ok (.ireturn, 1) := by decide +kernel
set_option maxRecDepth 20000 in
theorem ggX2_isAlive_X2_isPerson : GoodIn wsX2_isAlive wsX2_isPerson := goodIn_r _ [5] (by decide +kernel) (by decide +kernel)
set_option maxRecDepth 20000 in
theorem gX2_isAlive_X2_isPerson : GoodIn wsX2_isAlive (va_wsS RX2 201 yX2_isPerson wsX2_isPerson) := goodIn_app (goodIn_of _ (by decide +kernel)) ggX2_isAlive_X2_isPerson
theorem dX2_isAlive_0 : decode cX2_isAlive 0 = .ok (.iload_n 1, 1) := by decide +kernel
theorem dX2_isAlive_1 : decode cX2_isAlive 1 = .ok (.invokestatic 201, 3) := by decide +kernel
theorem dX2_isAlive_4 : decode cX2_isAlive 4 = .ok (.ifCond .eq 16, 3) := by decide +kernel
theorem dX2_isAlive_7 : decode cX2_isAlive 7 = .ok (.aload_n 0, 1) := by decide +kernel
theorem dX2_isAlive_8 : decode cX2_isAlive 8 = .ok (.getfield 22, 3) := by decide +kernel
theorem dX2_isAlive_11 : decode cX2_isAlive 11 = .ok (.iload_n 1, 1) := by decide +kernel
theorem dX2_isAlive_12 : decode cX2_isAlive 12 = .ok (.baload, 1) := by decide +kernel
theorem dX2_isAlive_13 : decode cX2_isAlive 13 = .ok (.ifCond .ne 7, 3) := by decide +kernel
theorem dX2_isAlive_16 : decode cX2_isAlive 16 = .ok (.iconst 1, 1) := by decide +kernel
theorem dX2_isAlive_17 : decode cX2_isAlive 17 = .ok (.goto 4, 3) := by decide +kernel
theorem dX2_isAlive_20 : decode cX2_isAlive 20 = .ok (.iconst 0, 1) := by decide +kernel
theorem dX2_isAlive_21 : decode cX2_isAlive 21 = .ok (.ireturn, 1) := by decide +kernel
set_option maxRecDepth 20000 in
theorem ggX2_isHeir_X2_isPerson : GoodIn wsX2_isHeir wsX2_isPerson := goodIn_r _ [5] (by decide +kernel) (by decide +kernel)
set_option maxRecDepth 20000 in
theorem gX2_isHeir_X2_isPerson : GoodIn wsX2_isHeir (va_wsS RX2 201 yX2_isPerson wsX2_isPerson) := goodIn_app (goodIn_of _ (by decide +kernel)) ggX2_isHeir_X2_isPerson
theorem dX2_isHeir_0 : decode cX2_isHeir 0 = .ok (.iload_n 1, 1) := by decide +kernel
theorem dX2_isHeir_1 : decode cX2_isHeir 1 = .ok (.invokestatic 201, 3) := by decide +kernel
theorem dX2_isHeir_4 : decode cX2_isHeir 4 = .ok (.ifCond .eq 28, 3) := by decide +kernel
theorem dX2_isHeir_7 : decode cX2_isHeir 7 = .ok (.iload_n 2, 1) := by decide +kernel
theorem dX2_isHeir_8 : decode cX2_isHeir 8 = .ok (.invokestatic 201, 3) := by decide +kernel
theorem dX2_isHeir_11 : decode cX2_isHeir 11 = .ok (.ifCond .eq 21, 3) := by decide +kernel
theorem dX2_isHeir_14 : decode cX2_isHeir 14 = .ok (.aload_n 0, 1) := by decide +kernel
theorem dX2_isHeir_15 : decode cX2_isHeir 15 = .ok (.getfield 26, 3) := by decide +kernel
theorem dX2_isHeir_18 : decode cX2_isHeir 18 = .ok (.iload_n 2, 1) := by decide +kernel
theorem dX2_isHeir_19 : decode cX2_isHeir 19 = .ok (.iaload, 1) := by decide +kernel
theorem dX2_isHeir_20 : decode cX2_isHeir 20 = .ok (.iload_n 1, 1) := by decide +kernel
theorem dX2_isHeir_21 : decode cX2_isHeir 21 = .ok (.ishr, 1) := by decide +kernel
theorem dX2_isHeir_22 : decode cX2_isHeir 22 = .ok (.iconst 1, 1) := by decide +kernel
theorem dX2_isHeir_23 : decode cX2_isHeir 23 = .ok (.iand, 1) := by decide +kernel
theorem dX2_isHeir_24 : decode cX2_isHeir 24 = .ok (.iconst 1, 1) := by decide +kernel
theorem dX2_isHeir_25 : decode cX2_isHeir 25 = .ok (.if_icmp .ne 7, 3) := by decide +kernel
theorem dX2_isHeir_28 : decode cX2_isHeir 28 = .ok (.iconst 1, 1) := by decide +kernel
theorem dX2_isHeir_29 : decode cX2_isHeir 29 = .ok (.goto 4, 3) := by decide +kernel
theorem dX2_isHeir_32 : decode cX2_isHeir 32 = .ok (.iconst 0, 1) := by decide +kernel
theorem dX2_isHeir_33 : decode cX2_isHeir 33 = .ok (.ireturn, 1) := by decide +kernel
set_option maxRecDepth 20000 in
theorem ggX2_isHeirOfDead_X2_isAlive : GoodIn wsX2_isHeirOfDead wsX2_isAlive := goodIn_r _ [5, 6, 7, 8, 4, 9, 15, 16, 17, 18, 19, 20] (by decide +kernel) (by decide +kernel)
set_option maxRecDepth 20000 in
theorem gX2_isHeirOfDead_X2_isAlive : GoodIn wsX2_isHeirOfDead (wsV RX2 64 RX2 yX2_isAlive wsX2_isAlive) := goodIn_app (goodIn_of _ (by decide +kernel)) ggX2_isHeirOfDead_X2_isAlive
set_option maxRecDepth 20000 in
theorem ggX2_isHeirOfDead_X2_isHeir : GoodIn wsX2_isHeirOfDead wsX2_isHeir := goodIn_r _ [13, 14, 7, 8, 4, 9, 15, 16, 17, 18, 19, 20] (by decide +kernel) (by decide +kernel)
set_option maxRecDepth 20000 in
theorem gX2_isHeirOfDead_X2_isHeir : GoodIn wsX2_isHeirOfDead (wsV RX2 153 RX2 yX2_isHeir wsX2_isHeir) := goodIn_app (goodIn_of _ (by decide +kernel)) ggX2_isHeirOfDead_X2_isHeir
theorem dX2_isHeirOfDead_0 : decode cX2_isHeirOfDead 0 = .ok (.aload_n 0, 1) := by decide +kernel
theorem dX2_isHeirOfDead_1 : decode cX2_isHeirOfDead 1 = .ok (.iload_n 2, 1) := by decide +kernel
theorem dX2_isHeirOfDead_2 : decode cX2_isHeirOfDead 2 = .ok (.invokevirtual 64, 3) := by decide +kernel
theorem dX2_isHeirOfDead_5 : decode cX2_isHeirOfDead 5 = .ok (.ifCond .ne 16, 3) := by decide +kernel
theorem dX2_isHeirOfDead_8 : decode cX2_isHeirOfDead 8 = .ok (.aload_n 0, 1) := by decide +kernel
theorem dX2_isHeirOfDead_9 : decode cX2_isHeirOfDead 9 = .ok (.iload_n 1, 1) := by decide +kernel
theorem dX2_isHeirOfDead_10 : decode cX2_isHeirOfDead 10 = .ok (.iload_n 2, 1) := by decide +kernel
theorem dX2_isHeirOfDead_11 : decode cX2_isHeirOfDead 11 = .ok (.invokevirtual 153, 3) := by decide +kernel
theorem dX2_isHeirOfDead_14 : decode cX2_isHeirOfDead 14 = .ok (.ifCond .eq 7, 3) := by decide +kernel
theorem dX2_isHeirOfDead_17 : decode cX2_isHeirOfDead 17 = .ok (.iconst 1, 1) := by decide +kernel
theorem dX2_isHeirOfDead_18 : decode cX2_isHeirOfDead 18 = .ok (.goto 4, 3) := by decide +kernel
theorem dX2_isHeirOfDead_21 : decode cX2_isHeirOfDead 21 = .ok (.iconst 0, 1) := by decide +kernel
theorem dX2_isHeirOfDead_22 : decode cX2_isHeirOfDead 22 = .ok (.ireturn, 1) := by decide +kernel
set_option maxRecDepth 20000 in
theorem ggX2_canWitness_X2_isAlive : GoodIn wsX2_canWitness wsX2_isAlive := goodIn_r _ [5, 6, 7, 8, 4, 9, 20, 21, 22, 23, 24, 25] (by decide +kernel) (by decide +kernel)
set_option maxRecDepth 20000 in
theorem gX2_canWitness_X2_isAlive : GoodIn wsX2_canWitness (wsV RX2 64 RX2 yX2_isAlive wsX2_isAlive) := goodIn_app (goodIn_of _ (by decide +kernel)) ggX2_canWitness_X2_isAlive
theorem dX2_canWitness_0 : decode cX2_canWitness 0 = .ok (.aload_n 0, 1) := by decide +kernel
theorem dX2_canWitness_1 : decode cX2_canWitness 1 = .ok (.iload_n 2, 1) := by decide +kernel
theorem dX2_canWitness_2 : decode cX2_canWitness 2 = .ok (.invokevirtual 64, 3) := by decide +kernel
theorem dX2_canWitness_5 : decode cX2_canWitness 5 = .ok (.ifCond .eq 15, 3) := by decide +kernel
theorem dX2_canWitness_8 : decode cX2_canWitness 8 = .ok (.iload_n 2, 1) := by decide +kernel
theorem dX2_canWitness_9 : decode cX2_canWitness 9 = .ok (.aload_n 1, 1) := by decide +kernel
theorem dX2_canWitness_10 : decode cX2_canWitness 10 = .ok (.getfield 136, 3) := by decide +kernel
theorem dX2_canWitness_13 : decode cX2_canWitness 13 = .ok (.if_icmp .eq 7, 3) := by decide +kernel
theorem dX2_canWitness_16 : decode cX2_canWitness 16 = .ok (.iconst 1, 1) := by decide +kernel
theorem dX2_canWitness_17 : decode cX2_canWitness 17 = .ok (.goto 4, 3) := by decide +kernel
theorem dX2_canWitness_20 : decode cX2_canWitness 20 = .ok (.iconst 0, 1) := by decide +kernel
theorem dX2_canWitness_21 : decode cX2_canWitness 21 = .ok (.ireturn, 1) := by decide +kernel
set_option maxRecDepth 20000 in
theorem ggX2_rightOf_X0_isRented : GoodIn wsX2_rightOf wsX0_isRented := goodIn_r _ [5, 6, 82, 83, 84, 85, 86, 87, 88, 89, 90, 91] (by decide +kernel) (by decide +kernel)
set_option maxRecDepth 20000 in
theorem gX2_rightOf_X0_isRented_n160 : GoodIn wsX2_rightOf (wsX0_isRented) := ggX2_rightOf_X0_isRented
set_option maxRecDepth 20000 in
theorem ggX2_rightOf_X2_isAlive : GoodIn wsX2_rightOf wsX2_isAlive := goodIn_r _ [11, 12, 13, 14, 10, 15, 76, 77, 78, 79, 80, 81] (by decide +kernel) (by decide +kernel)
set_option maxRecDepth 20000 in
theorem gX2_rightOf_X2_isAlive : GoodIn wsX2_rightOf (wsV RX2 64 RX2 yX2_isAlive wsX2_isAlive) := goodIn_app (goodIn_of _ (by decide +kernel)) ggX2_rightOf_X2_isAlive
set_option maxRecDepth 20000 in
theorem ggX2_rightOf_X1_bindingOn : GoodIn wsX2_rightOf wsX1_bindingOn := goodIn_r _ [19, 20, 21, 22, 23, 92, 93, 94, 95, 96, 97] (by decide +kernel) (by decide +kernel)
set_option maxRecDepth 20000 in
theorem gX2_rightOf_X1_bindingOn_n111 : GoodIn wsX2_rightOf (wsX1_bindingOn) := ggX2_rightOf_X1_bindingOn
set_option maxRecDepth 20000 in
theorem ggX2_rightOf_X2_orderAllows : GoodIn wsX2_rightOf wsX2_orderAllows := goodIn_r _ [27, 1, 28, 17, 29, 30, 31, 32, 33, 34, 35, 20, 36, 37, 38, 39, 40, 41, 42, 10, 43, 7, 8, 9, 11, 12, 13, 14, 15, 44, 45, 46, 47, 48, 76, 77, 78, 79, 80, 81, 82, 83, 84, 85, 86, 87, 88, 89, 90, 91, 92, 93, 94, 95, 96, 97] (by decide +kernel) (by decide +kernel)
set_option maxRecDepth 20000 in
theorem gX2_rightOf_X2_orderAllows : GoodIn wsX2_rightOf (wsV RX2 204 RX2 yX2_orderAllows wsX2_orderAllows) := goodIn_app (goodIn_of _ (by decide +kernel)) ggX2_rightOf_X2_orderAllows
set_option maxRecDepth 20000 in
theorem ggX2_rightOf_X2_holderAllows : GoodIn wsX2_rightOf wsX2_holderAllows := goodIn_r _ [52, 53, 54, 3, 55, 56, 57, 58, 59, 60, 61, 62, 63, 64, 65, 66, 67, 68, 69, 70, 71, 72, 73, 74, 75, 76, 77, 78, 79, 80, 81, 82, 83, 84, 85, 86, 87, 88, 89, 90, 91] (by decide +kernel) (by decide +kernel)
set_option maxRecDepth 20000 in
theorem gX2_rightOf_X2_holderAllows : GoodIn wsX2_rightOf (wsV RX2 207 RX2 yX2_holderAllows wsX2_holderAllows) := goodIn_app (goodIn_of _ (by decide +kernel)) ggX2_rightOf_X2_holderAllows
set_option maxRecDepth 20000 in
theorem ggX2_rightOf_X2_isHeir : GoodIn wsX2_rightOf wsX2_isHeir := goodIn_r _ [47, 48, 13, 14, 10, 15, 76, 77, 78, 79, 80, 81] (by decide +kernel) (by decide +kernel)
set_option maxRecDepth 20000 in
theorem gX2_rightOf_X2_isHeir : GoodIn wsX2_rightOf (wsV RX2 153 RX2 yX2_isHeir wsX2_isHeir) := goodIn_app (goodIn_of _ (by decide +kernel)) ggX2_rightOf_X2_isHeir
theorem dX2_rightOf_0 : decode cX2_rightOf 0 = .ok (.aload_n 2, 1) := by decide +kernel
theorem dX2_rightOf_1 : decode cX2_rightOf 1 = .ok (.invokevirtual 160, 3) := by decide +kernel
theorem dX2_rightOf_4 : decode cX2_rightOf 4 = .ok (.ifCond .eq 11, 3) := by decide +kernel
theorem dX2_rightOf_7 : decode cX2_rightOf 7 = .ok (.aload_n 0, 1) := by decide +kernel
theorem dX2_rightOf_8 : decode cX2_rightOf 8 = .ok (.iload_n 3, 1) := by decide +kernel
theorem dX2_rightOf_9 : decode cX2_rightOf 9 = .ok (.invokevirtual 64, 3) := by decide +kernel
theorem dX2_rightOf_12 : decode cX2_rightOf 12 = .ok (.ifCond .ne 5, 3) := by decide +kernel
theorem dX2_rightOf_15 : decode cX2_rightOf 15 = .ok (.iconst 3, 1) := by decide +kernel
theorem dX2_rightOf_16 : decode cX2_rightOf 16 = .ok (.ireturn, 1) := by decide +kernel
theorem dX2_rightOf_17 : decode cX2_rightOf 17 = .ok (.aload_n 0, 1) := by decide +kernel
theorem dX2_rightOf_18 : decode cX2_rightOf 18 = .ok (.getfield 18, 3) := by decide +kernel
theorem dX2_rightOf_21 : decode cX2_rightOf 21 = .ok (.iload_n 1, 1) := by decide +kernel
theorem dX2_rightOf_22 : decode cX2_rightOf 22 = .ok (.invokevirtual 111, 3) := by decide +kernel
theorem dX2_rightOf_25 : decode cX2_rightOf 25 = .ok (.istore 4, 2) := by decide +kernel
theorem dX2_rightOf_27 : decode cX2_rightOf 27 = .ok (.iload 4, 2) := by decide +kernel
theorem dX2_rightOf_29 : decode cX2_rightOf 29 = .ok (.iconst (-1), 1) := by decide +kernel
theorem dX2_rightOf_30 : decode cX2_rightOf 30 = .ok (.if_icmp .eq 20, 3) := by decide +kernel
theorem dX2_rightOf_33 : decode cX2_rightOf 33 = .ok (.aload_n 0, 1) := by decide +kernel
theorem dX2_rightOf_34 : decode cX2_rightOf 34 = .ok (.iload 4, 2) := by decide +kernel
theorem dX2_rightOf_36 : decode cX2_rightOf 36 = .ok (.aload_n 2, 1) := by decide +kernel
theorem dX2_rightOf_37 : decode cX2_rightOf 37 = .ok (.iload_n 3, 1) := by decide +kernel
theorem dX2_rightOf_38 : decode cX2_rightOf 38 = .ok (.invokevirtual 204, 3) := by decide +kernel
theorem dX2_rightOf_41 : decode cX2_rightOf 41 = .ok (.ifCond .eq 7, 3) := by decide +kernel
theorem dX2_rightOf_44 : decode cX2_rightOf 44 = .ok (.iconst 0, 1) := by decide +kernel
theorem dX2_rightOf_45 : decode cX2_rightOf 45 = .ok (.goto 4, 3) := by decide +kernel
theorem dX2_rightOf_48 : decode cX2_rightOf 48 = .ok (.iconst 3, 1) := by decide +kernel
theorem dX2_rightOf_49 : decode cX2_rightOf 49 = .ok (.ireturn, 1) := by decide +kernel
theorem dX2_rightOf_50 : decode cX2_rightOf 50 = .ok (.aload_n 0, 1) := by decide +kernel
theorem dX2_rightOf_51 : decode cX2_rightOf 51 = .ok (.aload_n 2, 1) := by decide +kernel
theorem dX2_rightOf_52 : decode cX2_rightOf 52 = .ok (.getfield 136, 3) := by decide +kernel
theorem dX2_rightOf_55 : decode cX2_rightOf 55 = .ok (.invokevirtual 64, 3) := by decide +kernel
theorem dX2_rightOf_58 : decode cX2_rightOf 58 = .ok (.ifCond .eq 18, 3) := by decide +kernel
theorem dX2_rightOf_61 : decode cX2_rightOf 61 = .ok (.aload_n 0, 1) := by decide +kernel
theorem dX2_rightOf_62 : decode cX2_rightOf 62 = .ok (.aload_n 2, 1) := by decide +kernel
theorem dX2_rightOf_63 : decode cX2_rightOf 63 = .ok (.iload_n 3, 1) := by decide +kernel
theorem dX2_rightOf_64 : decode cX2_rightOf 64 = .ok (.invokevirtual 207, 3) := by decide +kernel
theorem dX2_rightOf_67 : decode cX2_rightOf 67 = .ok (.ifCond .eq 7, 3) := by decide +kernel
theorem dX2_rightOf_70 : decode cX2_rightOf 70 = .ok (.iconst 0, 1) := by decide +kernel
theorem dX2_rightOf_71 : decode cX2_rightOf 71 = .ok (.goto 4, 3) := by decide +kernel
theorem dX2_rightOf_74 : decode cX2_rightOf 74 = .ok (.iconst 3, 1) := by decide +kernel
theorem dX2_rightOf_75 : decode cX2_rightOf 75 = .ok (.ireturn, 1) := by decide +kernel
theorem dX2_rightOf_76 : decode cX2_rightOf 76 = .ok (.aload_n 0, 1) := by decide +kernel
theorem dX2_rightOf_77 : decode cX2_rightOf 77 = .ok (.iload_n 3, 1) := by decide +kernel
theorem dX2_rightOf_78 : decode cX2_rightOf 78 = .ok (.aload_n 2, 1) := by decide +kernel
theorem dX2_rightOf_79 : decode cX2_rightOf 79 = .ok (.getfield 136, 3) := by decide +kernel
theorem dX2_rightOf_82 : decode cX2_rightOf 82 = .ok (.invokevirtual 153, 3) := by decide +kernel
theorem dX2_rightOf_85 : decode cX2_rightOf 85 = .ok (.ifCond .eq 14, 3) := by decide +kernel
theorem dX2_rightOf_88 : decode cX2_rightOf 88 = .ok (.aload_n 2, 1) := by decide +kernel
theorem dX2_rightOf_89 : decode cX2_rightOf 89 = .ok (.getfield 193, 3) := by decide +kernel
theorem dX2_rightOf_92 : decode cX2_rightOf 92 = .ok (.ifCond .ne 7, 3) := by decide +kernel
theorem dX2_rightOf_95 : decode cX2_rightOf 95 = .ok (.iconst 1, 1) := by decide +kernel
theorem dX2_rightOf_96 : decode cX2_rightOf 96 = .ok (.goto 4, 3) := by decide +kernel
theorem dX2_rightOf_99 : decode cX2_rightOf 99 = .ok (.iconst 3, 1) := by decide +kernel
theorem dX2_rightOf_100 : decode cX2_rightOf 100 = .ok (.ireturn, 1) := by decide +kernel
set_option maxRecDepth 20000 in
theorem ggX2_orderAllows_X1_kindOf : GoodIn wsX2_orderAllows wsX1_kindOf := goodIn_r _ [5, 6, 7, 8, 9, 3, 10, 11, 50, 51, 52, 53, 54, 55] (by decide +kernel) (by decide +kernel)
set_option maxRecDepth 20000 in
theorem gX2_orderAllows_X1_kindOf_n114 : GoodIn wsX2_orderAllows (wsX1_kindOf) := ggX2_orderAllows_X1_kindOf
set_option maxRecDepth 20000 in
theorem ggX2_orderAllows_X1_personOf : GoodIn wsX2_orderAllows wsX1_personOf := goodIn_r _ [14, 15, 7, 8, 9, 3, 10, 11, 50, 51, 52, 53, 54, 55] (by decide +kernel) (by decide +kernel)
set_option maxRecDepth 20000 in
theorem gX2_orderAllows_X1_personOf_n210 : GoodIn wsX2_orderAllows (wsX1_personOf) := ggX2_orderAllows_X1_personOf
set_option maxRecDepth 20000 in
theorem ggX2_orderAllows_X2_isHeirOfDead : GoodIn wsX2_orderAllows wsX2_isHeirOfDead := goodIn_r _ [20, 21, 22, 23, 19, 24, 25, 26, 27, 28, 29, 30, 31, 32, 33, 34, 35, 36, 37, 38, 39] (by decide +kernel) (by decide +kernel)
set_option maxRecDepth 20000 in
theorem gX2_orderAllows_X2_isHeirOfDead : GoodIn wsX2_orderAllows (wsV RX2 213 RX2 yX2_isHeirOfDead wsX2_isHeirOfDead) := goodIn_app (goodIn_of _ (by decide +kernel)) ggX2_orderAllows_X2_isHeirOfDead
theorem dX2_orderAllows_0 : decode cX2_orderAllows 0 = .ok (.aload_n 0, 1) := by decide +kernel
theorem dX2_orderAllows_1 : decode cX2_orderAllows 1 = .ok (.getfield 18, 3) := by decide +kernel
theorem dX2_orderAllows_4 : decode cX2_orderAllows 4 = .ok (.iload_n 1, 1) := by decide +kernel
theorem dX2_orderAllows_5 : decode cX2_orderAllows 5 = .ok (.invokevirtual 114, 3) := by decide +kernel
theorem dX2_orderAllows_8 : decode cX2_orderAllows 8 = .ok (.lookupswitch 56 #[(1, 28), (2, 46)], 28) := by decide +kernel
theorem dX2_orderAllows_36 : decode cX2_orderAllows 36 = .ok (.iload_n 3, 1) := by decide +kernel
theorem dX2_orderAllows_37 : decode cX2_orderAllows 37 = .ok (.aload_n 0, 1) := by decide +kernel
theorem dX2_orderAllows_38 : decode cX2_orderAllows 38 = .ok (.getfield 18, 3) := by decide +kernel
theorem dX2_orderAllows_41 : decode cX2_orderAllows 41 = .ok (.iload_n 1, 1) := by decide +kernel
theorem dX2_orderAllows_42 : decode cX2_orderAllows 42 = .ok (.invokevirtual 210, 3) := by decide +kernel
theorem dX2_orderAllows_45 : decode cX2_orderAllows 45 = .ok (.if_icmp .ne 7, 3) := by decide +kernel
theorem dX2_orderAllows_48 : decode cX2_orderAllows 48 = .ok (.iconst 1, 1) := by decide +kernel
theorem dX2_orderAllows_49 : decode cX2_orderAllows 49 = .ok (.goto 4, 3) := by decide +kernel
theorem dX2_orderAllows_52 : decode cX2_orderAllows 52 = .ok (.iconst 0, 1) := by decide +kernel
theorem dX2_orderAllows_53 : decode cX2_orderAllows 53 = .ok (.ireturn, 1) := by decide +kernel
theorem dX2_orderAllows_54 : decode cX2_orderAllows 54 = .ok (.aload_n 0, 1) := by decide +kernel
theorem dX2_orderAllows_55 : decode cX2_orderAllows 55 = .ok (.iload_n 3, 1) := by decide +kernel
theorem dX2_orderAllows_56 : decode cX2_orderAllows 56 = .ok (.aload_n 2, 1) := by decide +kernel
theorem dX2_orderAllows_57 : decode cX2_orderAllows 57 = .ok (.getfield 136, 3) := by decide +kernel
theorem dX2_orderAllows_60 : decode cX2_orderAllows 60 = .ok (.invokevirtual 213, 3) := by decide +kernel
theorem dX2_orderAllows_63 : decode cX2_orderAllows 63 = .ok (.ireturn, 1) := by decide +kernel
theorem dX2_orderAllows_64 : decode cX2_orderAllows 64 = .ok (.iconst 0, 1) := by decide +kernel
theorem dX2_orderAllows_65 : decode cX2_orderAllows 65 = .ok (.ireturn, 1) := by decide +kernel
set_option maxRecDepth 20000 in
theorem ggX2_holderAllows_X0_noticesOn : GoodIn wsX2_holderAllows wsX0_noticesOn := goodIn_r _ [5, 6, 7, 8, 9, 10, 11, 12, 3, 13, 14, 15, 16, 17, 31, 32, 33, 34, 35, 36, 37, 38, 39, 40] (by decide +kernel) (by decide +kernel)
set_option maxRecDepth 20000 in
theorem gX2_holderAllows_X0_noticesOn_n99 : GoodIn wsX2_holderAllows (wsX0_noticesOn) := ggX2_holderAllows_X0_noticesOn
set_option maxRecDepth 20000 in
theorem ggX2_holderAllows_X0_hasProxyOn : GoodIn wsX2_holderAllows wsX0_hasProxyOn := goodIn_r _ [20, 21, 22, 23, 24, 31, 32, 33, 34, 35, 36, 37, 38, 39, 40] (by decide +kernel) (by decide +kernel)
set_option maxRecDepth 20000 in
theorem gX2_holderAllows_X0_hasProxyOn_n216 : GoodIn wsX2_holderAllows (wsX0_hasProxyOn) := ggX2_holderAllows_X0_hasProxyOn
theorem dX2_holderAllows_0 : decode cX2_holderAllows 0 = .ok (.aload_n 1, 1) := by decide +kernel
theorem dX2_holderAllows_1 : decode cX2_holderAllows 1 = .ok (.aload_n 0, 1) := by decide +kernel
theorem dX2_holderAllows_2 : decode cX2_holderAllows 2 = .ok (.getfield 33, 3) := by decide +kernel
theorem dX2_holderAllows_5 : decode cX2_holderAllows 5 = .ok (.invokevirtual 99, 3) := by decide +kernel
theorem dX2_holderAllows_8 : decode cX2_holderAllows 8 = .ok (.ifCond .ne 27, 3) := by decide +kernel
theorem dX2_holderAllows_11 : decode cX2_holderAllows 11 = .ok (.iload_n 2, 1) := by decide +kernel
theorem dX2_holderAllows_12 : decode cX2_holderAllows 12 = .ok (.aload_n 1, 1) := by decide +kernel
theorem dX2_holderAllows_13 : decode cX2_holderAllows 13 = .ok (.getfield 136, 3) := by decide +kernel
theorem dX2_holderAllows_16 : decode cX2_holderAllows 16 = .ok (.if_icmp .eq 15, 3) := by decide +kernel
theorem dX2_holderAllows_19 : decode cX2_holderAllows 19 = .ok (.aload_n 1, 1) := by decide +kernel
theorem dX2_holderAllows_20 : decode cX2_holderAllows 20 = .ok (.aload_n 0, 1) := by decide +kernel
theorem dX2_holderAllows_21 : decode cX2_holderAllows 21 = .ok (.getfield 33, 3) := by decide +kernel
theorem dX2_holderAllows_24 : decode cX2_holderAllows 24 = .ok (.iload_n 2, 1) := by decide +kernel
theorem dX2_holderAllows_25 : decode cX2_holderAllows 25 = .ok (.invokevirtual 216, 3) := by decide +kernel
theorem dX2_holderAllows_28 : decode cX2_holderAllows 28 = .ok (.ifCond .eq 7, 3) := by decide +kernel
theorem dX2_holderAllows_31 : decode cX2_holderAllows 31 = .ok (.iconst 1, 1) := by decide +kernel
theorem dX2_holderAllows_32 : decode cX2_holderAllows 32 = .ok (.goto 4, 3) := by decide +kernel
theorem dX2_holderAllows_35 : decode cX2_holderAllows 35 = .ok (.iconst 0, 1) := by decide +kernel
theorem dX2_holderAllows_36 : decode cX2_holderAllows 36 = .ok (.ireturn, 1) := by decide +kernel
set_option maxRecDepth 20000 in
theorem ggX2_mayFetch_X2_isAlive : GoodIn wsX2_mayFetch wsX2_isAlive := goodIn_r _ [6, 7, 8, 9, 5, 10, 44, 45, 46, 47, 48, 49] (by decide +kernel) (by decide +kernel)
set_option maxRecDepth 20000 in
theorem gX2_mayFetch_X2_isAlive : GoodIn wsX2_mayFetch (wsV RX2 64 RX2 yX2_isAlive wsX2_isAlive) := goodIn_app (goodIn_of _ (by decide +kernel)) ggX2_mayFetch_X2_isAlive
set_option maxRecDepth 20000 in
theorem ggX2_mayFetch_X1_bindingOn : GoodIn wsX2_mayFetch wsX1_bindingOn := goodIn_r _ [14, 15, 16, 17, 18, 60, 61, 62, 63, 64, 65] (by decide +kernel) (by decide +kernel)
set_option maxRecDepth 20000 in
theorem gX2_mayFetch_X1_bindingOn_n111 : GoodIn wsX2_mayFetch (wsX1_bindingOn) := ggX2_mayFetch_X1_bindingOn
set_option maxRecDepth 20000 in
theorem ggX2_mayFetch_X2_orderAllows : GoodIn wsX2_mayFetch wsX2_orderAllows := goodIn_r _ [22, 1, 23, 12, 24, 25, 26, 27, 28, 29, 30, 15, 31, 32, 33, 34, 35, 36, 37, 5, 38, 2, 3, 4, 6, 7, 8, 9, 10, 39, 40, 41, 42, 43, 44, 45, 46, 47, 48, 49, 50, 51, 52, 53, 54, 55, 56, 57, 58, 59, 60, 61, 62, 63, 64, 65] (by decide +kernel) (by decide +kernel)
set_option maxRecDepth 20000 in
theorem gX2_mayFetch_X2_orderAllows : GoodIn wsX2_mayFetch (wsV RX2 204 RX2 yX2_orderAllows wsX2_orderAllows) := goodIn_app (goodIn_of _ (by decide +kernel)) ggX2_mayFetch_X2_orderAllows
set_option maxRecDepth 20000 in
theorem ggX2_mayFetch_X2_isHeirOfDead : GoodIn wsX2_mayFetch wsX2_isHeirOfDead := goodIn_r _ [38, 2, 3, 4, 5, 6, 7, 8, 9, 10, 39, 40, 41, 42, 43, 44, 45, 46, 47, 48, 49] (by decide +kernel) (by decide +kernel)
set_option maxRecDepth 20000 in
theorem gX2_mayFetch_X2_isHeirOfDead : GoodIn wsX2_mayFetch (wsV RX2 213 RX2 yX2_isHeirOfDead wsX2_isHeirOfDead) := goodIn_app (goodIn_of _ (by decide +kernel)) ggX2_mayFetch_X2_isHeirOfDead
theorem dX2_mayFetch_0 : decode cX2_mayFetch 0 = .ok (.aload_n 0, 1) := by decide +kernel
theorem dX2_mayFetch_1 : decode cX2_mayFetch 1 = .ok (.iload_n 3, 1) := by decide +kernel
theorem dX2_mayFetch_2 : decode cX2_mayFetch 2 = .ok (.invokevirtual 64, 3) := by decide +kernel
theorem dX2_mayFetch_5 : decode cX2_mayFetch 5 = .ok (.ifCond .ne 5, 3) := by decide +kernel
theorem dX2_mayFetch_8 : decode cX2_mayFetch 8 = .ok (.iconst 0, 1) := by decide +kernel
theorem dX2_mayFetch_9 : decode cX2_mayFetch 9 = .ok (.ireturn, 1) := by decide +kernel
theorem dX2_mayFetch_10 : decode cX2_mayFetch 10 = .ok (.aload_n 0, 1) := by decide +kernel
theorem dX2_mayFetch_11 : decode cX2_mayFetch 11 = .ok (.getfield 18, 3) := by decide +kernel
theorem dX2_mayFetch_14 : decode cX2_mayFetch 14 = .ok (.iload_n 1, 1) := by decide +kernel
theorem dX2_mayFetch_15 : decode cX2_mayFetch 15 = .ok (.invokevirtual 111, 3) := by decide +kernel
theorem dX2_mayFetch_18 : decode cX2_mayFetch 18 = .ok (.istore 4, 2) := by decide +kernel
theorem dX2_mayFetch_20 : decode cX2_mayFetch 20 = .ok (.iload 4, 2) := by decide +kernel
theorem dX2_mayFetch_22 : decode cX2_mayFetch 22 = .ok (.iconst (-1), 1) := by decide +kernel
theorem dX2_mayFetch_23 : decode cX2_mayFetch 23 = .ok (.if_icmp .eq 12, 3) := by decide +kernel
theorem dX2_mayFetch_26 : decode cX2_mayFetch 26 = .ok (.aload_n 0, 1) := by decide +kernel
theorem dX2_mayFetch_27 : decode cX2_mayFetch 27 = .ok (.iload 4, 2) := by decide +kernel
theorem dX2_mayFetch_29 : decode cX2_mayFetch 29 = .ok (.aload_n 2, 1) := by decide +kernel
theorem dX2_mayFetch_30 : decode cX2_mayFetch 30 = .ok (.iload_n 3, 1) := by decide +kernel
theorem dX2_mayFetch_31 : decode cX2_mayFetch 31 = .ok (.invokevirtual 204, 3) := by decide +kernel
theorem dX2_mayFetch_34 : decode cX2_mayFetch 34 = .ok (.ireturn, 1) := by decide +kernel
theorem dX2_mayFetch_35 : decode cX2_mayFetch 35 = .ok (.iload_n 3, 1) := by decide +kernel
theorem dX2_mayFetch_36 : decode cX2_mayFetch 36 = .ok (.aload_n 2, 1) := by decide +kernel
theorem dX2_mayFetch_37 : decode cX2_mayFetch 37 = .ok (.getfield 136, 3) := by decide +kernel
theorem dX2_mayFetch_40 : decode cX2_mayFetch 40 = .ok (.if_icmp .eq 15, 3) := by decide +kernel
theorem dX2_mayFetch_43 : decode cX2_mayFetch 43 = .ok (.aload_n 0, 1) := by decide +kernel
theorem dX2_mayFetch_44 : decode cX2_mayFetch 44 = .ok (.iload_n 3, 1) := by decide +kernel
theorem dX2_mayFetch_45 : decode cX2_mayFetch 45 = .ok (.aload_n 2, 1) := by decide +kernel
theorem dX2_mayFetch_46 : decode cX2_mayFetch 46 = .ok (.getfield 136, 3) := by decide +kernel
theorem dX2_mayFetch_49 : decode cX2_mayFetch 49 = .ok (.invokevirtual 213, 3) := by decide +kernel
theorem dX2_mayFetch_52 : decode cX2_mayFetch 52 = .ok (.ifCond .eq 7, 3) := by decide +kernel
theorem dX2_mayFetch_55 : decode cX2_mayFetch 55 = .ok (.iconst 1, 1) := by decide +kernel
theorem dX2_mayFetch_56 : decode cX2_mayFetch 56 = .ok (.goto 4, 3) := by decide +kernel
theorem dX2_mayFetch_59 : decode cX2_mayFetch 59 = .ok (.iconst 0, 1) := by decide +kernel
theorem dX2_mayFetch_60 : decode cX2_mayFetch 60 = .ok (.ireturn, 1) := by decide +kernel
set_option maxRecDepth 20000 in
theorem ggX2_makeFree_X0_empty : GoodIn wsX2_makeFree wsX0_empty := goodIn_r _ [5, 6, 7, 8, 9, 10, 3, 11, 12, 26, 27, 28, 29, 30, 31, 32, 33, 34, 35] (by decide +kernel) (by decide +kernel)
set_option maxRecDepth 20000 in
theorem gX2_makeFree_X0_empty_n219 : GoodIn wsX2_makeFree (wsX0_empty) := ggX2_makeFree_X0_empty
set_option maxRecDepth 20000 in
theorem ggX2_makeFree_X1_endAllOn : GoodIn wsX2_makeFree wsX1_endAllOn := goodIn_r _ [16, 17, 18, 19, 36, 37, 38, 39, 40, 41] (by decide +kernel) (by decide +kernel)
set_option maxRecDepth 20000 in
theorem gX2_makeFree_X1_endAllOn_n222 : GoodIn wsX2_makeFree (wsX1_endAllOn) := ggX2_makeFree_X1_endAllOn
theorem dX2_makeFree_0 : decode cX2_makeFree 0 = .ok (.aload_n 2, 1) := by decide +kernel
theorem dX2_makeFree_1 : decode cX2_makeFree 1 = .ok (.invokevirtual 219, 3) := by decide +kernel
theorem dX2_makeFree_4 : decode cX2_makeFree 4 = .ok (.aload_n 0, 1) := by decide +kernel
theorem dX2_makeFree_5 : decode cX2_makeFree 5 = .ok (.getfield 18, 3) := by decide +kernel
theorem dX2_makeFree_8 : decode cX2_makeFree 8 = .ok (.iload_n 1, 1) := by decide +kernel
theorem dX2_makeFree_9 : decode cX2_makeFree 9 = .ok (.invokevirtual 222, 3) := by decide +kernel
theorem dX2_makeFree_12 : decode cX2_makeFree 12 = .ok (.return_, 1) := by decide +kernel

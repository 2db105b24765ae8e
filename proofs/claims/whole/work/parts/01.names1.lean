theorem inlX0 : ∀ w ∈ wsX00, w ∈ wsL_law := fun _ h => List.mem_append_left _ (List.mem_append_left _ (List.mem_append_left _ (List.mem_append_left _ (List.mem_append_left _ (List.mem_append_right _ h)))))
theorem inlX1 : ∀ w ∈ wsX10, w ∈ wsL_law := fun _ h => List.mem_append_left _ (List.mem_append_left _ (List.mem_append_left _ (List.mem_append_left _ (List.mem_append_right _ h))))
theorem inlX2 : ∀ w ∈ wsX20, w ∈ wsL_law := fun _ h => List.mem_append_left _ (List.mem_append_right _ h)
theorem inlX3 : ∀ w ∈ wsX30, w ∈ wsL_law := fun _ h => List.mem_append_left _ (List.mem_append_left _ (List.mem_append_left _ (List.mem_append_left _ (List.mem_append_left _ (List.mem_append_left _ (List.mem_append_right _ h))))))
theorem inlX4 : ∀ w ∈ wsX40, w ∈ wsL_law := fun _ h => List.mem_append_left _ (List.mem_append_left _ (List.mem_append_left _ (List.mem_append_right _ h)))
theorem inlX5 : ∀ w ∈ wsX50, w ∈ wsL_law := fun _ h => List.mem_append_left _ (List.mem_append_left _ (List.mem_append_right _ h))
theorem inlX6 : ∀ w ∈ wsX60, w ∈ wsL_law := fun _ h => List.mem_append_left _ (List.mem_append_left _ (List.mem_append_left _ (List.mem_append_left _ (List.mem_append_left _ (List.mem_append_left _ (List.mem_append_left _ (List.mem_append_left _ (List.mem_append_right _ h))))))))
theorem inlX7 : ∀ w ∈ wsX70, w ∈ wsL_law := fun _ h => List.mem_append_left _ (List.mem_append_left _ (List.mem_append_left _ (List.mem_append_left _ (List.mem_append_left _ (List.mem_append_left _ (List.mem_append_left _ (List.mem_append_right _ h)))))))
theorem inJ9 : ∀ w ∈ wsJ90, w ∈ lw_tbl := by decide +kernel
set_option maxRecDepth 20000 in
theorem ggX0_init_X5_init : GoodIn wsX0_init wsX5_init := goodIn_r _ [15, 16, 2, 3, 17, 18, 19, 20, 21, 22, 30] (by decide +kernel) (by decide +kernel)
set_option maxRecDepth 20000 in
theorem gX0_init_X5_init : GoodIn wsX0_init (wsX5_init) := ggX0_init_X5_init
set_option maxRecDepth 20000 in
theorem ggX0_init_X2_init : GoodIn wsX0_init wsX2_init := goodIn_r _ [25, 26, 2, 3, 27, 28, 18, 19, 20, 21, 29, 34, 35] (by decide +kernel) (by decide +kernel)
set_option maxRecDepth 20000 in
theorem gX0_init_X2_init : GoodIn wsX0_init (wsX2_init) := ggX0_init_X2_init
theorem dX0_init_0 : decode cX0_init 0 = .ok (.aload_n 0, 1) := by decide +kernel
theorem dX0_init_1 : decode cX0_init 1 = .ok (.invokespecial 3, 3) := by decide +kernel
theorem dX0_init_4 : decode cX0_init 4 = .ok (.aload_n 0, 1) := by decide +kernel
theorem dX0_init_5 : decode cX0_init 5 = .ok (.new 9, 3) := by decide +kernel
theorem dX0_init_8 : decode cX0_init 8 = .ok (.dup, 1) := by decide +kernel
theorem dX0_init_9 : decode cX0_init 9 = .ok (.bipush 8, 2) := by decide +kernel
theorem dX0_init_11 : decode cX0_init 11 = .ok (.invokespecial 11, 3) := by decide +kernel
theorem dX0_init_14 : decode cX0_init 14 = .ok (.putfield 14, 3) := by decide +kernel
theorem dX0_init_17 : decode cX0_init 17 = .ok (.aload_n 0, 1) := by decide +kernel
theorem dX0_init_18 : decode cX0_init 18 = .ok (.new 9, 3) := by decide +kernel
theorem dX0_init_21 : decode cX0_init 21 = .ok (.dup, 1) := by decide +kernel
theorem dX0_init_22 : decode cX0_init 22 = .ok (.bipush 16, 2) := by decide +kernel
theorem dX0_init_24 : decode cX0_init 24 = .ok (.invokespecial 11, 3) := by decide +kernel
theorem dX0_init_27 : decode cX0_init 27 = .ok (.putfield 20, 3) := by decide +kernel
theorem dX0_init_30 : decode cX0_init 30 = .ok (.aload_n 0, 1) := by decide +kernel
theorem dX0_init_31 : decode cX0_init 31 = .ok (.new 23, 3) := by decide +kernel
theorem dX0_init_34 : decode cX0_init 34 = .ok (.dup, 1) := by decide +kernel
theorem dX0_init_35 : decode cX0_init 35 = .ok (.bipush 16, 2) := by decide +kernel
theorem dX0_init_37 : decode cX0_init 37 = .ok (.invokespecial 25, 3) := by decide +kernel
theorem dX0_init_40 : decode cX0_init 40 = .ok (.putfield 26, 3) := by decide +kernel
theorem dX0_init_43 : decode cX0_init 43 = .ok (.return_, 1) := by decide +kernel
theorem dX0_hasCell_0 : decode cX0_hasCell 0 = .ok (.iload_n 1, 1) := by decide +kernel
theorem dX0_hasCell_1 : decode cX0_hasCell 1 = .ok (.ifCond .lt 13, 3) := by decide +kernel
theorem dX0_hasCell_4 : decode cX0_hasCell 4 = .ok (.iload_n 1, 1) := by decide +kernel
theorem dX0_hasCell_5 : decode cX0_hasCell 5 = .ok (.bipush 24, 2) := by decide +kernel
theorem dX0_hasCell_7 : decode cX0_hasCell 7 = .ok (.if_icmp .ge 7, 3) := by decide +kernel
theorem dX0_hasCell_10 : decode cX0_hasCell 10 = .ok (.iconst 1, 1) := by decide +kernel
theorem dX0_hasCell_11 : decode cX0_hasCell 11 = .ok (.goto 4, 3) := by decide +kernel
theorem dX0_hasCell_14 : decode cX0_hasCell 14 = .ok (.iconst 0, 1) := by decide +kernel
theorem dX0_hasCell_15 : decode cX0_hasCell 15 = .ok (.ireturn, 1) := by decide +kernel
set_option maxRecDepth 20000 in
theorem ggX0_cell_X5_get : GoodIn wsX0_cell wsX5_get := goodIn_r _ [7, 8, 12] (by decide +kernel) (by decide +kernel)
set_option maxRecDepth 20000 in
theorem gX0_cell_X5_get : GoodIn wsX0_cell (wsV RX0 30 RX5 yX5_get wsX5_get) := goodIn_app (goodIn_of _ (by decide +kernel)) ggX0_cell_X5_get
theorem dX0_cell_0 : decode cX0_cell 0 = .ok (.iload_n 1, 1) := by decide +kernel
theorem dX0_cell_1 : decode cX0_cell 1 = .ok (.bipush 8, 2) := by decide +kernel
theorem dX0_cell_3 : decode cX0_cell 3 = .ok (.if_icmp .ge 14, 3) := by decide +kernel
theorem dX0_cell_6 : decode cX0_cell 6 = .ok (.aload_n 0, 1) := by decide +kernel
theorem dX0_cell_7 : decode cX0_cell 7 = .ok (.getfield 14, 3) := by decide +kernel
theorem dX0_cell_10 : decode cX0_cell 10 = .ok (.iload_n 1, 1) := by decide +kernel
theorem dX0_cell_11 : decode cX0_cell 11 = .ok (.invokevirtual 30, 3) := by decide +kernel
theorem dX0_cell_14 : decode cX0_cell 14 = .ok (.goto 14, 3) := by decide +kernel
theorem dX0_cell_17 : decode cX0_cell 17 = .ok (.aload_n 0, 1) := by decide +kernel
theorem dX0_cell_18 : decode cX0_cell 18 = .ok (.getfield 20, 3) := by decide +kernel
theorem dX0_cell_21 : decode cX0_cell 21 = .ok (.iload_n 1, 1) := by decide +kernel
theorem dX0_cell_22 : decode cX0_cell 22 = .ok (.bipush 8, 2) := by decide +kernel
theorem dX0_cell_24 : decode cX0_cell 24 = .ok (.isub, 1) := by decide +kernel
theorem dX0_cell_25 : decode cX0_cell 25 = .ok (.invokevirtual 30, 3) := by decide +kernel
theorem dX0_cell_28 : decode cX0_cell 28 = .ok (.ireturn, 1) := by decide +kernel
set_option maxRecDepth 20000 in
theorem ggX0_setCell_X5_set : GoodIn wsX0_setCell wsX5_set := goodIn_r _ [7, 8, 12] (by decide +kernel) (by decide +kernel)
set_option maxRecDepth 20000 in
theorem gX0_setCell_X5_set : GoodIn wsX0_setCell (wsV RX0 34 RX5 yX5_set wsX5_set) := goodIn_app (goodIn_of _ (by decide +kernel)) ggX0_setCell_X5_set
theorem dX0_setCell_0 : decode cX0_setCell 0 = .ok (.iload_n 1, 1) := by decide +kernel
theorem dX0_setCell_1 : decode cX0_setCell 1 = .ok (.bipush 8, 2) := by decide +kernel
theorem dX0_setCell_3 : decode cX0_setCell 3 = .ok (.if_icmp .ge 15, 3) := by decide +kernel
theorem dX0_setCell_6 : decode cX0_setCell 6 = .ok (.aload_n 0, 1) := by decide +kernel
theorem dX0_setCell_7 : decode cX0_setCell 7 = .ok (.getfield 14, 3) := by decide +kernel
theorem dX0_setCell_10 : decode cX0_setCell 10 = .ok (.iload_n 1, 1) := by decide +kernel
theorem dX0_setCell_11 : decode cX0_setCell 11 = .ok (.iload_n 2, 1) := by decide +kernel
theorem dX0_setCell_12 : decode cX0_setCell 12 = .ok (.invokevirtual 34, 3) := by decide +kernel
theorem dX0_setCell_15 : decode cX0_setCell 15 = .ok (.goto 15, 3) := by decide +kernel
theorem dX0_setCell_18 : decode cX0_setCell 18 = .ok (.aload_n 0, 1) := by decide +kernel
theorem dX0_setCell_19 : decode cX0_setCell 19 = .ok (.getfield 20, 3) := by decide +kernel
theorem dX0_setCell_22 : decode cX0_setCell 22 = .ok (.iload_n 1, 1) := by decide +kernel
theorem dX0_setCell_23 : decode cX0_setCell 23 = .ok (.bipush 8, 2) := by decide +kernel
theorem dX0_setCell_25 : decode cX0_setCell 25 = .ok (.isub, 1) := by decide +kernel
theorem dX0_setCell_26 : decode cX0_setCell 26 = .ok (.iload_n 2, 1) := by decide +kernel
theorem dX0_setCell_27 : decode cX0_setCell 27 = .ok (.invokevirtual 34, 3) := by decide +kernel
theorem dX0_setCell_30 : decode cX0_setCell 30 = .ok (.ireturn, 1) := by decide +kernel
set_option maxRecDepth 20000 in
theorem ggX0_stackSize_X2_size : GoodIn wsX0_stackSize wsX2_size := goodIn_r _ [6, 7, 11, 12] (by decide +kernel) (by decide +kernel)
set_option maxRecDepth 20000 in
theorem gX0_stackSize_X2_size : GoodIn wsX0_stackSize (wsV RX0 38 RX2 yX2_size wsX2_size) := goodIn_app (goodIn_of _ (by decide +kernel)) ggX0_stackSize_X2_size
theorem dX0_stackSize_0 : decode cX0_stackSize 0 = .ok (.aload_n 0, 1) := by decide +kernel
theorem dX0_stackSize_1 : decode cX0_stackSize 1 = .ok (.getfield 26, 3) := by decide +kernel
theorem dX0_stackSize_4 : decode cX0_stackSize 4 = .ok (.invokevirtual 38, 3) := by decide +kernel
theorem dX0_stackSize_7 : decode cX0_stackSize 7 = .ok (.ireturn, 1) := by decide +kernel
set_option maxRecDepth 20000 in
theorem ggX0_stackAddress_X2_get : GoodIn wsX0_stackAddress wsX2_get := goodIn_r _ [6, 7, 8, 9, 10, 5, 11, 12, 16, 17] (by decide +kernel) (by decide +kernel)
set_option maxRecDepth 20000 in
theorem gX0_stackAddress_X2_get : GoodIn wsX0_stackAddress (wsV RX0 42 RX2 yX2_get wsX2_get) := goodIn_app (goodIn_of _ (by decide +kernel)) ggX0_stackAddress_X2_get
theorem dX0_stackAddress_0 : decode cX0_stackAddress 0 = .ok (.aload_n 0, 1) := by decide +kernel
theorem dX0_stackAddress_1 : decode cX0_stackAddress 1 = .ok (.getfield 26, 3) := by decide +kernel
theorem dX0_stackAddress_4 : decode cX0_stackAddress 4 = .ok (.iload_n 1, 1) := by decide +kernel
theorem dX0_stackAddress_5 : decode cX0_stackAddress 5 = .ok (.invokevirtual 42, 3) := by decide +kernel
theorem dX0_stackAddress_8 : decode cX0_stackAddress 8 = .ok (.ireturn, 1) := by decide +kernel
set_option maxRecDepth 20000 in
theorem ggX0_emptyStack_X2_clear : GoodIn wsX0_emptyStack wsX2_clear := goodIn_r _ [6, 7, 11, 12] (by decide +kernel) (by decide +kernel)
set_option maxRecDepth 20000 in
theorem gX0_emptyStack_X2_clear : GoodIn wsX0_emptyStack (wsV RX0 43 RX2 yX2_clear wsX2_clear) := goodIn_app (goodIn_of _ (by decide +kernel)) ggX0_emptyStack_X2_clear
theorem dX0_emptyStack_0 : decode cX0_emptyStack 0 = .ok (.aload_n 0, 1) := by decide +kernel
theorem dX0_emptyStack_1 : decode cX0_emptyStack 1 = .ok (.getfield 26, 3) := by decide +kernel
theorem dX0_emptyStack_4 : decode cX0_emptyStack 4 = .ok (.invokevirtual 43, 3) := by decide +kernel
theorem dX0_emptyStack_7 : decode cX0_emptyStack 7 = .ok (.return_, 1) := by decide +kernel
set_option maxRecDepth 20000 in
theorem ggX0_turns_X3_part : GoodIn wsX0_turns wsX3_part := goodIn_r _ [6, 7, 8, 9, 10, 11, 12, 13, 24, 25, 26] (by decide +kernel) (by decide +kernel)
set_option maxRecDepth 20000 in
theorem gX0_turns_X3_part : GoodIn wsX0_turns (wsV RX0 46 RX3 yX3_part wsX3_part) := goodIn_app (goodIn_of _ (by decide +kernel)) ggX0_turns_X3_part
set_option maxRecDepth 20000 in
theorem ggX0_turns_X5_get : GoodIn wsX0_turns wsX5_get := goodIn_r _ [12, 13, 26] (by decide +kernel) (by decide +kernel)
set_option maxRecDepth 20000 in
theorem gX0_turns_X5_get : GoodIn wsX0_turns (wsV RX0 30 RX5 yX5_get wsX5_get) := goodIn_app (goodIn_of _ (by decide +kernel)) ggX0_turns_X5_get
set_option maxRecDepth 20000 in
theorem ggX0_turns_X6_isTurn : GoodIn wsX0_turns wsX6_isTurn := goodIn_r _ [17, 18, 19, 16, 20] (by decide +kernel) (by decide +kernel)
set_option maxRecDepth 20000 in
theorem gX0_turns_X6_isTurn_n51 : GoodIn wsX0_turns (wsX6_isTurn) := ggX0_turns_X6_isTurn
theorem dX0_turns_0 : decode cX0_turns 0 = .ok (.aload_n 1, 1) := by decide +kernel
theorem dX0_turns_1 : decode cX0_turns 1 = .ok (.iload_n 2, 1) := by decide +kernel
theorem dX0_turns_2 : decode cX0_turns 2 = .ok (.iconst 0, 1) := by decide +kernel
theorem dX0_turns_3 : decode cX0_turns 3 = .ok (.invokevirtual 46, 3) := by decide +kernel
theorem dX0_turns_6 : decode cX0_turns 6 = .ok (.istore_n 3, 1) := by decide +kernel
theorem dX0_turns_7 : decode cX0_turns 7 = .ok (.aload_n 0, 1) := by decide +kernel
theorem dX0_turns_8 : decode cX0_turns 8 = .ok (.getfield 14, 3) := by decide +kernel
theorem dX0_turns_11 : decode cX0_turns 11 = .ok (.aload_n 1, 1) := by decide +kernel
theorem dX0_turns_12 : decode cX0_turns 12 = .ok (.iload_n 2, 1) := by decide +kernel
theorem dX0_turns_13 : decode cX0_turns 13 = .ok (.iconst 1, 1) := by decide +kernel
theorem dX0_turns_14 : decode cX0_turns 14 = .ok (.invokevirtual 46, 3) := by decide +kernel
theorem dX0_turns_17 : decode cX0_turns 17 = .ok (.invokevirtual 30, 3) := by decide +kernel
theorem dX0_turns_20 : decode cX0_turns 20 = .ok (.istore 4, 2) := by decide +kernel
theorem dX0_turns_22 : decode cX0_turns 22 = .ok (.aload_n 0, 1) := by decide +kernel
theorem dX0_turns_23 : decode cX0_turns 23 = .ok (.getfield 14, 3) := by decide +kernel
theorem dX0_turns_26 : decode cX0_turns 26 = .ok (.aload_n 1, 1) := by decide +kernel
theorem dX0_turns_27 : decode cX0_turns 27 = .ok (.iload_n 2, 1) := by decide +kernel
theorem dX0_turns_28 : decode cX0_turns 28 = .ok (.iconst 2, 1) := by decide +kernel
theorem dX0_turns_29 : decode cX0_turns 29 = .ok (.invokevirtual 46, 3) := by decide +kernel
theorem dX0_turns_32 : decode cX0_turns 32 = .ok (.invokevirtual 30, 3) := by decide +kernel
theorem dX0_turns_35 : decode cX0_turns 35 = .ok (.istore 5, 2) := by decide +kernel
theorem dX0_turns_37 : decode cX0_turns 37 = .ok (.iload_n 3, 1) := by decide +kernel
theorem dX0_turns_38 : decode cX0_turns 38 = .ok (.lookupswitch 52 #[(5, 26), (6, 39)], 26) := by decide +kernel
theorem dX0_turns_64 : decode cX0_turns 64 = .ok (.iload 4, 2) := by decide +kernel
theorem dX0_turns_66 : decode cX0_turns 66 = .ok (.iload 5, 2) := by decide +kernel
theorem dX0_turns_68 : decode cX0_turns 68 = .ok (.if_icmp .ge 7, 3) := by decide +kernel
theorem dX0_turns_71 : decode cX0_turns 71 = .ok (.iconst 1, 1) := by decide +kernel
theorem dX0_turns_72 : decode cX0_turns 72 = .ok (.goto 4, 3) := by decide +kernel
theorem dX0_turns_75 : decode cX0_turns 75 = .ok (.iconst 0, 1) := by decide +kernel
theorem dX0_turns_76 : decode cX0_turns 76 = .ok (.ireturn, 1) := by decide +kernel
theorem dX0_turns_77 : decode cX0_turns 77 = .ok (.iload 4, 2) := by decide +kernel
theorem dX0_turns_79 : decode cX0_turns 79 = .ok (.iload 5, 2) := by decide +kernel
theorem dX0_turns_81 : decode cX0_turns 81 = .ok (.if_icmp .ne 7, 3) := by decide +kernel
theorem dX0_turns_84 : decode cX0_turns 84 = .ok (.iconst 1, 1) := by decide +kernel
theorem dX0_turns_85 : decode cX0_turns 85 = .ok (.goto 4, 3) := by decide +kernel
theorem dX0_turns_88 : decode cX0_turns 88 = .ok (.iconst 0, 1) := by decide +kernel
theorem dX0_turns_89 : decode cX0_turns 89 = .ok (.ireturn, 1) := by decide +kernel
theorem dX0_turns_90 : decode cX0_turns 90 = .ok (.iload_n 3, 1) := by decide +kernel
theorem dX0_turns_91 : decode cX0_turns 91 = .ok (.invokestatic 51, 3) := by decide +kernel
theorem dX0_turns_94 : decode cX0_turns 94 = .ok (.ireturn, 1) := by decide +kernel
set_option maxRecDepth 20000 in
theorem ggX0_perform_X3_part : GoodIn wsX0_perform wsX3_part := goodIn_r _ [9, 10, 11, 12, 13, 14, 15, 16, 53, 54, 55] (by decide +kernel) (by decide +kernel)
set_option maxRecDepth 20000 in
theorem gX0_perform_X3_part : GoodIn wsX0_perform (wsV RX0 46 RX3 yX3_part wsX3_part) := goodIn_app (goodIn_of _ (by decide +kernel)) ggX0_perform_X3_part
set_option maxRecDepth 20000 in
theorem ggX0_perform_X5_get : GoodIn wsX0_perform wsX5_get := goodIn_r _ [15, 16, 55] (by decide +kernel) (by decide +kernel)
set_option maxRecDepth 20000 in
theorem gX0_perform_X5_get : GoodIn wsX0_perform (wsV RX0 30 RX5 yX5_get wsX5_get) := goodIn_app (goodIn_of _ (by decide +kernel)) ggX0_perform_X5_get
set_option maxRecDepth 20000 in
theorem ggX0_perform_X5_set : GoodIn wsX0_perform wsX5_set := goodIn_r _ [21, 16, 55] (by decide +kernel) (by decide +kernel)
set_option maxRecDepth 20000 in
theorem gX0_perform_X5_set : GoodIn wsX0_perform (wsV RX0 34 RX5 yX5_set wsX5_set) := goodIn_app (goodIn_of _ (by decide +kernel)) ggX0_perform_X5_set
set_option maxRecDepth 20000 in
theorem ggX0_perform_X2_push : GoodIn wsX0_perform wsX2_push := goodIn_r _ [26, 27, 28, 56, 57] (by decide +kernel) (by decide +kernel)
set_option maxRecDepth 20000 in
theorem gX0_perform_X2_push : GoodIn wsX0_perform (wsV RX0 55 RX2 yX2_push wsX2_push) := goodIn_app (goodIn_of _ (by decide +kernel)) ggX0_perform_X2_push
set_option maxRecDepth 20000 in
theorem ggX0_perform_X2_pop : GoodIn wsX0_perform wsX2_pop := goodIn_r _ [32, 27, 33, 34, 35, 36, 37, 38, 39, 25, 40, 28, 41, 42, 43, 44, 56, 57] (by decide +kernel) (by decide +kernel)
set_option maxRecDepth 20000 in
theorem gX0_perform_X2_pop : GoodIn wsX0_perform (wsV RX0 58 RX2 yX2_pop wsX2_pop) := goodIn_app (goodIn_of _ (by decide +kernel)) ggX0_perform_X2_pop
set_option maxRecDepth 20000 in
theorem ggX0_perform_X3_size : GoodIn wsX0_perform wsX3_size := goodIn_r _ [48, 49, 53, 54] (by decide +kernel) (by decide +kernel)
set_option maxRecDepth 20000 in
theorem gX0_perform_X3_size : GoodIn wsX0_perform (wsV RX0 61 RX3 yX3_size wsX3_size) := goodIn_app (goodIn_of _ (by decide +kernel)) ggX0_perform_X3_size
theorem dX0_perform_0 : decode cX0_perform 0 = .ok (.aload_n 1, 1) := by decide +kernel
theorem dX0_perform_1 : decode cX0_perform 1 = .ok (.iload_n 2, 1) := by decide +kernel
theorem dX0_perform_2 : decode cX0_perform 2 = .ok (.iconst 1, 1) := by decide +kernel
theorem dX0_perform_3 : decode cX0_perform 3 = .ok (.invokevirtual 46, 3) := by decide +kernel
theorem dX0_perform_6 : decode cX0_perform 6 = .ok (.istore_n 3, 1) := by decide +kernel
theorem dX0_perform_7 : decode cX0_perform 7 = .ok (.aload_n 1, 1) := by decide +kernel
theorem dX0_perform_8 : decode cX0_perform 8 = .ok (.iload_n 2, 1) := by decide +kernel
theorem dX0_perform_9 : decode cX0_perform 9 = .ok (.iconst 3, 1) := by decide +kernel
theorem dX0_perform_10 : decode cX0_perform 10 = .ok (.invokevirtual 46, 3) := by decide +kernel
theorem dX0_perform_13 : decode cX0_perform 13 = .ok (.istore 4, 2) := by decide +kernel
theorem dX0_perform_15 : decode cX0_perform 15 = .ok (.aload_n 0, 1) := by decide +kernel
theorem dX0_perform_16 : decode cX0_perform 16 = .ok (.getfield 14, 3) := by decide +kernel
theorem dX0_perform_19 : decode cX0_perform 19 = .ok (.iload_n 3, 1) := by decide +kernel
theorem dX0_perform_20 : decode cX0_perform 20 = .ok (.invokevirtual 30, 3) := by decide +kernel
theorem dX0_perform_23 : decode cX0_perform 23 = .ok (.istore 5, 2) := by decide +kernel
theorem dX0_perform_25 : decode cX0_perform 25 = .ok (.aload_n 0, 1) := by decide +kernel
theorem dX0_perform_26 : decode cX0_perform 26 = .ok (.getfield 14, 3) := by decide +kernel
theorem dX0_perform_29 : decode cX0_perform 29 = .ok (.aload_n 1, 1) := by decide +kernel
theorem dX0_perform_30 : decode cX0_perform 30 = .ok (.iload_n 2, 1) := by decide +kernel
theorem dX0_perform_31 : decode cX0_perform 31 = .ok (.iconst 2, 1) := by decide +kernel
theorem dX0_perform_32 : decode cX0_perform 32 = .ok (.invokevirtual 46, 3) := by decide +kernel
theorem dX0_perform_35 : decode cX0_perform 35 = .ok (.invokevirtual 30, 3) := by decide +kernel
theorem dX0_perform_38 : decode cX0_perform 38 = .ok (.istore 6, 2) := by decide +kernel
theorem dX0_perform_40 : decode cX0_perform 40 = .ok (.aload_n 1, 1) := by decide +kernel
theorem dX0_perform_41 : decode cX0_perform 41 = .ok (.iload_n 2, 1) := by decide +kernel
theorem dX0_perform_42 : decode cX0_perform 42 = .ok (.iconst 0, 1) := by decide +kernel
theorem dX0_perform_43 : decode cX0_perform 43 = .ok (.invokevirtual 46, 3) := by decide +kernel
theorem dX0_perform_46 : decode cX0_perform 46 = .ok (.tableswitch 233 0 10 #[58, 72, 89, 106, 130, 148, 164, 180, 183, 203, 211], 58) := by decide +kernel
theorem dX0_perform_104 : decode cX0_perform 104 = .ok (.aload_n 0, 1) := by decide +kernel
theorem dX0_perform_105 : decode cX0_perform 105 = .ok (.getfield 14, 3) := by decide +kernel
theorem dX0_perform_108 : decode cX0_perform 108 = .ok (.iload_n 3, 1) := by decide +kernel
theorem dX0_perform_109 : decode cX0_perform 109 = .ok (.iload 4, 2) := by decide +kernel
theorem dX0_perform_111 : decode cX0_perform 111 = .ok (.invokevirtual 34, 3) := by decide +kernel
theorem dX0_perform_114 : decode cX0_perform 114 = .ok (.pop, 1) := by decide +kernel
theorem dX0_perform_115 : decode cX0_perform 115 = .ok (.goto 164, 3) := by decide +kernel
theorem dX0_perform_118 : decode cX0_perform 118 = .ok (.aload_n 0, 1) := by decide +kernel
theorem dX0_perform_119 : decode cX0_perform 119 = .ok (.getfield 14, 3) := by decide +kernel
theorem dX0_perform_122 : decode cX0_perform 122 = .ok (.iload_n 3, 1) := by decide +kernel
theorem dX0_perform_123 : decode cX0_perform 123 = .ok (.iload 5, 2) := by decide +kernel
theorem dX0_perform_125 : decode cX0_perform 125 = .ok (.iload 6, 2) := by decide +kernel
theorem dX0_perform_127 : decode cX0_perform 127 = .ok (.iadd, 1) := by decide +kernel
theorem dX0_perform_128 : decode cX0_perform 128 = .ok (.invokevirtual 34, 3) := by decide +kernel
theorem dX0_perform_131 : decode cX0_perform 131 = .ok (.pop, 1) := by decide +kernel
theorem dX0_perform_132 : decode cX0_perform 132 = .ok (.goto 147, 3) := by decide +kernel
theorem dX0_perform_135 : decode cX0_perform 135 = .ok (.aload_n 0, 1) := by decide +kernel
theorem dX0_perform_136 : decode cX0_perform 136 = .ok (.getfield 14, 3) := by decide +kernel
theorem dX0_perform_139 : decode cX0_perform 139 = .ok (.iload_n 3, 1) := by decide +kernel
theorem dX0_perform_140 : decode cX0_perform 140 = .ok (.iload 5, 2) := by decide +kernel
theorem dX0_perform_142 : decode cX0_perform 142 = .ok (.iload 6, 2) := by decide +kernel
theorem dX0_perform_144 : decode cX0_perform 144 = .ok (.isub, 1) := by decide +kernel
theorem dX0_perform_145 : decode cX0_perform 145 = .ok (.invokevirtual 34, 3) := by decide +kernel
theorem dX0_perform_148 : decode cX0_perform 148 = .ok (.pop, 1) := by decide +kernel
theorem dX0_perform_149 : decode cX0_perform 149 = .ok (.goto 130, 3) := by decide +kernel
theorem dX0_perform_152 : decode cX0_perform 152 = .ok (.aload_n 0, 1) := by decide +kernel
theorem dX0_perform_153 : decode cX0_perform 153 = .ok (.getfield 14, 3) := by decide +kernel
theorem dX0_perform_156 : decode cX0_perform 156 = .ok (.iload_n 3, 1) := by decide +kernel
theorem dX0_perform_157 : decode cX0_perform 157 = .ok (.aload_n 0, 1) := by decide +kernel
theorem dX0_perform_158 : decode cX0_perform 158 = .ok (.getfield 20, 3) := by decide +kernel
theorem dX0_perform_161 : decode cX0_perform 161 = .ok (.iload 6, 2) := by decide +kernel
theorem dX0_perform_163 : decode cX0_perform 163 = .ok (.bipush 15, 2) := by decide +kernel
theorem dX0_perform_165 : decode cX0_perform 165 = .ok (.iand, 1) := by decide +kernel
theorem dX0_perform_166 : decode cX0_perform 166 = .ok (.invokevirtual 30, 3) := by decide +kernel
theorem dX0_perform_169 : decode cX0_perform 169 = .ok (.invokevirtual 34, 3) := by decide +kernel
theorem dX0_perform_172 : decode cX0_perform 172 = .ok (.pop, 1) := by decide +kernel
theorem dX0_perform_173 : decode cX0_perform 173 = .ok (.goto 106, 3) := by decide +kernel
theorem dX0_perform_176 : decode cX0_perform 176 = .ok (.aload_n 0, 1) := by decide +kernel
theorem dX0_perform_177 : decode cX0_perform 177 = .ok (.getfield 20, 3) := by decide +kernel
theorem dX0_perform_180 : decode cX0_perform 180 = .ok (.iload 6, 2) := by decide +kernel
theorem dX0_perform_182 : decode cX0_perform 182 = .ok (.bipush 15, 2) := by decide +kernel
theorem dX0_perform_184 : decode cX0_perform 184 = .ok (.iand, 1) := by decide +kernel
theorem dX0_perform_185 : decode cX0_perform 185 = .ok (.iload 5, 2) := by decide +kernel
theorem dX0_perform_187 : decode cX0_perform 187 = .ok (.invokevirtual 34, 3) := by decide +kernel
theorem dX0_perform_190 : decode cX0_perform 190 = .ok (.pop, 1) := by decide +kernel
theorem dX0_perform_191 : decode cX0_perform 191 = .ok (.goto 88, 3) := by decide +kernel
theorem dX0_perform_194 : decode cX0_perform 194 = .ok (.iload 5, 2) := by decide +kernel
theorem dX0_perform_196 : decode cX0_perform 196 = .ok (.iload 6, 2) := by decide +kernel
theorem dX0_perform_198 : decode cX0_perform 198 = .ok (.if_icmp .ge 8, 3) := by decide +kernel
theorem dX0_perform_201 : decode cX0_perform 201 = .ok (.iload 4, 2) := by decide +kernel
theorem dX0_perform_203 : decode cX0_perform 203 = .ok (.goto 6, 3) := by decide +kernel
theorem dX0_perform_206 : decode cX0_perform 206 = .ok (.iload_n 2, 1) := by decide +kernel
theorem dX0_perform_207 : decode cX0_perform 207 = .ok (.iconst 1, 1) := by decide +kernel
theorem dX0_perform_208 : decode cX0_perform 208 = .ok (.iadd, 1) := by decide +kernel
theorem dX0_perform_209 : decode cX0_perform 209 = .ok (.ireturn, 1) := by decide +kernel
theorem dX0_perform_210 : decode cX0_perform 210 = .ok (.iload 5, 2) := by decide +kernel
theorem dX0_perform_212 : decode cX0_perform 212 = .ok (.iload 6, 2) := by decide +kernel
theorem dX0_perform_214 : decode cX0_perform 214 = .ok (.if_icmp .ne 8, 3) := by decide +kernel
theorem dX0_perform_217 : decode cX0_perform 217 = .ok (.iload 4, 2) := by decide +kernel
theorem dX0_perform_219 : decode cX0_perform 219 = .ok (.goto 6, 3) := by decide +kernel
theorem dX0_perform_222 : decode cX0_perform 222 = .ok (.iload_n 2, 1) := by decide +kernel
theorem dX0_perform_223 : decode cX0_perform 223 = .ok (.iconst 1, 1) := by decide +kernel
theorem dX0_perform_224 : decode cX0_perform 224 = .ok (.iadd, 1) := by decide +kernel
theorem dX0_perform_225 : decode cX0_perform 225 = .ok (.ireturn, 1) := by decide +kernel
theorem dX0_perform_226 : decode cX0_perform 226 = .ok (.iload 4, 2) := by decide +kernel
theorem dX0_perform_228 : decode cX0_perform 228 = .ok (.ireturn, 1) := by decide +kernel
theorem dX0_perform_229 : decode cX0_perform 229 = .ok (.aload_n 0, 1) := by decide +kernel
theorem dX0_perform_230 : decode cX0_perform 230 = .ok (.getfield 26, 3) := by decide +kernel
theorem dX0_perform_233 : decode cX0_perform 233 = .ok (.iload_n 2, 1) := by decide +kernel
theorem dX0_perform_234 : decode cX0_perform 234 = .ok (.iconst 1, 1) := by decide +kernel
theorem dX0_perform_235 : decode cX0_perform 235 = .ok (.iadd, 1) := by decide +kernel
theorem dX0_perform_236 : decode cX0_perform 236 = .ok (.invokevirtual 55, 3) := by decide +kernel
theorem dX0_perform_239 : decode cX0_perform 239 = .ok (.ifCond .eq 8, 3) := by decide +kernel
theorem dX0_perform_242 : decode cX0_perform 242 = .ok (.iload 4, 2) := by decide +kernel
theorem dX0_perform_244 : decode cX0_perform 244 = .ok (.goto 4, 3) := by decide +kernel
theorem dX0_perform_247 : decode cX0_perform 247 = .ok (.iconst (-1), 1) := by decide +kernel
theorem dX0_perform_248 : decode cX0_perform 248 = .ok (.ireturn, 1) := by decide +kernel
theorem dX0_perform_249 : decode cX0_perform 249 = .ok (.aload_n 0, 1) := by decide +kernel
theorem dX0_perform_250 : decode cX0_perform 250 = .ok (.getfield 26, 3) := by decide +kernel
theorem dX0_perform_253 : decode cX0_perform 253 = .ok (.invokevirtual 58, 3) := by decide +kernel
theorem dX0_perform_256 : decode cX0_perform 256 = .ok (.ireturn, 1) := by decide +kernel
theorem dX0_perform_257 : decode cX0_perform 257 = .ok (.aload_n 1, 1) := by decide +kernel
theorem dX0_perform_258 : decode cX0_perform 258 = .ok (.invokevirtual 61, 3) := by decide +kernel
theorem dX0_perform_261 : decode cX0_perform 261 = .ok (.ifCond .le 16, 3) := by decide +kernel
theorem dX0_perform_264 : decode cX0_perform 264 = .ok (.iload 5, 2) := by decide +kernel
theorem dX0_perform_266 : decode cX0_perform 266 = .ok (.ldc 62, 2) := by decide +kernel
theorem dX0_perform_268 : decode cX0_perform 268 = .ok (.iand, 1) := by decide +kernel
theorem dX0_perform_269 : decode cX0_perform 269 = .ok (.aload_n 1, 1) := by decide +kernel
theorem dX0_perform_270 : decode cX0_perform 270 = .ok (.invokevirtual 61, 3) := by decide +kernel
theorem dX0_perform_273 : decode cX0_perform 273 = .ok (.irem, 1) := by decide +kernel
theorem dX0_perform_274 : decode cX0_perform 274 = .ok (.goto 4, 3) := by decide +kernel
theorem dX0_perform_277 : decode cX0_perform 277 = .ok (.iconst (-1), 1) := by decide +kernel
theorem dX0_perform_278 : decode cX0_perform 278 = .ok (.ireturn, 1) := by decide +kernel
theorem dX0_perform_279 : decode cX0_perform 279 = .ok (.iload_n 2, 1) := by decide +kernel
theorem dX0_perform_280 : decode cX0_perform 280 = .ok (.iconst 1, 1) := by decide +kernel
theorem dX0_perform_281 : decode cX0_perform 281 = .ok (.iadd, 1) := by decide +kernel
theorem dX0_perform_282 : decode cX0_perform 282 = .ok (.ireturn, 1) := by decide +kernel
set_option maxRecDepth 20000 in
theorem ggX1_init_X5_init : GoodIn wsX1_init wsX5_init := goodIn_r _ [20, 21, 2, 3, 22, 23, 24, 25, 26, 27, 44] (by decide +kernel) (by decide +kernel)
set_option maxRecDepth 20000 in
theorem gX1_init_X5_init : GoodIn wsX1_init (wsX5_init) := ggX1_init_X5_init
set_option maxRecDepth 20000 in
theorem ggX1_init_X2_init : GoodIn wsX1_init wsX2_init := goodIn_r _ [30, 31, 2, 3, 32, 33, 23, 24, 25, 26, 34, 53, 54] (by decide +kernel) (by decide +kernel)
set_option maxRecDepth 20000 in
theorem gX1_init_X2_init : GoodIn wsX1_init (wsX2_init) := ggX1_init_X2_init
set_option maxRecDepth 20000 in
theorem ggX1_init_X1_forgetTables : GoodIn wsX1_init wsX1_forgetTables := goodIn_r _ [39, 7, 8, 9, 10, 11, 12, 17, 40, 41, 42, 6, 43, 27, 45, 46, 47, 48, 49, 50, 51, 52, 44] (by decide +kernel) (by decide +kernel)
set_option maxRecDepth 20000 in
theorem gX1_init_X1_forgetTables : GoodIn wsX1_init (wsV RX1 46 RX1 yX1_forgetTables wsX1_forgetTables) := goodIn_app (goodIn_of _ (by decide +kernel)) ggX1_init_X1_forgetTables
theorem dX1_init_0 : decode cX1_init 0 = .ok (.aload_n 0, 1) := by decide +kernel
theorem dX1_init_1 : decode cX1_init 1 = .ok (.invokespecial 3, 3) := by decide +kernel
theorem dX1_init_4 : decode cX1_init 4 = .ok (.aload_n 0, 1) := by decide +kernel
theorem dX1_init_5 : decode cX1_init 5 = .ok (.new 9, 3) := by decide +kernel
theorem dX1_init_8 : decode cX1_init 8 = .ok (.dup, 1) := by decide +kernel
theorem dX1_init_9 : decode cX1_init 9 = .ok (.bipush 16, 2) := by decide +kernel
theorem dX1_init_11 : decode cX1_init 11 = .ok (.invokespecial 11, 3) := by decide +kernel
theorem dX1_init_14 : decode cX1_init 14 = .ok (.putfield 14, 3) := by decide +kernel
theorem dX1_init_17 : decode cX1_init 17 = .ok (.aload_n 0, 1) := by decide +kernel
theorem dX1_init_18 : decode cX1_init 18 = .ok (.new 9, 3) := by decide +kernel
theorem dX1_init_21 : decode cX1_init 21 = .ok (.dup, 1) := by decide +kernel
theorem dX1_init_22 : decode cX1_init 22 = .ok (.bipush 16, 2) := by decide +kernel
theorem dX1_init_24 : decode cX1_init 24 = .ok (.invokespecial 11, 3) := by decide +kernel
theorem dX1_init_27 : decode cX1_init 27 = .ok (.putfield 20, 3) := by decide +kernel
theorem dX1_init_30 : decode cX1_init 30 = .ok (.aload_n 0, 1) := by decide +kernel
theorem dX1_init_31 : decode cX1_init 31 = .ok (.new 9, 3) := by decide +kernel
theorem dX1_init_34 : decode cX1_init 34 = .ok (.dup, 1) := by decide +kernel
theorem dX1_init_35 : decode cX1_init 35 = .ok (.bipush 16, 2) := by decide +kernel
theorem dX1_init_37 : decode cX1_init 37 = .ok (.invokespecial 11, 3) := by decide +kernel
theorem dX1_init_40 : decode cX1_init 40 = .ok (.putfield 23, 3) := by decide +kernel
theorem dX1_init_43 : decode cX1_init 43 = .ok (.aload_n 0, 1) := by decide +kernel
theorem dX1_init_44 : decode cX1_init 44 = .ok (.new 9, 3) := by decide +kernel
theorem dX1_init_47 : decode cX1_init 47 = .ok (.dup, 1) := by decide +kernel
theorem dX1_init_48 : decode cX1_init 48 = .ok (.bipush 8, 2) := by decide +kernel
theorem dX1_init_50 : decode cX1_init 50 = .ok (.invokespecial 11, 3) := by decide +kernel
theorem dX1_init_53 : decode cX1_init 53 = .ok (.putfield 26, 3) := by decide +kernel
theorem dX1_init_56 : decode cX1_init 56 = .ok (.aload_n 0, 1) := by decide +kernel
theorem dX1_init_57 : decode cX1_init 57 = .ok (.new 9, 3) := by decide +kernel
theorem dX1_init_60 : decode cX1_init 60 = .ok (.dup, 1) := by decide +kernel
theorem dX1_init_61 : decode cX1_init 61 = .ok (.bipush 8, 2) := by decide +kernel
theorem dX1_init_63 : decode cX1_init 63 = .ok (.invokespecial 11, 3) := by decide +kernel
theorem dX1_init_66 : decode cX1_init 66 = .ok (.putfield 29, 3) := by decide +kernel
theorem dX1_init_69 : decode cX1_init 69 = .ok (.aload_n 0, 1) := by decide +kernel
theorem dX1_init_70 : decode cX1_init 70 = .ok (.new 9, 3) := by decide +kernel
theorem dX1_init_73 : decode cX1_init 73 = .ok (.dup, 1) := by decide +kernel
theorem dX1_init_74 : decode cX1_init 74 = .ok (.bipush 8, 2) := by decide +kernel
theorem dX1_init_76 : decode cX1_init 76 = .ok (.invokespecial 11, 3) := by decide +kernel
theorem dX1_init_79 : decode cX1_init 79 = .ok (.putfield 32, 3) := by decide +kernel
theorem dX1_init_82 : decode cX1_init 82 = .ok (.aload_n 0, 1) := by decide +kernel
theorem dX1_init_83 : decode cX1_init 83 = .ok (.new 35, 3) := by decide +kernel
theorem dX1_init_86 : decode cX1_init 86 = .ok (.dup, 1) := by decide +kernel
theorem dX1_init_87 : decode cX1_init 87 = .ok (.iconst 4, 1) := by decide +kernel
theorem dX1_init_88 : decode cX1_init 88 = .ok (.invokespecial 37, 3) := by decide +kernel
theorem dX1_init_91 : decode cX1_init 91 = .ok (.putfield 38, 3) := by decide +kernel
theorem dX1_init_94 : decode cX1_init 94 = .ok (.aload_n 0, 1) := by decide +kernel
theorem dX1_init_95 : decode cX1_init 95 = .ok (.iconst 0, 1) := by decide +kernel
theorem dX1_init_96 : decode cX1_init 96 = .ok (.putfield 42, 3) := by decide +kernel
theorem dX1_init_99 : decode cX1_init 99 = .ok (.aload_n 0, 1) := by decide +kernel
theorem dX1_init_100 : decode cX1_init 100 = .ok (.invokevirtual 46, 3) := by decide +kernel
theorem dX1_init_103 : decode cX1_init 103 = .ok (.return_, 1) := by decide +kernel
set_option maxRecDepth 20000 in
theorem ggX1_forgetTables_X5_fill : GoodIn wsX1_forgetTables wsX5_fill := goodIn_r _ [12, 13, 22] (by decide +kernel) (by decide +kernel)
set_option maxRecDepth 20000 in
theorem gX1_forgetTables_X5_fill : GoodIn wsX1_forgetTables (wsV RX1 49 RX5 yX5_fill wsX5_fill) := goodIn_app (goodIn_of _ (by decide +kernel)) ggX1_forgetTables_X5_fill
theorem dX1_forgetTables_0 : decode cX1_forgetTables 0 = .ok (.aload_n 0, 1) := by decide +kernel
theorem dX1_forgetTables_1 : decode cX1_forgetTables 1 = .ok (.getfield 14, 3) := by decide +kernel
theorem dX1_forgetTables_4 : decode cX1_forgetTables 4 = .ok (.iconst 1, 1) := by decide +kernel
theorem dX1_forgetTables_5 : decode cX1_forgetTables 5 = .ok (.invokevirtual 49, 3) := by decide +kernel
theorem dX1_forgetTables_8 : decode cX1_forgetTables 8 = .ok (.aload_n 0, 1) := by decide +kernel
theorem dX1_forgetTables_9 : decode cX1_forgetTables 9 = .ok (.getfield 20, 3) := by decide +kernel
theorem dX1_forgetTables_12 : decode cX1_forgetTables 12 = .ok (.iconst 1, 1) := by decide +kernel
theorem dX1_forgetTables_13 : decode cX1_forgetTables 13 = .ok (.invokevirtual 49, 3) := by decide +kernel
theorem dX1_forgetTables_16 : decode cX1_forgetTables 16 = .ok (.aload_n 0, 1) := by decide +kernel
theorem dX1_forgetTables_17 : decode cX1_forgetTables 17 = .ok (.getfield 23, 3) := by decide +kernel
theorem dX1_forgetTables_20 : decode cX1_forgetTables 20 = .ok (.iconst 1, 1) := by decide +kernel
theorem dX1_forgetTables_21 : decode cX1_forgetTables 21 = .ok (.invokevirtual 49, 3) := by decide +kernel
theorem dX1_forgetTables_24 : decode cX1_forgetTables 24 = .ok (.aload_n 0, 1) := by decide +kernel
theorem dX1_forgetTables_25 : decode cX1_forgetTables 25 = .ok (.getfield 26, 3) := by decide +kernel
theorem dX1_forgetTables_28 : decode cX1_forgetTables 28 = .ok (.iconst (-1), 1) := by decide +kernel
theorem dX1_forgetTables_29 : decode cX1_forgetTables 29 = .ok (.invokevirtual 49, 3) := by decide +kernel
theorem dX1_forgetTables_32 : decode cX1_forgetTables 32 = .ok (.aload_n 0, 1) := by decide +kernel
theorem dX1_forgetTables_33 : decode cX1_forgetTables 33 = .ok (.getfield 29, 3) := by decide +kernel
theorem dX1_forgetTables_36 : decode cX1_forgetTables 36 = .ok (.iconst 5, 1) := by decide +kernel
theorem dX1_forgetTables_37 : decode cX1_forgetTables 37 = .ok (.invokevirtual 49, 3) := by decide +kernel
theorem dX1_forgetTables_40 : decode cX1_forgetTables 40 = .ok (.aload_n 0, 1) := by decide +kernel
theorem dX1_forgetTables_41 : decode cX1_forgetTables 41 = .ok (.getfield 32, 3) := by decide +kernel
theorem dX1_forgetTables_44 : decode cX1_forgetTables 44 = .ok (.iconst 0, 1) := by decide +kernel
theorem dX1_forgetTables_45 : decode cX1_forgetTables 45 = .ok (.invokevirtual 49, 3) := by decide +kernel
theorem dX1_forgetTables_48 : decode cX1_forgetTables 48 = .ok (.aload_n 0, 1) := by decide +kernel
theorem dX1_forgetTables_49 : decode cX1_forgetTables 49 = .ok (.iconst 0, 1) := by decide +kernel
theorem dX1_forgetTables_50 : decode cX1_forgetTables 50 = .ok (.putfield 42, 3) := by decide +kernel
theorem dX1_forgetTables_53 : decode cX1_forgetTables 53 = .ok (.return_, 1) := by decide +kernel
theorem dX1_history_0 : decode cX1_history 0 = .ok (.aload_n 0, 1) := by decide +kernel
theorem dX1_history_1 : decode cX1_history 1 = .ok (.getfield 42, 3) := by decide +kernel
theorem dX1_history_4 : decode cX1_history 4 = .ok (.ireturn, 1) := by decide +kernel
theorem dX1_setHistory_0 : decode cX1_setHistory 0 = .ok (.aload_n 0, 1) := by decide +kernel
theorem dX1_setHistory_1 : decode cX1_setHistory 1 = .ok (.iload_n 1, 1) := by decide +kernel
theorem dX1_setHistory_2 : decode cX1_setHistory 2 = .ok (.putfield 42, 3) := by decide +kernel
theorem dX1_setHistory_5 : decode cX1_setHistory 5 = .ok (.return_, 1) := by decide +kernel
theorem dX1_returns_0 : decode cX1_returns 0 = .ok (.aload_n 0, 1) := by decide +kernel
theorem dX1_returns_1 : decode cX1_returns 1 = .ok (.getfield 38, 3) := by decide +kernel
theorem dX1_returns_4 : decode cX1_returns 4 = .ok (.areturn, 1) := by decide +kernel
set_option maxRecDepth 20000 in
theorem ggX1_cell_X2_get : GoodIn wsX1_cell wsX2_get := goodIn_r _ [7, 8, 9, 10, 11, 6, 12, 13, 43, 44] (by decide +kernel) (by decide +kernel)
set_option maxRecDepth 20000 in
theorem gX1_cell_X2_get : GoodIn wsX1_cell (wsV RX1 52 RX2 yX2_get wsX2_get) := goodIn_app (goodIn_of _ (by decide +kernel)) ggX1_cell_X2_get
set_option maxRecDepth 20000 in
theorem ggX1_cell_X2_size : GoodIn wsX1_cell wsX2_size := goodIn_r _ [17, 13, 43, 44] (by decide +kernel) (by decide +kernel)
set_option maxRecDepth 20000 in
theorem gX1_cell_X2_size : GoodIn wsX1_cell (wsV RX1 56 RX2 yX2_size wsX2_size) := goodIn_app (goodIn_of _ (by decide +kernel)) ggX1_cell_X2_size
set_option maxRecDepth 20000 in
theorem ggX1_cell_X1_row : GoodIn wsX1_cell wsX1_row := goodIn_r _ [22, 23, 24, 25, 26, 27, 28, 35, 36, 37, 38, 39, 40, 41, 42] (by decide +kernel) (by decide +kernel)
set_option maxRecDepth 20000 in
theorem gX1_cell_X1_row : GoodIn wsX1_cell (wsV RX1 60 RX1 yX1_row wsX1_row) := goodIn_app (goodIn_of _ (by decide +kernel)) ggX1_cell_X1_row
set_option maxRecDepth 20000 in
theorem ggX1_cell_X5_get : GoodIn wsX1_cell wsX5_get := goodIn_r _ [33, 34, 45] (by decide +kernel) (by decide +kernel)
set_option maxRecDepth 20000 in
theorem gX1_cell_X5_get : GoodIn wsX1_cell (wsV RX1 64 RX5 yX5_get wsX5_get) := goodIn_app (goodIn_of _ (by decide +kernel)) ggX1_cell_X5_get
theorem dX1_cell_0 : decode cX1_cell 0 = .ok (.iload_n 1, 1) := by decide +kernel
theorem dX1_cell_1 : decode cX1_cell 1 = .ok (.tableswitch 49 6 8 #[27, 32, 41], 27) := by decide +kernel
theorem dX1_cell_28 : decode cX1_cell 28 = .ok (.aload_n 0, 1) := by decide +kernel
theorem dX1_cell_29 : decode cX1_cell 29 = .ok (.getfield 42, 3) := by decide +kernel
theorem dX1_cell_32 : decode cX1_cell 32 = .ok (.ireturn, 1) := by decide +kernel
theorem dX1_cell_33 : decode cX1_cell 33 = .ok (.aload_n 0, 1) := by decide +kernel
theorem dX1_cell_34 : decode cX1_cell 34 = .ok (.getfield 38, 3) := by decide +kernel
theorem dX1_cell_37 : decode cX1_cell 37 = .ok (.iload_n 2, 1) := by decide +kernel
theorem dX1_cell_38 : decode cX1_cell 38 = .ok (.invokevirtual 52, 3) := by decide +kernel
theorem dX1_cell_41 : decode cX1_cell 41 = .ok (.ireturn, 1) := by decide +kernel
theorem dX1_cell_42 : decode cX1_cell 42 = .ok (.aload_n 0, 1) := by decide +kernel
theorem dX1_cell_43 : decode cX1_cell 43 = .ok (.getfield 38, 3) := by decide +kernel
theorem dX1_cell_46 : decode cX1_cell 46 = .ok (.invokevirtual 56, 3) := by decide +kernel
theorem dX1_cell_49 : decode cX1_cell 49 = .ok (.ireturn, 1) := by decide +kernel
theorem dX1_cell_50 : decode cX1_cell 50 = .ok (.aload_n 0, 1) := by decide +kernel
theorem dX1_cell_51 : decode cX1_cell 51 = .ok (.iload_n 1, 1) := by decide +kernel
theorem dX1_cell_52 : decode cX1_cell 52 = .ok (.invokevirtual 60, 3) := by decide +kernel
theorem dX1_cell_55 : decode cX1_cell 55 = .ok (.iload_n 2, 1) := by decide +kernel
theorem dX1_cell_56 : decode cX1_cell 56 = .ok (.invokevirtual 64, 3) := by decide +kernel
theorem dX1_cell_59 : decode cX1_cell 59 = .ok (.ireturn, 1) := by decide +kernel
set_option maxRecDepth 20000 in
theorem ggX1_setCell_X2_set : GoodIn wsX1_setCell wsX2_set := goodIn_r _ [7, 8, 9, 10, 11, 6, 12, 13, 39, 40] (by decide +kernel) (by decide +kernel)
set_option maxRecDepth 20000 in
theorem gX1_setCell_X2_set : GoodIn wsX1_setCell (wsV RX1 65 RX2 yX2_set wsX2_set) := goodIn_app (goodIn_of _ (by decide +kernel)) ggX1_setCell_X2_set
set_option maxRecDepth 20000 in
theorem ggX1_setCell_X1_row : GoodIn wsX1_setCell wsX1_row := goodIn_r _ [18, 19, 20, 21, 22, 23, 24, 31, 32, 33, 34, 35, 36, 37, 38] (by decide +kernel) (by decide +kernel)
set_option maxRecDepth 20000 in
theorem gX1_setCell_X1_row : GoodIn wsX1_setCell (wsV RX1 60 RX1 yX1_row wsX1_row) := goodIn_app (goodIn_of _ (by decide +kernel)) ggX1_setCell_X1_row
set_option maxRecDepth 20000 in
theorem ggX1_setCell_X5_set : GoodIn wsX1_setCell wsX5_set := goodIn_r _ [29, 30, 41] (by decide +kernel) (by decide +kernel)
set_option maxRecDepth 20000 in
theorem gX1_setCell_X5_set : GoodIn wsX1_setCell (wsV RX1 69 RX5 yX5_set wsX5_set) := goodIn_app (goodIn_of _ (by decide +kernel)) ggX1_setCell_X5_set
theorem dX1_setCell_0 : decode cX1_setCell 0 = .ok (.iload_n 1, 1) := by decide +kernel
theorem dX1_setCell_1 : decode cX1_setCell 1 = .ok (.bipush 7, 2) := by decide +kernel
theorem dX1_setCell_3 : decode cX1_setCell 3 = .ok (.if_icmp .ne 13, 3) := by decide +kernel
theorem dX1_setCell_6 : decode cX1_setCell 6 = .ok (.aload_n 0, 1) := by decide +kernel
theorem dX1_setCell_7 : decode cX1_setCell 7 = .ok (.getfield 38, 3) := by decide +kernel
theorem dX1_setCell_10 : decode cX1_setCell 10 = .ok (.iload_n 2, 1) := by decide +kernel
theorem dX1_setCell_11 : decode cX1_setCell 11 = .ok (.iload_n 3, 1) := by decide +kernel
theorem dX1_setCell_12 : decode cX1_setCell 12 = .ok (.invokevirtual 65, 3) := by decide +kernel
theorem dX1_setCell_15 : decode cX1_setCell 15 = .ok (.ireturn, 1) := by decide +kernel
theorem dX1_setCell_16 : decode cX1_setCell 16 = .ok (.iload_n 1, 1) := by decide +kernel
theorem dX1_setCell_17 : decode cX1_setCell 17 = .ok (.bipush 6, 2) := by decide +kernel
theorem dX1_setCell_19 : decode cX1_setCell 19 = .ok (.if_icmp .ne 17, 3) := by decide +kernel
theorem dX1_setCell_22 : decode cX1_setCell 22 = .ok (.aload_n 0, 1) := by decide +kernel
theorem dX1_setCell_23 : decode cX1_setCell 23 = .ok (.getfield 42, 3) := by decide +kernel
theorem dX1_setCell_26 : decode cX1_setCell 26 = .ok (.istore 4, 2) := by decide +kernel
theorem dX1_setCell_28 : decode cX1_setCell 28 = .ok (.aload_n 0, 1) := by decide +kernel
theorem dX1_setCell_29 : decode cX1_setCell 29 = .ok (.iload_n 3, 1) := by decide +kernel
theorem dX1_setCell_30 : decode cX1_setCell 30 = .ok (.putfield 42, 3) := by decide +kernel
theorem dX1_setCell_33 : decode cX1_setCell 33 = .ok (.iload 4, 2) := by decide +kernel
theorem dX1_setCell_35 : decode cX1_setCell 35 = .ok (.ireturn, 1) := by decide +kernel
theorem dX1_setCell_36 : decode cX1_setCell 36 = .ok (.aload_n 0, 1) := by decide +kernel
theorem dX1_setCell_37 : decode cX1_setCell 37 = .ok (.iload_n 1, 1) := by decide +kernel
theorem dX1_setCell_38 : decode cX1_setCell 38 = .ok (.invokevirtual 60, 3) := by decide +kernel
theorem dX1_setCell_41 : decode cX1_setCell 41 = .ok (.iload_n 2, 1) := by decide +kernel
theorem dX1_setCell_42 : decode cX1_setCell 42 = .ok (.iload_n 3, 1) := by decide +kernel
theorem dX1_setCell_43 : decode cX1_setCell 43 = .ok (.invokevirtual 69, 3) := by decide +kernel
theorem dX1_setCell_46 : decode cX1_setCell 46 = .ok (.ireturn, 1) := by decide +kernel
theorem dX1_row_0 : decode cX1_row 0 = .ok (.iload_n 1, 1) := by decide +kernel
theorem dX1_row_1 : decode cX1_row 1 = .ok (.tableswitch 60 0 4 #[35, 40, 45, 50, 55], 35) := by decide +kernel
theorem dX1_row_36 : decode cX1_row 36 = .ok (.aload_n 0, 1) := by decide +kernel
theorem dX1_row_37 : decode cX1_row 37 = .ok (.getfield 14, 3) := by decide +kernel
theorem dX1_row_40 : decode cX1_row 40 = .ok (.areturn, 1) := by decide +kernel
theorem dX1_row_41 : decode cX1_row 41 = .ok (.aload_n 0, 1) := by decide +kernel
theorem dX1_row_42 : decode cX1_row 42 = .ok (.getfield 20, 3) := by decide +kernel
theorem dX1_row_45 : decode cX1_row 45 = .ok (.areturn, 1) := by decide +kernel
theorem dX1_row_46 : decode cX1_row 46 = .ok (.aload_n 0, 1) := by decide +kernel
theorem dX1_row_47 : decode cX1_row 47 = .ok (.getfield 23, 3) := by decide +kernel
theorem dX1_row_50 : decode cX1_row 50 = .ok (.areturn, 1) := by decide +kernel
theorem dX1_row_51 : decode cX1_row 51 = .ok (.aload_n 0, 1) := by decide +kernel
theorem dX1_row_52 : decode cX1_row 52 = .ok (.getfield 26, 3) := by decide +kernel
theorem dX1_row_55 : decode cX1_row 55 = .ok (.areturn, 1) := by decide +kernel
theorem dX1_row_56 : decode cX1_row 56 = .ok (.aload_n 0, 1) := by decide +kernel
theorem dX1_row_57 : decode cX1_row 57 = .ok (.getfield 29, 3) := by decide +kernel
theorem dX1_row_60 : decode cX1_row 60 = .ok (.areturn, 1) := by decide +kernel
theorem dX1_row_61 : decode cX1_row 61 = .ok (.aload_n 0, 1) := by decide +kernel
theorem dX1_row_62 : decode cX1_row 62 = .ok (.getfield 32, 3) := by decide +kernel
theorem dX1_row_65 : decode cX1_row 65 = .ok (.areturn, 1) := by decide +kernel
set_option maxRecDepth 20000 in
theorem ggX1_isInTargets_X5_get : GoodIn wsX1_isInTargets wsX5_get := goodIn_r _ [6, 7, 16] (by decide +kernel) (by decide +kernel)
set_option maxRecDepth 20000 in
theorem gX1_isInTargets_X5_get : GoodIn wsX1_isInTargets (wsV RX1 64 RX5 yX5_get wsX5_get) := goodIn_app (goodIn_of _ (by decide +kernel)) ggX1_isInTargets_X5_get
theorem dX1_isInTargets_0 : decode cX1_isInTargets 0 = .ok (.aload_n 0, 1) := by decide +kernel
theorem dX1_isInTargets_1 : decode cX1_isInTargets 1 = .ok (.getfield 26, 3) := by decide +kernel
theorem dX1_isInTargets_4 : decode cX1_isInTargets 4 = .ok (.iload_n 1, 1) := by decide +kernel
theorem dX1_isInTargets_5 : decode cX1_isInTargets 5 = .ok (.bipush 8, 2) := by decide +kernel
theorem dX1_isInTargets_7 : decode cX1_isInTargets 7 = .ok (.irem, 1) := by decide +kernel
theorem dX1_isInTargets_8 : decode cX1_isInTargets 8 = .ok (.invokevirtual 64, 3) := by decide +kernel
theorem dX1_isInTargets_11 : decode cX1_isInTargets 11 = .ok (.iload_n 1, 1) := by decide +kernel
theorem dX1_isInTargets_12 : decode cX1_isInTargets 12 = .ok (.if_icmp .ne 7, 3) := by decide +kernel
theorem dX1_isInTargets_15 : decode cX1_isInTargets 15 = .ok (.iconst 1, 1) := by decide +kernel
theorem dX1_isInTargets_16 : decode cX1_isInTargets 16 = .ok (.goto 4, 3) := by decide +kernel
theorem dX1_isInTargets_19 : decode cX1_isInTargets 19 = .ok (.iconst 0, 1) := by decide +kernel
theorem dX1_isInTargets_20 : decode cX1_isInTargets 20 = .ok (.ireturn, 1) := by decide +kernel
set_option maxRecDepth 20000 in
theorem ggX1_guess_X1_isInTargets : GoodIn wsX1_guess wsX1_isInTargets := goodIn_r _ [8, 9, 10, 11, 12, 13, 14, 15, 64, 65, 66, 67, 68, 69, 70, 71, 72] (by decide +kernel) (by decide +kernel)
set_option maxRecDepth 20000 in
theorem gX1_guess_X1_isInTargets : GoodIn wsX1_guess (wsV RX1 70 RX1 yX1_isInTargets wsX1_isInTargets) := goodIn_app (goodIn_of _ (by decide +kernel)) ggX1_guess_X1_isInTargets
set_option maxRecDepth 20000 in
theorem ggX1_guess_X5_get : GoodIn wsX1_guess wsX5_get := goodIn_r _ [14, 15, 72] (by decide +kernel) (by decide +kernel)
set_option maxRecDepth 20000 in
theorem gX1_guess_X5_get : GoodIn wsX1_guess (wsV RX1 64 RX5 yX5_get wsX5_get) := goodIn_app (goodIn_of _ (by decide +kernel)) ggX1_guess_X5_get
set_option maxRecDepth 20000 in
theorem ggX1_guess_X6_isBranch : GoodIn wsX1_guess wsX6_isBranch := goodIn_r _ [18] (by decide +kernel) (by decide +kernel)
set_option maxRecDepth 20000 in
theorem gX1_guess_X6_isBranch_n74 : GoodIn wsX1_guess (wsX6_isBranch) := ggX1_guess_X6_isBranch
set_option maxRecDepth 20000 in
theorem ggX1_guess_X1_seemsToTurn : GoodIn wsX1_guess wsX1_seemsToTurn := goodIn_r _ [22, 23, 24, 25, 26, 27, 28, 7, 29, 10, 11, 12, 13, 14, 15, 30, 31, 32, 64, 65, 66, 67, 68, 69, 70, 71, 72] (by decide +kernel) (by decide +kernel)
set_option maxRecDepth 20000 in
theorem gX1_guess_X1_seemsToTurn : GoodIn wsX1_guess (wsV RX1 77 RX1 yX1_seemsToTurn wsX1_seemsToTurn) := goodIn_app (goodIn_of _ (by decide +kernel)) ggX1_guess_X1_seemsToTurn
set_option maxRecDepth 20000 in
theorem ggX1_guess_X1_noteBit : GoodIn wsX1_guess wsX1_noteBit := goodIn_r _ [36, 25, 64, 65, 66, 67, 68, 69, 70, 71] (by decide +kernel) (by decide +kernel)
set_option maxRecDepth 20000 in
theorem gX1_guess_X1_noteBit : GoodIn wsX1_guess (wsV RX1 81 RX1 yX1_noteBit wsX1_noteBit) := goodIn_app (goodIn_of _ (by decide +kernel)) ggX1_guess_X1_noteBit
set_option maxRecDepth 20000 in
theorem ggX1_guess_X2_pop : GoodIn wsX1_guess wsX2_pop := goodIn_r _ [41, 42, 43, 44, 45, 46, 47, 48, 49, 40, 50, 51, 52, 53, 54, 55, 73, 74] (by decide +kernel) (by decide +kernel)
set_option maxRecDepth 20000 in
theorem gX1_guess_X2_pop : GoodIn wsX1_guess (wsV RX1 85 RX2 yX2_pop wsX2_pop) := goodIn_app (goodIn_of _ (by decide +kernel)) ggX1_guess_X2_pop
set_option maxRecDepth 20000 in
theorem ggX1_guess_X2_pushEldestOut : GoodIn wsX1_guess wsX2_pushEldestOut := goodIn_r _ [59, 42, 51, 43, 44, 45, 46, 60, 61, 62, 40, 63, 73, 74] (by decide +kernel) (by decide +kernel)
set_option maxRecDepth 20000 in
theorem gX1_guess_X2_pushEldestOut : GoodIn wsX1_guess (wsV RX1 88 RX2 yX2_pushEldestOut wsX2_pushEldestOut) := goodIn_app (goodIn_of _ (by decide +kernel)) ggX1_guess_X2_pushEldestOut
theorem dX1_guess_0 : decode cX1_guess 0 = .ok (.aload_n 0, 1) := by decide +kernel
theorem dX1_guess_1 : decode cX1_guess 1 = .ok (.iload_n 1, 1) := by decide +kernel
theorem dX1_guess_2 : decode cX1_guess 2 = .ok (.invokevirtual 70, 3) := by decide +kernel
theorem dX1_guess_5 : decode cX1_guess 5 = .ok (.ifCond .ne 7, 3) := by decide +kernel
theorem dX1_guess_8 : decode cX1_guess 8 = .ok (.iload_n 1, 1) := by decide +kernel
theorem dX1_guess_9 : decode cX1_guess 9 = .ok (.iconst 1, 1) := by decide +kernel
theorem dX1_guess_10 : decode cX1_guess 10 = .ok (.iadd, 1) := by decide +kernel
theorem dX1_guess_11 : decode cX1_guess 11 = .ok (.ireturn, 1) := by decide +kernel
theorem dX1_guess_12 : decode cX1_guess 12 = .ok (.aload_n 0, 1) := by decide +kernel
theorem dX1_guess_13 : decode cX1_guess 13 = .ok (.getfield 32, 3) := by decide +kernel
theorem dX1_guess_16 : decode cX1_guess 16 = .ok (.iload_n 1, 1) := by decide +kernel
theorem dX1_guess_17 : decode cX1_guess 17 = .ok (.bipush 8, 2) := by decide +kernel
theorem dX1_guess_19 : decode cX1_guess 19 = .ok (.irem, 1) := by decide +kernel
theorem dX1_guess_20 : decode cX1_guess 20 = .ok (.invokevirtual 64, 3) := by decide +kernel
theorem dX1_guess_23 : decode cX1_guess 23 = .ok (.istore_n 3, 1) := by decide +kernel
theorem dX1_guess_24 : decode cX1_guess 24 = .ok (.aload_n 0, 1) := by decide +kernel
theorem dX1_guess_25 : decode cX1_guess 25 = .ok (.getfield 29, 3) := by decide +kernel
theorem dX1_guess_28 : decode cX1_guess 28 = .ok (.iload_n 1, 1) := by decide +kernel
theorem dX1_guess_29 : decode cX1_guess 29 = .ok (.bipush 8, 2) := by decide +kernel
theorem dX1_guess_31 : decode cX1_guess 31 = .ok (.irem, 1) := by decide +kernel
theorem dX1_guess_32 : decode cX1_guess 32 = .ok (.invokevirtual 64, 3) := by decide +kernel
theorem dX1_guess_35 : decode cX1_guess 35 = .ok (.istore 4, 2) := by decide +kernel
theorem dX1_guess_37 : decode cX1_guess 37 = .ok (.iload 4, 2) := by decide +kernel
theorem dX1_guess_39 : decode cX1_guess 39 = .ok (.invokestatic 74, 3) := by decide +kernel
theorem dX1_guess_42 : decode cX1_guess 42 = .ok (.ifCond .eq 30, 3) := by decide +kernel
theorem dX1_guess_45 : decode cX1_guess 45 = .ok (.aload_n 0, 1) := by decide +kernel
theorem dX1_guess_46 : decode cX1_guess 46 = .ok (.iload_n 1, 1) := by decide +kernel
theorem dX1_guess_47 : decode cX1_guess 47 = .ok (.iload_n 2, 1) := by decide +kernel
theorem dX1_guess_48 : decode cX1_guess 48 = .ok (.invokevirtual 77, 3) := by decide +kernel
theorem dX1_guess_51 : decode cX1_guess 51 = .ok (.istore 5, 2) := by decide +kernel
theorem dX1_guess_53 : decode cX1_guess 53 = .ok (.aload_n 0, 1) := by decide +kernel
theorem dX1_guess_54 : decode cX1_guess 54 = .ok (.iload 5, 2) := by decide +kernel
theorem dX1_guess_56 : decode cX1_guess 56 = .ok (.invokevirtual 81, 3) := by decide +kernel
theorem dX1_guess_59 : decode cX1_guess 59 = .ok (.iload 5, 2) := by decide +kernel
theorem dX1_guess_61 : decode cX1_guess 61 = .ok (.ifCond .eq 7, 3) := by decide +kernel
theorem dX1_guess_64 : decode cX1_guess 64 = .ok (.iload_n 3, 1) := by decide +kernel
theorem dX1_guess_65 : decode cX1_guess 65 = .ok (.goto 6, 3) := by decide +kernel
theorem dX1_guess_68 : decode cX1_guess 68 = .ok (.iload_n 1, 1) := by decide +kernel
theorem dX1_guess_69 : decode cX1_guess 69 = .ok (.iconst 1, 1) := by decide +kernel
theorem dX1_guess_70 : decode cX1_guess 70 = .ok (.iadd, 1) := by decide +kernel
theorem dX1_guess_71 : decode cX1_guess 71 = .ok (.ireturn, 1) := by decide +kernel
theorem dX1_guess_72 : decode cX1_guess 72 = .ok (.iload 4, 2) := by decide +kernel
theorem dX1_guess_74 : decode cX1_guess 74 = .ok (.bipush 9, 2) := by decide +kernel
theorem dX1_guess_76 : decode cX1_guess 76 = .ok (.if_icmp .ne 27, 3) := by decide +kernel
theorem dX1_guess_79 : decode cX1_guess 79 = .ok (.aload_n 0, 1) := by decide +kernel
theorem dX1_guess_80 : decode cX1_guess 80 = .ok (.getfield 38, 3) := by decide +kernel
theorem dX1_guess_83 : decode cX1_guess 83 = .ok (.invokevirtual 85, 3) := by decide +kernel
theorem dX1_guess_86 : decode cX1_guess 86 = .ok (.istore 5, 2) := by decide +kernel
theorem dX1_guess_88 : decode cX1_guess 88 = .ok (.iload 5, 2) := by decide +kernel
theorem dX1_guess_90 : decode cX1_guess 90 = .ok (.iconst (-1), 1) := by decide +kernel
theorem dX1_guess_91 : decode cX1_guess 91 = .ok (.if_icmp .ne 9, 3) := by decide +kernel
theorem dX1_guess_94 : decode cX1_guess 94 = .ok (.iload_n 1, 1) := by decide +kernel
theorem dX1_guess_95 : decode cX1_guess 95 = .ok (.iconst 1, 1) := by decide +kernel
theorem dX1_guess_96 : decode cX1_guess 96 = .ok (.iadd, 1) := by decide +kernel
theorem dX1_guess_97 : decode cX1_guess 97 = .ok (.goto 5, 3) := by decide +kernel
theorem dX1_guess_100 : decode cX1_guess 100 = .ok (.iload 5, 2) := by decide +kernel
theorem dX1_guess_102 : decode cX1_guess 102 = .ok (.ireturn, 1) := by decide +kernel
theorem dX1_guess_103 : decode cX1_guess 103 = .ok (.iload 4, 2) := by decide +kernel
theorem dX1_guess_105 : decode cX1_guess 105 = .ok (.bipush 8, 2) := by decide +kernel
theorem dX1_guess_107 : decode cX1_guess 107 = .ok (.if_icmp .ne 13, 3) := by decide +kernel
theorem dX1_guess_110 : decode cX1_guess 110 = .ok (.aload_n 0, 1) := by decide +kernel
theorem dX1_guess_111 : decode cX1_guess 111 = .ok (.getfield 38, 3) := by decide +kernel
theorem dX1_guess_114 : decode cX1_guess 114 = .ok (.iload_n 1, 1) := by decide +kernel
theorem dX1_guess_115 : decode cX1_guess 115 = .ok (.iconst 1, 1) := by decide +kernel
theorem dX1_guess_116 : decode cX1_guess 116 = .ok (.iadd, 1) := by decide +kernel
theorem dX1_guess_117 : decode cX1_guess 117 = .ok (.invokevirtual 88, 3) := by decide +kernel
theorem dX1_guess_120 : decode cX1_guess 120 = .ok (.iload_n 3, 1) := by decide +kernel
theorem dX1_guess_121 : decode cX1_guess 121 = .ok (.ireturn, 1) := by decide +kernel
set_option maxRecDepth 20000 in
theorem ggX1_seemsToTurn_X1_tellsTurn : GoodIn wsX1_seemsToTurn wsX1_tellsTurn := goodIn_r _ [8, 9, 10, 11, 12, 13, 14, 26] (by decide +kernel) (by decide +kernel)
set_option maxRecDepth 20000 in
theorem gX1_seemsToTurn_X1_tellsTurn : GoodIn wsX1_seemsToTurn (va_wsS RX1 91 yX1_tellsTurn wsX1_tellsTurn) := goodIn_app (goodIn_of _ (by decide +kernel)) ggX1_seemsToTurn_X1_tellsTurn
set_option maxRecDepth 20000 in
theorem ggX1_seemsToTurn_X1_mixedPlace : GoodIn wsX1_seemsToTurn wsX1_mixedPlace := goodIn_r _ [17] (by decide +kernel) (by decide +kernel)
set_option maxRecDepth 20000 in
theorem gX1_seemsToTurn_X1_mixedPlace : GoodIn wsX1_seemsToTurn (va_wsS RX1 95 yX1_mixedPlace wsX1_mixedPlace) := goodIn_app (goodIn_of _ (by decide +kernel)) ggX1_seemsToTurn_X1_mixedPlace
theorem dX1_seemsToTurn_0 : decode cX1_seemsToTurn 0 = .ok (.iload_n 2, 1) := by decide +kernel
theorem dX1_seemsToTurn_1 : decode cX1_seemsToTurn 1 = .ok (.tableswitch 99 1 3 #[27, 39, 55], 27) := by decide +kernel
theorem dX1_seemsToTurn_28 : decode cX1_seemsToTurn 28 = .ok (.aload_n 0, 1) := by decide +kernel
theorem dX1_seemsToTurn_29 : decode cX1_seemsToTurn 29 = .ok (.getfield 14, 3) := by decide +kernel
theorem dX1_seemsToTurn_32 : decode cX1_seemsToTurn 32 = .ok (.iload_n 1, 1) := by decide +kernel
theorem dX1_seemsToTurn_33 : decode cX1_seemsToTurn 33 = .ok (.bipush 16, 2) := by decide +kernel
theorem dX1_seemsToTurn_35 : decode cX1_seemsToTurn 35 = .ok (.irem, 1) := by decide +kernel
theorem dX1_seemsToTurn_36 : decode cX1_seemsToTurn 36 = .ok (.invokestatic 91, 3) := by decide +kernel
theorem dX1_seemsToTurn_39 : decode cX1_seemsToTurn 39 = .ok (.ireturn, 1) := by decide +kernel
theorem dX1_seemsToTurn_40 : decode cX1_seemsToTurn 40 = .ok (.aload_n 0, 1) := by decide +kernel
theorem dX1_seemsToTurn_41 : decode cX1_seemsToTurn 41 = .ok (.getfield 20, 3) := by decide +kernel
theorem dX1_seemsToTurn_44 : decode cX1_seemsToTurn 44 = .ok (.iload_n 1, 1) := by decide +kernel
theorem dX1_seemsToTurn_45 : decode cX1_seemsToTurn 45 = .ok (.aload_n 0, 1) := by decide +kernel
theorem dX1_seemsToTurn_46 : decode cX1_seemsToTurn 46 = .ok (.getfield 42, 3) := by decide +kernel
theorem dX1_seemsToTurn_49 : decode cX1_seemsToTurn 49 = .ok (.invokestatic 95, 3) := by decide +kernel
theorem dX1_seemsToTurn_52 : decode cX1_seemsToTurn 52 = .ok (.invokestatic 91, 3) := by decide +kernel
theorem dX1_seemsToTurn_55 : decode cX1_seemsToTurn 55 = .ok (.ireturn, 1) := by decide +kernel
theorem dX1_seemsToTurn_56 : decode cX1_seemsToTurn 56 = .ok (.aload_n 0, 1) := by decide +kernel
theorem dX1_seemsToTurn_57 : decode cX1_seemsToTurn 57 = .ok (.getfield 23, 3) := by decide +kernel
theorem dX1_seemsToTurn_60 : decode cX1_seemsToTurn 60 = .ok (.iload_n 1, 1) := by decide +kernel
theorem dX1_seemsToTurn_61 : decode cX1_seemsToTurn 61 = .ok (.bipush 16, 2) := by decide +kernel
theorem dX1_seemsToTurn_63 : decode cX1_seemsToTurn 63 = .ok (.irem, 1) := by decide +kernel
theorem dX1_seemsToTurn_64 : decode cX1_seemsToTurn 64 = .ok (.invokestatic 91, 3) := by decide +kernel
theorem dX1_seemsToTurn_67 : decode cX1_seemsToTurn 67 = .ok (.ifCond .eq 21, 3) := by decide +kernel
theorem dX1_seemsToTurn_70 : decode cX1_seemsToTurn 70 = .ok (.aload_n 0, 1) := by decide +kernel
theorem dX1_seemsToTurn_71 : decode cX1_seemsToTurn 71 = .ok (.getfield 20, 3) := by decide +kernel
theorem dX1_seemsToTurn_74 : decode cX1_seemsToTurn 74 = .ok (.iload_n 1, 1) := by decide +kernel
theorem dX1_seemsToTurn_75 : decode cX1_seemsToTurn 75 = .ok (.aload_n 0, 1) := by decide +kernel
theorem dX1_seemsToTurn_76 : decode cX1_seemsToTurn 76 = .ok (.getfield 42, 3) := by decide +kernel
theorem dX1_seemsToTurn_79 : decode cX1_seemsToTurn 79 = .ok (.invokestatic 95, 3) := by decide +kernel
theorem dX1_seemsToTurn_82 : decode cX1_seemsToTurn 82 = .ok (.invokestatic 91, 3) := by decide +kernel
theorem dX1_seemsToTurn_85 : decode cX1_seemsToTurn 85 = .ok (.goto 14, 3) := by decide +kernel
theorem dX1_seemsToTurn_88 : decode cX1_seemsToTurn 88 = .ok (.aload_n 0, 1) := by decide +kernel
theorem dX1_seemsToTurn_89 : decode cX1_seemsToTurn 89 = .ok (.getfield 14, 3) := by decide +kernel
theorem dX1_seemsToTurn_92 : decode cX1_seemsToTurn 92 = .ok (.iload_n 1, 1) := by decide +kernel
theorem dX1_seemsToTurn_93 : decode cX1_seemsToTurn 93 = .ok (.bipush 16, 2) := by decide +kernel
theorem dX1_seemsToTurn_95 : decode cX1_seemsToTurn 95 = .ok (.irem, 1) := by decide +kernel
theorem dX1_seemsToTurn_96 : decode cX1_seemsToTurn 96 = .ok (.invokestatic 91, 3) := by decide +kernel
theorem dX1_seemsToTurn_99 : decode cX1_seemsToTurn 99 = .ok (.ireturn, 1) := by decide +kernel
theorem dX1_seemsToTurn_100 : decode cX1_seemsToTurn 100 = .ok (.iconst 0, 1) := by decide +kernel
theorem dX1_seemsToTurn_101 : decode cX1_seemsToTurn 101 = .ok (.ireturn, 1) := by decide +kernel
theorem dX1_mixedPlace_0 : decode cX1_mixedPlace 0 = .ok (.iload_n 0, 1) := by decide +kernel
theorem dX1_mixedPlace_1 : decode cX1_mixedPlace 1 = .ok (.bipush 16, 2) := by decide +kernel
theorem dX1_mixedPlace_3 : decode cX1_mixedPlace 3 = .ok (.irem, 1) := by decide +kernel
theorem dX1_mixedPlace_4 : decode cX1_mixedPlace 4 = .ok (.iload_n 1, 1) := by decide +kernel
theorem dX1_mixedPlace_5 : decode cX1_mixedPlace 5 = .ok (.ixor, 1) := by decide +kernel
theorem dX1_mixedPlace_6 : decode cX1_mixedPlace 6 = .ok (.ireturn, 1) := by decide +kernel
set_option maxRecDepth 20000 in
theorem ggX1_tellsTurn_X5_get : GoodIn wsX1_tellsTurn wsX5_get := goodIn_r _ [5, 6, 7] (by decide +kernel) (by decide +kernel)
set_option maxRecDepth 20000 in
theorem gX1_tellsTurn_X5_get : GoodIn wsX1_tellsTurn (wsV RX1 64 RX5 yX5_get wsX5_get) := goodIn_app (goodIn_of _ (by decide +kernel)) ggX1_tellsTurn_X5_get
theorem dX1_tellsTurn_0 : decode cX1_tellsTurn 0 = .ok (.aload_n 0, 1) := by decide +kernel
theorem dX1_tellsTurn_1 : decode cX1_tellsTurn 1 = .ok (.iload_n 1, 1) := by decide +kernel
theorem dX1_tellsTurn_2 : decode cX1_tellsTurn 2 = .ok (.invokevirtual 64, 3) := by decide +kernel
theorem dX1_tellsTurn_5 : decode cX1_tellsTurn 5 = .ok (.iconst 2, 1) := by decide +kernel
theorem dX1_tellsTurn_6 : decode cX1_tellsTurn 6 = .ok (.if_icmp .lt 7, 3) := by decide +kernel
theorem dX1_tellsTurn_9 : decode cX1_tellsTurn 9 = .ok (.iconst 1, 1) := by decide +kernel
theorem dX1_tellsTurn_10 : decode cX1_tellsTurn 10 = .ok (.goto 4, 3) := by decide +kernel
theorem dX1_tellsTurn_13 : decode cX1_tellsTurn 13 = .ok (.iconst 0, 1) := by decide +kernel
theorem dX1_tellsTurn_14 : decode cX1_tellsTurn 14 = .ok (.ireturn, 1) := by decide +kernel
set_option maxRecDepth 20000 in
theorem ggX1_step_X5_get : GoodIn wsX1_step wsX5_get := goodIn_r _ [12, 13, 18] (by decide +kernel) (by decide +kernel)
set_option maxRecDepth 20000 in
theorem gX1_step_X5_get : GoodIn wsX1_step (wsV RX1 64 RX5 yX5_get wsX5_get) := goodIn_app (goodIn_of _ (by decide +kernel)) ggX1_step_X5_get
set_option maxRecDepth 20000 in
theorem ggX1_step_X5_set : GoodIn wsX1_step wsX5_set := goodIn_r _ [17, 13, 18] (by decide +kernel) (by decide +kernel)
set_option maxRecDepth 20000 in
theorem gX1_step_X5_set : GoodIn wsX1_step (wsV RX1 69 RX5 yX5_set wsX5_set) := goodIn_app (goodIn_of _ (by decide +kernel)) ggX1_step_X5_set
theorem dX1_step_0 : decode cX1_step 0 = .ok (.aload_n 0, 1) := by decide +kernel
theorem dX1_step_1 : decode cX1_step 1 = .ok (.iload_n 1, 1) := by decide +kernel
theorem dX1_step_2 : decode cX1_step 2 = .ok (.invokevirtual 64, 3) := by decide +kernel
theorem dX1_step_5 : decode cX1_step 5 = .ok (.iload_n 2, 1) := by decide +kernel
theorem dX1_step_6 : decode cX1_step 6 = .ok (.ifCond .eq 7, 3) := by decide +kernel
theorem dX1_step_9 : decode cX1_step 9 = .ok (.iconst 1, 1) := by decide +kernel
theorem dX1_step_10 : decode cX1_step 10 = .ok (.goto 4, 3) := by decide +kernel
theorem dX1_step_13 : decode cX1_step 13 = .ok (.iconst (-1), 1) := by decide +kernel
theorem dX1_step_14 : decode cX1_step 14 = .ok (.iadd, 1) := by decide +kernel
theorem dX1_step_15 : decode cX1_step 15 = .ok (.istore_n 3, 1) := by decide +kernel
theorem dX1_step_16 : decode cX1_step 16 = .ok (.aload_n 0, 1) := by decide +kernel
theorem dX1_step_17 : decode cX1_step 17 = .ok (.iload_n 1, 1) := by decide +kernel
theorem dX1_step_18 : decode cX1_step 18 = .ok (.iconst 0, 1) := by decide +kernel
theorem dX1_step_19 : decode cX1_step 19 = .ok (.iconst 3, 1) := by decide +kernel
theorem dX1_step_20 : decode cX1_step 20 = .ok (.iload_n 3, 1) := by decide +kernel
theorem dX1_step_21 : decode cX1_step 21 = .ok (.invokestatic 98, 3) := by decide +kernel
theorem dX1_step_24 : decode cX1_step 24 = .ok (.invokestatic 103, 3) := by decide +kernel
theorem dX1_step_27 : decode cX1_step 27 = .ok (.invokevirtual 69, 3) := by decide +kernel
theorem dX1_step_30 : decode cX1_step 30 = .ok (.pop, 1) := by decide +kernel
theorem dX1_step_31 : decode cX1_step 31 = .ok (.return_, 1) := by decide +kernel
theorem dX1_noteBit_0 : decode cX1_noteBit 0 = .ok (.aload_n 0, 1) := by decide +kernel
theorem dX1_noteBit_1 : decode cX1_noteBit 1 = .ok (.aload_n 0, 1) := by decide +kernel
theorem dX1_noteBit_2 : decode cX1_noteBit 2 = .ok (.getfield 42, 3) := by decide +kernel
theorem dX1_noteBit_5 : decode cX1_noteBit 5 = .ok (.iconst 1, 1) := by decide +kernel
theorem dX1_noteBit_6 : decode cX1_noteBit 6 = .ok (.ishl, 1) := by decide +kernel
theorem dX1_noteBit_7 : decode cX1_noteBit 7 = .ok (.iload_n 1, 1) := by decide +kernel
theorem dX1_noteBit_8 : decode cX1_noteBit 8 = .ok (.ifCond .eq 7, 3) := by decide +kernel
theorem dX1_noteBit_11 : decode cX1_noteBit 11 = .ok (.iconst 1, 1) := by decide +kernel
theorem dX1_noteBit_12 : decode cX1_noteBit 12 = .ok (.goto 4, 3) := by decide +kernel
theorem dX1_noteBit_15 : decode cX1_noteBit 15 = .ok (.iconst 0, 1) := by decide +kernel
theorem dX1_noteBit_16 : decode cX1_noteBit 16 = .ok (.ior, 1) := by decide +kernel
theorem dX1_noteBit_17 : decode cX1_noteBit 17 = .ok (.bipush 15, 2) := by decide +kernel
theorem dX1_noteBit_19 : decode cX1_noteBit 19 = .ok (.iand, 1) := by decide +kernel
theorem dX1_noteBit_20 : decode cX1_noteBit 20 = .ok (.putfield 42, 3) := by decide +kernel
theorem dX1_noteBit_23 : decode cX1_noteBit 23 = .ok (.return_, 1) := by decide +kernel
set_option maxRecDepth 20000 in
theorem ggX1_learn_X1_mixedPlace : GoodIn wsX1_learn wsX1_mixedPlace := goodIn_r _ [7] (by decide +kernel) (by decide +kernel)
set_option maxRecDepth 20000 in
theorem gX1_learn_X1_mixedPlace : GoodIn wsX1_learn (va_wsS RX1 95 yX1_mixedPlace wsX1_mixedPlace) := goodIn_app (goodIn_of _ (by decide +kernel)) ggX1_learn_X1_mixedPlace
set_option maxRecDepth 20000 in
theorem ggX1_learn_X1_tellsTurn : GoodIn wsX1_learn wsX1_tellsTurn := goodIn_r _ [10, 11, 12, 13, 14, 15, 16, 39] (by decide +kernel) (by decide +kernel)
set_option maxRecDepth 20000 in
theorem gX1_learn_X1_tellsTurn : GoodIn wsX1_learn (va_wsS RX1 91 yX1_tellsTurn wsX1_tellsTurn) := goodIn_app (goodIn_of _ (by decide +kernel)) ggX1_learn_X1_tellsTurn
set_option maxRecDepth 20000 in
theorem ggX1_learn_X1_step : GoodIn wsX1_learn wsX1_step := goodIn_r _ [19, 20, 21, 22, 23, 24, 25, 26, 11, 12, 13, 14, 15, 16, 27, 28, 29, 30, 39] (by decide +kernel) (by decide +kernel)
set_option maxRecDepth 20000 in
theorem gX1_learn_X1_step : GoodIn wsX1_learn (va_wsS RX1 106 yX1_step wsX1_step) := goodIn_app (goodIn_of _ (by decide +kernel)) ggX1_learn_X1_step
theorem dX1_learn_0 : decode cX1_learn 0 = .ok (.iload_n 1, 1) := by decide +kernel
theorem dX1_learn_1 : decode cX1_learn 1 = .ok (.bipush 16, 2) := by decide +kernel
theorem dX1_learn_3 : decode cX1_learn 3 = .ok (.irem, 1) := by decide +kernel
theorem dX1_learn_4 : decode cX1_learn 4 = .ok (.istore 4, 2) := by decide +kernel
theorem dX1_learn_6 : decode cX1_learn 6 = .ok (.iload_n 1, 1) := by decide +kernel
theorem dX1_learn_7 : decode cX1_learn 7 = .ok (.iload_n 2, 1) := by decide +kernel
theorem dX1_learn_8 : decode cX1_learn 8 = .ok (.invokestatic 95, 3) := by decide +kernel
theorem dX1_learn_11 : decode cX1_learn 11 = .ok (.istore 5, 2) := by decide +kernel
theorem dX1_learn_13 : decode cX1_learn 13 = .ok (.aload_n 0, 1) := by decide +kernel
theorem dX1_learn_14 : decode cX1_learn 14 = .ok (.getfield 14, 3) := by decide +kernel
theorem dX1_learn_17 : decode cX1_learn 17 = .ok (.iload 4, 2) := by decide +kernel
theorem dX1_learn_19 : decode cX1_learn 19 = .ok (.invokestatic 91, 3) := by decide +kernel
theorem dX1_learn_22 : decode cX1_learn 22 = .ok (.istore 6, 2) := by decide +kernel
theorem dX1_learn_24 : decode cX1_learn 24 = .ok (.aload_n 0, 1) := by decide +kernel
theorem dX1_learn_25 : decode cX1_learn 25 = .ok (.getfield 20, 3) := by decide +kernel
theorem dX1_learn_28 : decode cX1_learn 28 = .ok (.iload 5, 2) := by decide +kernel
theorem dX1_learn_30 : decode cX1_learn 30 = .ok (.invokestatic 91, 3) := by decide +kernel
theorem dX1_learn_33 : decode cX1_learn 33 = .ok (.istore 7, 2) := by decide +kernel
theorem dX1_learn_35 : decode cX1_learn 35 = .ok (.aload_n 0, 1) := by decide +kernel
theorem dX1_learn_36 : decode cX1_learn 36 = .ok (.getfield 14, 3) := by decide +kernel
theorem dX1_learn_39 : decode cX1_learn 39 = .ok (.iload 4, 2) := by decide +kernel
theorem dX1_learn_41 : decode cX1_learn 41 = .ok (.iload_n 3, 1) := by decide +kernel
theorem dX1_learn_42 : decode cX1_learn 42 = .ok (.invokestatic 106, 3) := by decide +kernel
theorem dX1_learn_45 : decode cX1_learn 45 = .ok (.aload_n 0, 1) := by decide +kernel
theorem dX1_learn_46 : decode cX1_learn 46 = .ok (.getfield 20, 3) := by decide +kernel
theorem dX1_learn_49 : decode cX1_learn 49 = .ok (.iload 5, 2) := by decide +kernel
theorem dX1_learn_51 : decode cX1_learn 51 = .ok (.iload_n 3, 1) := by decide +kernel
theorem dX1_learn_52 : decode cX1_learn 52 = .ok (.invokestatic 106, 3) := by decide +kernel
theorem dX1_learn_55 : decode cX1_learn 55 = .ok (.iload 6, 2) := by decide +kernel
theorem dX1_learn_57 : decode cX1_learn 57 = .ok (.iload 7, 2) := by decide +kernel
theorem dX1_learn_59 : decode cX1_learn 59 = .ok (.if_icmp .eq 23, 3) := by decide +kernel
theorem dX1_learn_62 : decode cX1_learn 62 = .ok (.aload_n 0, 1) := by decide +kernel
theorem dX1_learn_63 : decode cX1_learn 63 = .ok (.getfield 23, 3) := by decide +kernel
theorem dX1_learn_66 : decode cX1_learn 66 = .ok (.iload 4, 2) := by decide +kernel
theorem dX1_learn_68 : decode cX1_learn 68 = .ok (.iload 7, 2) := by decide +kernel
theorem dX1_learn_70 : decode cX1_learn 70 = .ok (.iload_n 3, 1) := by decide +kernel
theorem dX1_learn_71 : decode cX1_learn 71 = .ok (.if_icmp .ne 7, 3) := by decide +kernel
theorem dX1_learn_74 : decode cX1_learn 74 = .ok (.iconst 1, 1) := by decide +kernel
theorem dX1_learn_75 : decode cX1_learn 75 = .ok (.goto 4, 3) := by decide +kernel
theorem dX1_learn_78 : decode cX1_learn 78 = .ok (.iconst 0, 1) := by decide +kernel
theorem dX1_learn_79 : decode cX1_learn 79 = .ok (.invokestatic 106, 3) := by decide +kernel
theorem dX1_learn_82 : decode cX1_learn 82 = .ok (.return_, 1) := by decide +kernel
set_option maxRecDepth 20000 in
theorem ggX1_noteTarget_X5_set : GoodIn wsX1_noteTarget wsX5_set := goodIn_r _ [8, 9, 18] (by decide +kernel) (by decide +kernel)
set_option maxRecDepth 20000 in
theorem gX1_noteTarget_X5_set : GoodIn wsX1_noteTarget (wsV RX1 69 RX5 yX5_set wsX5_set) := goodIn_app (goodIn_of _ (by decide +kernel)) ggX1_noteTarget_X5_set
theorem dX1_noteTarget_0 : decode cX1_noteTarget 0 = .ok (.aload_n 0, 1) := by decide +kernel
theorem dX1_noteTarget_1 : decode cX1_noteTarget 1 = .ok (.getfield 26, 3) := by decide +kernel
theorem dX1_noteTarget_4 : decode cX1_noteTarget 4 = .ok (.iload_n 1, 1) := by decide +kernel
theorem dX1_noteTarget_5 : decode cX1_noteTarget 5 = .ok (.bipush 8, 2) := by decide +kernel
theorem dX1_noteTarget_7 : decode cX1_noteTarget 7 = .ok (.irem, 1) := by decide +kernel
theorem dX1_noteTarget_8 : decode cX1_noteTarget 8 = .ok (.iload_n 1, 1) := by decide +kernel
theorem dX1_noteTarget_9 : decode cX1_noteTarget 9 = .ok (.invokevirtual 69, 3) := by decide +kernel
theorem dX1_noteTarget_12 : decode cX1_noteTarget 12 = .ok (.pop, 1) := by decide +kernel
theorem dX1_noteTarget_13 : decode cX1_noteTarget 13 = .ok (.aload_n 0, 1) := by decide +kernel
theorem dX1_noteTarget_14 : decode cX1_noteTarget 14 = .ok (.getfield 29, 3) := by decide +kernel
theorem dX1_noteTarget_17 : decode cX1_noteTarget 17 = .ok (.iload_n 1, 1) := by decide +kernel
theorem dX1_noteTarget_18 : decode cX1_noteTarget 18 = .ok (.bipush 8, 2) := by decide +kernel
theorem dX1_noteTarget_20 : decode cX1_noteTarget 20 = .ok (.irem, 1) := by decide +kernel
theorem dX1_noteTarget_21 : decode cX1_noteTarget 21 = .ok (.iload_n 2, 1) := by decide +kernel
theorem dX1_noteTarget_22 : decode cX1_noteTarget 22 = .ok (.invokevirtual 69, 3) := by decide +kernel
theorem dX1_noteTarget_25 : decode cX1_noteTarget 25 = .ok (.pop, 1) := by decide +kernel
theorem dX1_noteTarget_26 : decode cX1_noteTarget 26 = .ok (.aload_n 0, 1) := by decide +kernel
theorem dX1_noteTarget_27 : decode cX1_noteTarget 27 = .ok (.getfield 32, 3) := by decide +kernel
theorem dX1_noteTarget_30 : decode cX1_noteTarget 30 = .ok (.iload_n 1, 1) := by decide +kernel
theorem dX1_noteTarget_31 : decode cX1_noteTarget 31 = .ok (.bipush 8, 2) := by decide +kernel
theorem dX1_noteTarget_33 : decode cX1_noteTarget 33 = .ok (.irem, 1) := by decide +kernel
theorem dX1_noteTarget_34 : decode cX1_noteTarget 34 = .ok (.iload_n 3, 1) := by decide +kernel
theorem dX1_noteTarget_35 : decode cX1_noteTarget 35 = .ok (.invokevirtual 69, 3) := by decide +kernel
theorem dX1_noteTarget_38 : decode cX1_noteTarget 38 = .ok (.pop, 1) := by decide +kernel
theorem dX1_noteTarget_39 : decode cX1_noteTarget 39 = .ok (.return_, 1) := by decide +kernel
set_option maxRecDepth 20000 in
theorem ggX1_noteWhatWasDone_X6_isBranch : GoodIn wsX1_noteWhatWasDone wsX6_isBranch := goodIn_r _ [4] (by decide +kernel) (by decide +kernel)
set_option maxRecDepth 20000 in
theorem gX1_noteWhatWasDone_X6_isBranch_n74 : GoodIn wsX1_noteWhatWasDone (wsX6_isBranch) := ggX1_noteWhatWasDone_X6_isBranch
set_option maxRecDepth 20000 in
theorem ggX1_noteWhatWasDone_X1_noteBit : GoodIn wsX1_noteWhatWasDone wsX1_noteBit := goodIn_r _ [9, 10, 38, 39, 40, 41, 42, 43, 44, 45] (by decide +kernel) (by decide +kernel)
set_option maxRecDepth 20000 in
theorem gX1_noteWhatWasDone_X1_noteBit : GoodIn wsX1_noteWhatWasDone (wsV RX1 81 RX1 yX1_noteBit wsX1_noteBit) := goodIn_app (goodIn_of _ (by decide +kernel)) ggX1_noteWhatWasDone_X1_noteBit
set_option maxRecDepth 20000 in
theorem ggX1_noteWhatWasDone_X2_pushEldestOut : GoodIn wsX1_noteWhatWasDone wsX2_pushEldestOut := goodIn_r _ [15, 16, 17, 18, 19, 20, 21, 22, 23, 24, 14, 25, 46, 47] (by decide +kernel) (by decide +kernel)
set_option maxRecDepth 20000 in
theorem gX1_noteWhatWasDone_X2_pushEldestOut : GoodIn wsX1_noteWhatWasDone (wsV RX1 88 RX2 yX2_pushEldestOut wsX2_pushEldestOut) := goodIn_app (goodIn_of _ (by decide +kernel)) ggX1_noteWhatWasDone_X2_pushEldestOut
set_option maxRecDepth 20000 in
theorem ggX1_noteWhatWasDone_X2_pop : GoodIn wsX1_noteWhatWasDone wsX2_pop := goodIn_r _ [29, 16, 18, 19, 20, 21, 30, 31, 32, 14, 33, 17, 34, 35, 36, 37, 46, 47] (by decide +kernel) (by decide +kernel)
set_option maxRecDepth 20000 in
theorem gX1_noteWhatWasDone_X2_pop : GoodIn wsX1_noteWhatWasDone (wsV RX1 85 RX2 yX2_pop wsX2_pop) := goodIn_app (goodIn_of _ (by decide +kernel)) ggX1_noteWhatWasDone_X2_pop
theorem dX1_noteWhatWasDone_0 : decode cX1_noteWhatWasDone 0 = .ok (.iload_n 2, 1) := by decide +kernel
theorem dX1_noteWhatWasDone_1 : decode cX1_noteWhatWasDone 1 = .ok (.invokestatic 74, 3) := by decide +kernel
theorem dX1_noteWhatWasDone_4 : decode cX1_noteWhatWasDone 4 = .ok (.ifCond .eq 8, 3) := by decide +kernel
theorem dX1_noteWhatWasDone_7 : decode cX1_noteWhatWasDone 7 = .ok (.aload_n 0, 1) := by decide +kernel
theorem dX1_noteWhatWasDone_8 : decode cX1_noteWhatWasDone 8 = .ok (.iload_n 3, 1) := by decide +kernel
theorem dX1_noteWhatWasDone_9 : decode cX1_noteWhatWasDone 9 = .ok (.invokevirtual 81, 3) := by decide +kernel
theorem dX1_noteWhatWasDone_12 : decode cX1_noteWhatWasDone 12 = .ok (.iload_n 2, 1) := by decide +kernel
theorem dX1_noteWhatWasDone_13 : decode cX1_noteWhatWasDone 13 = .ok (.bipush 8, 2) := by decide +kernel
theorem dX1_noteWhatWasDone_15 : decode cX1_noteWhatWasDone 15 = .ok (.if_icmp .ne 13, 3) := by decide +kernel
theorem dX1_noteWhatWasDone_18 : decode cX1_noteWhatWasDone 18 = .ok (.aload_n 0, 1) := by decide +kernel
theorem dX1_noteWhatWasDone_19 : decode cX1_noteWhatWasDone 19 = .ok (.getfield 38, 3) := by decide +kernel
theorem dX1_noteWhatWasDone_22 : decode cX1_noteWhatWasDone 22 = .ok (.iload_n 1, 1) := by decide +kernel
theorem dX1_noteWhatWasDone_23 : decode cX1_noteWhatWasDone 23 = .ok (.iconst 1, 1) := by decide +kernel
theorem dX1_noteWhatWasDone_24 : decode cX1_noteWhatWasDone 24 = .ok (.iadd, 1) := by decide +kernel
theorem dX1_noteWhatWasDone_25 : decode cX1_noteWhatWasDone 25 = .ok (.invokevirtual 88, 3) := by decide +kernel
theorem dX1_noteWhatWasDone_28 : decode cX1_noteWhatWasDone 28 = .ok (.iload_n 2, 1) := by decide +kernel
theorem dX1_noteWhatWasDone_29 : decode cX1_noteWhatWasDone 29 = .ok (.bipush 9, 2) := by decide +kernel
theorem dX1_noteWhatWasDone_31 : decode cX1_noteWhatWasDone 31 = .ok (.if_icmp .ne 11, 3) := by decide +kernel
theorem dX1_noteWhatWasDone_34 : decode cX1_noteWhatWasDone 34 = .ok (.aload_n 0, 1) := by decide +kernel
theorem dX1_noteWhatWasDone_35 : decode cX1_noteWhatWasDone 35 = .ok (.getfield 38, 3) := by decide +kernel
theorem dX1_noteWhatWasDone_38 : decode cX1_noteWhatWasDone 38 = .ok (.invokevirtual 85, 3) := by decide +kernel
theorem dX1_noteWhatWasDone_41 : decode cX1_noteWhatWasDone 41 = .ok (.pop, 1) := by decide +kernel
theorem dX1_noteWhatWasDone_42 : decode cX1_noteWhatWasDone 42 = .ok (.return_, 1) := by decide +kernel
theorem dX2_init_0 : decode cX2_init 0 = .ok (.aload_n 0, 1) := by decide +kernel
theorem dX2_init_1 : decode cX2_init 1 = .ok (.invokespecial 3, 3) := by decide +kernel
theorem dX2_init_4 : decode cX2_init 4 = .ok (.aload_n 0, 1) := by decide +kernel
theorem dX2_init_5 : decode cX2_init 5 = .ok (.iconst 0, 1) := by decide +kernel
theorem dX2_init_6 : decode cX2_init 6 = .ok (.putfield 9, 3) := by decide +kernel
theorem dX2_init_9 : decode cX2_init 9 = .ok (.aload_n 0, 1) := by decide +kernel
theorem dX2_init_10 : decode cX2_init 10 = .ok (.iconst 0, 1) := by decide +kernel
theorem dX2_init_11 : decode cX2_init 11 = .ok (.iload_n 1, 1) := by decide +kernel
theorem dX2_init_12 : decode cX2_init 12 = .ok (.invokestatic 15, 3) := by decide +kernel
theorem dX2_init_15 : decode cX2_init 15 = .ok (.newarray .int, 2) := by decide +kernel
theorem dX2_init_17 : decode cX2_init 17 = .ok (.putfield 21, 3) := by decide +kernel
theorem dX2_init_20 : decode cX2_init 20 = .ok (.return_, 1) := by decide +kernel
theorem dX2_size_0 : decode cX2_size 0 = .ok (.aload_n 0, 1) := by decide +kernel
theorem dX2_size_1 : decode cX2_size 1 = .ok (.getfield 9, 3) := by decide +kernel
theorem dX2_size_4 : decode cX2_size 4 = .ok (.ireturn, 1) := by decide +kernel
set_option maxRecDepth 20000 in
theorem ggX2_get_X2_has : GoodIn wsX2_get wsX2_has := goodIn_r _ [6, 7, 1, 8, 9] (by decide +kernel) (by decide +kernel)
set_option maxRecDepth 20000 in
theorem gX2_get_X2_has : GoodIn wsX2_get (wsV RX2 25 RX2 yX2_has wsX2_has) := goodIn_app (goodIn_of _ (by decide +kernel)) ggX2_get_X2_has
theorem dX2_get_0 : decode cX2_get 0 = .ok (.aload_n 0, 1) := by decide +kernel
theorem dX2_get_1 : decode cX2_get 1 = .ok (.iload_n 1, 1) := by decide +kernel
theorem dX2_get_2 : decode cX2_get 2 = .ok (.invokevirtual 25, 3) := by decide +kernel
theorem dX2_get_5 : decode cX2_get 5 = .ok (.ifCond .eq 12, 3) := by decide +kernel
theorem dX2_get_8 : decode cX2_get 8 = .ok (.aload_n 0, 1) := by decide +kernel
theorem dX2_get_9 : decode cX2_get 9 = .ok (.getfield 21, 3) := by decide +kernel
theorem dX2_get_12 : decode cX2_get 12 = .ok (.iload_n 1, 1) := by decide +kernel
theorem dX2_get_13 : decode cX2_get 13 = .ok (.iaload, 1) := by decide +kernel
theorem dX2_get_14 : decode cX2_get 14 = .ok (.goto 4, 3) := by decide +kernel
theorem dX2_get_17 : decode cX2_get 17 = .ok (.iconst (-1), 1) := by decide +kernel
theorem dX2_get_18 : decode cX2_get 18 = .ok (.ireturn, 1) := by decide +kernel
set_option maxRecDepth 20000 in
theorem ggX2_set_X2_has : GoodIn wsX2_set wsX2_has := goodIn_r _ [6, 7, 1, 8, 9] (by decide +kernel) (by decide +kernel)
set_option maxRecDepth 20000 in
theorem gX2_set_X2_has : GoodIn wsX2_set (wsV RX2 25 RX2 yX2_has wsX2_has) := goodIn_app (goodIn_of _ (by decide +kernel)) ggX2_set_X2_has
theorem dX2_set_0 : decode cX2_set 0 = .ok (.aload_n 0, 1) := by decide +kernel
theorem dX2_set_1 : decode cX2_set 1 = .ok (.iload_n 1, 1) := by decide +kernel
theorem dX2_set_2 : decode cX2_set 2 = .ok (.invokevirtual 25, 3) := by decide +kernel
theorem dX2_set_5 : decode cX2_set 5 = .ok (.ifCond .ne 5, 3) := by decide +kernel
theorem dX2_set_8 : decode cX2_set 8 = .ok (.iconst (-1), 1) := by decide +kernel
theorem dX2_set_9 : decode cX2_set 9 = .ok (.ireturn, 1) := by decide +kernel
theorem dX2_set_10 : decode cX2_set 10 = .ok (.aload_n 0, 1) := by decide +kernel
theorem dX2_set_11 : decode cX2_set 11 = .ok (.getfield 21, 3) := by decide +kernel
theorem dX2_set_14 : decode cX2_set 14 = .ok (.iload_n 1, 1) := by decide +kernel
theorem dX2_set_15 : decode cX2_set 15 = .ok (.iaload, 1) := by decide +kernel
theorem dX2_set_16 : decode cX2_set 16 = .ok (.istore_n 3, 1) := by decide +kernel
theorem dX2_set_17 : decode cX2_set 17 = .ok (.aload_n 0, 1) := by decide +kernel
theorem dX2_set_18 : decode cX2_set 18 = .ok (.getfield 21, 3) := by decide +kernel
theorem dX2_set_21 : decode cX2_set 21 = .ok (.iload_n 1, 1) := by decide +kernel
theorem dX2_set_22 : decode cX2_set 22 = .ok (.iload_n 2, 1) := by decide +kernel
theorem dX2_set_23 : decode cX2_set 23 = .ok (.iastore, 1) := by decide +kernel
theorem dX2_set_24 : decode cX2_set 24 = .ok (.iload_n 3, 1) := by decide +kernel
theorem dX2_set_25 : decode cX2_set 25 = .ok (.ireturn, 1) := by decide +kernel
theorem dX2_push_0 : decode cX2_push 0 = .ok (.aload_n 0, 1) := by decide +kernel
theorem dX2_push_1 : decode cX2_push 1 = .ok (.getfield 9, 3) := by decide +kernel
theorem dX2_push_4 : decode cX2_push 4 = .ok (.ifCond .lt 15, 3) := by decide +kernel
theorem dX2_push_7 : decode cX2_push 7 = .ok (.aload_n 0, 1) := by decide +kernel
theorem dX2_push_8 : decode cX2_push 8 = .ok (.getfield 9, 3) := by decide +kernel
theorem dX2_push_11 : decode cX2_push 11 = .ok (.aload_n 0, 1) := by decide +kernel
theorem dX2_push_12 : decode cX2_push 12 = .ok (.getfield 21, 3) := by decide +kernel
theorem dX2_push_15 : decode cX2_push 15 = .ok (.arraylength, 1) := by decide +kernel
theorem dX2_push_16 : decode cX2_push 16 = .ok (.if_icmp .lt 5, 3) := by decide +kernel
theorem dX2_push_19 : decode cX2_push 19 = .ok (.iconst 0, 1) := by decide +kernel
theorem dX2_push_20 : decode cX2_push 20 = .ok (.ireturn, 1) := by decide +kernel
theorem dX2_push_21 : decode cX2_push 21 = .ok (.aload_n 0, 1) := by decide +kernel
theorem dX2_push_22 : decode cX2_push 22 = .ok (.getfield 21, 3) := by decide +kernel
theorem dX2_push_25 : decode cX2_push 25 = .ok (.aload_n 0, 1) := by decide +kernel
theorem dX2_push_26 : decode cX2_push 26 = .ok (.getfield 9, 3) := by decide +kernel
theorem dX2_push_29 : decode cX2_push 29 = .ok (.iload_n 1, 1) := by decide +kernel
theorem dX2_push_30 : decode cX2_push 30 = .ok (.iastore, 1) := by decide +kernel
theorem dX2_push_31 : decode cX2_push 31 = .ok (.aload_n 0, 1) := by decide +kernel
theorem dX2_push_32 : decode cX2_push 32 = .ok (.dup, 1) := by decide +kernel
theorem dX2_push_33 : decode cX2_push 33 = .ok (.getfield 9, 3) := by decide +kernel
theorem dX2_push_36 : decode cX2_push 36 = .ok (.iconst 1, 1) := by decide +kernel
theorem dX2_push_37 : decode cX2_push 37 = .ok (.iadd, 1) := by decide +kernel
theorem dX2_push_38 : decode cX2_push 38 = .ok (.putfield 9, 3) := by decide +kernel
theorem dX2_push_41 : decode cX2_push 41 = .ok (.iconst 1, 1) := by decide +kernel
theorem dX2_push_42 : decode cX2_push 42 = .ok (.ireturn, 1) := by decide +kernel
set_option maxRecDepth 20000 in
theorem ggX2_pushEldestOut_X2_push : GoodIn wsX2_pushEldestOut wsX2_push := goodIn_r _ [11, 1, 2, 12, 13] (by decide +kernel) (by decide +kernel)
set_option maxRecDepth 20000 in
theorem gX2_pushEldestOut_X2_push : GoodIn wsX2_pushEldestOut (wsV RX2 29 RX2 yX2_push wsX2_push) := goodIn_app (goodIn_of _ (by decide +kernel)) ggX2_pushEldestOut_X2_push
theorem dX2_pushEldestOut_0 : decode cX2_pushEldestOut 0 = .ok (.aload_n 0, 1) := by decide +kernel
theorem dX2_pushEldestOut_1 : decode cX2_pushEldestOut 1 = .ok (.getfield 9, 3) := by decide +kernel
theorem dX2_pushEldestOut_4 : decode cX2_pushEldestOut 4 = .ok (.aload_n 0, 1) := by decide +kernel
theorem dX2_pushEldestOut_5 : decode cX2_pushEldestOut 5 = .ok (.getfield 21, 3) := by decide +kernel
theorem dX2_pushEldestOut_8 : decode cX2_pushEldestOut 8 = .ok (.arraylength, 1) := by decide +kernel
theorem dX2_pushEldestOut_9 : decode cX2_pushEldestOut 9 = .ok (.if_icmp .lt 49, 3) := by decide +kernel
theorem dX2_pushEldestOut_12 : decode cX2_pushEldestOut 12 = .ok (.iconst 1, 1) := by decide +kernel
theorem dX2_pushEldestOut_13 : decode cX2_pushEldestOut 13 = .ok (.istore_n 2, 1) := by decide +kernel
theorem dX2_pushEldestOut_14 : decode cX2_pushEldestOut 14 = .ok (.iload_n 2, 1) := by decide +kernel
theorem dX2_pushEldestOut_15 : decode cX2_pushEldestOut 15 = .ok (.aload_n 0, 1) := by decide +kernel
theorem dX2_pushEldestOut_16 : decode cX2_pushEldestOut 16 = .ok (.getfield 21, 3) := by decide +kernel
theorem dX2_pushEldestOut_19 : decode cX2_pushEldestOut 19 = .ok (.arraylength, 1) := by decide +kernel
theorem dX2_pushEldestOut_20 : decode cX2_pushEldestOut 20 = .ok (.if_icmp .ge 23, 3) := by decide +kernel
theorem dX2_pushEldestOut_23 : decode cX2_pushEldestOut 23 = .ok (.aload_n 0, 1) := by decide +kernel
theorem dX2_pushEldestOut_24 : decode cX2_pushEldestOut 24 = .ok (.getfield 21, 3) := by decide +kernel
theorem dX2_pushEldestOut_27 : decode cX2_pushEldestOut 27 = .ok (.iload_n 2, 1) := by decide +kernel
theorem dX2_pushEldestOut_28 : decode cX2_pushEldestOut 28 = .ok (.iconst 1, 1) := by decide +kernel
theorem dX2_pushEldestOut_29 : decode cX2_pushEldestOut 29 = .ok (.isub, 1) := by decide +kernel
theorem dX2_pushEldestOut_30 : decode cX2_pushEldestOut 30 = .ok (.aload_n 0, 1) := by decide +kernel
theorem dX2_pushEldestOut_31 : decode cX2_pushEldestOut 31 = .ok (.getfield 21, 3) := by decide +kernel
theorem dX2_pushEldestOut_34 : decode cX2_pushEldestOut 34 = .ok (.iload_n 2, 1) := by decide +kernel
theorem dX2_pushEldestOut_35 : decode cX2_pushEldestOut 35 = .ok (.iaload, 1) := by decide +kernel
theorem dX2_pushEldestOut_36 : decode cX2_pushEldestOut 36 = .ok (.iastore, 1) := by decide +kernel
theorem dX2_pushEldestOut_37 : decode cX2_pushEldestOut 37 = .ok (.iinc 2 1, 3) := by decide +kernel
theorem dX2_pushEldestOut_40 : decode cX2_pushEldestOut 40 = .ok (.goto (-26), 3) := by decide +kernel
theorem dX2_pushEldestOut_43 : decode cX2_pushEldestOut 43 = .ok (.aload_n 0, 1) := by decide +kernel
theorem dX2_pushEldestOut_44 : decode cX2_pushEldestOut 44 = .ok (.iconst 0, 1) := by decide +kernel
theorem dX2_pushEldestOut_45 : decode cX2_pushEldestOut 45 = .ok (.aload_n 0, 1) := by decide +kernel
theorem dX2_pushEldestOut_46 : decode cX2_pushEldestOut 46 = .ok (.getfield 21, 3) := by decide +kernel
theorem dX2_pushEldestOut_49 : decode cX2_pushEldestOut 49 = .ok (.arraylength, 1) := by decide +kernel
theorem dX2_pushEldestOut_50 : decode cX2_pushEldestOut 50 = .ok (.iconst 1, 1) := by decide +kernel
theorem dX2_pushEldestOut_51 : decode cX2_pushEldestOut 51 = .ok (.isub, 1) := by decide +kernel
theorem dX2_pushEldestOut_52 : decode cX2_pushEldestOut 52 = .ok (.invokestatic 15, 3) := by decide +kernel
theorem dX2_pushEldestOut_55 : decode cX2_pushEldestOut 55 = .ok (.putfield 9, 3) := by decide +kernel
theorem dX2_pushEldestOut_58 : decode cX2_pushEldestOut 58 = .ok (.aload_n 0, 1) := by decide +kernel
theorem dX2_pushEldestOut_59 : decode cX2_pushEldestOut 59 = .ok (.iload_n 1, 1) := by decide +kernel
theorem dX2_pushEldestOut_60 : decode cX2_pushEldestOut 60 = .ok (.invokevirtual 29, 3) := by decide +kernel
theorem dX2_pushEldestOut_63 : decode cX2_pushEldestOut 63 = .ok (.pop, 1) := by decide +kernel
theorem dX2_pushEldestOut_64 : decode cX2_pushEldestOut 64 = .ok (.return_, 1) := by decide +kernel
set_option maxRecDepth 20000 in
theorem ggX2_pop_X2_get : GoodIn wsX2_pop wsX2_get := goodIn_r _ [10, 11, 12, 13, 14, 9, 15, 1, 16, 17] (by decide +kernel) (by decide +kernel)
set_option maxRecDepth 20000 in
theorem gX2_pop_X2_get : GoodIn wsX2_pop (wsV RX2 32 RX2 yX2_get wsX2_get) := goodIn_app (goodIn_of _ (by decide +kernel)) ggX2_pop_X2_get
theorem dX2_pop_0 : decode cX2_pop 0 = .ok (.aload_n 0, 1) := by decide +kernel
theorem dX2_pop_1 : decode cX2_pop 1 = .ok (.aload_n 0, 1) := by decide +kernel
theorem dX2_pop_2 : decode cX2_pop 2 = .ok (.getfield 9, 3) := by decide +kernel
theorem dX2_pop_5 : decode cX2_pop 5 = .ok (.iconst 1, 1) := by decide +kernel
theorem dX2_pop_6 : decode cX2_pop 6 = .ok (.isub, 1) := by decide +kernel
theorem dX2_pop_7 : decode cX2_pop 7 = .ok (.invokevirtual 32, 3) := by decide +kernel
theorem dX2_pop_10 : decode cX2_pop 10 = .ok (.istore_n 1, 1) := by decide +kernel
theorem dX2_pop_11 : decode cX2_pop 11 = .ok (.aload_n 0, 1) := by decide +kernel
theorem dX2_pop_12 : decode cX2_pop 12 = .ok (.iconst 0, 1) := by decide +kernel
theorem dX2_pop_13 : decode cX2_pop 13 = .ok (.aload_n 0, 1) := by decide +kernel
theorem dX2_pop_14 : decode cX2_pop 14 = .ok (.getfield 9, 3) := by decide +kernel
theorem dX2_pop_17 : decode cX2_pop 17 = .ok (.iconst 1, 1) := by decide +kernel
theorem dX2_pop_18 : decode cX2_pop 18 = .ok (.isub, 1) := by decide +kernel
theorem dX2_pop_19 : decode cX2_pop 19 = .ok (.invokestatic 15, 3) := by decide +kernel
theorem dX2_pop_22 : decode cX2_pop 22 = .ok (.putfield 9, 3) := by decide +kernel
theorem dX2_pop_25 : decode cX2_pop 25 = .ok (.iload_n 1, 1) := by decide +kernel
theorem dX2_pop_26 : decode cX2_pop 26 = .ok (.ireturn, 1) := by decide +kernel
theorem dX2_clear_0 : decode cX2_clear 0 = .ok (.aload_n 0, 1) := by decide +kernel
theorem dX2_clear_1 : decode cX2_clear 1 = .ok (.iconst 0, 1) := by decide +kernel
theorem dX2_clear_2 : decode cX2_clear 2 = .ok (.putfield 9, 3) := by decide +kernel
theorem dX2_clear_5 : decode cX2_clear 5 = .ok (.return_, 1) := by decide +kernel
theorem dX2_has_0 : decode cX2_has 0 = .ok (.iload_n 1, 1) := by decide +kernel
theorem dX2_has_1 : decode cX2_has 1 = .ok (.ifCond .lt 24, 3) := by decide +kernel
theorem dX2_has_4 : decode cX2_has 4 = .ok (.iload_n 1, 1) := by decide +kernel
theorem dX2_has_5 : decode cX2_has 5 = .ok (.aload_n 0, 1) := by decide +kernel
theorem dX2_has_6 : decode cX2_has 6 = .ok (.getfield 9, 3) := by decide +kernel
theorem dX2_has_9 : decode cX2_has 9 = .ok (.if_icmp .ge 16, 3) := by decide +kernel
theorem dX2_has_12 : decode cX2_has 12 = .ok (.iload_n 1, 1) := by decide +kernel
theorem dX2_has_13 : decode cX2_has 13 = .ok (.aload_n 0, 1) := by decide +kernel
theorem dX2_has_14 : decode cX2_has 14 = .ok (.getfield 21, 3) := by decide +kernel
theorem dX2_has_17 : decode cX2_has 17 = .ok (.arraylength, 1) := by decide +kernel
theorem dX2_has_18 : decode cX2_has 18 = .ok (.if_icmp .ge 7, 3) := by decide +kernel
theorem dX2_has_21 : decode cX2_has 21 = .ok (.iconst 1, 1) := by decide +kernel
theorem dX2_has_22 : decode cX2_has 22 = .ok (.goto 4, 3) := by decide +kernel
theorem dX2_has_25 : decode cX2_has 25 = .ok (.iconst 0, 1) := by decide +kernel
theorem dX2_has_26 : decode cX2_has 26 = .ok (.ireturn, 1) := by decide +kernel
set_option maxRecDepth 20000 in
theorem ggX3_init_X5_init : GoodIn wsX3_init wsX5_init := goodIn_r _ [11, 12, 2, 3, 13, 14, 15, 16, 17, 18, 19] (by decide +kernel) (by decide +kernel)
set_option maxRecDepth 20000 in
theorem gX3_init_X5_init : GoodIn wsX3_init (wsX5_init) := ggX3_init_X5_init
theorem dX3_init_0 : decode cX3_init 0 = .ok (.aload_n 0, 1) := by decide +kernel
theorem dX3_init_1 : decode cX3_init 1 = .ok (.invokespecial 3, 3) := by decide +kernel
theorem dX3_init_4 : decode cX3_init 4 = .ok (.aload_n 0, 1) := by decide +kernel
theorem dX3_init_5 : decode cX3_init 5 = .ok (.new 9, 3) := by decide +kernel
theorem dX3_init_8 : decode cX3_init 8 = .ok (.dup, 1) := by decide +kernel
theorem dX3_init_9 : decode cX3_init 9 = .ok (.sipush 240, 3) := by decide +kernel
theorem dX3_init_12 : decode cX3_init 12 = .ok (.invokespecial 11, 3) := by decide +kernel
theorem dX3_init_15 : decode cX3_init 15 = .ok (.putfield 14, 3) := by decide +kernel
theorem dX3_init_18 : decode cX3_init 18 = .ok (.aload_n 0, 1) := by decide +kernel
theorem dX3_init_19 : decode cX3_init 19 = .ok (.iconst 0, 1) := by decide +kernel
theorem dX3_init_20 : decode cX3_init 20 = .ok (.putfield 20, 3) := by decide +kernel
theorem dX3_init_23 : decode cX3_init 23 = .ok (.return_, 1) := by decide +kernel
theorem dX3_size_0 : decode cX3_size 0 = .ok (.aload_n 0, 1) := by decide +kernel
theorem dX3_size_1 : decode cX3_size 1 = .ok (.getfield 20, 3) := by decide +kernel
theorem dX3_size_4 : decode cX3_size 4 = .ok (.ireturn, 1) := by decide +kernel
theorem dX3_has_0 : decode cX3_has 0 = .ok (.iload_n 1, 1) := by decide +kernel
theorem dX3_has_1 : decode cX3_has 1 = .ok (.ifCond .lt 15, 3) := by decide +kernel
theorem dX3_has_4 : decode cX3_has 4 = .ok (.iload_n 1, 1) := by decide +kernel
theorem dX3_has_5 : decode cX3_has 5 = .ok (.aload_n 0, 1) := by decide +kernel
theorem dX3_has_6 : decode cX3_has 6 = .ok (.getfield 20, 3) := by decide +kernel
theorem dX3_has_9 : decode cX3_has 9 = .ok (.if_icmp .ge 7, 3) := by decide +kernel
theorem dX3_has_12 : decode cX3_has 12 = .ok (.iconst 1, 1) := by decide +kernel
theorem dX3_has_13 : decode cX3_has 13 = .ok (.goto 4, 3) := by decide +kernel
theorem dX3_has_16 : decode cX3_has 16 = .ok (.iconst 0, 1) := by decide +kernel
theorem dX3_has_17 : decode cX3_has 17 = .ok (.ireturn, 1) := by decide +kernel
set_option maxRecDepth 20000 in
theorem ggX3_part_X5_get : GoodIn wsX3_part wsX5_get := goodIn_r _ [6, 7, 10] (by decide +kernel) (by decide +kernel)
set_option maxRecDepth 20000 in
theorem gX3_part_X5_get : GoodIn wsX3_part (wsV RX3 24 RX5 yX5_get wsX5_get) := goodIn_app (goodIn_of _ (by decide +kernel)) ggX3_part_X5_get
theorem dX3_part_0 : decode cX3_part 0 = .ok (.aload_n 0, 1) := by decide +kernel
theorem dX3_part_1 : decode cX3_part 1 = .ok (.getfield 14, 3) := by decide +kernel
theorem dX3_part_4 : decode cX3_part 4 = .ok (.iload_n 1, 1) := by decide +kernel
theorem dX3_part_5 : decode cX3_part 5 = .ok (.iconst 4, 1) := by decide +kernel
theorem dX3_part_6 : decode cX3_part 6 = .ok (.imul, 1) := by decide +kernel
theorem dX3_part_7 : decode cX3_part 7 = .ok (.iload_n 2, 1) := by decide +kernel
theorem dX3_part_8 : decode cX3_part 8 = .ok (.iadd, 1) := by decide +kernel
theorem dX3_part_9 : decode cX3_part 9 = .ok (.invokevirtual 24, 3) := by decide +kernel
theorem dX3_part_12 : decode cX3_part 12 = .ok (.ireturn, 1) := by decide +kernel
set_option maxRecDepth 20000 in
theorem ggX3_add_X5_set : GoodIn wsX3_add wsX5_set := goodIn_r _ [7, 8, 11] (by decide +kernel) (by decide +kernel)
set_option maxRecDepth 20000 in
theorem gX3_add_X5_set : GoodIn wsX3_add (wsV RX3 28 RX5 yX5_set wsX5_set) := goodIn_app (goodIn_of _ (by decide +kernel)) ggX3_add_X5_set
theorem dX3_add_0 : decode cX3_add 0 = .ok (.aload_n 0, 1) := by decide +kernel
theorem dX3_add_1 : decode cX3_add 1 = .ok (.getfield 20, 3) := by decide +kernel
theorem dX3_add_4 : decode cX3_add 4 = .ok (.bipush 60, 2) := by decide +kernel
theorem dX3_add_6 : decode cX3_add 6 = .ok (.if_icmp .lt 5, 3) := by decide +kernel
theorem dX3_add_9 : decode cX3_add 9 = .ok (.iconst 0, 1) := by decide +kernel
theorem dX3_add_10 : decode cX3_add 10 = .ok (.ireturn, 1) := by decide +kernel
theorem dX3_add_11 : decode cX3_add 11 = .ok (.aload_n 0, 1) := by decide +kernel
theorem dX3_add_12 : decode cX3_add 12 = .ok (.getfield 14, 3) := by decide +kernel
theorem dX3_add_15 : decode cX3_add 15 = .ok (.aload_n 0, 1) := by decide +kernel
theorem dX3_add_16 : decode cX3_add 16 = .ok (.getfield 20, 3) := by decide +kernel
theorem dX3_add_19 : decode cX3_add 19 = .ok (.iconst 4, 1) := by decide +kernel
theorem dX3_add_20 : decode cX3_add 20 = .ok (.imul, 1) := by decide +kernel
theorem dX3_add_21 : decode cX3_add 21 = .ok (.iconst 0, 1) := by decide +kernel
theorem dX3_add_22 : decode cX3_add 22 = .ok (.iadd, 1) := by decide +kernel
theorem dX3_add_23 : decode cX3_add 23 = .ok (.iload_n 1, 1) := by decide +kernel
theorem dX3_add_24 : decode cX3_add 24 = .ok (.invokevirtual 28, 3) := by decide +kernel
theorem dX3_add_27 : decode cX3_add 27 = .ok (.pop, 1) := by decide +kernel
theorem dX3_add_28 : decode cX3_add 28 = .ok (.aload_n 0, 1) := by decide +kernel
theorem dX3_add_29 : decode cX3_add 29 = .ok (.getfield 14, 3) := by decide +kernel
theorem dX3_add_32 : decode cX3_add 32 = .ok (.aload_n 0, 1) := by decide +kernel
theorem dX3_add_33 : decode cX3_add 33 = .ok (.getfield 20, 3) := by decide +kernel
theorem dX3_add_36 : decode cX3_add 36 = .ok (.iconst 4, 1) := by decide +kernel
theorem dX3_add_37 : decode cX3_add 37 = .ok (.imul, 1) := by decide +kernel
theorem dX3_add_38 : decode cX3_add 38 = .ok (.iconst 1, 1) := by decide +kernel
theorem dX3_add_39 : decode cX3_add 39 = .ok (.iadd, 1) := by decide +kernel
theorem dX3_add_40 : decode cX3_add 40 = .ok (.iload_n 2, 1) := by decide +kernel
theorem dX3_add_41 : decode cX3_add 41 = .ok (.invokevirtual 28, 3) := by decide +kernel
theorem dX3_add_44 : decode cX3_add 44 = .ok (.pop, 1) := by decide +kernel
theorem dX3_add_45 : decode cX3_add 45 = .ok (.aload_n 0, 1) := by decide +kernel
theorem dX3_add_46 : decode cX3_add 46 = .ok (.getfield 14, 3) := by decide +kernel
theorem dX3_add_49 : decode cX3_add 49 = .ok (.aload_n 0, 1) := by decide +kernel
theorem dX3_add_50 : decode cX3_add 50 = .ok (.getfield 20, 3) := by decide +kernel
theorem dX3_add_53 : decode cX3_add 53 = .ok (.iconst 4, 1) := by decide +kernel
theorem dX3_add_54 : decode cX3_add 54 = .ok (.imul, 1) := by decide +kernel
theorem dX3_add_55 : decode cX3_add 55 = .ok (.iconst 2, 1) := by decide +kernel
theorem dX3_add_56 : decode cX3_add 56 = .ok (.iadd, 1) := by decide +kernel
theorem dX3_add_57 : decode cX3_add 57 = .ok (.iload_n 3, 1) := by decide +kernel
theorem dX3_add_58 : decode cX3_add 58 = .ok (.invokevirtual 28, 3) := by decide +kernel
theorem dX3_add_61 : decode cX3_add 61 = .ok (.pop, 1) := by decide +kernel
theorem dX3_add_62 : decode cX3_add 62 = .ok (.aload_n 0, 1) := by decide +kernel
theorem dX3_add_63 : decode cX3_add 63 = .ok (.getfield 14, 3) := by decide +kernel
theorem dX3_add_66 : decode cX3_add 66 = .ok (.aload_n 0, 1) := by decide +kernel
theorem dX3_add_67 : decode cX3_add 67 = .ok (.getfield 20, 3) := by decide +kernel
theorem dX3_add_70 : decode cX3_add 70 = .ok (.iconst 4, 1) := by decide +kernel
theorem dX3_add_71 : decode cX3_add 71 = .ok (.imul, 1) := by decide +kernel
theorem dX3_add_72 : decode cX3_add 72 = .ok (.iconst 3, 1) := by decide +kernel
theorem dX3_add_73 : decode cX3_add 73 = .ok (.iadd, 1) := by decide +kernel
theorem dX3_add_74 : decode cX3_add 74 = .ok (.iload 4, 2) := by decide +kernel
theorem dX3_add_76 : decode cX3_add 76 = .ok (.invokevirtual 28, 3) := by decide +kernel
theorem dX3_add_79 : decode cX3_add 79 = .ok (.pop, 1) := by decide +kernel
theorem dX3_add_80 : decode cX3_add 80 = .ok (.aload_n 0, 1) := by decide +kernel
theorem dX3_add_81 : decode cX3_add 81 = .ok (.dup, 1) := by decide +kernel
theorem dX3_add_82 : decode cX3_add 82 = .ok (.getfield 20, 3) := by decide +kernel
theorem dX3_add_85 : decode cX3_add 85 = .ok (.iconst 1, 1) := by decide +kernel
theorem dX3_add_86 : decode cX3_add 86 = .ok (.iadd, 1) := by decide +kernel
theorem dX3_add_87 : decode cX3_add 87 = .ok (.putfield 20, 3) := by decide +kernel
theorem dX3_add_90 : decode cX3_add 90 = .ok (.iconst 1, 1) := by decide +kernel
theorem dX3_add_91 : decode cX3_add 91 = .ok (.ireturn, 1) := by decide +kernel
theorem dX3_clear_0 : decode cX3_clear 0 = .ok (.aload_n 0, 1) := by decide +kernel
theorem dX3_clear_1 : decode cX3_clear 1 = .ok (.getfield 20, 3) := by decide +kernel
theorem dX3_clear_4 : decode cX3_clear 4 = .ok (.istore_n 1, 1) := by decide +kernel
theorem dX3_clear_5 : decode cX3_clear 5 = .ok (.aload_n 0, 1) := by decide +kernel
theorem dX3_clear_6 : decode cX3_clear 6 = .ok (.iconst 0, 1) := by decide +kernel
theorem dX3_clear_7 : decode cX3_clear 7 = .ok (.putfield 20, 3) := by decide +kernel
theorem dX3_clear_10 : decode cX3_clear 10 = .ok (.iload_n 1, 1) := by decide +kernel
theorem dX3_clear_11 : decode cX3_clear 11 = .ok (.ireturn, 1) := by decide +kernel
set_option maxRecDepth 20000 in
theorem ggX4_init_X5_init : GoodIn wsX4_init wsX5_init := goodIn_r _ [17, 18, 2, 3, 19, 20, 21, 22, 23, 24, 25] (by decide +kernel) (by decide +kernel)
set_option maxRecDepth 20000 in
theorem gX4_init_X5_init : GoodIn wsX4_init (wsX5_init) := ggX4_init_X5_init
theorem dX4_init_0 : decode cX4_init 0 = .ok (.aload_n 0, 1) := by decide +kernel
theorem dX4_init_1 : decode cX4_init 1 = .ok (.invokespecial 3, 3) := by decide +kernel
theorem dX4_init_4 : decode cX4_init 4 = .ok (.aload_n 0, 1) := by decide +kernel
theorem dX4_init_5 : decode cX4_init 5 = .ok (.new 9, 3) := by decide +kernel
theorem dX4_init_8 : decode cX4_init 8 = .ok (.dup, 1) := by decide +kernel
theorem dX4_init_9 : decode cX4_init 9 = .ok (.bipush 6, 2) := by decide +kernel
theorem dX4_init_11 : decode cX4_init 11 = .ok (.invokespecial 11, 3) := by decide +kernel
theorem dX4_init_14 : decode cX4_init 14 = .ok (.putfield 14, 3) := by decide +kernel
theorem dX4_init_17 : decode cX4_init 17 = .ok (.aload_n 0, 1) := by decide +kernel
theorem dX4_init_18 : decode cX4_init 18 = .ok (.new 9, 3) := by decide +kernel
theorem dX4_init_21 : decode cX4_init 21 = .ok (.dup, 1) := by decide +kernel
theorem dX4_init_22 : decode cX4_init 22 = .ok (.bipush 6, 2) := by decide +kernel
theorem dX4_init_24 : decode cX4_init 24 = .ok (.invokespecial 11, 3) := by decide +kernel
theorem dX4_init_27 : decode cX4_init 27 = .ok (.putfield 20, 3) := by decide +kernel
theorem dX4_init_30 : decode cX4_init 30 = .ok (.aload_n 0, 1) := by decide +kernel
theorem dX4_init_31 : decode cX4_init 31 = .ok (.new 9, 3) := by decide +kernel
theorem dX4_init_34 : decode cX4_init 34 = .ok (.dup, 1) := by decide +kernel
theorem dX4_init_35 : decode cX4_init 35 = .ok (.bipush 6, 2) := by decide +kernel
theorem dX4_init_37 : decode cX4_init 37 = .ok (.invokespecial 11, 3) := by decide +kernel
theorem dX4_init_40 : decode cX4_init 40 = .ok (.putfield 23, 3) := by decide +kernel
theorem dX4_init_43 : decode cX4_init 43 = .ok (.aload_n 0, 1) := by decide +kernel
theorem dX4_init_44 : decode cX4_init 44 = .ok (.new 9, 3) := by decide +kernel
theorem dX4_init_47 : decode cX4_init 47 = .ok (.dup, 1) := by decide +kernel
theorem dX4_init_48 : decode cX4_init 48 = .ok (.bipush 6, 2) := by decide +kernel
theorem dX4_init_50 : decode cX4_init 50 = .ok (.invokespecial 11, 3) := by decide +kernel
theorem dX4_init_53 : decode cX4_init 53 = .ok (.putfield 26, 3) := by decide +kernel
theorem dX4_init_56 : decode cX4_init 56 = .ok (.aload_n 0, 1) := by decide +kernel
theorem dX4_init_57 : decode cX4_init 57 = .ok (.new 9, 3) := by decide +kernel
theorem dX4_init_60 : decode cX4_init 60 = .ok (.dup, 1) := by decide +kernel
theorem dX4_init_61 : decode cX4_init 61 = .ok (.bipush 6, 2) := by decide +kernel
theorem dX4_init_63 : decode cX4_init 63 = .ok (.invokespecial 11, 3) := by decide +kernel
theorem dX4_init_66 : decode cX4_init 66 = .ok (.putfield 29, 3) := by decide +kernel
theorem dX4_init_69 : decode cX4_init 69 = .ok (.aload_n 0, 1) := by decide +kernel
theorem dX4_init_70 : decode cX4_init 70 = .ok (.new 9, 3) := by decide +kernel
theorem dX4_init_73 : decode cX4_init 73 = .ok (.dup, 1) := by decide +kernel
theorem dX4_init_74 : decode cX4_init 74 = .ok (.bipush 24, 2) := by decide +kernel
theorem dX4_init_76 : decode cX4_init 76 = .ok (.invokespecial 11, 3) := by decide +kernel
theorem dX4_init_79 : decode cX4_init 79 = .ok (.putfield 32, 3) := by decide +kernel
theorem dX4_init_82 : decode cX4_init 82 = .ok (.aload_n 0, 1) := by decide +kernel
theorem dX4_init_83 : decode cX4_init 83 = .ok (.iconst 0, 1) := by decide +kernel
theorem dX4_init_84 : decode cX4_init 84 = .ok (.putfield 35, 3) := by decide +kernel
theorem dX4_init_87 : decode cX4_init 87 = .ok (.aload_n 0, 1) := by decide +kernel
theorem dX4_init_88 : decode cX4_init 88 = .ok (.iconst 0, 1) := by decide +kernel
theorem dX4_init_89 : decode cX4_init 89 = .ok (.putfield 39, 3) := by decide +kernel
theorem dX4_init_92 : decode cX4_init 92 = .ok (.return_, 1) := by decide +kernel
theorem dX4_size_0 : decode cX4_size 0 = .ok (.aload_n 0, 1) := by decide +kernel
theorem dX4_size_1 : decode cX4_size 1 = .ok (.getfield 39, 3) := by decide +kernel
theorem dX4_size_4 : decode cX4_size 4 = .ok (.ireturn, 1) := by decide +kernel
theorem dX4_clear_0 : decode cX4_clear 0 = .ok (.aload_n 0, 1) := by decide +kernel
theorem dX4_clear_1 : decode cX4_clear 1 = .ok (.iconst 0, 1) := by decide +kernel
theorem dX4_clear_2 : decode cX4_clear 2 = .ok (.putfield 39, 3) := by decide +kernel
theorem dX4_clear_5 : decode cX4_clear 5 = .ok (.return_, 1) := by decide +kernel
set_option maxRecDepth 20000 in
theorem ggX4_address_X5_get : GoodIn wsX4_address wsX5_get := goodIn_r _ [8, 9, 18] (by decide +kernel) (by decide +kernel)
set_option maxRecDepth 20000 in
theorem gX4_address_X5_get : GoodIn wsX4_address (wsV RX4 42 RX5 yX5_get wsX5_get) := goodIn_app (goodIn_of _ (by decide +kernel)) ggX4_address_X5_get
theorem dX4_address_0 : decode cX4_address 0 = .ok (.iload_n 1, 1) := by decide +kernel
theorem dX4_address_1 : decode cX4_address 1 = .ok (.ifCond .lt 30, 3) := by decide +kernel
theorem dX4_address_4 : decode cX4_address 4 = .ok (.iload_n 1, 1) := by decide +kernel
theorem dX4_address_5 : decode cX4_address 5 = .ok (.aload_n 0, 1) := by decide +kernel
theorem dX4_address_6 : decode cX4_address 6 = .ok (.getfield 39, 3) := by decide +kernel
theorem dX4_address_9 : decode cX4_address 9 = .ok (.if_icmp .ge 22, 3) := by decide +kernel
theorem dX4_address_12 : decode cX4_address 12 = .ok (.aload_n 0, 1) := by decide +kernel
theorem dX4_address_13 : decode cX4_address 13 = .ok (.getfield 14, 3) := by decide +kernel
theorem dX4_address_16 : decode cX4_address 16 = .ok (.aload_n 0, 1) := by decide +kernel
theorem dX4_address_17 : decode cX4_address 17 = .ok (.getfield 35, 3) := by decide +kernel
theorem dX4_address_20 : decode cX4_address 20 = .ok (.iload_n 1, 1) := by decide +kernel
theorem dX4_address_21 : decode cX4_address 21 = .ok (.iadd, 1) := by decide +kernel
theorem dX4_address_22 : decode cX4_address 22 = .ok (.bipush 6, 2) := by decide +kernel
theorem dX4_address_24 : decode cX4_address 24 = .ok (.irem, 1) := by decide +kernel
theorem dX4_address_25 : decode cX4_address 25 = .ok (.invokevirtual 42, 3) := by decide +kernel
theorem dX4_address_28 : decode cX4_address 28 = .ok (.goto 4, 3) := by decide +kernel
theorem dX4_address_31 : decode cX4_address 31 = .ok (.iconst (-1), 1) := by decide +kernel
theorem dX4_address_32 : decode cX4_address 32 = .ok (.ireturn, 1) := by decide +kernel
set_option maxRecDepth 20000 in
theorem ggX4_isEldestOf_X5_get : GoodIn wsX4_isEldestOf wsX5_get := goodIn_r _ [8, 9, 18] (by decide +kernel) (by decide +kernel)
set_option maxRecDepth 20000 in
theorem gX4_isEldestOf_X5_get : GoodIn wsX4_isEldestOf (wsV RX4 42 RX5 yX5_get wsX5_get) := goodIn_app (goodIn_of _ (by decide +kernel)) ggX4_isEldestOf_X5_get
theorem dX4_isEldestOf_0 : decode cX4_isEldestOf 0 = .ok (.aload_n 0, 1) := by decide +kernel
theorem dX4_isEldestOf_1 : decode cX4_isEldestOf 1 = .ok (.getfield 39, 3) := by decide +kernel
theorem dX4_isEldestOf_4 : decode cX4_isEldestOf 4 = .ok (.ifCond .le 22, 3) := by decide +kernel
theorem dX4_isEldestOf_7 : decode cX4_isEldestOf 7 = .ok (.aload_n 0, 1) := by decide +kernel
theorem dX4_isEldestOf_8 : decode cX4_isEldestOf 8 = .ok (.getfield 23, 3) := by decide +kernel
theorem dX4_isEldestOf_11 : decode cX4_isEldestOf 11 = .ok (.aload_n 0, 1) := by decide +kernel
theorem dX4_isEldestOf_12 : decode cX4_isEldestOf 12 = .ok (.getfield 35, 3) := by decide +kernel
theorem dX4_isEldestOf_15 : decode cX4_isEldestOf 15 = .ok (.invokevirtual 42, 3) := by decide +kernel
theorem dX4_isEldestOf_18 : decode cX4_isEldestOf 18 = .ok (.iload_n 1, 1) := by decide +kernel
theorem dX4_isEldestOf_19 : decode cX4_isEldestOf 19 = .ok (.if_icmp .ne 7, 3) := by decide +kernel
theorem dX4_isEldestOf_22 : decode cX4_isEldestOf 22 = .ok (.iconst 1, 1) := by decide +kernel
theorem dX4_isEldestOf_23 : decode cX4_isEldestOf 23 = .ok (.goto 4, 3) := by decide +kernel
theorem dX4_isEldestOf_26 : decode cX4_isEldestOf 26 = .ok (.iconst 0, 1) := by decide +kernel
theorem dX4_isEldestOf_27 : decode cX4_isEldestOf 27 = .ok (.ireturn, 1) := by decide +kernel
theorem dX4_takeEldest_0 : decode cX4_takeEldest 0 = .ok (.aload_n 0, 1) := by decide +kernel
theorem dX4_takeEldest_1 : decode cX4_takeEldest 1 = .ok (.getfield 35, 3) := by decide +kernel
theorem dX4_takeEldest_4 : decode cX4_takeEldest 4 = .ok (.istore_n 1, 1) := by decide +kernel
theorem dX4_takeEldest_5 : decode cX4_takeEldest 5 = .ok (.aload_n 0, 1) := by decide +kernel
theorem dX4_takeEldest_6 : decode cX4_takeEldest 6 = .ok (.aload_n 0, 1) := by decide +kernel
theorem dX4_takeEldest_7 : decode cX4_takeEldest 7 = .ok (.getfield 35, 3) := by decide +kernel
theorem dX4_takeEldest_10 : decode cX4_takeEldest 10 = .ok (.iconst 1, 1) := by decide +kernel
theorem dX4_takeEldest_11 : decode cX4_takeEldest 11 = .ok (.iadd, 1) := by decide +kernel
theorem dX4_takeEldest_12 : decode cX4_takeEldest 12 = .ok (.bipush 6, 2) := by decide +kernel
theorem dX4_takeEldest_14 : decode cX4_takeEldest 14 = .ok (.irem, 1) := by decide +kernel
theorem dX4_takeEldest_15 : decode cX4_takeEldest 15 = .ok (.putfield 35, 3) := by decide +kernel
theorem dX4_takeEldest_18 : decode cX4_takeEldest 18 = .ok (.aload_n 0, 1) := by decide +kernel
theorem dX4_takeEldest_19 : decode cX4_takeEldest 19 = .ok (.iconst 0, 1) := by decide +kernel
theorem dX4_takeEldest_20 : decode cX4_takeEldest 20 = .ok (.aload_n 0, 1) := by decide +kernel
theorem dX4_takeEldest_21 : decode cX4_takeEldest 21 = .ok (.getfield 39, 3) := by decide +kernel
theorem dX4_takeEldest_24 : decode cX4_takeEldest 24 = .ok (.iconst 1, 1) := by decide +kernel
theorem dX4_takeEldest_25 : decode cX4_takeEldest 25 = .ok (.isub, 1) := by decide +kernel
theorem dX4_takeEldest_26 : decode cX4_takeEldest 26 = .ok (.invokestatic 46, 3) := by decide +kernel
theorem dX4_takeEldest_29 : decode cX4_takeEldest 29 = .ok (.putfield 39, 3) := by decide +kernel
theorem dX4_takeEldest_32 : decode cX4_takeEldest 32 = .ok (.iload_n 1, 1) := by decide +kernel
theorem dX4_takeEldest_33 : decode cX4_takeEldest 33 = .ok (.ireturn, 1) := by decide +kernel
set_option maxRecDepth 20000 in
theorem ggX4_addressOf_X5_get : GoodIn wsX4_addressOf wsX5_get := goodIn_r _ [6, 7, 16] (by decide +kernel) (by decide +kernel)
set_option maxRecDepth 20000 in
theorem gX4_addressOf_X5_get : GoodIn wsX4_addressOf (wsV RX4 42 RX5 yX5_get wsX5_get) := goodIn_app (goodIn_of _ (by decide +kernel)) ggX4_addressOf_X5_get
theorem dX4_addressOf_0 : decode cX4_addressOf 0 = .ok (.aload_n 0, 1) := by decide +kernel
theorem dX4_addressOf_1 : decode cX4_addressOf 1 = .ok (.getfield 14, 3) := by decide +kernel
theorem dX4_addressOf_4 : decode cX4_addressOf 4 = .ok (.iload_n 1, 1) := by decide +kernel
theorem dX4_addressOf_5 : decode cX4_addressOf 5 = .ok (.invokevirtual 42, 3) := by decide +kernel
theorem dX4_addressOf_8 : decode cX4_addressOf 8 = .ok (.ireturn, 1) := by decide +kernel
set_option maxRecDepth 20000 in
theorem ggX4_guessOf_X5_get : GoodIn wsX4_guessOf wsX5_get := goodIn_r _ [6, 7, 16] (by decide +kernel) (by decide +kernel)
set_option maxRecDepth 20000 in
theorem gX4_guessOf_X5_get : GoodIn wsX4_guessOf (wsV RX4 42 RX5 yX5_get wsX5_get) := goodIn_app (goodIn_of _ (by decide +kernel)) ggX4_guessOf_X5_get
theorem dX4_guessOf_0 : decode cX4_guessOf 0 = .ok (.aload_n 0, 1) := by decide +kernel
theorem dX4_guessOf_1 : decode cX4_guessOf 1 = .ok (.getfield 20, 3) := by decide +kernel
theorem dX4_guessOf_4 : decode cX4_guessOf 4 = .ok (.iload_n 1, 1) := by decide +kernel
theorem dX4_guessOf_5 : decode cX4_guessOf 5 = .ok (.invokevirtual 42, 3) := by decide +kernel
theorem dX4_guessOf_8 : decode cX4_guessOf 8 = .ok (.ireturn, 1) := by decide +kernel
set_option maxRecDepth 20000 in
theorem ggX4_historyOf_X5_get : GoodIn wsX4_historyOf wsX5_get := goodIn_r _ [6, 7, 16] (by decide +kernel) (by decide +kernel)
set_option maxRecDepth 20000 in
theorem gX4_historyOf_X5_get : GoodIn wsX4_historyOf (wsV RX4 42 RX5 yX5_get wsX5_get) := goodIn_app (goodIn_of _ (by decide +kernel)) ggX4_historyOf_X5_get
theorem dX4_historyOf_0 : decode cX4_historyOf 0 = .ok (.aload_n 0, 1) := by decide +kernel
theorem dX4_historyOf_1 : decode cX4_historyOf 1 = .ok (.getfield 26, 3) := by decide +kernel
theorem dX4_historyOf_4 : decode cX4_historyOf 4 = .ok (.iload_n 1, 1) := by decide +kernel
theorem dX4_historyOf_5 : decode cX4_historyOf 5 = .ok (.invokevirtual 42, 3) := by decide +kernel
theorem dX4_historyOf_8 : decode cX4_historyOf 8 = .ok (.ireturn, 1) := by decide +kernel
set_option maxRecDepth 20000 in
theorem ggX4_setGuess_X5_set : GoodIn wsX4_setGuess wsX5_set := goodIn_r _ [6, 7, 16] (by decide +kernel) (by decide +kernel)
set_option maxRecDepth 20000 in
theorem gX4_setGuess_X5_set : GoodIn wsX4_setGuess (wsV RX4 52 RX5 yX5_set wsX5_set) := goodIn_app (goodIn_of _ (by decide +kernel)) ggX4_setGuess_X5_set
theorem dX4_setGuess_0 : decode cX4_setGuess 0 = .ok (.aload_n 0, 1) := by decide +kernel
theorem dX4_setGuess_1 : decode cX4_setGuess 1 = .ok (.getfield 20, 3) := by decide +kernel
theorem dX4_setGuess_4 : decode cX4_setGuess 4 = .ok (.iload_n 1, 1) := by decide +kernel
theorem dX4_setGuess_5 : decode cX4_setGuess 5 = .ok (.iload_n 2, 1) := by decide +kernel
theorem dX4_setGuess_6 : decode cX4_setGuess 6 = .ok (.invokevirtual 52, 3) := by decide +kernel
theorem dX4_setGuess_9 : decode cX4_setGuess 9 = .ok (.pop, 1) := by decide +kernel
theorem dX4_setGuess_10 : decode cX4_setGuess 10 = .ok (.return_, 1) := by decide +kernel
set_option maxRecDepth 20000 in
theorem ggX4_add_X5_set : GoodIn wsX4_add wsX5_set := goodIn_r _ [13, 14, 23] (by decide +kernel) (by decide +kernel)
set_option maxRecDepth 20000 in
theorem gX4_add_X5_set : GoodIn wsX4_add (wsV RX4 52 RX5 yX5_set wsX5_set) := goodIn_app (goodIn_of _ (by decide +kernel)) ggX4_add_X5_set
theorem dX4_add_0 : decode cX4_add 0 = .ok (.aload_n 0, 1) := by decide +kernel
theorem dX4_add_1 : decode cX4_add 1 = .ok (.getfield 35, 3) := by decide +kernel
theorem dX4_add_4 : decode cX4_add 4 = .ok (.aload_n 0, 1) := by decide +kernel
theorem dX4_add_5 : decode cX4_add 5 = .ok (.getfield 39, 3) := by decide +kernel
theorem dX4_add_8 : decode cX4_add 8 = .ok (.iadd, 1) := by decide +kernel
theorem dX4_add_9 : decode cX4_add 9 = .ok (.bipush 6, 2) := by decide +kernel
theorem dX4_add_11 : decode cX4_add 11 = .ok (.irem, 1) := by decide +kernel
theorem dX4_add_12 : decode cX4_add 12 = .ok (.istore_n 3, 1) := by decide +kernel
theorem dX4_add_13 : decode cX4_add 13 = .ok (.aload_n 0, 1) := by decide +kernel
theorem dX4_add_14 : decode cX4_add 14 = .ok (.bipush 6, 2) := by decide +kernel
theorem dX4_add_16 : decode cX4_add 16 = .ok (.aload_n 0, 1) := by decide +kernel
theorem dX4_add_17 : decode cX4_add 17 = .ok (.getfield 39, 3) := by decide +kernel
theorem dX4_add_20 : decode cX4_add 20 = .ok (.iconst 1, 1) := by decide +kernel
theorem dX4_add_21 : decode cX4_add 21 = .ok (.iadd, 1) := by decide +kernel
theorem dX4_add_22 : decode cX4_add 22 = .ok (.invokestatic 55, 3) := by decide +kernel
theorem dX4_add_25 : decode cX4_add 25 = .ok (.putfield 39, 3) := by decide +kernel
theorem dX4_add_28 : decode cX4_add 28 = .ok (.aload_n 0, 1) := by decide +kernel
theorem dX4_add_29 : decode cX4_add 29 = .ok (.getfield 14, 3) := by decide +kernel
theorem dX4_add_32 : decode cX4_add 32 = .ok (.iload_n 3, 1) := by decide +kernel
theorem dX4_add_33 : decode cX4_add 33 = .ok (.iload_n 1, 1) := by decide +kernel
theorem dX4_add_34 : decode cX4_add 34 = .ok (.invokevirtual 52, 3) := by decide +kernel
theorem dX4_add_37 : decode cX4_add 37 = .ok (.pop, 1) := by decide +kernel
theorem dX4_add_38 : decode cX4_add 38 = .ok (.aload_n 0, 1) := by decide +kernel
theorem dX4_add_39 : decode cX4_add 39 = .ok (.getfield 23, 3) := by decide +kernel
theorem dX4_add_42 : decode cX4_add 42 = .ok (.iload_n 3, 1) := by decide +kernel
theorem dX4_add_43 : decode cX4_add 43 = .ok (.iload_n 2, 1) := by decide +kernel
theorem dX4_add_44 : decode cX4_add 44 = .ok (.invokevirtual 52, 3) := by decide +kernel
theorem dX4_add_47 : decode cX4_add 47 = .ok (.pop, 1) := by decide +kernel
theorem dX4_add_48 : decode cX4_add 48 = .ok (.iload_n 3, 1) := by decide +kernel
theorem dX4_add_49 : decode cX4_add 49 = .ok (.ireturn, 1) := by decide +kernel
set_option maxRecDepth 20000 in
theorem ggX4_keep_X5_set : GoodIn wsX4_keep wsX5_set := goodIn_r _ [8, 9, 33] (by decide +kernel) (by decide +kernel)
set_option maxRecDepth 20000 in
theorem gX4_keep_X5_set : GoodIn wsX4_keep (wsV RX4 52 RX5 yX5_set wsX5_set) := goodIn_app (goodIn_of _ (by decide +kernel)) ggX4_keep_X5_set
set_option maxRecDepth 20000 in
theorem ggX4_keep_X2_size : GoodIn wsX4_keep wsX2_size := goodIn_r _ [14, 15, 34, 35] (by decide +kernel) (by decide +kernel)
set_option maxRecDepth 20000 in
theorem gX4_keep_X2_size : GoodIn wsX4_keep (wsV RX4 58 RX2 yX2_size wsX2_size) := goodIn_app (goodIn_of _ (by decide +kernel)) ggX4_keep_X2_size
set_option maxRecDepth 20000 in
theorem ggX4_keep_X2_get : GoodIn wsX4_keep wsX2_get := goodIn_r _ [19, 20, 21, 22, 23, 13, 24, 15, 34, 35] (by decide +kernel) (by decide +kernel)
set_option maxRecDepth 20000 in
theorem gX4_keep_X2_get : GoodIn wsX4_keep (wsV RX4 63 RX2 yX2_get wsX2_get) := goodIn_app (goodIn_of _ (by decide +kernel)) ggX4_keep_X2_get
theorem dX4_keep_0 : decode cX4_keep 0 = .ok (.aload_n 0, 1) := by decide +kernel
theorem dX4_keep_1 : decode cX4_keep 1 = .ok (.getfield 26, 3) := by decide +kernel
theorem dX4_keep_4 : decode cX4_keep 4 = .ok (.iload_n 1, 1) := by decide +kernel
theorem dX4_keep_5 : decode cX4_keep 5 = .ok (.iload_n 2, 1) := by decide +kernel
theorem dX4_keep_6 : decode cX4_keep 6 = .ok (.invokevirtual 52, 3) := by decide +kernel
theorem dX4_keep_9 : decode cX4_keep 9 = .ok (.pop, 1) := by decide +kernel
theorem dX4_keep_10 : decode cX4_keep 10 = .ok (.aload_n 0, 1) := by decide +kernel
theorem dX4_keep_11 : decode cX4_keep 11 = .ok (.getfield 29, 3) := by decide +kernel
theorem dX4_keep_14 : decode cX4_keep 14 = .ok (.iload_n 1, 1) := by decide +kernel
theorem dX4_keep_15 : decode cX4_keep 15 = .ok (.aload_n 3, 1) := by decide +kernel
theorem dX4_keep_16 : decode cX4_keep 16 = .ok (.invokevirtual 58, 3) := by decide +kernel
theorem dX4_keep_19 : decode cX4_keep 19 = .ok (.invokevirtual 52, 3) := by decide +kernel
theorem dX4_keep_22 : decode cX4_keep 22 = .ok (.pop, 1) := by decide +kernel
theorem dX4_keep_23 : decode cX4_keep 23 = .ok (.iconst 0, 1) := by decide +kernel
theorem dX4_keep_24 : decode cX4_keep 24 = .ok (.istore 4, 2) := by decide +kernel
theorem dX4_keep_26 : decode cX4_keep 26 = .ok (.iload 4, 2) := by decide +kernel
theorem dX4_keep_28 : decode cX4_keep 28 = .ok (.iconst 4, 1) := by decide +kernel
theorem dX4_keep_29 : decode cX4_keep 29 = .ok (.if_icmp .ge 29, 3) := by decide +kernel
theorem dX4_keep_32 : decode cX4_keep 32 = .ok (.aload_n 0, 1) := by decide +kernel
theorem dX4_keep_33 : decode cX4_keep 33 = .ok (.getfield 32, 3) := by decide +kernel
theorem dX4_keep_36 : decode cX4_keep 36 = .ok (.iload_n 1, 1) := by decide +kernel
theorem dX4_keep_37 : decode cX4_keep 37 = .ok (.iconst 4, 1) := by decide +kernel
theorem dX4_keep_38 : decode cX4_keep 38 = .ok (.imul, 1) := by decide +kernel
theorem dX4_keep_39 : decode cX4_keep 39 = .ok (.iload 4, 2) := by decide +kernel
theorem dX4_keep_41 : decode cX4_keep 41 = .ok (.iadd, 1) := by decide +kernel
theorem dX4_keep_42 : decode cX4_keep 42 = .ok (.aload_n 3, 1) := by decide +kernel
theorem dX4_keep_43 : decode cX4_keep 43 = .ok (.iload 4, 2) := by decide +kernel
theorem dX4_keep_45 : decode cX4_keep 45 = .ok (.invokevirtual 63, 3) := by decide +kernel
theorem dX4_keep_48 : decode cX4_keep 48 = .ok (.invokevirtual 52, 3) := by decide +kernel
theorem dX4_keep_51 : decode cX4_keep 51 = .ok (.pop, 1) := by decide +kernel
theorem dX4_keep_52 : decode cX4_keep 52 = .ok (.iinc 4 1, 3) := by decide +kernel
theorem dX4_keep_55 : decode cX4_keep 55 = .ok (.goto (-29), 3) := by decide +kernel
theorem dX4_keep_58 : decode cX4_keep 58 = .ok (.return_, 1) := by decide +kernel
set_option maxRecDepth 20000 in
theorem ggX4_giveReturnsBack_X2_clear : GoodIn wsX4_giveReturnsBack wsX2_clear := goodIn_r _ [7, 8, 28, 29] (by decide +kernel) (by decide +kernel)
set_option maxRecDepth 20000 in
theorem gX4_giveReturnsBack_X2_clear : GoodIn wsX4_giveReturnsBack (wsV RX4 64 RX2 yX2_clear wsX2_clear) := goodIn_app (goodIn_of _ (by decide +kernel)) ggX4_giveReturnsBack_X2_clear
set_option maxRecDepth 20000 in
theorem ggX4_giveReturnsBack_X5_get : GoodIn wsX4_giveReturnsBack wsX5_get := goodIn_r _ [13, 14, 30] (by decide +kernel) (by decide +kernel)
set_option maxRecDepth 20000 in
theorem gX4_giveReturnsBack_X5_get : GoodIn wsX4_giveReturnsBack (wsV RX4 42 RX5 yX5_get wsX5_get) := goodIn_app (goodIn_of _ (by decide +kernel)) ggX4_giveReturnsBack_X5_get
set_option maxRecDepth 20000 in
theorem ggX4_giveReturnsBack_X2_push : GoodIn wsX4_giveReturnsBack wsX2_push := goodIn_r _ [18, 8, 19, 28, 29] (by decide +kernel) (by decide +kernel)
set_option maxRecDepth 20000 in
theorem gX4_giveReturnsBack_X2_push : GoodIn wsX4_giveReturnsBack (wsV RX4 67 RX2 yX2_push wsX2_push) := goodIn_app (goodIn_of _ (by decide +kernel)) ggX4_giveReturnsBack_X2_push
theorem dX4_giveReturnsBack_0 : decode cX4_giveReturnsBack 0 = .ok (.aload_n 2, 1) := by decide +kernel
theorem dX4_giveReturnsBack_1 : decode cX4_giveReturnsBack 1 = .ok (.invokevirtual 64, 3) := by decide +kernel
theorem dX4_giveReturnsBack_4 : decode cX4_giveReturnsBack 4 = .ok (.iconst 0, 1) := by decide +kernel
theorem dX4_giveReturnsBack_5 : decode cX4_giveReturnsBack 5 = .ok (.istore_n 3, 1) := by decide +kernel
theorem dX4_giveReturnsBack_6 : decode cX4_giveReturnsBack 6 = .ok (.iload_n 3, 1) := by decide +kernel
theorem dX4_giveReturnsBack_7 : decode cX4_giveReturnsBack 7 = .ok (.iconst 4, 1) := by decide +kernel
theorem dX4_giveReturnsBack_8 : decode cX4_giveReturnsBack 8 = .ok (.if_icmp .ge 38, 3) := by decide +kernel
theorem dX4_giveReturnsBack_11 : decode cX4_giveReturnsBack 11 = .ok (.iload_n 3, 1) := by decide +kernel
theorem dX4_giveReturnsBack_12 : decode cX4_giveReturnsBack 12 = .ok (.aload_n 0, 1) := by decide +kernel
theorem dX4_giveReturnsBack_13 : decode cX4_giveReturnsBack 13 = .ok (.getfield 29, 3) := by decide +kernel
theorem dX4_giveReturnsBack_16 : decode cX4_giveReturnsBack 16 = .ok (.iload_n 1, 1) := by decide +kernel
theorem dX4_giveReturnsBack_17 : decode cX4_giveReturnsBack 17 = .ok (.invokevirtual 42, 3) := by decide +kernel
theorem dX4_giveReturnsBack_20 : decode cX4_giveReturnsBack 20 = .ok (.if_icmp .ge 26, 3) := by decide +kernel
theorem dX4_giveReturnsBack_23 : decode cX4_giveReturnsBack 23 = .ok (.aload_n 2, 1) := by decide +kernel
theorem dX4_giveReturnsBack_24 : decode cX4_giveReturnsBack 24 = .ok (.aload_n 0, 1) := by decide +kernel
theorem dX4_giveReturnsBack_25 : decode cX4_giveReturnsBack 25 = .ok (.getfield 32, 3) := by decide +kernel
theorem dX4_giveReturnsBack_28 : decode cX4_giveReturnsBack 28 = .ok (.iload_n 1, 1) := by decide +kernel
theorem dX4_giveReturnsBack_29 : decode cX4_giveReturnsBack 29 = .ok (.iconst 4, 1) := by decide +kernel
theorem dX4_giveReturnsBack_30 : decode cX4_giveReturnsBack 30 = .ok (.imul, 1) := by decide +kernel
theorem dX4_giveReturnsBack_31 : decode cX4_giveReturnsBack 31 = .ok (.iload_n 3, 1) := by decide +kernel
theorem dX4_giveReturnsBack_32 : decode cX4_giveReturnsBack 32 = .ok (.iadd, 1) := by decide +kernel
theorem dX4_giveReturnsBack_33 : decode cX4_giveReturnsBack 33 = .ok (.invokevirtual 42, 3) := by decide +kernel
theorem dX4_giveReturnsBack_36 : decode cX4_giveReturnsBack 36 = .ok (.invokevirtual 67, 3) := by decide +kernel
theorem dX4_giveReturnsBack_39 : decode cX4_giveReturnsBack 39 = .ok (.pop, 1) := by decide +kernel
theorem dX4_giveReturnsBack_40 : decode cX4_giveReturnsBack 40 = .ok (.iinc 3 1, 3) := by decide +kernel
theorem dX4_giveReturnsBack_43 : decode cX4_giveReturnsBack 43 = .ok (.goto (-37), 3) := by decide +kernel
theorem dX4_giveReturnsBack_46 : decode cX4_giveReturnsBack 46 = .ok (.return_, 1) := by decide +kernel
theorem dX5_init_0 : decode cX5_init 0 = .ok (.aload_n 0, 1) := by decide +kernel
theorem dX5_init_1 : decode cX5_init 1 = .ok (.invokespecial 1, 3) := by decide +kernel

theorem dX0_init_0 : decode cX0_init 0 = .ok (.aload_n 0, 1) := by decide +kernel
theorem dX0_init_1 : decode cX0_init 1 = .ok (.invokespecial 3, 3) := by decide +kernel
theorem dX0_init_4 : decode cX0_init 4 = .ok (.aload_n 0, 1) := by decide +kernel
theorem dX0_init_5 : decode cX0_init 5 = .ok (.iconst 0, 1) := by decide +kernel
theorem dX0_init_6 : decode cX0_init 6 = .ok (.putfield 9, 3) := by decide +kernel
theorem dX0_init_9 : decode cX0_init 9 = .ok (.aload_n 0, 1) := by decide +kernel
theorem dX0_init_10 : decode cX0_init 10 = .ok (.iconst 1, 1) := by decide +kernel
theorem dX0_init_11 : decode cX0_init 11 = .ok (.putfield 15, 3) := by decide +kernel
theorem dX0_init_14 : decode cX0_init 14 = .ok (.aload_n 0, 1) := by decide +kernel
theorem dX0_init_15 : decode cX0_init 15 = .ok (.iconst 0, 1) := by decide +kernel
theorem dX0_init_16 : decode cX0_init 16 = .ok (.putfield 18, 3) := by decide +kernel
theorem dX0_init_19 : decode cX0_init 19 = .ok (.aload_n 0, 1) := by decide +kernel
theorem dX0_init_20 : decode cX0_init 20 = .ok (.iconst 0, 1) := by decide +kernel
theorem dX0_init_21 : decode cX0_init 21 = .ok (.putfield 21, 3) := by decide +kernel
theorem dX0_init_24 : decode cX0_init 24 = .ok (.aload_n 0, 1) := by decide +kernel
theorem dX0_init_25 : decode cX0_init 25 = .ok (.iconst 0, 1) := by decide +kernel
theorem dX0_init_26 : decode cX0_init 26 = .ok (.putfield 24, 3) := by decide +kernel
theorem dX0_init_29 : decode cX0_init 29 = .ok (.aload_n 0, 1) := by decide +kernel
theorem dX0_init_30 : decode cX0_init 30 = .ok (.iconst 0, 1) := by decide +kernel
theorem dX0_init_31 : decode cX0_init 31 = .ok (.putfield 27, 3) := by decide +kernel
theorem dX0_init_34 : decode cX0_init 34 = .ok (.aload_n 0, 1) := by decide +kernel
theorem dX0_init_35 : decode cX0_init 35 = .ok (.iconst 0, 1) := by decide +kernel
theorem dX0_init_36 : decode cX0_init 36 = .ok (.putfield 30, 3) := by decide +kernel
theorem dX0_init_39 : decode cX0_init 39 = .ok (.aload_n 0, 1) := by decide +kernel
theorem dX0_init_40 : decode cX0_init 40 = .ok (.iconst 0, 1) := by decide +kernel
theorem dX0_init_41 : decode cX0_init 41 = .ok (.putfield 34, 3) := by decide +kernel
theorem dX0_init_44 : decode cX0_init 44 = .ok (.aload_n 0, 1) := by decide +kernel
theorem dX0_init_45 : decode cX0_init 45 = .ok (.iconst 0, 1) := by decide +kernel
theorem dX0_init_46 : decode cX0_init 46 = .ok (.putfield 37, 3) := by decide +kernel
theorem dX0_init_49 : decode cX0_init 49 = .ok (.aload_n 0, 1) := by decide +kernel
theorem dX0_init_50 : decode cX0_init 50 = .ok (.iconst 0, 1) := by decide +kernel
theorem dX0_init_51 : decode cX0_init 51 = .ok (.putfield 40, 3) := by decide +kernel
theorem dX0_init_54 : decode cX0_init 54 = .ok (.aload_n 0, 1) := by decide +kernel
theorem dX0_init_55 : decode cX0_init 55 = .ok (.iconst 0, 1) := by decide +kernel
theorem dX0_init_56 : decode cX0_init 56 = .ok (.putfield 43, 3) := by decide +kernel
theorem dX0_init_59 : decode cX0_init 59 = .ok (.aload_n 0, 1) := by decide +kernel
theorem dX0_init_60 : decode cX0_init 60 = .ok (.iconst 0, 1) := by decide +kernel
theorem dX0_init_61 : decode cX0_init 61 = .ok (.putfield 46, 3) := by decide +kernel
theorem dX0_init_64 : decode cX0_init 64 = .ok (.return_, 1) := by decide +kernel
theorem dX0_begin_0 : decode cX0_begin 0 = .ok (.aload_n 0, 1) := by decide +kernel
theorem dX0_begin_1 : decode cX0_begin 1 = .ok (.iload_n 1, 1) := by decide +kernel
theorem dX0_begin_2 : decode cX0_begin 2 = .ok (.putfield 9, 3) := by decide +kernel
theorem dX0_begin_5 : decode cX0_begin 5 = .ok (.aload_n 0, 1) := by decide +kernel
theorem dX0_begin_6 : decode cX0_begin 6 = .ok (.iload_n 2, 1) := by decide +kernel
theorem dX0_begin_7 : decode cX0_begin 7 = .ok (.putfield 15, 3) := by decide +kernel
theorem dX0_begin_10 : decode cX0_begin 10 = .ok (.aload_n 0, 1) := by decide +kernel
theorem dX0_begin_11 : decode cX0_begin 11 = .ok (.iconst 0, 1) := by decide +kernel
theorem dX0_begin_12 : decode cX0_begin 12 = .ok (.putfield 18, 3) := by decide +kernel
theorem dX0_begin_15 : decode cX0_begin 15 = .ok (.aload_n 0, 1) := by decide +kernel
theorem dX0_begin_16 : decode cX0_begin 16 = .ok (.iconst 0, 1) := by decide +kernel
theorem dX0_begin_17 : decode cX0_begin 17 = .ok (.putfield 21, 3) := by decide +kernel
theorem dX0_begin_20 : decode cX0_begin 20 = .ok (.aload_n 0, 1) := by decide +kernel
theorem dX0_begin_21 : decode cX0_begin 21 = .ok (.iconst 0, 1) := by decide +kernel
theorem dX0_begin_22 : decode cX0_begin 22 = .ok (.putfield 24, 3) := by decide +kernel
theorem dX0_begin_25 : decode cX0_begin 25 = .ok (.aload_n 0, 1) := by decide +kernel
theorem dX0_begin_26 : decode cX0_begin 26 = .ok (.iconst 0, 1) := by decide +kernel
theorem dX0_begin_27 : decode cX0_begin 27 = .ok (.putfield 30, 3) := by decide +kernel
theorem dX0_begin_30 : decode cX0_begin 30 = .ok (.return_, 1) := by decide +kernel
theorem dX0_descriptorAddress_0 : decode cX0_descriptorAddress 0 = .ok (.aload_n 0, 1) := by decide +kernel
theorem dX0_descriptorAddress_1 : decode cX0_descriptorAddress 1 = .ok (.getfield 9, 3) := by decide +kernel
theorem dX0_descriptorAddress_4 : decode cX0_descriptorAddress 4 = .ok (.iconst 4, 1) := by decide +kernel
theorem dX0_descriptorAddress_5 : decode cX0_descriptorAddress 5 = .ok (.aload_n 0, 1) := by decide +kernel
theorem dX0_descriptorAddress_6 : decode cX0_descriptorAddress 6 = .ok (.getfield 18, 3) := by decide +kernel
theorem dX0_descriptorAddress_9 : decode cX0_descriptorAddress 9 = .ok (.imul, 1) := by decide +kernel
theorem dX0_descriptorAddress_10 : decode cX0_descriptorAddress 10 = .ok (.iadd, 1) := by decide +kernel
theorem dX0_descriptorAddress_11 : decode cX0_descriptorAddress 11 = .ok (.ireturn, 1) := by decide +kernel
theorem dX0_take_0 : decode cX0_take 0 = .ok (.iload_n 1, 1) := by decide +kernel
theorem dX0_take_1 : decode cX0_take 1 = .ok (.tableswitch 55 0 2 #[27, 35, 43], 27) := by decide +kernel
theorem dX0_take_28 : decode cX0_take 28 = .ok (.aload_n 0, 1) := by decide +kernel
theorem dX0_take_29 : decode cX0_take 29 = .ok (.iload_n 2, 1) := by decide +kernel
theorem dX0_take_30 : decode cX0_take 30 = .ok (.putfield 34, 3) := by decide +kernel
theorem dX0_take_33 : decode cX0_take 33 = .ok (.goto 28, 3) := by decide +kernel
theorem dX0_take_36 : decode cX0_take 36 = .ok (.aload_n 0, 1) := by decide +kernel
theorem dX0_take_37 : decode cX0_take 37 = .ok (.iload_n 2, 1) := by decide +kernel
theorem dX0_take_38 : decode cX0_take 38 = .ok (.putfield 37, 3) := by decide +kernel
theorem dX0_take_41 : decode cX0_take 41 = .ok (.goto 20, 3) := by decide +kernel
theorem dX0_take_44 : decode cX0_take 44 = .ok (.aload_n 0, 1) := by decide +kernel
theorem dX0_take_45 : decode cX0_take 45 = .ok (.iload_n 2, 1) := by decide +kernel
theorem dX0_take_46 : decode cX0_take 46 = .ok (.sipush 255, 3) := by decide +kernel
theorem dX0_take_49 : decode cX0_take 49 = .ok (.iand, 1) := by decide +kernel
theorem dX0_take_50 : decode cX0_take 50 = .ok (.putfield 40, 3) := by decide +kernel
theorem dX0_take_53 : decode cX0_take 53 = .ok (.goto 8, 3) := by decide +kernel
theorem dX0_take_56 : decode cX0_take 56 = .ok (.aload_n 0, 1) := by decide +kernel
theorem dX0_take_57 : decode cX0_take 57 = .ok (.iload_n 2, 1) := by decide +kernel
theorem dX0_take_58 : decode cX0_take 58 = .ok (.putfield 43, 3) := by decide +kernel
theorem dX0_take_61 : decode cX0_take 61 = .ok (.return_, 1) := by decide +kernel
theorem dX0_goOn_0 : decode cX0_goOn 0 = .ok (.aload_n 0, 1) := by decide +kernel
theorem dX0_goOn_1 : decode cX0_goOn 1 = .ok (.aload_n 0, 1) := by decide +kernel
theorem dX0_goOn_2 : decode cX0_goOn 2 = .ok (.getfield 18, 3) := by decide +kernel
theorem dX0_goOn_5 : decode cX0_goOn 5 = .ok (.iconst 1, 1) := by decide +kernel
theorem dX0_goOn_6 : decode cX0_goOn 6 = .ok (.iadd, 1) := by decide +kernel
theorem dX0_goOn_7 : decode cX0_goOn 7 = .ok (.aload_n 0, 1) := by decide +kernel
theorem dX0_goOn_8 : decode cX0_goOn 8 = .ok (.getfield 15, 3) := by decide +kernel
theorem dX0_goOn_11 : decode cX0_goOn 11 = .ok (.if_icmp .ge 12, 3) := by decide +kernel
theorem dX0_goOn_14 : decode cX0_goOn 14 = .ok (.aload_n 0, 1) := by decide +kernel
theorem dX0_goOn_15 : decode cX0_goOn 15 = .ok (.getfield 18, 3) := by decide +kernel
theorem dX0_goOn_18 : decode cX0_goOn 18 = .ok (.iconst 1, 1) := by decide +kernel
theorem dX0_goOn_19 : decode cX0_goOn 19 = .ok (.iadd, 1) := by decide +kernel
theorem dX0_goOn_20 : decode cX0_goOn 20 = .ok (.goto 4, 3) := by decide +kernel
theorem dX0_goOn_23 : decode cX0_goOn 23 = .ok (.iconst 0, 1) := by decide +kernel
theorem dX0_goOn_24 : decode cX0_goOn 24 = .ok (.putfield 18, 3) := by decide +kernel
theorem dX0_goOn_27 : decode cX0_goOn 27 = .ok (.aload_n 0, 1) := by decide +kernel
theorem dX0_goOn_28 : decode cX0_goOn 28 = .ok (.iconst 0, 1) := by decide +kernel
theorem dX0_goOn_29 : decode cX0_goOn 29 = .ok (.putfield 30, 3) := by decide +kernel
theorem dX0_goOn_32 : decode cX0_goOn 32 = .ok (.aload_n 0, 1) := by decide +kernel
theorem dX0_goOn_33 : decode cX0_goOn 33 = .ok (.dup, 1) := by decide +kernel
theorem dX0_goOn_34 : decode cX0_goOn 34 = .ok (.getfield 27, 3) := by decide +kernel
theorem dX0_goOn_37 : decode cX0_goOn 37 = .ok (.iconst 1, 1) := by decide +kernel
theorem dX0_goOn_38 : decode cX0_goOn 38 = .ok (.iadd, 1) := by decide +kernel
theorem dX0_goOn_39 : decode cX0_goOn 39 = .ok (.putfield 27, 3) := by decide +kernel
theorem dX0_goOn_42 : decode cX0_goOn 42 = .ok (.aload_n 0, 1) := by decide +kernel
theorem dX0_goOn_43 : decode cX0_goOn 43 = .ok (.getfield 18, 3) := by decide +kernel
theorem dX0_goOn_46 : decode cX0_goOn 46 = .ok (.aload_n 0, 1) := by decide +kernel
theorem dX0_goOn_47 : decode cX0_goOn 47 = .ok (.getfield 21, 3) := by decide +kernel
theorem dX0_goOn_50 : decode cX0_goOn 50 = .ok (.if_icmp .ne 8, 3) := by decide +kernel
theorem dX0_goOn_53 : decode cX0_goOn 53 = .ok (.aload_n 0, 1) := by decide +kernel
theorem dX0_goOn_54 : decode cX0_goOn 54 = .ok (.iconst 0, 1) := by decide +kernel
theorem dX0_goOn_55 : decode cX0_goOn 55 = .ok (.putfield 24, 3) := by decide +kernel
theorem dX0_goOn_58 : decode cX0_goOn 58 = .ok (.return_, 1) := by decide +kernel
theorem dX1_init_0 : decode cX1_init 0 = .ok (.aload_n 0, 1) := by decide +kernel
theorem dX1_init_1 : decode cX1_init 1 = .ok (.invokespecial 3, 3) := by decide +kernel
theorem dX1_init_4 : decode cX1_init 4 = .ok (.aload_n 0, 1) := by decide +kernel
theorem dX1_init_5 : decode cX1_init 5 = .ok (.iconst 0, 1) := by decide +kernel
theorem dX1_init_6 : decode cX1_init 6 = .ok (.putfield 9, 3) := by decide +kernel
theorem dX1_init_9 : decode cX1_init 9 = .ok (.aload_n 0, 1) := by decide +kernel
theorem dX1_init_10 : decode cX1_init 10 = .ok (.iload_n 1, 1) := by decide +kernel
theorem dX1_init_11 : decode cX1_init 11 = .ok (.putfield 15, 3) := by decide +kernel
theorem dX1_init_14 : decode cX1_init 14 = .ok (.aload_n 0, 1) := by decide +kernel
theorem dX1_init_15 : decode cX1_init 15 = .ok (.iload_n 2, 1) := by decide +kernel
theorem dX1_init_16 : decode cX1_init 16 = .ok (.putfield 18, 3) := by decide +kernel
theorem dX1_init_19 : decode cX1_init 19 = .ok (.aload_n 0, 1) := by decide +kernel
theorem dX1_init_20 : decode cX1_init 20 = .ok (.iload_n 1, 1) := by decide +kernel
theorem dX1_init_21 : decode cX1_init 21 = .ok (.iload_n 2, 1) := by decide +kernel
theorem dX1_init_22 : decode cX1_init 22 = .ok (.imul, 1) := by decide +kernel
theorem dX1_init_23 : decode cX1_init 23 = .ok (.newarray .int, 2) := by decide +kernel
theorem dX1_init_25 : decode cX1_init 25 = .ok (.putfield 21, 3) := by decide +kernel
theorem dX1_init_28 : decode cX1_init 28 = .ok (.return_, 1) := by decide +kernel
theorem dX1_isFull_0 : decode cX1_isFull 0 = .ok (.aload_n 0, 1) := by decide +kernel
theorem dX1_isFull_1 : decode cX1_isFull 1 = .ok (.getfield 9, 3) := by decide +kernel
theorem dX1_isFull_4 : decode cX1_isFull 4 = .ok (.aload_n 0, 1) := by decide +kernel
theorem dX1_isFull_5 : decode cX1_isFull 5 = .ok (.getfield 15, 3) := by decide +kernel
theorem dX1_isFull_8 : decode cX1_isFull 8 = .ok (.if_icmp .lt 7, 3) := by decide +kernel
theorem dX1_isFull_11 : decode cX1_isFull 11 = .ok (.iconst 1, 1) := by decide +kernel
theorem dX1_isFull_12 : decode cX1_isFull 12 = .ok (.goto 4, 3) := by decide +kernel
theorem dX1_isFull_15 : decode cX1_isFull 15 = .ok (.iconst 0, 1) := by decide +kernel
theorem dX1_isFull_16 : decode cX1_isFull 16 = .ok (.ireturn, 1) := by decide +kernel
set_option maxRecDepth 20000 in
theorem ggX1_open_X1_isFull : GoodIn wsX1_open wsX1_isFull := goodIn_r _ [6, 1, 7, 14, 15, 16, 17] (by decide +kernel) (by decide +kernel)
set_option maxRecDepth 20000 in
theorem gX1_open_X1_isFull : GoodIn wsX1_open (wsV RX1 25 RX1 yX1_isFull wsX1_isFull) := goodIn_app (goodIn_of _ (by decide +kernel)) ggX1_open_X1_isFull
set_option maxRecDepth 20000 in
theorem ggX1_open_X1_remove : GoodIn wsX1_open wsX1_remove := goodIn_r _ [11, 1, 12, 13, 14, 15, 16, 17] (by decide +kernel) (by decide +kernel)
set_option maxRecDepth 20000 in
theorem gX1_open_X1_remove : GoodIn wsX1_open (wsV RX1 29 RX1 yX1_remove wsX1_remove) := goodIn_app (goodIn_of _ (by decide +kernel)) ggX1_open_X1_remove
theorem dX1_open_0 : decode cX1_open 0 = .ok (.aload_n 0, 1) := by decide +kernel
theorem dX1_open_1 : decode cX1_open 1 = .ok (.invokevirtual 25, 3) := by decide +kernel
theorem dX1_open_4 : decode cX1_open 4 = .ok (.ifCond .eq 8, 3) := by decide +kernel
theorem dX1_open_7 : decode cX1_open 7 = .ok (.aload_n 0, 1) := by decide +kernel
theorem dX1_open_8 : decode cX1_open 8 = .ok (.iconst 0, 1) := by decide +kernel
theorem dX1_open_9 : decode cX1_open 9 = .ok (.invokevirtual 29, 3) := by decide +kernel
theorem dX1_open_12 : decode cX1_open 12 = .ok (.aload_n 0, 1) := by decide +kernel
theorem dX1_open_13 : decode cX1_open 13 = .ok (.dup, 1) := by decide +kernel
theorem dX1_open_14 : decode cX1_open 14 = .ok (.getfield 9, 3) := by decide +kernel
theorem dX1_open_17 : decode cX1_open 17 = .ok (.iconst 1, 1) := by decide +kernel
theorem dX1_open_18 : decode cX1_open 18 = .ok (.iadd, 1) := by decide +kernel
theorem dX1_open_19 : decode cX1_open 19 = .ok (.putfield 9, 3) := by decide +kernel
theorem dX1_open_22 : decode cX1_open 22 = .ok (.aload_n 0, 1) := by decide +kernel
theorem dX1_open_23 : decode cX1_open 23 = .ok (.getfield 9, 3) := by decide +kernel
theorem dX1_open_26 : decode cX1_open 26 = .ok (.iconst 1, 1) := by decide +kernel
theorem dX1_open_27 : decode cX1_open 27 = .ok (.isub, 1) := by decide +kernel
theorem dX1_open_28 : decode cX1_open 28 = .ok (.ireturn, 1) := by decide +kernel
set_option maxRecDepth 20000 in
theorem ggX1_put_X1_has : GoodIn wsX1_put wsX1_has := goodIn_r _ [7, 8, 2, 9, 10, 11, 12] (by decide +kernel) (by decide +kernel)
set_option maxRecDepth 20000 in
theorem gX1_put_X1_has : GoodIn wsX1_put (wsV RX1 33 RX1 yX1_has wsX1_has) := goodIn_app (goodIn_of _ (by decide +kernel)) ggX1_put_X1_has
theorem dX1_put_0 : decode cX1_put 0 = .ok (.aload_n 0, 1) := by decide +kernel
theorem dX1_put_1 : decode cX1_put 1 = .ok (.iload_n 1, 1) := by decide +kernel
theorem dX1_put_2 : decode cX1_put 2 = .ok (.iload_n 2, 1) := by decide +kernel
theorem dX1_put_3 : decode cX1_put 3 = .ok (.invokevirtual 33, 3) := by decide +kernel
theorem dX1_put_6 : decode cX1_put 6 = .ok (.ifCond .eq 17, 3) := by decide +kernel
theorem dX1_put_9 : decode cX1_put 9 = .ok (.aload_n 0, 1) := by decide +kernel
theorem dX1_put_10 : decode cX1_put 10 = .ok (.getfield 21, 3) := by decide +kernel
theorem dX1_put_13 : decode cX1_put 13 = .ok (.iload_n 1, 1) := by decide +kernel
theorem dX1_put_14 : decode cX1_put 14 = .ok (.aload_n 0, 1) := by decide +kernel
theorem dX1_put_15 : decode cX1_put 15 = .ok (.getfield 18, 3) := by decide +kernel
theorem dX1_put_18 : decode cX1_put 18 = .ok (.imul, 1) := by decide +kernel
theorem dX1_put_19 : decode cX1_put 19 = .ok (.iload_n 2, 1) := by decide +kernel
theorem dX1_put_20 : decode cX1_put 20 = .ok (.iadd, 1) := by decide +kernel
theorem dX1_put_21 : decode cX1_put 21 = .ok (.iload_n 3, 1) := by decide +kernel
theorem dX1_put_22 : decode cX1_put 22 = .ok (.iastore, 1) := by decide +kernel
theorem dX1_put_23 : decode cX1_put 23 = .ok (.return_, 1) := by decide +kernel
set_option maxRecDepth 20000 in
theorem ggX1_cell_X1_has : GoodIn wsX1_cell wsX1_has := goodIn_r _ [7, 8, 2, 9, 10, 11, 12] (by decide +kernel) (by decide +kernel)
set_option maxRecDepth 20000 in
theorem gX1_cell_X1_has : GoodIn wsX1_cell (wsV RX1 33 RX1 yX1_has wsX1_has) := goodIn_app (goodIn_of _ (by decide +kernel)) ggX1_cell_X1_has
theorem dX1_cell_0 : decode cX1_cell 0 = .ok (.aload_n 0, 1) := by decide +kernel
theorem dX1_cell_1 : decode cX1_cell 1 = .ok (.iload_n 1, 1) := by decide +kernel
theorem dX1_cell_2 : decode cX1_cell 2 = .ok (.iload_n 2, 1) := by decide +kernel
theorem dX1_cell_3 : decode cX1_cell 3 = .ok (.invokevirtual 33, 3) := by decide +kernel
theorem dX1_cell_6 : decode cX1_cell 6 = .ok (.ifCond .eq 19, 3) := by decide +kernel
theorem dX1_cell_9 : decode cX1_cell 9 = .ok (.aload_n 0, 1) := by decide +kernel
theorem dX1_cell_10 : decode cX1_cell 10 = .ok (.getfield 21, 3) := by decide +kernel
theorem dX1_cell_13 : decode cX1_cell 13 = .ok (.iload_n 1, 1) := by decide +kernel
theorem dX1_cell_14 : decode cX1_cell 14 = .ok (.aload_n 0, 1) := by decide +kernel
theorem dX1_cell_15 : decode cX1_cell 15 = .ok (.getfield 18, 3) := by decide +kernel
theorem dX1_cell_18 : decode cX1_cell 18 = .ok (.imul, 1) := by decide +kernel
theorem dX1_cell_19 : decode cX1_cell 19 = .ok (.iload_n 2, 1) := by decide +kernel
theorem dX1_cell_20 : decode cX1_cell 20 = .ok (.iadd, 1) := by decide +kernel
theorem dX1_cell_21 : decode cX1_cell 21 = .ok (.iaload, 1) := by decide +kernel
theorem dX1_cell_22 : decode cX1_cell 22 = .ok (.goto 4, 3) := by decide +kernel
theorem dX1_cell_25 : decode cX1_cell 25 = .ok (.iconst (-1), 1) := by decide +kernel
theorem dX1_cell_26 : decode cX1_cell 26 = .ok (.ireturn, 1) := by decide +kernel
theorem dX1_remove_0 : decode cX1_remove 0 = .ok (.iload_n 1, 1) := by decide +kernel
theorem dX1_remove_1 : decode cX1_remove 1 = .ok (.ifCond .lt 11, 3) := by decide +kernel
theorem dX1_remove_4 : decode cX1_remove 4 = .ok (.iload_n 1, 1) := by decide +kernel
theorem dX1_remove_5 : decode cX1_remove 5 = .ok (.aload_n 0, 1) := by decide +kernel
theorem dX1_remove_6 : decode cX1_remove 6 = .ok (.getfield 9, 3) := by decide +kernel
theorem dX1_remove_9 : decode cX1_remove 9 = .ok (.if_icmp .lt 4, 3) := by decide +kernel
theorem dX1_remove_12 : decode cX1_remove 12 = .ok (.return_, 1) := by decide +kernel
theorem dX1_remove_13 : decode cX1_remove 13 = .ok (.aload_n 0, 1) := by decide +kernel
theorem dX1_remove_14 : decode cX1_remove 14 = .ok (.getfield 9, 3) := by decide +kernel
theorem dX1_remove_17 : decode cX1_remove 17 = .ok (.iconst 1, 1) := by decide +kernel
theorem dX1_remove_18 : decode cX1_remove 18 = .ok (.isub, 1) := by decide +kernel
theorem dX1_remove_19 : decode cX1_remove 19 = .ok (.aload_n 0, 1) := by decide +kernel
theorem dX1_remove_20 : decode cX1_remove 20 = .ok (.getfield 18, 3) := by decide +kernel
theorem dX1_remove_23 : decode cX1_remove 23 = .ok (.imul, 1) := by decide +kernel
theorem dX1_remove_24 : decode cX1_remove 24 = .ok (.istore_n 2, 1) := by decide +kernel
theorem dX1_remove_25 : decode cX1_remove 25 = .ok (.iload_n 1, 1) := by decide +kernel
theorem dX1_remove_26 : decode cX1_remove 26 = .ok (.aload_n 0, 1) := by decide +kernel
theorem dX1_remove_27 : decode cX1_remove 27 = .ok (.getfield 18, 3) := by decide +kernel
theorem dX1_remove_30 : decode cX1_remove 30 = .ok (.imul, 1) := by decide +kernel
theorem dX1_remove_31 : decode cX1_remove 31 = .ok (.istore_n 3, 1) := by decide +kernel
theorem dX1_remove_32 : decode cX1_remove 32 = .ok (.iload_n 3, 1) := by decide +kernel
theorem dX1_remove_33 : decode cX1_remove 33 = .ok (.iload_n 2, 1) := by decide +kernel
theorem dX1_remove_34 : decode cX1_remove 34 = .ok (.if_icmp .ge 26, 3) := by decide +kernel
theorem dX1_remove_37 : decode cX1_remove 37 = .ok (.aload_n 0, 1) := by decide +kernel
theorem dX1_remove_38 : decode cX1_remove 38 = .ok (.getfield 21, 3) := by decide +kernel
theorem dX1_remove_41 : decode cX1_remove 41 = .ok (.iload_n 3, 1) := by decide +kernel
theorem dX1_remove_42 : decode cX1_remove 42 = .ok (.aload_n 0, 1) := by decide +kernel
theorem dX1_remove_43 : decode cX1_remove 43 = .ok (.getfield 21, 3) := by decide +kernel
theorem dX1_remove_46 : decode cX1_remove 46 = .ok (.iload_n 3, 1) := by decide +kernel
theorem dX1_remove_47 : decode cX1_remove 47 = .ok (.aload_n 0, 1) := by decide +kernel
theorem dX1_remove_48 : decode cX1_remove 48 = .ok (.getfield 18, 3) := by decide +kernel
theorem dX1_remove_51 : decode cX1_remove 51 = .ok (.iadd, 1) := by decide +kernel
theorem dX1_remove_52 : decode cX1_remove 52 = .ok (.iaload, 1) := by decide +kernel
theorem dX1_remove_53 : decode cX1_remove 53 = .ok (.iastore, 1) := by decide +kernel
theorem dX1_remove_54 : decode cX1_remove 54 = .ok (.iinc 3 1, 3) := by decide +kernel
theorem dX1_remove_57 : decode cX1_remove 57 = .ok (.goto (-25), 3) := by decide +kernel
theorem dX1_remove_60 : decode cX1_remove 60 = .ok (.aload_n 0, 1) := by decide +kernel
theorem dX1_remove_61 : decode cX1_remove 61 = .ok (.dup, 1) := by decide +kernel
theorem dX1_remove_62 : decode cX1_remove 62 = .ok (.getfield 9, 3) := by decide +kernel
theorem dX1_remove_65 : decode cX1_remove 65 = .ok (.iconst 1, 1) := by decide +kernel
theorem dX1_remove_66 : decode cX1_remove 66 = .ok (.isub, 1) := by decide +kernel
theorem dX1_remove_67 : decode cX1_remove 67 = .ok (.putfield 9, 3) := by decide +kernel
theorem dX1_remove_70 : decode cX1_remove 70 = .ok (.return_, 1) := by decide +kernel
theorem dX1_removeAll_0 : decode cX1_removeAll 0 = .ok (.aload_n 0, 1) := by decide +kernel
theorem dX1_removeAll_1 : decode cX1_removeAll 1 = .ok (.iconst 0, 1) := by decide +kernel
theorem dX1_removeAll_2 : decode cX1_removeAll 2 = .ok (.putfield 9, 3) := by decide +kernel
theorem dX1_removeAll_5 : decode cX1_removeAll 5 = .ok (.return_, 1) := by decide +kernel
theorem dX1_has_0 : decode cX1_has 0 = .ok (.iload_n 1, 1) := by decide +kernel
theorem dX1_has_1 : decode cX1_has 1 = .ok (.ifCond .lt 27, 3) := by decide +kernel
theorem dX1_has_4 : decode cX1_has 4 = .ok (.iload_n 1, 1) := by decide +kernel
theorem dX1_has_5 : decode cX1_has 5 = .ok (.aload_n 0, 1) := by decide +kernel
theorem dX1_has_6 : decode cX1_has 6 = .ok (.getfield 9, 3) := by decide +kernel
theorem dX1_has_9 : decode cX1_has 9 = .ok (.if_icmp .ge 19, 3) := by decide +kernel
theorem dX1_has_12 : decode cX1_has 12 = .ok (.iload_n 2, 1) := by decide +kernel
theorem dX1_has_13 : decode cX1_has 13 = .ok (.ifCond .lt 15, 3) := by decide +kernel
theorem dX1_has_16 : decode cX1_has 16 = .ok (.iload_n 2, 1) := by decide +kernel
theorem dX1_has_17 : decode cX1_has 17 = .ok (.aload_n 0, 1) := by decide +kernel
theorem dX1_has_18 : decode cX1_has 18 = .ok (.getfield 18, 3) := by decide +kernel
theorem dX1_has_21 : decode cX1_has 21 = .ok (.if_icmp .ge 7, 3) := by decide +kernel
theorem dX1_has_24 : decode cX1_has 24 = .ok (.iconst 1, 1) := by decide +kernel
theorem dX1_has_25 : decode cX1_has 25 = .ok (.goto 4, 3) := by decide +kernel
theorem dX1_has_28 : decode cX1_has 28 = .ok (.iconst 0, 1) := by decide +kernel
theorem dX1_has_29 : decode cX1_has 29 = .ok (.ireturn, 1) := by decide +kernel
set_option maxRecDepth 20000 in
theorem ggX2_init_X1_init : GoodIn wsX2_init wsX1_init := goodIn_r _ [24, 25, 2, 3, 26, 27, 28, 4, 29, 56, 57, 58, 59] (by decide +kernel) (by decide +kernel)
set_option maxRecDepth 20000 in
theorem gX2_init_X1_init : GoodIn wsX2_init (wsX1_init) := ggX2_init_X1_init
set_option maxRecDepth 20000 in
theorem ggX2_init_X0_init : GoodIn wsX2_init wsX0_init := goodIn_r _ [31, 32, 2, 3, 33, 34, 35, 36, 37, 38, 39, 40, 41, 42, 43, 44, 60, 61, 62, 63, 64, 65, 66, 67, 68, 69, 70, 71] (by decide +kernel) (by decide +kernel)
set_option maxRecDepth 20000 in
theorem gX2_init_X0_init_n54 : GoodIn wsX2_init (wsX0_init) := ggX2_init_X0_init
theorem dX2_init_0 : decode cX2_init 0 = .ok (.aload_n 0, 1) := by decide +kernel
theorem dX2_init_1 : decode cX2_init 1 = .ok (.invokespecial 1, 3) := by decide +kernel
theorem dX2_init_4 : decode cX2_init 4 = .ok (.aload_n 0, 1) := by decide +kernel
theorem dX2_init_5 : decode cX2_init 5 = .ok (.sipush 16384, 3) := by decide +kernel
theorem dX2_init_8 : decode cX2_init 8 = .ok (.newarray .int, 2) := by decide +kernel
theorem dX2_init_10 : decode cX2_init 10 = .ok (.putfield 9, 3) := by decide +kernel
theorem dX2_init_13 : decode cX2_init 13 = .ok (.aload_n 0, 1) := by decide +kernel
theorem dX2_init_14 : decode cX2_init 14 = .ok (.new 13, 3) := by decide +kernel
theorem dX2_init_17 : decode cX2_init 17 = .ok (.dup, 1) := by decide +kernel
theorem dX2_init_18 : decode cX2_init 18 = .ok (.iconst 3, 1) := by decide +kernel
theorem dX2_init_19 : decode cX2_init 19 = .ok (.iconst 3, 1) := by decide +kernel
theorem dX2_init_20 : decode cX2_init 20 = .ok (.invokespecial 15, 3) := by decide +kernel
theorem dX2_init_23 : decode cX2_init 23 = .ok (.putfield 18, 3) := by decide +kernel
theorem dX2_init_26 : decode cX2_init 26 = .ok (.aload_n 0, 1) := by decide +kernel
theorem dX2_init_27 : decode cX2_init 27 = .ok (.new 13, 3) := by decide +kernel
theorem dX2_init_30 : decode cX2_init 30 = .ok (.dup, 1) := by decide +kernel
theorem dX2_init_31 : decode cX2_init 31 = .ok (.bipush 6, 2) := by decide +kernel
theorem dX2_init_33 : decode cX2_init 33 = .ok (.iconst 5, 1) := by decide +kernel
theorem dX2_init_34 : decode cX2_init 34 = .ok (.invokespecial 15, 3) := by decide +kernel
theorem dX2_init_37 : decode cX2_init 37 = .ok (.putfield 22, 3) := by decide +kernel
theorem dX2_init_40 : decode cX2_init 40 = .ok (.aload_n 0, 1) := by decide +kernel
theorem dX2_init_41 : decode cX2_init 41 = .ok (.new 13, 3) := by decide +kernel
theorem dX2_init_44 : decode cX2_init 44 = .ok (.dup, 1) := by decide +kernel
theorem dX2_init_45 : decode cX2_init 45 = .ok (.bipush 6, 2) := by decide +kernel
theorem dX2_init_47 : decode cX2_init 47 = .ok (.iconst 4, 1) := by decide +kernel
theorem dX2_init_48 : decode cX2_init 48 = .ok (.invokespecial 15, 3) := by decide +kernel
theorem dX2_init_51 : decode cX2_init 51 = .ok (.putfield 25, 3) := by decide +kernel
theorem dX2_init_54 : decode cX2_init 54 = .ok (.aload_n 0, 1) := by decide +kernel
theorem dX2_init_55 : decode cX2_init 55 = .ok (.new 13, 3) := by decide +kernel
theorem dX2_init_58 : decode cX2_init 58 = .ok (.dup, 1) := by decide +kernel
theorem dX2_init_59 : decode cX2_init 59 = .ok (.bipush 12, 2) := by decide +kernel
theorem dX2_init_61 : decode cX2_init 61 = .ok (.iconst 3, 1) := by decide +kernel
theorem dX2_init_62 : decode cX2_init 62 = .ok (.invokespecial 15, 3) := by decide +kernel
theorem dX2_init_65 : decode cX2_init 65 = .ok (.putfield 28, 3) := by decide +kernel
theorem dX2_init_68 : decode cX2_init 68 = .ok (.aload_n 0, 1) := by decide +kernel
theorem dX2_init_69 : decode cX2_init 69 = .ok (.bipush 8, 2) := by decide +kernel
theorem dX2_init_71 : decode cX2_init 71 = .ok (.anewarray 31, 3) := by decide +kernel
theorem dX2_init_74 : decode cX2_init 74 = .ok (.putfield 33, 3) := by decide +kernel
theorem dX2_init_77 : decode cX2_init 77 = .ok (.aload_n 0, 1) := by decide +kernel
theorem dX2_init_78 : decode cX2_init 78 = .ok (.iconst 0, 1) := by decide +kernel
theorem dX2_init_79 : decode cX2_init 79 = .ok (.putfield 37, 3) := by decide +kernel
theorem dX2_init_82 : decode cX2_init 82 = .ok (.aload_n 0, 1) := by decide +kernel
theorem dX2_init_83 : decode cX2_init 83 = .ok (.iconst 0, 1) := by decide +kernel
theorem dX2_init_84 : decode cX2_init 84 = .ok (.putfield 41, 3) := by decide +kernel
theorem dX2_init_87 : decode cX2_init 87 = .ok (.aload_n 0, 1) := by decide +kernel
theorem dX2_init_88 : decode cX2_init 88 = .ok (.iconst 0, 1) := by decide +kernel
theorem dX2_init_89 : decode cX2_init 89 = .ok (.putfield 44, 3) := by decide +kernel
theorem dX2_init_92 : decode cX2_init 92 = .ok (.aload_n 0, 1) := by decide +kernel
theorem dX2_init_93 : decode cX2_init 93 = .ok (.iconst 0, 1) := by decide +kernel
theorem dX2_init_94 : decode cX2_init 94 = .ok (.putfield 47, 3) := by decide +kernel
theorem dX2_init_97 : decode cX2_init 97 = .ok (.aload_n 0, 1) := by decide +kernel
theorem dX2_init_98 : decode cX2_init 98 = .ok (.iconst 0, 1) := by decide +kernel
theorem dX2_init_99 : decode cX2_init 99 = .ok (.putfield 50, 3) := by decide +kernel
theorem dX2_init_102 : decode cX2_init 102 = .ok (.iconst 0, 1) := by decide +kernel
theorem dX2_init_103 : decode cX2_init 103 = .ok (.istore_n 1, 1) := by decide +kernel
theorem dX2_init_104 : decode cX2_init 104 = .ok (.iload_n 1, 1) := by decide +kernel
theorem dX2_init_105 : decode cX2_init 105 = .ok (.bipush 8, 2) := by decide +kernel
theorem dX2_init_107 : decode cX2_init 107 = .ok (.if_icmp .ge 22, 3) := by decide +kernel
theorem dX2_init_110 : decode cX2_init 110 = .ok (.aload_n 0, 1) := by decide +kernel
theorem dX2_init_111 : decode cX2_init 111 = .ok (.getfield 33, 3) := by decide +kernel
theorem dX2_init_114 : decode cX2_init 114 = .ok (.iload_n 1, 1) := by decide +kernel
theorem dX2_init_115 : decode cX2_init 115 = .ok (.new 31, 3) := by decide +kernel
theorem dX2_init_118 : decode cX2_init 118 = .ok (.dup, 1) := by decide +kernel
theorem dX2_init_119 : decode cX2_init 119 = .ok (.invokespecial 54, 3) := by decide +kernel
theorem dX2_init_122 : decode cX2_init 122 = .ok (.aastore, 1) := by decide +kernel
theorem dX2_init_123 : decode cX2_init 123 = .ok (.iinc 1 1, 3) := by decide +kernel
theorem dX2_init_126 : decode cX2_init 126 = .ok (.goto (-22), 3) := by decide +kernel
theorem dX2_init_129 : decode cX2_init 129 = .ok (.return_, 1) := by decide +kernel
set_option maxRecDepth 20000 in
theorem ggX2_poke_X2_isBelow : GoodIn wsX2_poke wsX2_isBelow := goodIn_r _ [7] (by decide +kernel) (by decide +kernel)
set_option maxRecDepth 20000 in
theorem gX2_poke_X2_isBelow : GoodIn wsX2_poke (va_wsS RX2 55 yX2_isBelow wsX2_isBelow) := goodIn_app (goodIn_of _ (by decide +kernel)) ggX2_poke_X2_isBelow
theorem dX2_poke_0 : decode cX2_poke 0 = .ok (.iload_n 1, 1) := by decide +kernel
theorem dX2_poke_1 : decode cX2_poke 1 = .ok (.sipush 16384, 3) := by decide +kernel
theorem dX2_poke_4 : decode cX2_poke 4 = .ok (.invokestatic 55, 3) := by decide +kernel
theorem dX2_poke_7 : decode cX2_poke 7 = .ok (.ifCond .ne 11, 3) := by decide +kernel
theorem dX2_poke_10 : decode cX2_poke 10 = .ok (.new 59, 3) := by decide +kernel
theorem dX2_poke_13 : decode cX2_poke 13 = .ok (.dup, 1) := by decide +kernel
theorem dX2_poke_14 : decode cX2_poke 14 = .ok (.invokespecial 61, 3) := by decide +kernel
theorem dX2_poke_17 : decode cX2_poke 17 = .ok (.athrow, 1) := by decide +kernel
theorem dX2_poke_18 : decode cX2_poke 18 = .ok (.aload_n 0, 1) := by decide +kernel
theorem dX2_poke_19 : decode cX2_poke 19 = .ok (.getfield 9, 3) := by decide +kernel
theorem dX2_poke_22 : decode cX2_poke 22 = .ok (.iload_n 1, 1) := by decide +kernel
theorem dX2_poke_23 : decode cX2_poke 23 = .ok (.iaload, 1) := by decide +kernel
theorem dX2_poke_24 : decode cX2_poke 24 = .ok (.istore_n 3, 1) := by decide +kernel
theorem dX2_poke_25 : decode cX2_poke 25 = .ok (.aload_n 0, 1) := by decide +kernel
theorem dX2_poke_26 : decode cX2_poke 26 = .ok (.getfield 9, 3) := by decide +kernel
theorem dX2_poke_29 : decode cX2_poke 29 = .ok (.iload_n 1, 1) := by decide +kernel
theorem dX2_poke_30 : decode cX2_poke 30 = .ok (.iload_n 2, 1) := by decide +kernel
theorem dX2_poke_31 : decode cX2_poke 31 = .ok (.iastore, 1) := by decide +kernel
theorem dX2_poke_32 : decode cX2_poke 32 = .ok (.iload_n 3, 1) := by decide +kernel
theorem dX2_poke_33 : decode cX2_poke 33 = .ok (.ireturn, 1) := by decide +kernel
set_option maxRecDepth 20000 in
theorem ggX2_peek_X2_isBelow : GoodIn wsX2_peek wsX2_isBelow := goodIn_r _ [7] (by decide +kernel) (by decide +kernel)
set_option maxRecDepth 20000 in
theorem gX2_peek_X2_isBelow : GoodIn wsX2_peek (va_wsS RX2 55 yX2_isBelow wsX2_isBelow) := goodIn_app (goodIn_of _ (by decide +kernel)) ggX2_peek_X2_isBelow
theorem dX2_peek_0 : decode cX2_peek 0 = .ok (.iload_n 1, 1) := by decide +kernel
theorem dX2_peek_1 : decode cX2_peek 1 = .ok (.sipush 16384, 3) := by decide +kernel
theorem dX2_peek_4 : decode cX2_peek 4 = .ok (.invokestatic 55, 3) := by decide +kernel
theorem dX2_peek_7 : decode cX2_peek 7 = .ok (.ifCond .ne 11, 3) := by decide +kernel
theorem dX2_peek_10 : decode cX2_peek 10 = .ok (.new 59, 3) := by decide +kernel
theorem dX2_peek_13 : decode cX2_peek 13 = .ok (.dup, 1) := by decide +kernel
theorem dX2_peek_14 : decode cX2_peek 14 = .ok (.invokespecial 61, 3) := by decide +kernel
theorem dX2_peek_17 : decode cX2_peek 17 = .ok (.athrow, 1) := by decide +kernel
theorem dX2_peek_18 : decode cX2_peek 18 = .ok (.aload_n 0, 1) := by decide +kernel
theorem dX2_peek_19 : decode cX2_peek 19 = .ok (.getfield 9, 3) := by decide +kernel
theorem dX2_peek_22 : decode cX2_peek 22 = .ok (.iload_n 1, 1) := by decide +kernel
theorem dX2_peek_23 : decode cX2_peek 23 = .ok (.iaload, 1) := by decide +kernel
theorem dX2_peek_24 : decode cX2_peek 24 = .ok (.ireturn, 1) := by decide +kernel
set_option maxRecDepth 20000 in
theorem ggX2_fill_X2_setWord : GoodIn wsX2_fill wsX2_setWord := goodIn_r _ [5, 6, 7, 8, 4, 9, 10, 11, 12, 13, 14, 15, 16, 17, 18, 19, 20] (by decide +kernel) (by decide +kernel)
set_option maxRecDepth 20000 in
theorem gX2_fill_X2_setWord : GoodIn wsX2_fill (wsV RX2 62 RX2 yX2_setWord wsX2_setWord) := goodIn_app (goodIn_of _ (by decide +kernel)) ggX2_fill_X2_setWord
theorem dX2_fill_0 : decode cX2_fill 0 = .ok (.iload_n 1, 1) := by decide +kernel
theorem dX2_fill_1 : decode cX2_fill 1 = .ok (.ifCond .lt 14, 3) := by decide +kernel
theorem dX2_fill_4 : decode cX2_fill 4 = .ok (.iload_n 2, 1) := by decide +kernel
theorem dX2_fill_5 : decode cX2_fill 5 = .ok (.ifCond .lt 10, 3) := by decide +kernel
theorem dX2_fill_8 : decode cX2_fill 8 = .ok (.iload_n 2, 1) := by decide +kernel
theorem dX2_fill_9 : decode cX2_fill 9 = .ok (.sipush 256, 3) := by decide +kernel
theorem dX2_fill_12 : decode cX2_fill 12 = .ok (.if_icmp .le 5, 3) := by decide +kernel
theorem dX2_fill_15 : decode cX2_fill 15 = .ok (.iconst (-1), 1) := by decide +kernel
theorem dX2_fill_16 : decode cX2_fill 16 = .ok (.ireturn, 1) := by decide +kernel
theorem dX2_fill_17 : decode cX2_fill 17 = .ok (.iload_n 1, 1) := by decide +kernel
theorem dX2_fill_18 : decode cX2_fill 18 = .ok (.sipush 16384, 3) := by decide +kernel
theorem dX2_fill_21 : decode cX2_fill 21 = .ok (.if_icmp .ge 11, 3) := by decide +kernel
theorem dX2_fill_24 : decode cX2_fill 24 = .ok (.sipush 16384, 3) := by decide +kernel
theorem dX2_fill_27 : decode cX2_fill 27 = .ok (.iload_n 1, 1) := by decide +kernel
theorem dX2_fill_28 : decode cX2_fill 28 = .ok (.isub, 1) := by decide +kernel
theorem dX2_fill_29 : decode cX2_fill 29 = .ok (.goto 4, 3) := by decide +kernel
theorem dX2_fill_32 : decode cX2_fill 32 = .ok (.iconst 0, 1) := by decide +kernel
theorem dX2_fill_33 : decode cX2_fill 33 = .ok (.istore 5, 2) := by decide +kernel
theorem dX2_fill_35 : decode cX2_fill 35 = .ok (.iload_n 2, 1) := by decide +kernel
theorem dX2_fill_36 : decode cX2_fill 36 = .ok (.iload 5, 2) := by decide +kernel
theorem dX2_fill_38 : decode cX2_fill 38 = .ok (.if_icmp .ge 7, 3) := by decide +kernel
theorem dX2_fill_41 : decode cX2_fill 41 = .ok (.iload_n 2, 1) := by decide +kernel
theorem dX2_fill_42 : decode cX2_fill 42 = .ok (.goto 5, 3) := by decide +kernel
theorem dX2_fill_45 : decode cX2_fill 45 = .ok (.iload 5, 2) := by decide +kernel
theorem dX2_fill_47 : decode cX2_fill 47 = .ok (.istore 6, 2) := by decide +kernel
theorem dX2_fill_49 : decode cX2_fill 49 = .ok (.iload_n 3, 1) := by decide +kernel
theorem dX2_fill_50 : decode cX2_fill 50 = .ok (.istore 7, 2) := by decide +kernel
theorem dX2_fill_52 : decode cX2_fill 52 = .ok (.iconst 0, 1) := by decide +kernel
theorem dX2_fill_53 : decode cX2_fill 53 = .ok (.istore 8, 2) := by decide +kernel
theorem dX2_fill_55 : decode cX2_fill 55 = .ok (.iload 8, 2) := by decide +kernel
theorem dX2_fill_57 : decode cX2_fill 57 = .ok (.iload 6, 2) := by decide +kernel
theorem dX2_fill_59 : decode cX2_fill 59 = .ok (.if_icmp .ge 27, 3) := by decide +kernel
theorem dX2_fill_62 : decode cX2_fill 62 = .ok (.aload_n 0, 1) := by decide +kernel
theorem dX2_fill_63 : decode cX2_fill 63 = .ok (.iload_n 1, 1) := by decide +kernel
theorem dX2_fill_64 : decode cX2_fill 64 = .ok (.iload 8, 2) := by decide +kernel
theorem dX2_fill_66 : decode cX2_fill 66 = .ok (.iadd, 1) := by decide +kernel
theorem dX2_fill_67 : decode cX2_fill 67 = .ok (.iload 7, 2) := by decide +kernel
theorem dX2_fill_69 : decode cX2_fill 69 = .ok (.invokevirtual 62, 3) := by decide +kernel
theorem dX2_fill_72 : decode cX2_fill 72 = .ok (.pop, 1) := by decide +kernel
theorem dX2_fill_73 : decode cX2_fill 73 = .ok (.iload 7, 2) := by decide +kernel
theorem dX2_fill_75 : decode cX2_fill 75 = .ok (.iload 4, 2) := by decide +kernel
theorem dX2_fill_77 : decode cX2_fill 77 = .ok (.iadd, 1) := by decide +kernel
theorem dX2_fill_78 : decode cX2_fill 78 = .ok (.istore 7, 2) := by decide +kernel
theorem dX2_fill_80 : decode cX2_fill 80 = .ok (.iinc 8 1, 3) := by decide +kernel
theorem dX2_fill_83 : decode cX2_fill 83 = .ok (.goto (-28), 3) := by decide +kernel
theorem dX2_fill_86 : decode cX2_fill 86 = .ok (.iload 6, 2) := by decide +kernel
theorem dX2_fill_88 : decode cX2_fill 88 = .ok (.ireturn, 1) := by decide +kernel
theorem dX2_table_0 : decode cX2_table 0 = .ok (.iload_n 1, 1) := by decide +kernel
theorem dX2_table_1 : decode cX2_table 1 = .ok (.ifCond .lt 17, 3) := by decide +kernel
theorem dX2_table_4 : decode cX2_table 4 = .ok (.iload_n 1, 1) := by decide +kernel
theorem dX2_table_5 : decode cX2_table 5 = .ok (.sipush 16368, 3) := by decide +kernel
theorem dX2_table_8 : decode cX2_table 8 = .ok (.if_icmp .gt 10, 3) := by decide +kernel
theorem dX2_table_11 : decode cX2_table 11 = .ok (.iload_n 1, 1) := by decide +kernel
theorem dX2_table_12 : decode cX2_table 12 = .ok (.bipush 15, 2) := by decide +kernel
theorem dX2_table_14 : decode cX2_table 14 = .ok (.iand, 1) := by decide +kernel
theorem dX2_table_15 : decode cX2_table 15 = .ok (.ifCond .eq 5, 3) := by decide +kernel
theorem dX2_table_18 : decode cX2_table 18 = .ok (.iconst 0, 1) := by decide +kernel
theorem dX2_table_19 : decode cX2_table 19 = .ok (.ireturn, 1) := by decide +kernel
theorem dX2_table_20 : decode cX2_table 20 = .ok (.aload_n 0, 1) := by decide +kernel
theorem dX2_table_21 : decode cX2_table 21 = .ok (.iload_n 1, 1) := by decide +kernel
theorem dX2_table_22 : decode cX2_table 22 = .ok (.putfield 37, 3) := by decide +kernel
theorem dX2_table_25 : decode cX2_table 25 = .ok (.iconst 1, 1) := by decide +kernel
theorem dX2_table_26 : decode cX2_table 26 = .ok (.ireturn, 1) := by decide +kernel
set_option maxRecDepth 20000 in
theorem ggX2_context_X2_isBelow : GoodIn wsX2_context wsX2_isBelow := goodIn_r _ [4] (by decide +kernel) (by decide +kernel)
set_option maxRecDepth 20000 in
theorem gX2_context_X2_isBelow : GoodIn wsX2_context (va_wsS RX2 55 yX2_isBelow wsX2_isBelow) := goodIn_app (goodIn_of _ (by decide +kernel)) ggX2_context_X2_isBelow
set_option maxRecDepth 20000 in
theorem ggX2_context_X2_contextPlace : GoodIn wsX2_context wsX2_contextPlace := goodIn_r _ [8, 9, 15, 16, 17, 18, 19, 20, 21, 22, 23, 24, 25] (by decide +kernel) (by decide +kernel)
set_option maxRecDepth 20000 in
theorem gX2_context_X2_contextPlace : GoodIn wsX2_context (wsV RX2 65 RX2 yX2_contextPlace wsX2_contextPlace) := goodIn_app (goodIn_of _ (by decide +kernel)) ggX2_context_X2_contextPlace
set_option maxRecDepth 20000 in
theorem ggX2_context_X2_setWord : GoodIn wsX2_context wsX2_setWord := goodIn_r _ [13, 14, 1, 2, 3, 4, 15, 16, 17, 18, 19, 20, 21, 22, 23, 24, 25] (by decide +kernel) (by decide +kernel)
set_option maxRecDepth 20000 in
theorem gX2_context_X2_setWord : GoodIn wsX2_context (wsV RX2 62 RX2 yX2_setWord wsX2_setWord) := goodIn_app (goodIn_of _ (by decide +kernel)) ggX2_context_X2_setWord
theorem dX2_context_0 : decode cX2_context 0 = .ok (.iload_n 1, 1) := by decide +kernel
theorem dX2_context_1 : decode cX2_context 1 = .ok (.bipush 8, 2) := by decide +kernel
theorem dX2_context_3 : decode cX2_context 3 = .ok (.invokestatic 55, 3) := by decide +kernel
theorem dX2_context_6 : decode cX2_context 6 = .ok (.ifCond .eq 22, 3) := by decide +kernel
theorem dX2_context_9 : decode cX2_context 9 = .ok (.iload_n 3, 1) := by decide +kernel
theorem dX2_context_10 : decode cX2_context 10 = .ok (.bipush 64, 2) := by decide +kernel
theorem dX2_context_12 : decode cX2_context 12 = .ok (.invokestatic 55, 3) := by decide +kernel
theorem dX2_context_15 : decode cX2_context 15 = .ok (.ifCond .eq 13, 3) := by decide +kernel
theorem dX2_context_18 : decode cX2_context 18 = .ok (.iload 4, 2) := by decide +kernel
theorem dX2_context_20 : decode cX2_context 20 = .ok (.bipush 16, 2) := by decide +kernel
theorem dX2_context_22 : decode cX2_context 22 = .ok (.invokestatic 55, 3) := by decide +kernel
theorem dX2_context_25 : decode cX2_context 25 = .ok (.ifCond .ne 5, 3) := by decide +kernel
theorem dX2_context_28 : decode cX2_context 28 = .ok (.iconst 0, 1) := by decide +kernel
theorem dX2_context_29 : decode cX2_context 29 = .ok (.ireturn, 1) := by decide +kernel
theorem dX2_context_30 : decode cX2_context 30 = .ok (.aload_n 0, 1) := by decide +kernel
theorem dX2_context_31 : decode cX2_context 31 = .ok (.iload_n 1, 1) := by decide +kernel
theorem dX2_context_32 : decode cX2_context 32 = .ok (.invokevirtual 65, 3) := by decide +kernel
theorem dX2_context_35 : decode cX2_context 35 = .ok (.istore 5, 2) := by decide +kernel
theorem dX2_context_37 : decode cX2_context 37 = .ok (.aload_n 0, 1) := by decide +kernel
theorem dX2_context_38 : decode cX2_context 38 = .ok (.iload 5, 2) := by decide +kernel
theorem dX2_context_40 : decode cX2_context 40 = .ok (.iconst 1, 1) := by decide +kernel
theorem dX2_context_41 : decode cX2_context 41 = .ok (.iload_n 2, 1) := by decide +kernel
theorem dX2_context_42 : decode cX2_context 42 = .ok (.ifCond .eq 7, 3) := by decide +kernel
theorem dX2_context_45 : decode cX2_context 45 = .ok (.iconst 2, 1) := by decide +kernel
theorem dX2_context_46 : decode cX2_context 46 = .ok (.goto 4, 3) := by decide +kernel
theorem dX2_context_49 : decode cX2_context 49 = .ok (.iconst 0, 1) := by decide +kernel
theorem dX2_context_50 : decode cX2_context 50 = .ok (.ior, 1) := by decide +kernel
theorem dX2_context_51 : decode cX2_context 51 = .ok (.iload_n 3, 1) := by decide +kernel
theorem dX2_context_52 : decode cX2_context 52 = .ok (.bipush 8, 2) := by decide +kernel
theorem dX2_context_54 : decode cX2_context 54 = .ok (.ishl, 1) := by decide +kernel
theorem dX2_context_55 : decode cX2_context 55 = .ok (.ior, 1) := by decide +kernel
theorem dX2_context_56 : decode cX2_context 56 = .ok (.invokevirtual 62, 3) := by decide +kernel
theorem dX2_context_59 : decode cX2_context 59 = .ok (.pop, 1) := by decide +kernel
theorem dX2_context_60 : decode cX2_context 60 = .ok (.aload_n 0, 1) := by decide +kernel
theorem dX2_context_61 : decode cX2_context 61 = .ok (.iload 5, 2) := by decide +kernel
theorem dX2_context_63 : decode cX2_context 63 = .ok (.iconst 1, 1) := by decide +kernel
theorem dX2_context_64 : decode cX2_context 64 = .ok (.iadd, 1) := by decide +kernel
theorem dX2_context_65 : decode cX2_context 65 = .ok (.iload 4, 2) := by decide +kernel
theorem dX2_context_67 : decode cX2_context 67 = .ok (.invokevirtual 62, 3) := by decide +kernel
theorem dX2_context_70 : decode cX2_context 70 = .ok (.pop, 1) := by decide +kernel
theorem dX2_context_71 : decode cX2_context 71 = .ok (.iconst 1, 1) := by decide +kernel
theorem dX2_context_72 : decode cX2_context 72 = .ok (.ireturn, 1) := by decide +kernel
set_option maxRecDepth 20000 in
theorem ggX2_enter_X2_isBelow : GoodIn wsX2_enter wsX2_isBelow := goodIn_r _ [4] (by decide +kernel) (by decide +kernel)
set_option maxRecDepth 20000 in
theorem gX2_enter_X2_isBelow : GoodIn wsX2_enter (va_wsS RX2 55 yX2_isBelow wsX2_isBelow) := goodIn_app (goodIn_of _ (by decide +kernel)) ggX2_enter_X2_isBelow
set_option maxRecDepth 20000 in
theorem ggX2_enter_X2_placeIn : GoodIn wsX2_enter wsX2_placeIn := goodIn_r _ [7] (by decide +kernel) (by decide +kernel)
set_option maxRecDepth 20000 in
theorem gX2_enter_X2_placeIn : GoodIn wsX2_enter (va_wsS RX2 69 yX2_placeIn wsX2_placeIn) := goodIn_app (goodIn_of _ (by decide +kernel)) ggX2_enter_X2_placeIn
set_option maxRecDepth 20000 in
theorem ggX2_enter_X2_setWord : GoodIn wsX2_enter wsX2_setWord := goodIn_r _ [11, 12, 1, 2, 3, 4, 13, 14, 15, 16, 17, 18, 19, 20, 21, 22, 23] (by decide +kernel) (by decide +kernel)
set_option maxRecDepth 20000 in
theorem gX2_enter_X2_setWord : GoodIn wsX2_enter (wsV RX2 62 RX2 yX2_setWord wsX2_setWord) := goodIn_app (goodIn_of _ (by decide +kernel)) ggX2_enter_X2_setWord
theorem dX2_enter_0 : decode cX2_enter 0 = .ok (.iload_n 1, 1) := by decide +kernel
theorem dX2_enter_1 : decode cX2_enter 1 = .ok (.bipush 64, 2) := by decide +kernel
theorem dX2_enter_3 : decode cX2_enter 3 = .ok (.invokestatic 55, 3) := by decide +kernel
theorem dX2_enter_6 : decode cX2_enter 6 = .ok (.ifCond .eq 30, 3) := by decide +kernel
theorem dX2_enter_9 : decode cX2_enter 9 = .ok (.iload_n 2, 1) := by decide +kernel
theorem dX2_enter_10 : decode cX2_enter 10 = .ok (.bipush 16, 2) := by decide +kernel
theorem dX2_enter_12 : decode cX2_enter 12 = .ok (.invokestatic 55, 3) := by decide +kernel
theorem dX2_enter_15 : decode cX2_enter 15 = .ok (.ifCond .eq 21, 3) := by decide +kernel
theorem dX2_enter_18 : decode cX2_enter 18 = .ok (.iload_n 3, 1) := by decide +kernel
theorem dX2_enter_19 : decode cX2_enter 19 = .ok (.iconst 4, 1) := by decide +kernel
theorem dX2_enter_20 : decode cX2_enter 20 = .ok (.invokestatic 55, 3) := by decide +kernel
theorem dX2_enter_23 : decode cX2_enter 23 = .ok (.ifCond .eq 13, 3) := by decide +kernel
theorem dX2_enter_26 : decode cX2_enter 26 = .ok (.iload 5, 2) := by decide +kernel
theorem dX2_enter_28 : decode cX2_enter 28 = .ok (.bipush 64, 2) := by decide +kernel
theorem dX2_enter_30 : decode cX2_enter 30 = .ok (.invokestatic 55, 3) := by decide +kernel
theorem dX2_enter_33 : decode cX2_enter 33 = .ok (.ifCond .ne 5, 3) := by decide +kernel
theorem dX2_enter_36 : decode cX2_enter 36 = .ok (.iconst 0, 1) := by decide +kernel
theorem dX2_enter_37 : decode cX2_enter 37 = .ok (.ireturn, 1) := by decide +kernel
theorem dX2_enter_38 : decode cX2_enter 38 = .ok (.aload_n 0, 1) := by decide +kernel
theorem dX2_enter_39 : decode cX2_enter 39 = .ok (.iload_n 1, 1) := by decide +kernel
theorem dX2_enter_40 : decode cX2_enter 40 = .ok (.iload_n 2, 1) := by decide +kernel
theorem dX2_enter_41 : decode cX2_enter 41 = .ok (.invokestatic 69, 3) := by decide +kernel
theorem dX2_enter_44 : decode cX2_enter 44 = .ok (.iconst 1, 1) := by decide +kernel
theorem dX2_enter_45 : decode cX2_enter 45 = .ok (.iload_n 3, 1) := by decide +kernel
theorem dX2_enter_46 : decode cX2_enter 46 = .ok (.iconst 1, 1) := by decide +kernel
theorem dX2_enter_47 : decode cX2_enter 47 = .ok (.ishl, 1) := by decide +kernel
theorem dX2_enter_48 : decode cX2_enter 48 = .ok (.ior, 1) := by decide +kernel
theorem dX2_enter_49 : decode cX2_enter 49 = .ok (.iload 4, 2) := by decide +kernel
theorem dX2_enter_51 : decode cX2_enter 51 = .ok (.ifCond .eq 8, 3) := by decide +kernel
theorem dX2_enter_54 : decode cX2_enter 54 = .ok (.bipush 8, 2) := by decide +kernel
theorem dX2_enter_56 : decode cX2_enter 56 = .ok (.goto 4, 3) := by decide +kernel
theorem dX2_enter_59 : decode cX2_enter 59 = .ok (.iconst 0, 1) := by decide +kernel
theorem dX2_enter_60 : decode cX2_enter 60 = .ok (.ior, 1) := by decide +kernel
theorem dX2_enter_61 : decode cX2_enter 61 = .ok (.iload 5, 2) := by decide +kernel
theorem dX2_enter_63 : decode cX2_enter 63 = .ok (.bipush 8, 2) := by decide +kernel
theorem dX2_enter_65 : decode cX2_enter 65 = .ok (.ishl, 1) := by decide +kernel
theorem dX2_enter_66 : decode cX2_enter 66 = .ok (.ior, 1) := by decide +kernel
theorem dX2_enter_67 : decode cX2_enter 67 = .ok (.invokevirtual 62, 3) := by decide +kernel
theorem dX2_enter_70 : decode cX2_enter 70 = .ok (.pop, 1) := by decide +kernel
theorem dX2_enter_71 : decode cX2_enter 71 = .ok (.iconst 1, 1) := by decide +kernel
theorem dX2_enter_72 : decode cX2_enter 72 = .ok (.ireturn, 1) := by decide +kernel
set_option maxRecDepth 20000 in
theorem ggX2_read_X2_isBelow : GoodIn wsX2_read wsX2_isBelow := goodIn_r _ [7] (by decide +kernel) (by decide +kernel)
set_option maxRecDepth 20000 in
theorem gX2_read_X2_isBelow : GoodIn wsX2_read (va_wsS RX2 55 yX2_isBelow wsX2_isBelow) := goodIn_app (goodIn_of _ (by decide +kernel)) ggX2_read_X2_isBelow
set_option maxRecDepth 20000 in
theorem ggX2_read_X2_access : GoodIn wsX2_read wsX2_access := goodIn_r _ [11, 3, 12, 13, 14, 6, 15, 16, 17, 18, 4, 5, 7, 19, 20, 21, 22, 23, 24, 25, 26, 27, 28, 29, 30, 31, 32, 33, 34, 35, 36, 37, 38, 39, 40, 41, 42, 43, 44, 45, 46, 47, 48, 49, 50, 51, 52, 53, 54, 55, 56, 57, 58, 59, 60, 61, 62, 63, 64, 65, 66, 67, 68, 69, 70, 71, 72, 73, 74, 75, 76, 77, 78, 79, 80, 81, 82, 83, 84, 85, 86, 87, 88, 89, 90, 91, 92, 93, 94, 95, 96, 97, 98, 99, 100, 101, 102, 103, 104, 105, 106, 107, 108, 109, 110, 111] (by decide +kernel) (by decide +kernel)
set_option maxRecDepth 20000 in
theorem gX2_read_X2_access : GoodIn wsX2_read (wsV RX2 73 RX2 yX2_access wsX2_access) := goodIn_app (goodIn_of _ (by decide +kernel)) ggX2_read_X2_access
set_option maxRecDepth 20000 in
theorem ggX2_read_X2_wordAt : GoodIn wsX2_read wsX2_wordAt := goodIn_r _ [44, 45, 4, 5, 6, 7, 97, 98, 99, 100, 101, 102, 103, 104, 105, 106, 107] (by decide +kernel) (by decide +kernel)
set_option maxRecDepth 20000 in
theorem gX2_read_X2_wordAt : GoodIn wsX2_read (wsV RX2 77 RX2 yX2_wordAt wsX2_wordAt) := goodIn_app (goodIn_of _ (by decide +kernel)) ggX2_read_X2_wordAt
theorem dX2_read_0 : decode cX2_read 0 = .ok (.iload_n 1, 1) := by decide +kernel
theorem dX2_read_1 : decode cX2_read 1 = .ok (.bipush 8, 2) := by decide +kernel
theorem dX2_read_3 : decode cX2_read 3 = .ok (.invokestatic 55, 3) := by decide +kernel
theorem dX2_read_6 : decode cX2_read 6 = .ok (.ifCond .ne 16, 3) := by decide +kernel
theorem dX2_read_9 : decode cX2_read 9 = .ok (.aload_n 0, 1) := by decide +kernel
theorem dX2_read_10 : decode cX2_read 10 = .ok (.iconst 0, 1) := by decide +kernel
theorem dX2_read_11 : decode cX2_read 11 = .ok (.putfield 41, 3) := by decide +kernel
theorem dX2_read_14 : decode cX2_read 14 = .ok (.new 59, 3) := by decide +kernel
theorem dX2_read_17 : decode cX2_read 17 = .ok (.dup, 1) := by decide +kernel
theorem dX2_read_18 : decode cX2_read 18 = .ok (.invokespecial 61, 3) := by decide +kernel
theorem dX2_read_21 : decode cX2_read 21 = .ok (.athrow, 1) := by decide +kernel
theorem dX2_read_22 : decode cX2_read 22 = .ok (.aload_n 0, 1) := by decide +kernel
theorem dX2_read_23 : decode cX2_read 23 = .ok (.iload_n 1, 1) := by decide +kernel
theorem dX2_read_24 : decode cX2_read 24 = .ok (.iload_n 2, 1) := by decide +kernel
theorem dX2_read_25 : decode cX2_read 25 = .ok (.iconst 0, 1) := by decide +kernel
theorem dX2_read_26 : decode cX2_read 26 = .ok (.invokevirtual 73, 3) := by decide +kernel
theorem dX2_read_29 : decode cX2_read 29 = .ok (.istore_n 3, 1) := by decide +kernel
theorem dX2_read_30 : decode cX2_read 30 = .ok (.iload_n 3, 1) := by decide +kernel
theorem dX2_read_31 : decode cX2_read 31 = .ok (.ifCond .ge 7, 3) := by decide +kernel
theorem dX2_read_34 : decode cX2_read 34 = .ok (.iconst 0, 1) := by decide +kernel
theorem dX2_read_35 : decode cX2_read 35 = .ok (.goto 8, 3) := by decide +kernel
theorem dX2_read_38 : decode cX2_read 38 = .ok (.aload_n 0, 1) := by decide +kernel
theorem dX2_read_39 : decode cX2_read 39 = .ok (.iload_n 3, 1) := by decide +kernel
theorem dX2_read_40 : decode cX2_read 40 = .ok (.invokevirtual 77, 3) := by decide +kernel
theorem dX2_read_43 : decode cX2_read 43 = .ok (.ireturn, 1) := by decide +kernel
set_option maxRecDepth 20000 in
theorem ggX2_write_X2_isBelow : GoodIn wsX2_write wsX2_isBelow := goodIn_r _ [5] (by decide +kernel) (by decide +kernel)
set_option maxRecDepth 20000 in
theorem gX2_write_X2_isBelow : GoodIn wsX2_write (va_wsS RX2 55 yX2_isBelow wsX2_isBelow) := goodIn_app (goodIn_of _ (by decide +kernel)) ggX2_write_X2_isBelow
set_option maxRecDepth 20000 in
theorem ggX2_write_X2_access : GoodIn wsX2_write wsX2_access := goodIn_r _ [9, 1, 10, 11, 12, 4, 13, 14, 15, 16, 2, 3, 5, 17, 18, 19, 20, 21, 22, 23, 24, 25, 26, 27, 28, 29, 30, 31, 32, 33, 34, 35, 36, 37, 38, 39, 40, 41, 42, 43, 44, 45, 46, 47, 48, 49, 50, 51, 52, 53, 54, 55, 56, 57, 58, 59, 60, 61, 62, 63, 64, 65, 66, 67, 68, 69, 70, 71, 72, 73, 74, 75, 76, 77, 78, 79, 80, 81, 82, 83, 84, 85, 86, 87, 88, 89, 90, 91, 92, 93, 94, 99, 100, 101, 102, 103, 104, 105, 106, 107, 108, 109, 110, 111, 112, 113] (by decide +kernel) (by decide +kernel)
set_option maxRecDepth 20000 in
theorem gX2_write_X2_access : GoodIn wsX2_write (wsV RX2 73 RX2 yX2_access wsX2_access) := goodIn_app (goodIn_of _ (by decide +kernel)) ggX2_write_X2_access
set_option maxRecDepth 20000 in
theorem ggX2_write_X2_setWord : GoodIn wsX2_write wsX2_setWord := goodIn_r _ [98, 43, 2, 3, 4, 5, 99, 100, 101, 102, 103, 104, 105, 106, 107, 108, 109] (by decide +kernel) (by decide +kernel)
set_option maxRecDepth 20000 in
theorem gX2_write_X2_setWord : GoodIn wsX2_write (wsV RX2 62 RX2 yX2_setWord wsX2_setWord) := goodIn_app (goodIn_of _ (by decide +kernel)) ggX2_write_X2_setWord
theorem dX2_write_0 : decode cX2_write 0 = .ok (.iload_n 1, 1) := by decide +kernel
theorem dX2_write_1 : decode cX2_write 1 = .ok (.bipush 8, 2) := by decide +kernel
theorem dX2_write_3 : decode cX2_write 3 = .ok (.invokestatic 55, 3) := by decide +kernel
theorem dX2_write_6 : decode cX2_write 6 = .ok (.ifCond .ne 10, 3) := by decide +kernel
theorem dX2_write_9 : decode cX2_write 9 = .ok (.aload_n 0, 1) := by decide +kernel
theorem dX2_write_10 : decode cX2_write 10 = .ok (.iconst 0, 1) := by decide +kernel
theorem dX2_write_11 : decode cX2_write 11 = .ok (.putfield 41, 3) := by decide +kernel
theorem dX2_write_14 : decode cX2_write 14 = .ok (.iconst 0, 1) := by decide +kernel
theorem dX2_write_15 : decode cX2_write 15 = .ok (.ireturn, 1) := by decide +kernel
theorem dX2_write_16 : decode cX2_write 16 = .ok (.aload_n 0, 1) := by decide +kernel
theorem dX2_write_17 : decode cX2_write 17 = .ok (.iload_n 1, 1) := by decide +kernel
theorem dX2_write_18 : decode cX2_write 18 = .ok (.iload_n 2, 1) := by decide +kernel
theorem dX2_write_19 : decode cX2_write 19 = .ok (.iconst 1, 1) := by decide +kernel
theorem dX2_write_20 : decode cX2_write 20 = .ok (.invokevirtual 73, 3) := by decide +kernel
theorem dX2_write_23 : decode cX2_write 23 = .ok (.istore 4, 2) := by decide +kernel
theorem dX2_write_25 : decode cX2_write 25 = .ok (.iload 4, 2) := by decide +kernel
theorem dX2_write_27 : decode cX2_write 27 = .ok (.ifCond .lt 17, 3) := by decide +kernel
theorem dX2_write_30 : decode cX2_write 30 = .ok (.aload_n 0, 1) := by decide +kernel
theorem dX2_write_31 : decode cX2_write 31 = .ok (.iload 4, 2) := by decide +kernel
theorem dX2_write_33 : decode cX2_write 33 = .ok (.iload_n 3, 1) := by decide +kernel
theorem dX2_write_34 : decode cX2_write 34 = .ok (.invokevirtual 62, 3) := by decide +kernel
theorem dX2_write_37 : decode cX2_write 37 = .ok (.ifCond .eq 7, 3) := by decide +kernel
theorem dX2_write_40 : decode cX2_write 40 = .ok (.iconst 1, 1) := by decide +kernel
theorem dX2_write_41 : decode cX2_write 41 = .ok (.goto 4, 3) := by decide +kernel
theorem dX2_write_44 : decode cX2_write 44 = .ok (.iconst 0, 1) := by decide +kernel
theorem dX2_write_45 : decode cX2_write 45 = .ok (.ireturn, 1) := by decide +kernel
theorem dX2_fault_0 : decode cX2_fault 0 = .ok (.aload_n 0, 1) := by decide +kernel
theorem dX2_fault_1 : decode cX2_fault 1 = .ok (.getfield 41, 3) := by decide +kernel
theorem dX2_fault_4 : decode cX2_fault 4 = .ok (.ireturn, 1) := by decide +kernel
set_option maxRecDepth 20000 in
theorem ggX2_ring_X2_isBelow : GoodIn wsX2_ring wsX2_isBelow := goodIn_r _ [6] (by decide +kernel) (by decide +kernel)
set_option maxRecDepth 20000 in
theorem gX2_ring_X2_isBelow : GoodIn wsX2_ring (va_wsS RX2 55 yX2_isBelow wsX2_isBelow) := goodIn_app (goodIn_of _ (by decide +kernel)) ggX2_ring_X2_isBelow
set_option maxRecDepth 20000 in
theorem ggX2_ring_X0_begin : GoodIn wsX2_ring wsX0_begin := goodIn_r _ [11, 12, 13, 14, 15, 16, 17, 29, 30, 31, 32, 33, 34, 35, 36, 37, 38, 39, 40] (by decide +kernel) (by decide +kernel)
set_option maxRecDepth 20000 in
theorem gX2_ring_X0_begin : GoodIn wsX2_ring (wsV RX2 81 RX0 yX0_begin wsX0_begin) := goodIn_app (goodIn_of _ (by decide +kernel)) ggX2_ring_X0_begin
theorem dX2_ring_0 : decode cX2_ring 0 = .ok (.iload_n 1, 1) := by decide +kernel
theorem dX2_ring_1 : decode cX2_ring 1 = .ok (.bipush 8, 2) := by decide +kernel
theorem dX2_ring_3 : decode cX2_ring 3 = .ok (.invokestatic 55, 3) := by decide +kernel
theorem dX2_ring_6 : decode cX2_ring 6 = .ok (.ifCond .eq 29, 3) := by decide +kernel
theorem dX2_ring_9 : decode cX2_ring 9 = .ok (.iload_n 2, 1) := by decide +kernel
theorem dX2_ring_10 : decode cX2_ring 10 = .ok (.ldc 80, 2) := by decide +kernel
theorem dX2_ring_12 : decode cX2_ring 12 = .ok (.invokestatic 55, 3) := by decide +kernel
theorem dX2_ring_15 : decode cX2_ring 15 = .ok (.ifCond .eq 20, 3) := by decide +kernel
theorem dX2_ring_18 : decode cX2_ring 18 = .ok (.iload_n 2, 1) := by decide +kernel
theorem dX2_ring_19 : decode cX2_ring 19 = .ok (.iconst 3, 1) := by decide +kernel
theorem dX2_ring_20 : decode cX2_ring 20 = .ok (.iand, 1) := by decide +kernel
theorem dX2_ring_21 : decode cX2_ring 21 = .ok (.ifCond .ne 14, 3) := by decide +kernel
theorem dX2_ring_24 : decode cX2_ring 24 = .ok (.iload_n 3, 1) := by decide +kernel
theorem dX2_ring_25 : decode cX2_ring 25 = .ok (.iconst 1, 1) := by decide +kernel
theorem dX2_ring_26 : decode cX2_ring 26 = .ok (.if_icmp .lt 9, 3) := by decide +kernel
theorem dX2_ring_29 : decode cX2_ring 29 = .ok (.iload_n 3, 1) := by decide +kernel
theorem dX2_ring_30 : decode cX2_ring 30 = .ok (.bipush 64, 2) := by decide +kernel
theorem dX2_ring_32 : decode cX2_ring 32 = .ok (.if_icmp .le 5, 3) := by decide +kernel
theorem dX2_ring_35 : decode cX2_ring 35 = .ok (.iconst 0, 1) := by decide +kernel
theorem dX2_ring_36 : decode cX2_ring 36 = .ok (.ireturn, 1) := by decide +kernel
theorem dX2_ring_37 : decode cX2_ring 37 = .ok (.aload_n 0, 1) := by decide +kernel
theorem dX2_ring_38 : decode cX2_ring 38 = .ok (.getfield 33, 3) := by decide +kernel
theorem dX2_ring_41 : decode cX2_ring 41 = .ok (.iload_n 1, 1) := by decide +kernel
theorem dX2_ring_42 : decode cX2_ring 42 = .ok (.aaload, 1) := by decide +kernel
theorem dX2_ring_43 : decode cX2_ring 43 = .ok (.iload_n 2, 1) := by decide +kernel
theorem dX2_ring_44 : decode cX2_ring 44 = .ok (.iload_n 3, 1) := by decide +kernel
theorem dX2_ring_45 : decode cX2_ring 45 = .ok (.invokevirtual 81, 3) := by decide +kernel
theorem dX2_ring_48 : decode cX2_ring 48 = .ok (.iconst 1, 1) := by decide +kernel
theorem dX2_ring_49 : decode cX2_ring 49 = .ok (.ireturn, 1) := by decide +kernel
set_option maxRecDepth 20000 in
theorem ggX2_tail_X2_isBelow : GoodIn wsX2_tail wsX2_isBelow := goodIn_r _ [5] (by decide +kernel) (by decide +kernel)
set_option maxRecDepth 20000 in
theorem gX2_tail_X2_isBelow : GoodIn wsX2_tail (va_wsS RX2 55 yX2_isBelow wsX2_isBelow) := goodIn_app (goodIn_of _ (by decide +kernel)) ggX2_tail_X2_isBelow
theorem dX2_tail_0 : decode cX2_tail 0 = .ok (.iload_n 1, 1) := by decide +kernel
theorem dX2_tail_1 : decode cX2_tail 1 = .ok (.bipush 8, 2) := by decide +kernel
theorem dX2_tail_3 : decode cX2_tail 3 = .ok (.invokestatic 55, 3) := by decide +kernel
theorem dX2_tail_6 : decode cX2_tail 6 = .ok (.ifCond .eq 19, 3) := by decide +kernel
theorem dX2_tail_9 : decode cX2_tail 9 = .ok (.iload_n 2, 1) := by decide +kernel
theorem dX2_tail_10 : decode cX2_tail 10 = .ok (.aload_n 0, 1) := by decide +kernel
theorem dX2_tail_11 : decode cX2_tail 11 = .ok (.getfield 33, 3) := by decide +kernel
theorem dX2_tail_14 : decode cX2_tail 14 = .ok (.iload_n 1, 1) := by decide +kernel
theorem dX2_tail_15 : decode cX2_tail 15 = .ok (.aaload, 1) := by decide +kernel
theorem dX2_tail_16 : decode cX2_tail 16 = .ok (.getfield 84, 3) := by decide +kernel
theorem dX2_tail_19 : decode cX2_tail 19 = .ok (.invokestatic 55, 3) := by decide +kernel
theorem dX2_tail_22 : decode cX2_tail 22 = .ok (.ifCond .ne 5, 3) := by decide +kernel
theorem dX2_tail_25 : decode cX2_tail 25 = .ok (.iconst (-1), 1) := by decide +kernel
theorem dX2_tail_26 : decode cX2_tail 26 = .ok (.ireturn, 1) := by decide +kernel
theorem dX2_tail_27 : decode cX2_tail 27 = .ok (.aload_n 0, 1) := by decide +kernel
theorem dX2_tail_28 : decode cX2_tail 28 = .ok (.getfield 33, 3) := by decide +kernel
theorem dX2_tail_31 : decode cX2_tail 31 = .ok (.iload_n 1, 1) := by decide +kernel
theorem dX2_tail_32 : decode cX2_tail 32 = .ok (.aaload, 1) := by decide +kernel
theorem dX2_tail_33 : decode cX2_tail 33 = .ok (.astore_n 3, 1) := by decide +kernel
theorem dX2_tail_34 : decode cX2_tail 34 = .ok (.aload_n 3, 1) := by decide +kernel
theorem dX2_tail_35 : decode cX2_tail 35 = .ok (.iload_n 2, 1) := by decide +kernel
theorem dX2_tail_36 : decode cX2_tail 36 = .ok (.putfield 87, 3) := by decide +kernel
theorem dX2_tail_39 : decode cX2_tail 39 = .ok (.aload_n 3, 1) := by decide +kernel
theorem dX2_tail_40 : decode cX2_tail 40 = .ok (.getfield 90, 3) := by decide +kernel
theorem dX2_tail_43 : decode cX2_tail 43 = .ok (.ifCond .ne 19, 3) := by decide +kernel
theorem dX2_tail_46 : decode cX2_tail 46 = .ok (.aload_n 3, 1) := by decide +kernel
theorem dX2_tail_47 : decode cX2_tail 47 = .ok (.getfield 87, 3) := by decide +kernel
theorem dX2_tail_50 : decode cX2_tail 50 = .ok (.aload_n 3, 1) := by decide +kernel
theorem dX2_tail_51 : decode cX2_tail 51 = .ok (.getfield 93, 3) := by decide +kernel
theorem dX2_tail_54 : decode cX2_tail 54 = .ok (.if_icmp .eq 8, 3) := by decide +kernel
theorem dX2_tail_57 : decode cX2_tail 57 = .ok (.aload_n 3, 1) := by decide +kernel
theorem dX2_tail_58 : decode cX2_tail 58 = .ok (.iconst 1, 1) := by decide +kernel
theorem dX2_tail_59 : decode cX2_tail 59 = .ok (.putfield 90, 3) := by decide +kernel
theorem dX2_tail_62 : decode cX2_tail 62 = .ok (.aload_n 3, 1) := by decide +kernel
theorem dX2_tail_63 : decode cX2_tail 63 = .ok (.getfield 90, 3) := by decide +kernel
theorem dX2_tail_66 : decode cX2_tail 66 = .ok (.ireturn, 1) := by decide +kernel
set_option maxRecDepth 20000 in
theorem ggX2_step_X2_isBelow : GoodIn wsX2_step wsX2_isBelow := goodIn_r _ [5] (by decide +kernel) (by decide +kernel)
set_option maxRecDepth 20000 in
theorem gX2_step_X2_isBelow : GoodIn wsX2_step (va_wsS RX2 55 yX2_isBelow wsX2_isBelow) := goodIn_app (goodIn_of _ (by decide +kernel)) ggX2_step_X2_isBelow
set_option maxRecDepth 20000 in
theorem ggX2_step_X2_takeDescriptor : GoodIn wsX2_step wsX2_takeDescriptor := goodIn_r _ [9, 10, 11, 12, 13, 14, 15, 16, 17, 18, 19, 4, 20, 21, 22, 23, 24, 25, 26, 27, 28, 2, 3, 5, 29, 30, 31, 32, 33, 34, 35, 36, 37, 38, 39, 40, 41, 42, 43, 44, 45, 46, 47, 48, 49, 50, 51, 52, 53, 54, 55, 56, 57, 58, 59, 60, 61, 62, 63, 64, 65, 66, 67, 68, 69, 70, 71, 72, 73, 74, 75, 76, 77, 78, 79, 80, 81, 82, 83, 84, 85, 86, 87, 88, 89, 90, 91, 92, 93, 94, 95, 96, 97, 98, 99, 100, 101, 102, 103, 104, 105, 106, 107, 108, 109, 110, 111, 112, 113, 114, 147, 148, 149, 150, 151, 152, 153, 154, 155, 156, 157, 158, 136, 137, 138, 139, 140, 141, 142, 143, 144, 145, 146, 159, 160, 161, 162] (by decide +kernel) (by decide +kernel)
set_option maxRecDepth 20000 in
theorem gX2_step_X2_takeDescriptor : GoodIn wsX2_step (wsV RX2 99 RX2 yX2_takeDescriptor wsX2_takeDescriptor) := goodIn_app (goodIn_of _ (by decide +kernel)) ggX2_step_X2_takeDescriptor
set_option maxRecDepth 20000 in
theorem ggX2_step_X2_copyWord : GoodIn wsX2_step wsX2_copyWord := goodIn_r _ [118, 17, 18, 19, 4, 20, 21, 22, 23, 24, 25, 26, 27, 28, 2, 3, 5, 29, 30, 31, 32, 33, 34, 35, 36, 37, 38, 39, 40, 41, 42, 43, 44, 45, 46, 47, 48, 49, 50, 51, 52, 53, 54, 55, 56, 57, 58, 59, 60, 61, 62, 63, 64, 65, 66, 67, 68, 69, 70, 71, 72, 73, 74, 75, 76, 77, 78, 79, 80, 81, 82, 83, 84, 85, 86, 87, 88, 89, 90, 91, 92, 93, 94, 95, 96, 97, 98, 99, 100, 101, 102, 103, 104, 105, 106, 119, 120, 121, 122, 147, 148, 149, 150, 151, 152, 153, 154, 155, 156, 157, 158, 136, 137, 138, 139, 140, 141, 142, 143, 144, 145, 146, 159, 160, 161, 162] (by decide +kernel) (by decide +kernel)
set_option maxRecDepth 20000 in
theorem gX2_step_X2_copyWord : GoodIn wsX2_step (wsV RX2 109 RX2 yX2_copyWord wsX2_copyWord) := goodIn_app (goodIn_of _ (by decide +kernel)) ggX2_step_X2_copyWord
set_option maxRecDepth 20000 in
theorem ggX2_step_X2_finishDescriptor : GoodIn wsX2_step wsX2_finishDescriptor := goodIn_r _ [126, 10, 11, 12, 13, 14, 15, 16, 17, 18, 19, 4, 20, 21, 22, 23, 24, 25, 26, 27, 28, 2, 3, 5, 29, 30, 31, 32, 33, 34, 35, 36, 37, 38, 39, 40, 41, 42, 43, 44, 45, 46, 47, 48, 49, 50, 51, 52, 53, 54, 55, 56, 57, 58, 59, 60, 61, 62, 63, 64, 65, 66, 67, 68, 69, 70, 71, 72, 73, 74, 75, 76, 77, 78, 79, 80, 81, 82, 83, 84, 85, 86, 87, 88, 89, 90, 91, 92, 93, 94, 95, 96, 97, 98, 99, 100, 101, 102, 103, 104, 105, 106, 119, 120, 121, 122, 127, 128, 129, 130, 131, 132, 133, 134, 135, 147, 148, 149, 150, 151, 152, 153, 154, 155, 156, 157, 158, 136, 137, 138, 139, 140, 141, 142, 143, 144, 145, 146, 159, 160, 161, 162] (by decide +kernel) (by decide +kernel)
set_option maxRecDepth 20000 in
theorem gX2_step_X2_finishDescriptor : GoodIn wsX2_step (wsV RX2 112 RX2 yX2_finishDescriptor wsX2_finishDescriptor) := goodIn_app (goodIn_of _ (by decide +kernel)) ggX2_step_X2_finishDescriptor
theorem dX2_step_0 : decode cX2_step 0 = .ok (.iload_n 1, 1) := by decide +kernel
theorem dX2_step_1 : decode cX2_step 1 = .ok (.bipush 8, 2) := by decide +kernel
theorem dX2_step_3 : decode cX2_step 3 = .ok (.invokestatic 55, 3) := by decide +kernel
theorem dX2_step_6 : decode cX2_step 6 = .ok (.ifCond .eq 14, 3) := by decide +kernel
theorem dX2_step_9 : decode cX2_step 9 = .ok (.iload_n 2, 1) := by decide +kernel
theorem dX2_step_10 : decode cX2_step 10 = .ok (.ifCond .lt 10, 3) := by decide +kernel
theorem dX2_step_13 : decode cX2_step 13 = .ok (.iload_n 2, 1) := by decide +kernel
theorem dX2_step_14 : decode cX2_step 14 = .ok (.sipush 1000, 3) := by decide +kernel
theorem dX2_step_17 : decode cX2_step 17 = .ok (.if_icmp .le 5, 3) := by decide +kernel
theorem dX2_step_20 : decode cX2_step 20 = .ok (.iconst (-1), 1) := by decide +kernel
theorem dX2_step_21 : decode cX2_step 21 = .ok (.ireturn, 1) := by decide +kernel
theorem dX2_step_22 : decode cX2_step 22 = .ok (.aload_n 0, 1) := by decide +kernel
theorem dX2_step_23 : decode cX2_step 23 = .ok (.getfield 33, 3) := by decide +kernel
theorem dX2_step_26 : decode cX2_step 26 = .ok (.iload_n 1, 1) := by decide +kernel
theorem dX2_step_27 : decode cX2_step 27 = .ok (.aaload, 1) := by decide +kernel
theorem dX2_step_28 : decode cX2_step 28 = .ok (.astore_n 3, 1) := by decide +kernel
theorem dX2_step_29 : decode cX2_step 29 = .ok (.iconst 0, 1) := by decide +kernel
theorem dX2_step_30 : decode cX2_step 30 = .ok (.istore 4, 2) := by decide +kernel
theorem dX2_step_32 : decode cX2_step 32 = .ok (.iload 4, 2) := by decide +kernel
theorem dX2_step_34 : decode cX2_step 34 = .ok (.iload_n 2, 1) := by decide +kernel
theorem dX2_step_35 : decode cX2_step 35 = .ok (.if_icmp .ge 71, 3) := by decide +kernel
theorem dX2_step_38 : decode cX2_step 38 = .ok (.aload_n 3, 1) := by decide +kernel
theorem dX2_step_39 : decode cX2_step 39 = .ok (.getfield 90, 3) := by decide +kernel
theorem dX2_step_42 : decode cX2_step 42 = .ok (.iconst 1, 1) := by decide +kernel
theorem dX2_step_43 : decode cX2_step 43 = .ok (.if_icmp .ne 63, 3) := by decide +kernel
theorem dX2_step_46 : decode cX2_step 46 = .ok (.aload_n 3, 1) := by decide +kernel
theorem dX2_step_47 : decode cX2_step 47 = .ok (.getfield 96, 3) := by decide +kernel
theorem dX2_step_50 : decode cX2_step 50 = .ok (.ifCond .ne 12, 3) := by decide +kernel
theorem dX2_step_53 : decode cX2_step 53 = .ok (.aload_n 0, 1) := by decide +kernel
theorem dX2_step_54 : decode cX2_step 54 = .ok (.iload_n 1, 1) := by decide +kernel
theorem dX2_step_55 : decode cX2_step 55 = .ok (.aload_n 3, 1) := by decide +kernel
theorem dX2_step_56 : decode cX2_step 56 = .ok (.invokevirtual 99, 3) := by decide +kernel
theorem dX2_step_59 : decode cX2_step 59 = .ok (.goto 29, 3) := by decide +kernel
theorem dX2_step_62 : decode cX2_step 62 = .ok (.aload_n 3, 1) := by decide +kernel
theorem dX2_step_63 : decode cX2_step 63 = .ok (.getfield 103, 3) := by decide +kernel
theorem dX2_step_66 : decode cX2_step 66 = .ok (.aload_n 3, 1) := by decide +kernel
theorem dX2_step_67 : decode cX2_step 67 = .ok (.getfield 106, 3) := by decide +kernel
theorem dX2_step_70 : decode cX2_step 70 = .ok (.if_icmp .ge 12, 3) := by decide +kernel
theorem dX2_step_73 : decode cX2_step 73 = .ok (.aload_n 0, 1) := by decide +kernel
theorem dX2_step_74 : decode cX2_step 74 = .ok (.iload_n 1, 1) := by decide +kernel
theorem dX2_step_75 : decode cX2_step 75 = .ok (.aload_n 3, 1) := by decide +kernel
theorem dX2_step_76 : decode cX2_step 76 = .ok (.invokevirtual 109, 3) := by decide +kernel
theorem dX2_step_79 : decode cX2_step 79 = .ok (.goto 9, 3) := by decide +kernel
theorem dX2_step_82 : decode cX2_step 82 = .ok (.aload_n 0, 1) := by decide +kernel
theorem dX2_step_83 : decode cX2_step 83 = .ok (.iload_n 1, 1) := by decide +kernel
theorem dX2_step_84 : decode cX2_step 84 = .ok (.aload_n 3, 1) := by decide +kernel
theorem dX2_step_85 : decode cX2_step 85 = .ok (.invokevirtual 112, 3) := by decide +kernel
theorem dX2_step_88 : decode cX2_step 88 = .ok (.istore 5, 2) := by decide +kernel
theorem dX2_step_90 : decode cX2_step 90 = .ok (.iload 5, 2) := by decide +kernel
theorem dX2_step_92 : decode cX2_step 92 = .ok (.ifCond .ne 8, 3) := by decide +kernel
theorem dX2_step_95 : decode cX2_step 95 = .ok (.aload_n 3, 1) := by decide +kernel
theorem dX2_step_96 : decode cX2_step 96 = .ok (.iconst 2, 1) := by decide +kernel
theorem dX2_step_97 : decode cX2_step 97 = .ok (.putfield 90, 3) := by decide +kernel
theorem dX2_step_100 : decode cX2_step 100 = .ok (.iinc 4 1, 3) := by decide +kernel
theorem dX2_step_103 : decode cX2_step 103 = .ok (.goto (-71), 3) := by decide +kernel
theorem dX2_step_106 : decode cX2_step 106 = .ok (.iload 4, 2) := by decide +kernel
theorem dX2_step_108 : decode cX2_step 108 = .ok (.ireturn, 1) := by decide +kernel
set_option maxRecDepth 20000 in
theorem ggX2_resume_X2_isBelow : GoodIn wsX2_resume wsX2_isBelow := goodIn_r _ [5] (by decide +kernel) (by decide +kernel)
set_option maxRecDepth 20000 in
theorem gX2_resume_X2_isBelow : GoodIn wsX2_resume (va_wsS RX2 55 yX2_isBelow wsX2_isBelow) := goodIn_app (goodIn_of _ (by decide +kernel)) ggX2_resume_X2_isBelow
theorem dX2_resume_0 : decode cX2_resume 0 = .ok (.iload_n 1, 1) := by decide +kernel
theorem dX2_resume_1 : decode cX2_resume 1 = .ok (.bipush 8, 2) := by decide +kernel
theorem dX2_resume_3 : decode cX2_resume 3 = .ok (.invokestatic 55, 3) := by decide +kernel
theorem dX2_resume_6 : decode cX2_resume 6 = .ok (.ifCond .eq 16, 3) := by decide +kernel
theorem dX2_resume_9 : decode cX2_resume 9 = .ok (.aload_n 0, 1) := by decide +kernel
theorem dX2_resume_10 : decode cX2_resume 10 = .ok (.getfield 33, 3) := by decide +kernel
theorem dX2_resume_13 : decode cX2_resume 13 = .ok (.iload_n 1, 1) := by decide +kernel
theorem dX2_resume_14 : decode cX2_resume 14 = .ok (.aaload, 1) := by decide +kernel
theorem dX2_resume_15 : decode cX2_resume 15 = .ok (.getfield 90, 3) := by decide +kernel
theorem dX2_resume_18 : decode cX2_resume 18 = .ok (.iconst 2, 1) := by decide +kernel
theorem dX2_resume_19 : decode cX2_resume 19 = .ok (.if_icmp .eq 5, 3) := by decide +kernel
theorem dX2_resume_22 : decode cX2_resume 22 = .ok (.iconst (-1), 1) := by decide +kernel
theorem dX2_resume_23 : decode cX2_resume 23 = .ok (.ireturn, 1) := by decide +kernel
theorem dX2_resume_24 : decode cX2_resume 24 = .ok (.aload_n 0, 1) := by decide +kernel
theorem dX2_resume_25 : decode cX2_resume 25 = .ok (.getfield 33, 3) := by decide +kernel
theorem dX2_resume_28 : decode cX2_resume 28 = .ok (.iload_n 1, 1) := by decide +kernel
theorem dX2_resume_29 : decode cX2_resume 29 = .ok (.aaload, 1) := by decide +kernel
theorem dX2_resume_30 : decode cX2_resume 30 = .ok (.astore_n 2, 1) := by decide +kernel
theorem dX2_resume_31 : decode cX2_resume 31 = .ok (.aload_n 2, 1) := by decide +kernel
theorem dX2_resume_32 : decode cX2_resume 32 = .ok (.iconst 0, 1) := by decide +kernel
theorem dX2_resume_33 : decode cX2_resume 33 = .ok (.putfield 96, 3) := by decide +kernel
theorem dX2_resume_36 : decode cX2_resume 36 = .ok (.aload_n 2, 1) := by decide +kernel
theorem dX2_resume_37 : decode cX2_resume 37 = .ok (.aload_n 2, 1) := by decide +kernel
theorem dX2_resume_38 : decode cX2_resume 38 = .ok (.getfield 93, 3) := by decide +kernel
theorem dX2_resume_41 : decode cX2_resume 41 = .ok (.aload_n 2, 1) := by decide +kernel
theorem dX2_resume_42 : decode cX2_resume 42 = .ok (.getfield 87, 3) := by decide +kernel
theorem dX2_resume_45 : decode cX2_resume 45 = .ok (.if_icmp .ne 7, 3) := by decide +kernel
theorem dX2_resume_48 : decode cX2_resume 48 = .ok (.iconst 0, 1) := by decide +kernel
theorem dX2_resume_49 : decode cX2_resume 49 = .ok (.goto 4, 3) := by decide +kernel
theorem dX2_resume_52 : decode cX2_resume 52 = .ok (.iconst 1, 1) := by decide +kernel
theorem dX2_resume_53 : decode cX2_resume 53 = .ok (.putfield 90, 3) := by decide +kernel
theorem dX2_resume_56 : decode cX2_resume 56 = .ok (.aload_n 2, 1) := by decide +kernel
theorem dX2_resume_57 : decode cX2_resume 57 = .ok (.getfield 90, 3) := by decide +kernel
theorem dX2_resume_60 : decode cX2_resume 60 = .ok (.ireturn, 1) := by decide +kernel
set_option maxRecDepth 20000 in
theorem ggX2_engine_X2_isBelow : GoodIn wsX2_engine wsX2_isBelow := goodIn_r _ [5] (by decide +kernel) (by decide +kernel)
set_option maxRecDepth 20000 in
theorem gX2_engine_X2_isBelow : GoodIn wsX2_engine (va_wsS RX2 55 yX2_isBelow wsX2_isBelow) := goodIn_app (goodIn_of _ (by decide +kernel)) ggX2_engine_X2_isBelow
theorem dX2_engine_0 : decode cX2_engine 0 = .ok (.iload_n 1, 1) := by decide +kernel
theorem dX2_engine_1 : decode cX2_engine 1 = .ok (.bipush 8, 2) := by decide +kernel
theorem dX2_engine_3 : decode cX2_engine 3 = .ok (.invokestatic 55, 3) := by decide +kernel
theorem dX2_engine_6 : decode cX2_engine 6 = .ok (.ifCond .ne 5, 3) := by decide +kernel
theorem dX2_engine_9 : decode cX2_engine 9 = .ok (.iconst (-1), 1) := by decide +kernel
theorem dX2_engine_10 : decode cX2_engine 10 = .ok (.ireturn, 1) := by decide +kernel
theorem dX2_engine_11 : decode cX2_engine 11 = .ok (.aload_n 0, 1) := by decide +kernel
theorem dX2_engine_12 : decode cX2_engine 12 = .ok (.getfield 33, 3) := by decide +kernel
theorem dX2_engine_15 : decode cX2_engine 15 = .ok (.iload_n 1, 1) := by decide +kernel
theorem dX2_engine_16 : decode cX2_engine 16 = .ok (.aaload, 1) := by decide +kernel
theorem dX2_engine_17 : decode cX2_engine 17 = .ok (.astore_n 3, 1) := by decide +kernel
theorem dX2_engine_18 : decode cX2_engine 18 = .ok (.iload_n 2, 1) := by decide +kernel
theorem dX2_engine_19 : decode cX2_engine 19 = .ok (.tableswitch 69 0 4 #[33, 38, 43, 48, 53], 33) := by decide +kernel
theorem dX2_engine_52 : decode cX2_engine 52 = .ok (.aload_n 3, 1) := by decide +kernel
theorem dX2_engine_53 : decode cX2_engine 53 = .ok (.getfield 90, 3) := by decide +kernel
theorem dX2_engine_56 : decode cX2_engine 56 = .ok (.ireturn, 1) := by decide +kernel
theorem dX2_engine_57 : decode cX2_engine 57 = .ok (.aload_n 3, 1) := by decide +kernel
theorem dX2_engine_58 : decode cX2_engine 58 = .ok (.getfield 93, 3) := by decide +kernel
theorem dX2_engine_61 : decode cX2_engine 61 = .ok (.ireturn, 1) := by decide +kernel
theorem dX2_engine_62 : decode cX2_engine 62 = .ok (.aload_n 3, 1) := by decide +kernel
theorem dX2_engine_63 : decode cX2_engine 63 = .ok (.getfield 87, 3) := by decide +kernel
theorem dX2_engine_66 : decode cX2_engine 66 = .ok (.ireturn, 1) := by decide +kernel
theorem dX2_engine_67 : decode cX2_engine 67 = .ok (.aload_n 3, 1) := by decide +kernel
theorem dX2_engine_68 : decode cX2_engine 68 = .ok (.getfield 115, 3) := by decide +kernel
theorem dX2_engine_71 : decode cX2_engine 71 = .ok (.ireturn, 1) := by decide +kernel
theorem dX2_engine_72 : decode cX2_engine 72 = .ok (.aload_n 3, 1) := by decide +kernel
theorem dX2_engine_73 : decode cX2_engine 73 = .ok (.getfield 96, 3) := by decide +kernel
theorem dX2_engine_76 : decode cX2_engine 76 = .ok (.ifCond .eq 10, 3) := by decide +kernel
theorem dX2_engine_79 : decode cX2_engine 79 = .ok (.aload_n 3, 1) := by decide +kernel
theorem dX2_engine_80 : decode cX2_engine 80 = .ok (.getfield 103, 3) := by decide +kernel
theorem dX2_engine_83 : decode cX2_engine 83 = .ok (.goto 4, 3) := by decide +kernel
theorem dX2_engine_86 : decode cX2_engine 86 = .ok (.iconst (-1), 1) := by decide +kernel
theorem dX2_engine_87 : decode cX2_engine 87 = .ok (.ireturn, 1) := by decide +kernel
theorem dX2_engine_88 : decode cX2_engine 88 = .ok (.iconst (-1), 1) := by decide +kernel
theorem dX2_engine_89 : decode cX2_engine 89 = .ok (.ireturn, 1) := by decide +kernel
set_option maxRecDepth 20000 in
theorem ggX2_command_X1_isFull : GoodIn wsX2_command wsX1_isFull := goodIn_r _ [6, 7, 8, 39, 40, 41, 42] (by decide +kernel) (by decide +kernel)
set_option maxRecDepth 20000 in
theorem gX2_command_X1_isFull : GoodIn wsX2_command (wsV RX2 118 RX1 yX1_isFull wsX1_isFull) := goodIn_app (goodIn_of _ (by decide +kernel)) ggX2_command_X1_isFull
set_option maxRecDepth 20000 in
theorem ggX2_command_X1_open : GoodIn wsX2_command wsX1_open := goodIn_r _ [12, 7, 13, 3, 4, 5, 6, 8, 14, 15, 16, 17, 18, 19, 39, 40, 41, 42] (by decide +kernel) (by decide +kernel)
set_option maxRecDepth 20000 in
theorem gX2_command_X1_open : GoodIn wsX2_command (wsV RX2 122 RX1 yX1_open wsX1_open) := goodIn_app (goodIn_of _ (by decide +kernel)) ggX2_command_X1_open
set_option maxRecDepth 20000 in
theorem ggX2_command_X1_put : GoodIn wsX2_command wsX1_put := goodIn_r _ [23, 19, 18, 24, 25, 26, 5, 27, 7, 39, 40, 41, 42] (by decide +kernel) (by decide +kernel)
set_option maxRecDepth 20000 in
theorem gX2_command_X1_put : GoodIn wsX2_command (wsV RX2 126 RX1 yX1_put wsX1_put) := goodIn_app (goodIn_of _ (by decide +kernel)) ggX2_command_X1_put
theorem dX2_command_0 : decode cX2_command 0 = .ok (.iload_n 1, 1) := by decide +kernel
theorem dX2_command_1 : decode cX2_command 1 = .ok (.ifCond .lt 18, 3) := by decide +kernel
theorem dX2_command_4 : decode cX2_command 4 = .ok (.iload_n 1, 1) := by decide +kernel
theorem dX2_command_5 : decode cX2_command 5 = .ok (.iconst 5, 1) := by decide +kernel
theorem dX2_command_6 : decode cX2_command 6 = .ok (.if_icmp .gt 13, 3) := by decide +kernel
theorem dX2_command_9 : decode cX2_command 9 = .ok (.aload_n 0, 1) := by decide +kernel
theorem dX2_command_10 : decode cX2_command 10 = .ok (.getfield 28, 3) := by decide +kernel
theorem dX2_command_13 : decode cX2_command 13 = .ok (.invokevirtual 118, 3) := by decide +kernel
theorem dX2_command_16 : decode cX2_command 16 = .ok (.ifCond .eq 5, 3) := by decide +kernel
theorem dX2_command_19 : decode cX2_command 19 = .ok (.iconst (-1), 1) := by decide +kernel
theorem dX2_command_20 : decode cX2_command 20 = .ok (.ireturn, 1) := by decide +kernel
theorem dX2_command_21 : decode cX2_command 21 = .ok (.aload_n 0, 1) := by decide +kernel
theorem dX2_command_22 : decode cX2_command 22 = .ok (.getfield 28, 3) := by decide +kernel
theorem dX2_command_25 : decode cX2_command 25 = .ok (.invokevirtual 122, 3) := by decide +kernel
theorem dX2_command_28 : decode cX2_command 28 = .ok (.istore 4, 2) := by decide +kernel
theorem dX2_command_30 : decode cX2_command 30 = .ok (.aload_n 0, 1) := by decide +kernel
theorem dX2_command_31 : decode cX2_command 31 = .ok (.getfield 28, 3) := by decide +kernel
theorem dX2_command_34 : decode cX2_command 34 = .ok (.iload 4, 2) := by decide +kernel
theorem dX2_command_36 : decode cX2_command 36 = .ok (.iconst 0, 1) := by decide +kernel
theorem dX2_command_37 : decode cX2_command 37 = .ok (.iload_n 1, 1) := by decide +kernel
theorem dX2_command_38 : decode cX2_command 38 = .ok (.invokevirtual 126, 3) := by decide +kernel
theorem dX2_command_41 : decode cX2_command 41 = .ok (.aload_n 0, 1) := by decide +kernel
theorem dX2_command_42 : decode cX2_command 42 = .ok (.getfield 28, 3) := by decide +kernel
theorem dX2_command_45 : decode cX2_command 45 = .ok (.iload 4, 2) := by decide +kernel
theorem dX2_command_47 : decode cX2_command 47 = .ok (.iconst 1, 1) := by decide +kernel
theorem dX2_command_48 : decode cX2_command 48 = .ok (.iload_n 2, 1) := by decide +kernel
theorem dX2_command_49 : decode cX2_command 49 = .ok (.invokevirtual 126, 3) := by decide +kernel
theorem dX2_command_52 : decode cX2_command 52 = .ok (.aload_n 0, 1) := by decide +kernel
theorem dX2_command_53 : decode cX2_command 53 = .ok (.getfield 28, 3) := by decide +kernel
theorem dX2_command_56 : decode cX2_command 56 = .ok (.iload 4, 2) := by decide +kernel
theorem dX2_command_58 : decode cX2_command 58 = .ok (.iconst 2, 1) := by decide +kernel
theorem dX2_command_59 : decode cX2_command 59 = .ok (.iload_n 3, 1) := by decide +kernel
theorem dX2_command_60 : decode cX2_command 60 = .ok (.invokevirtual 126, 3) := by decide +kernel
theorem dX2_command_63 : decode cX2_command 63 = .ok (.aload_n 0, 1) := by decide +kernel
theorem dX2_command_64 : decode cX2_command 64 = .ok (.getfield 28, 3) := by decide +kernel
theorem dX2_command_67 : decode cX2_command 67 = .ok (.getfield 130, 3) := by decide +kernel
theorem dX2_command_70 : decode cX2_command 70 = .ok (.ireturn, 1) := by decide +kernel
set_option maxRecDepth 20000 in
theorem ggX2_obey_X1_cell : GoodIn wsX2_obey wsX1_cell := goodIn_r _ [6, 7, 8, 9, 10, 11, 5, 12, 13, 64, 65, 66, 67] (by decide +kernel) (by decide +kernel)
set_option maxRecDepth 20000 in
theorem gX2_obey_X1_cell : GoodIn wsX2_obey (wsV RX2 133 RX1 yX1_cell wsX1_cell) := goodIn_app (goodIn_of _ (by decide +kernel)) ggX2_obey_X1_cell
set_option maxRecDepth 20000 in
theorem ggX2_obey_X2_carryOut : GoodIn wsX2_obey wsX2_carryOut := goodIn_r _ [18, 19, 20, 21, 22, 23, 5, 24, 13, 25, 26, 27, 17, 28, 2, 3, 4, 6, 7, 8, 9, 10, 11, 12, 29, 30, 31, 32, 33, 34, 35, 36, 37, 38, 39, 40, 41, 42, 43, 44, 45, 46, 47, 48, 49, 50, 51, 52, 53, 54, 55, 56, 57, 58, 59, 60, 61, 62, 63, 64, 65, 66, 67] (by decide +kernel) (by decide +kernel)
set_option maxRecDepth 20000 in
theorem gX2_obey_X2_carryOut : GoodIn wsX2_obey (wsV RX2 136 RX2 yX2_carryOut wsX2_carryOut) := goodIn_app (goodIn_of _ (by decide +kernel)) ggX2_obey_X2_carryOut
set_option maxRecDepth 20000 in
theorem ggX2_obey_X1_remove : GoodIn wsX2_obey wsX1_remove := goodIn_r _ [32, 13, 8, 7, 64, 65, 66, 67] (by decide +kernel) (by decide +kernel)
set_option maxRecDepth 20000 in
theorem gX2_obey_X1_remove : GoodIn wsX2_obey (wsV RX2 139 RX1 yX1_remove wsX1_remove) := goodIn_app (goodIn_of _ (by decide +kernel)) ggX2_obey_X1_remove
theorem dX2_obey_0 : decode cX2_obey 0 = .ok (.iload_n 1, 1) := by decide +kernel
theorem dX2_obey_1 : decode cX2_obey 1 = .ok (.ifCond .ge 5, 3) := by decide +kernel
theorem dX2_obey_4 : decode cX2_obey 4 = .ok (.iconst (-1), 1) := by decide +kernel
theorem dX2_obey_5 : decode cX2_obey 5 = .ok (.ireturn, 1) := by decide +kernel
theorem dX2_obey_6 : decode cX2_obey 6 = .ok (.iload_n 1, 1) := by decide +kernel
theorem dX2_obey_7 : decode cX2_obey 7 = .ok (.aload_n 0, 1) := by decide +kernel
theorem dX2_obey_8 : decode cX2_obey 8 = .ok (.getfield 28, 3) := by decide +kernel
theorem dX2_obey_11 : decode cX2_obey 11 = .ok (.getfield 130, 3) := by decide +kernel
theorem dX2_obey_14 : decode cX2_obey 14 = .ok (.if_icmp .ge 7, 3) := by decide +kernel
theorem dX2_obey_17 : decode cX2_obey 17 = .ok (.iload_n 1, 1) := by decide +kernel
theorem dX2_obey_18 : decode cX2_obey 18 = .ok (.goto 10, 3) := by decide +kernel
theorem dX2_obey_21 : decode cX2_obey 21 = .ok (.aload_n 0, 1) := by decide +kernel
theorem dX2_obey_22 : decode cX2_obey 22 = .ok (.getfield 28, 3) := by decide +kernel
theorem dX2_obey_25 : decode cX2_obey 25 = .ok (.getfield 130, 3) := by decide +kernel
theorem dX2_obey_28 : decode cX2_obey 28 = .ok (.istore_n 2, 1) := by decide +kernel
theorem dX2_obey_29 : decode cX2_obey 29 = .ok (.iconst 0, 1) := by decide +kernel
theorem dX2_obey_30 : decode cX2_obey 30 = .ok (.istore_n 3, 1) := by decide +kernel
theorem dX2_obey_31 : decode cX2_obey 31 = .ok (.iload_n 3, 1) := by decide +kernel
theorem dX2_obey_32 : decode cX2_obey 32 = .ok (.iload_n 2, 1) := by decide +kernel
theorem dX2_obey_33 : decode cX2_obey 33 = .ok (.if_icmp .ge 48, 3) := by decide +kernel
theorem dX2_obey_36 : decode cX2_obey 36 = .ok (.aload_n 0, 1) := by decide +kernel
theorem dX2_obey_37 : decode cX2_obey 37 = .ok (.aload_n 0, 1) := by decide +kernel
theorem dX2_obey_38 : decode cX2_obey 38 = .ok (.getfield 28, 3) := by decide +kernel
theorem dX2_obey_41 : decode cX2_obey 41 = .ok (.iconst 0, 1) := by decide +kernel
theorem dX2_obey_42 : decode cX2_obey 42 = .ok (.iconst 0, 1) := by decide +kernel
theorem dX2_obey_43 : decode cX2_obey 43 = .ok (.invokevirtual 133, 3) := by decide +kernel
theorem dX2_obey_46 : decode cX2_obey 46 = .ok (.aload_n 0, 1) := by decide +kernel
theorem dX2_obey_47 : decode cX2_obey 47 = .ok (.getfield 28, 3) := by decide +kernel
theorem dX2_obey_50 : decode cX2_obey 50 = .ok (.iconst 0, 1) := by decide +kernel
theorem dX2_obey_51 : decode cX2_obey 51 = .ok (.iconst 1, 1) := by decide +kernel
theorem dX2_obey_52 : decode cX2_obey 52 = .ok (.invokevirtual 133, 3) := by decide +kernel
theorem dX2_obey_55 : decode cX2_obey 55 = .ok (.aload_n 0, 1) := by decide +kernel
theorem dX2_obey_56 : decode cX2_obey 56 = .ok (.getfield 28, 3) := by decide +kernel
theorem dX2_obey_59 : decode cX2_obey 59 = .ok (.iconst 0, 1) := by decide +kernel
theorem dX2_obey_60 : decode cX2_obey 60 = .ok (.iconst 2, 1) := by decide +kernel
theorem dX2_obey_61 : decode cX2_obey 61 = .ok (.invokevirtual 133, 3) := by decide +kernel
theorem dX2_obey_64 : decode cX2_obey 64 = .ok (.invokevirtual 136, 3) := by decide +kernel
theorem dX2_obey_67 : decode cX2_obey 67 = .ok (.aload_n 0, 1) := by decide +kernel
theorem dX2_obey_68 : decode cX2_obey 68 = .ok (.getfield 28, 3) := by decide +kernel
theorem dX2_obey_71 : decode cX2_obey 71 = .ok (.iconst 0, 1) := by decide +kernel
theorem dX2_obey_72 : decode cX2_obey 72 = .ok (.invokevirtual 139, 3) := by decide +kernel
theorem dX2_obey_75 : decode cX2_obey 75 = .ok (.iinc 3 1, 3) := by decide +kernel
theorem dX2_obey_78 : decode cX2_obey 78 = .ok (.goto (-47), 3) := by decide +kernel
theorem dX2_obey_81 : decode cX2_obey 81 = .ok (.iload_n 2, 1) := by decide +kernel
theorem dX2_obey_82 : decode cX2_obey 82 = .ok (.ireturn, 1) := by decide +kernel
theorem dX2_count_0 : decode cX2_count 0 = .ok (.iload_n 1, 1) := by decide +kernel
theorem dX2_count_1 : decode cX2_count 1 = .ok (.tableswitch 107 0 7 #[47, 55, 63, 76, 84, 92, 97, 102], 47) := by decide +kernel
theorem dX2_count_48 : decode cX2_count 48 = .ok (.aload_n 0, 1) := by decide +kernel
theorem dX2_count_49 : decode cX2_count 49 = .ok (.getfield 28, 3) := by decide +kernel
theorem dX2_count_52 : decode cX2_count 52 = .ok (.getfield 130, 3) := by decide +kernel
theorem dX2_count_55 : decode cX2_count 55 = .ok (.ireturn, 1) := by decide +kernel
theorem dX2_count_56 : decode cX2_count 56 = .ok (.aload_n 0, 1) := by decide +kernel
theorem dX2_count_57 : decode cX2_count 57 = .ok (.getfield 25, 3) := by decide +kernel
theorem dX2_count_60 : decode cX2_count 60 = .ok (.getfield 130, 3) := by decide +kernel
theorem dX2_count_63 : decode cX2_count 63 = .ok (.ireturn, 1) := by decide +kernel
theorem dX2_count_64 : decode cX2_count 64 = .ok (.aload_n 0, 1) := by decide +kernel
theorem dX2_count_65 : decode cX2_count 65 = .ok (.getfield 50, 3) := by decide +kernel
theorem dX2_count_68 : decode cX2_count 68 = .ok (.ifCond .eq 7, 3) := by decide +kernel
theorem dX2_count_71 : decode cX2_count 71 = .ok (.iconst 1, 1) := by decide +kernel
theorem dX2_count_72 : decode cX2_count 72 = .ok (.goto 4, 3) := by decide +kernel
theorem dX2_count_75 : decode cX2_count 75 = .ok (.iconst 0, 1) := by decide +kernel
theorem dX2_count_76 : decode cX2_count 76 = .ok (.ireturn, 1) := by decide +kernel
theorem dX2_count_77 : decode cX2_count 77 = .ok (.aload_n 0, 1) := by decide +kernel
theorem dX2_count_78 : decode cX2_count 78 = .ok (.getfield 18, 3) := by decide +kernel
theorem dX2_count_81 : decode cX2_count 81 = .ok (.getfield 130, 3) := by decide +kernel
theorem dX2_count_84 : decode cX2_count 84 = .ok (.ireturn, 1) := by decide +kernel
theorem dX2_count_85 : decode cX2_count 85 = .ok (.aload_n 0, 1) := by decide +kernel
theorem dX2_count_86 : decode cX2_count 86 = .ok (.getfield 22, 3) := by decide +kernel
theorem dX2_count_89 : decode cX2_count 89 = .ok (.getfield 130, 3) := by decide +kernel
theorem dX2_count_92 : decode cX2_count 92 = .ok (.ireturn, 1) := by decide +kernel
theorem dX2_count_93 : decode cX2_count 93 = .ok (.aload_n 0, 1) := by decide +kernel
theorem dX2_count_94 : decode cX2_count 94 = .ok (.getfield 44, 3) := by decide +kernel
theorem dX2_count_97 : decode cX2_count 97 = .ok (.ireturn, 1) := by decide +kernel
theorem dX2_count_98 : decode cX2_count 98 = .ok (.aload_n 0, 1) := by decide +kernel
theorem dX2_count_99 : decode cX2_count 99 = .ok (.getfield 47, 3) := by decide +kernel
theorem dX2_count_102 : decode cX2_count 102 = .ok (.ireturn, 1) := by decide +kernel
theorem dX2_count_103 : decode cX2_count 103 = .ok (.aload_n 0, 1) := by decide +kernel
theorem dX2_count_104 : decode cX2_count 104 = .ok (.getfield 37, 3) := by decide +kernel
theorem dX2_count_107 : decode cX2_count 107 = .ok (.ireturn, 1) := by decide +kernel
theorem dX2_count_108 : decode cX2_count 108 = .ok (.iconst (-1), 1) := by decide +kernel
theorem dX2_count_109 : decode cX2_count 109 = .ok (.ireturn, 1) := by decide +kernel
set_option maxRecDepth 20000 in
theorem ggX2_record_X1_cell : GoodIn wsX2_record wsX1_cell := goodIn_r _ [6, 7, 8, 9, 10, 11, 5, 12, 13, 25, 26, 27, 28] (by decide +kernel) (by decide +kernel)
set_option maxRecDepth 20000 in
theorem gX2_record_X1_cell : GoodIn wsX2_record (wsV RX2 133 RX1 yX1_cell wsX1_cell) := goodIn_app (goodIn_of _ (by decide +kernel)) ggX2_record_X1_cell
theorem dX2_record_0 : decode cX2_record 0 = .ok (.aload_n 0, 1) := by decide +kernel
theorem dX2_record_1 : decode cX2_record 1 = .ok (.getfield 25, 3) := by decide +kernel
theorem dX2_record_4 : decode cX2_record 4 = .ok (.iload_n 1, 1) := by decide +kernel
theorem dX2_record_5 : decode cX2_record 5 = .ok (.iload_n 2, 1) := by decide +kernel
theorem dX2_record_6 : decode cX2_record 6 = .ok (.invokevirtual 133, 3) := by decide +kernel
theorem dX2_record_9 : decode cX2_record 9 = .ok (.ireturn, 1) := by decide +kernel
set_option maxRecDepth 20000 in
theorem ggX2_drop_X1_remove : GoodIn wsX2_drop wsX1_remove := goodIn_r _ [6, 7, 8, 9, 21, 22, 23, 24] (by decide +kernel) (by decide +kernel)
set_option maxRecDepth 20000 in
theorem gX2_drop_X1_remove : GoodIn wsX2_drop (wsV RX2 139 RX1 yX1_remove wsX1_remove) := goodIn_app (goodIn_of _ (by decide +kernel)) ggX2_drop_X1_remove
theorem dX2_drop_0 : decode cX2_drop 0 = .ok (.aload_n 0, 1) := by decide +kernel
theorem dX2_drop_1 : decode cX2_drop 1 = .ok (.getfield 25, 3) := by decide +kernel
theorem dX2_drop_4 : decode cX2_drop 4 = .ok (.getfield 130, 3) := by decide +kernel
theorem dX2_drop_7 : decode cX2_drop 7 = .ok (.ifCond .ne 5, 3) := by decide +kernel
theorem dX2_drop_10 : decode cX2_drop 10 = .ok (.iconst (-1), 1) := by decide +kernel
theorem dX2_drop_11 : decode cX2_drop 11 = .ok (.ireturn, 1) := by decide +kernel
theorem dX2_drop_12 : decode cX2_drop 12 = .ok (.aload_n 0, 1) := by decide +kernel
theorem dX2_drop_13 : decode cX2_drop 13 = .ok (.getfield 25, 3) := by decide +kernel
theorem dX2_drop_16 : decode cX2_drop 16 = .ok (.iconst 0, 1) := by decide +kernel
theorem dX2_drop_17 : decode cX2_drop 17 = .ok (.invokevirtual 139, 3) := by decide +kernel
theorem dX2_drop_20 : decode cX2_drop 20 = .ok (.aload_n 0, 1) := by decide +kernel
theorem dX2_drop_21 : decode cX2_drop 21 = .ok (.getfield 25, 3) := by decide +kernel
theorem dX2_drop_24 : decode cX2_drop 24 = .ok (.getfield 130, 3) := by decide +kernel
theorem dX2_drop_27 : decode cX2_drop 27 = .ok (.ireturn, 1) := by decide +kernel
set_option maxRecDepth 20000 in
theorem ggX2_clear_X1_removeAll : GoodIn wsX2_clear wsX1_removeAll := goodIn_r _ [7, 8, 20, 21, 22, 23] (by decide +kernel) (by decide +kernel)
set_option maxRecDepth 20000 in
theorem gX2_clear_X1_removeAll : GoodIn wsX2_clear (wsV RX2 143 RX1 yX1_removeAll wsX1_removeAll) := goodIn_app (goodIn_of _ (by decide +kernel)) ggX2_clear_X1_removeAll
theorem dX2_clear_0 : decode cX2_clear 0 = .ok (.aload_n 0, 1) := by decide +kernel
theorem dX2_clear_1 : decode cX2_clear 1 = .ok (.getfield 25, 3) := by decide +kernel
theorem dX2_clear_4 : decode cX2_clear 4 = .ok (.getfield 130, 3) := by decide +kernel
theorem dX2_clear_7 : decode cX2_clear 7 = .ok (.istore_n 1, 1) := by decide +kernel
theorem dX2_clear_8 : decode cX2_clear 8 = .ok (.aload_n 0, 1) := by decide +kernel
theorem dX2_clear_9 : decode cX2_clear 9 = .ok (.getfield 25, 3) := by decide +kernel
theorem dX2_clear_12 : decode cX2_clear 12 = .ok (.invokevirtual 143, 3) := by decide +kernel
theorem dX2_clear_15 : decode cX2_clear 15 = .ok (.aload_n 0, 1) := by decide +kernel
theorem dX2_clear_16 : decode cX2_clear 16 = .ok (.iconst 0, 1) := by decide +kernel
theorem dX2_clear_17 : decode cX2_clear 17 = .ok (.putfield 50, 3) := by decide +kernel
theorem dX2_clear_20 : decode cX2_clear 20 = .ok (.iload_n 1, 1) := by decide +kernel
theorem dX2_clear_21 : decode cX2_clear 21 = .ok (.ireturn, 1) := by decide +kernel
set_option maxRecDepth 20000 in
theorem ggX2_leaf_X1_cell : GoodIn wsX2_leaf wsX1_cell := goodIn_r _ [6, 7, 8, 9, 10, 11, 5, 12, 13, 25, 26, 27, 28] (by decide +kernel) (by decide +kernel)
set_option maxRecDepth 20000 in
theorem gX2_leaf_X1_cell : GoodIn wsX2_leaf (wsV RX2 133 RX1 yX1_cell wsX1_cell) := goodIn_app (goodIn_of _ (by decide +kernel)) ggX2_leaf_X1_cell
theorem dX2_leaf_0 : decode cX2_leaf 0 = .ok (.aload_n 0, 1) := by decide +kernel
theorem dX2_leaf_1 : decode cX2_leaf 1 = .ok (.getfield 22, 3) := by decide +kernel
theorem dX2_leaf_4 : decode cX2_leaf 4 = .ok (.iload_n 1, 1) := by decide +kernel
theorem dX2_leaf_5 : decode cX2_leaf 5 = .ok (.iload_n 2, 1) := by decide +kernel
theorem dX2_leaf_6 : decode cX2_leaf 6 = .ok (.invokevirtual 133, 3) := by decide +kernel
theorem dX2_leaf_9 : decode cX2_leaf 9 = .ok (.ireturn, 1) := by decide +kernel
theorem dX2_isBelow_0 : decode cX2_isBelow 0 = .ok (.iload_n 0, 1) := by decide +kernel
theorem dX2_isBelow_1 : decode cX2_isBelow 1 = .ok (.ifCond .lt 12, 3) := by decide +kernel
theorem dX2_isBelow_4 : decode cX2_isBelow 4 = .ok (.iload_n 0, 1) := by decide +kernel
theorem dX2_isBelow_5 : decode cX2_isBelow 5 = .ok (.iload_n 1, 1) := by decide +kernel
theorem dX2_isBelow_6 : decode cX2_isBelow 6 = .ok (.if_icmp .ge 7, 3) := by decide +kernel
theorem dX2_isBelow_9 : decode cX2_isBelow 9 = .ok (.iconst 1, 1) := by decide +kernel
theorem dX2_isBelow_10 : decode cX2_isBelow 10 = .ok (.goto 4, 3) := by decide +kernel
theorem dX2_isBelow_13 : decode cX2_isBelow 13 = .ok (.iconst 0, 1) := by decide +kernel
theorem dX2_isBelow_14 : decode cX2_isBelow 14 = .ok (.ireturn, 1) := by decide +kernel
theorem dX2_placeIn_0 : decode cX2_placeIn 0 = .ok (.iload_n 0, 1) := by decide +kernel
theorem dX2_placeIn_1 : decode cX2_placeIn 1 = .ok (.bipush 8, 2) := by decide +kernel
theorem dX2_placeIn_3 : decode cX2_placeIn 3 = .ok (.ishl, 1) := by decide +kernel
theorem dX2_placeIn_4 : decode cX2_placeIn 4 = .ok (.iload_n 1, 1) := by decide +kernel
theorem dX2_placeIn_5 : decode cX2_placeIn 5 = .ok (.ior, 1) := by decide +kernel
theorem dX2_placeIn_6 : decode cX2_placeIn 6 = .ok (.ireturn, 1) := by decide +kernel
theorem dX2_pageOf_0 : decode cX2_pageOf 0 = .ok (.iload_n 0, 1) := by decide +kernel
theorem dX2_pageOf_1 : decode cX2_pageOf 1 = .ok (.bipush 8, 2) := by decide +kernel
theorem dX2_pageOf_3 : decode cX2_pageOf 3 = .ok (.ishr, 1) := by decide +kernel
theorem dX2_pageOf_4 : decode cX2_pageOf 4 = .ok (.bipush 63, 2) := by decide +kernel
theorem dX2_pageOf_6 : decode cX2_pageOf 6 = .ok (.iand, 1) := by decide +kernel
theorem dX2_pageOf_7 : decode cX2_pageOf 7 = .ok (.ireturn, 1) := by decide +kernel
theorem dX2_contextPlace_0 : decode cX2_contextPlace 0 = .ok (.aload_n 0, 1) := by decide +kernel
theorem dX2_contextPlace_1 : decode cX2_contextPlace 1 = .ok (.getfield 37, 3) := by decide +kernel
theorem dX2_contextPlace_4 : decode cX2_contextPlace 4 = .ok (.iconst 2, 1) := by decide +kernel
theorem dX2_contextPlace_5 : decode cX2_contextPlace 5 = .ok (.iload_n 1, 1) := by decide +kernel
theorem dX2_contextPlace_6 : decode cX2_contextPlace 6 = .ok (.imul, 1) := by decide +kernel
theorem dX2_contextPlace_7 : decode cX2_contextPlace 7 = .ok (.iadd, 1) := by decide +kernel
theorem dX2_contextPlace_8 : decode cX2_contextPlace 8 = .ok (.ireturn, 1) := by decide +kernel
set_option maxRecDepth 20000 in
theorem ggX2_wordAt_X2_isBelow : GoodIn wsX2_wordAt wsX2_isBelow := goodIn_r _ [5] (by decide +kernel) (by decide +kernel)
set_option maxRecDepth 20000 in
theorem gX2_wordAt_X2_isBelow : GoodIn wsX2_wordAt (va_wsS RX2 55 yX2_isBelow wsX2_isBelow) := goodIn_app (goodIn_of _ (by decide +kernel)) ggX2_wordAt_X2_isBelow
theorem dX2_wordAt_0 : decode cX2_wordAt 0 = .ok (.iload_n 1, 1) := by decide +kernel
theorem dX2_wordAt_1 : decode cX2_wordAt 1 = .ok (.sipush 16384, 3) := by decide +kernel
theorem dX2_wordAt_4 : decode cX2_wordAt 4 = .ok (.invokestatic 55, 3) := by decide +kernel
theorem dX2_wordAt_7 : decode cX2_wordAt 7 = .ok (.ifCond .eq 12, 3) := by decide +kernel
theorem dX2_wordAt_10 : decode cX2_wordAt 10 = .ok (.aload_n 0, 1) := by decide +kernel
theorem dX2_wordAt_11 : decode cX2_wordAt 11 = .ok (.getfield 9, 3) := by decide +kernel
theorem dX2_wordAt_14 : decode cX2_wordAt 14 = .ok (.iload_n 1, 1) := by decide +kernel
theorem dX2_wordAt_15 : decode cX2_wordAt 15 = .ok (.iaload, 1) := by decide +kernel
theorem dX2_wordAt_16 : decode cX2_wordAt 16 = .ok (.goto 4, 3) := by decide +kernel
theorem dX2_wordAt_19 : decode cX2_wordAt 19 = .ok (.iconst 0, 1) := by decide +kernel
theorem dX2_wordAt_20 : decode cX2_wordAt 20 = .ok (.ireturn, 1) := by decide +kernel
set_option maxRecDepth 20000 in
theorem ggX2_setWord_X2_isBelow : GoodIn wsX2_setWord wsX2_isBelow := goodIn_r _ [5] (by decide +kernel) (by decide +kernel)
set_option maxRecDepth 20000 in
theorem gX2_setWord_X2_isBelow : GoodIn wsX2_setWord (va_wsS RX2 55 yX2_isBelow wsX2_isBelow) := goodIn_app (goodIn_of _ (by decide +kernel)) ggX2_setWord_X2_isBelow
theorem dX2_setWord_0 : decode cX2_setWord 0 = .ok (.iload_n 1, 1) := by decide +kernel
theorem dX2_setWord_1 : decode cX2_setWord 1 = .ok (.sipush 16384, 3) := by decide +kernel
theorem dX2_setWord_4 : decode cX2_setWord 4 = .ok (.invokestatic 55, 3) := by decide +kernel
theorem dX2_setWord_7 : decode cX2_setWord 7 = .ok (.ifCond .ne 5, 3) := by decide +kernel
theorem dX2_setWord_10 : decode cX2_setWord 10 = .ok (.iconst 0, 1) := by decide +kernel
theorem dX2_setWord_11 : decode cX2_setWord 11 = .ok (.ireturn, 1) := by decide +kernel
theorem dX2_setWord_12 : decode cX2_setWord 12 = .ok (.aload_n 0, 1) := by decide +kernel
theorem dX2_setWord_13 : decode cX2_setWord 13 = .ok (.getfield 9, 3) := by decide +kernel
theorem dX2_setWord_16 : decode cX2_setWord 16 = .ok (.iload_n 1, 1) := by decide +kernel
theorem dX2_setWord_17 : decode cX2_setWord 17 = .ok (.iload_n 2, 1) := by decide +kernel
theorem dX2_setWord_18 : decode cX2_setWord 18 = .ok (.iastore, 1) := by decide +kernel
theorem dX2_setWord_19 : decode cX2_setWord 19 = .ok (.iconst 1, 1) := by decide +kernel
theorem dX2_setWord_20 : decode cX2_setWord 20 = .ok (.ireturn, 1) := by decide +kernel
set_option maxRecDepth 20000 in
theorem ggX2_access_X2_lead : GoodIn wsX2_access wsX2_lead := goodIn_r _ [6, 7, 8, 9, 10, 11, 5, 12, 13, 14, 15, 16, 17, 18, 19, 20, 21, 22, 23, 24, 25, 26, 27, 28, 29, 30, 31, 32, 33, 34, 35, 36, 37, 38, 39, 40, 41, 42, 43, 44, 45, 46, 47, 48, 49, 50, 51, 52, 53, 54, 55, 56, 57, 58, 59, 60, 61, 62, 63, 64, 65, 66, 67, 68, 69, 70, 71, 72, 73, 74, 75, 76, 77, 78, 79, 80, 81, 82, 83, 91, 92, 93, 94, 95, 96, 97, 98, 99, 100, 101, 102, 103, 104, 105] (by decide +kernel) (by decide +kernel)
set_option maxRecDepth 20000 in
theorem gX2_access_X2_lead : GoodIn wsX2_access (wsV RX2 146 RX2 yX2_lead wsX2_lead) := goodIn_app (goodIn_of _ (by decide +kernel)) ggX2_access_X2_lead
set_option maxRecDepth 20000 in
theorem ggX2_access_X2_logFault : GoodIn wsX2_access wsX2_logFault := goodIn_r _ [87, 88, 89, 1, 90, 45, 46, 21, 47, 29, 48, 40, 41, 42, 43, 44, 49, 50, 51, 52, 24, 23, 53, 54, 55, 56, 25, 26, 27, 28, 91, 92, 93, 94, 95, 96, 97, 98, 99, 100, 101, 102, 103, 104, 105] (by decide +kernel) (by decide +kernel)
set_option maxRecDepth 20000 in
theorem gX2_access_X2_logFault : GoodIn wsX2_access (wsV RX2 150 RX2 yX2_logFault wsX2_logFault) := goodIn_app (goodIn_of _ (by decide +kernel)) ggX2_access_X2_logFault
theorem dX2_access_0 : decode cX2_access 0 = .ok (.aload_n 0, 1) := by decide +kernel
theorem dX2_access_1 : decode cX2_access 1 = .ok (.iload_n 1, 1) := by decide +kernel
theorem dX2_access_2 : decode cX2_access 2 = .ok (.iload_n 2, 1) := by decide +kernel
theorem dX2_access_3 : decode cX2_access 3 = .ok (.iload_n 3, 1) := by decide +kernel
theorem dX2_access_4 : decode cX2_access 4 = .ok (.ifCond .eq 7, 3) := by decide +kernel
theorem dX2_access_7 : decode cX2_access 7 = .ok (.iconst 2, 1) := by decide +kernel
theorem dX2_access_8 : decode cX2_access 8 = .ok (.goto 4, 3) := by decide +kernel
theorem dX2_access_11 : decode cX2_access 11 = .ok (.iconst 1, 1) := by decide +kernel
theorem dX2_access_12 : decode cX2_access 12 = .ok (.invokevirtual 146, 3) := by decide +kernel
theorem dX2_access_15 : decode cX2_access 15 = .ok (.istore 4, 2) := by decide +kernel
theorem dX2_access_17 : decode cX2_access 17 = .ok (.aload_n 0, 1) := by decide +kernel
theorem dX2_access_18 : decode cX2_access 18 = .ok (.iload 4, 2) := by decide +kernel
theorem dX2_access_20 : decode cX2_access 20 = .ok (.ifCond .ge 9, 3) := by decide +kernel
theorem dX2_access_23 : decode cX2_access 23 = .ok (.iload 4, 2) := by decide +kernel
theorem dX2_access_25 : decode cX2_access 25 = .ok (.ineg, 1) := by decide +kernel
theorem dX2_access_26 : decode cX2_access 26 = .ok (.goto 4, 3) := by decide +kernel
theorem dX2_access_29 : decode cX2_access 29 = .ok (.iconst 0, 1) := by decide +kernel
theorem dX2_access_30 : decode cX2_access 30 = .ok (.putfield 41, 3) := by decide +kernel
theorem dX2_access_33 : decode cX2_access 33 = .ok (.iload 4, 2) := by decide +kernel
theorem dX2_access_35 : decode cX2_access 35 = .ok (.ifCond .ge 10, 3) := by decide +kernel
theorem dX2_access_38 : decode cX2_access 38 = .ok (.aload_n 0, 1) := by decide +kernel
theorem dX2_access_39 : decode cX2_access 39 = .ok (.iload_n 1, 1) := by decide +kernel
theorem dX2_access_40 : decode cX2_access 40 = .ok (.iload_n 2, 1) := by decide +kernel
theorem dX2_access_41 : decode cX2_access 41 = .ok (.iload_n 3, 1) := by decide +kernel
theorem dX2_access_42 : decode cX2_access 42 = .ok (.invokevirtual 150, 3) := by decide +kernel
theorem dX2_access_45 : decode cX2_access 45 = .ok (.iload 4, 2) := by decide +kernel
theorem dX2_access_47 : decode cX2_access 47 = .ok (.ireturn, 1) := by decide +kernel
set_option maxRecDepth 20000 in
theorem ggX2_logFault_X1_isFull : GoodIn wsX2_logFault wsX1_isFull := goodIn_r _ [8, 9, 10, 41, 42, 43, 44] (by decide +kernel) (by decide +kernel)
set_option maxRecDepth 20000 in
theorem gX2_logFault_X1_isFull : GoodIn wsX2_logFault (wsV RX2 118 RX1 yX1_isFull wsX1_isFull) := goodIn_app (goodIn_of _ (by decide +kernel)) ggX2_logFault_X1_isFull
set_option maxRecDepth 20000 in
theorem ggX2_logFault_X1_open : GoodIn wsX2_logFault wsX1_open := goodIn_r _ [14, 9, 15, 5, 6, 7, 8, 10, 16, 17, 18, 19, 20, 21, 41, 42, 43, 44] (by decide +kernel) (by decide +kernel)
set_option maxRecDepth 20000 in
theorem gX2_logFault_X1_open : GoodIn wsX2_logFault (wsV RX2 122 RX1 yX1_open wsX1_open) := goodIn_app (goodIn_of _ (by decide +kernel)) ggX2_logFault_X1_open
set_option maxRecDepth 20000 in
theorem ggX2_logFault_X1_put : GoodIn wsX2_logFault wsX1_put := goodIn_r _ [25, 21, 20, 26, 27, 28, 7, 29, 9, 41, 42, 43, 44] (by decide +kernel) (by decide +kernel)
set_option maxRecDepth 20000 in
theorem gX2_logFault_X1_put : GoodIn wsX2_logFault (wsV RX2 126 RX1 yX1_put wsX1_put) := goodIn_app (goodIn_of _ (by decide +kernel)) ggX2_logFault_X1_put
theorem dX2_logFault_0 : decode cX2_logFault 0 = .ok (.aload_n 0, 1) := by decide +kernel
theorem dX2_logFault_1 : decode cX2_logFault 1 = .ok (.getfield 25, 3) := by decide +kernel
theorem dX2_logFault_4 : decode cX2_logFault 4 = .ok (.invokevirtual 118, 3) := by decide +kernel
theorem dX2_logFault_7 : decode cX2_logFault 7 = .ok (.ifCond .eq 9, 3) := by decide +kernel
theorem dX2_logFault_10 : decode cX2_logFault 10 = .ok (.aload_n 0, 1) := by decide +kernel
theorem dX2_logFault_11 : decode cX2_logFault 11 = .ok (.iconst 1, 1) := by decide +kernel
theorem dX2_logFault_12 : decode cX2_logFault 12 = .ok (.putfield 50, 3) := by decide +kernel
theorem dX2_logFault_15 : decode cX2_logFault 15 = .ok (.return_, 1) := by decide +kernel
theorem dX2_logFault_16 : decode cX2_logFault 16 = .ok (.aload_n 0, 1) := by decide +kernel
theorem dX2_logFault_17 : decode cX2_logFault 17 = .ok (.getfield 25, 3) := by decide +kernel
theorem dX2_logFault_20 : decode cX2_logFault 20 = .ok (.invokevirtual 122, 3) := by decide +kernel
theorem dX2_logFault_23 : decode cX2_logFault 23 = .ok (.istore 4, 2) := by decide +kernel
theorem dX2_logFault_25 : decode cX2_logFault 25 = .ok (.aload_n 0, 1) := by decide +kernel
theorem dX2_logFault_26 : decode cX2_logFault 26 = .ok (.getfield 25, 3) := by decide +kernel
theorem dX2_logFault_29 : decode cX2_logFault 29 = .ok (.iload 4, 2) := by decide +kernel
theorem dX2_logFault_31 : decode cX2_logFault 31 = .ok (.iconst 0, 1) := by decide +kernel
theorem dX2_logFault_32 : decode cX2_logFault 32 = .ok (.aload_n 0, 1) := by decide +kernel
theorem dX2_logFault_33 : decode cX2_logFault 33 = .ok (.getfield 41, 3) := by decide +kernel
theorem dX2_logFault_36 : decode cX2_logFault 36 = .ok (.invokevirtual 126, 3) := by decide +kernel
theorem dX2_logFault_39 : decode cX2_logFault 39 = .ok (.aload_n 0, 1) := by decide +kernel
theorem dX2_logFault_40 : decode cX2_logFault 40 = .ok (.getfield 25, 3) := by decide +kernel
theorem dX2_logFault_43 : decode cX2_logFault 43 = .ok (.iload 4, 2) := by decide +kernel
theorem dX2_logFault_45 : decode cX2_logFault 45 = .ok (.iconst 1, 1) := by decide +kernel
theorem dX2_logFault_46 : decode cX2_logFault 46 = .ok (.iload_n 1, 1) := by decide +kernel
theorem dX2_logFault_47 : decode cX2_logFault 47 = .ok (.invokevirtual 126, 3) := by decide +kernel
theorem dX2_logFault_50 : decode cX2_logFault 50 = .ok (.aload_n 0, 1) := by decide +kernel
theorem dX2_logFault_51 : decode cX2_logFault 51 = .ok (.getfield 25, 3) := by decide +kernel
theorem dX2_logFault_54 : decode cX2_logFault 54 = .ok (.iload 4, 2) := by decide +kernel
theorem dX2_logFault_56 : decode cX2_logFault 56 = .ok (.iconst 2, 1) := by decide +kernel
theorem dX2_logFault_57 : decode cX2_logFault 57 = .ok (.iload_n 3, 1) := by decide +kernel
theorem dX2_logFault_58 : decode cX2_logFault 58 = .ok (.ifCond .eq 7, 3) := by decide +kernel
theorem dX2_logFault_61 : decode cX2_logFault 61 = .ok (.iconst 1, 1) := by decide +kernel
theorem dX2_logFault_62 : decode cX2_logFault 62 = .ok (.goto 4, 3) := by decide +kernel
theorem dX2_logFault_65 : decode cX2_logFault 65 = .ok (.iconst 0, 1) := by decide +kernel
theorem dX2_logFault_66 : decode cX2_logFault 66 = .ok (.invokevirtual 126, 3) := by decide +kernel
theorem dX2_logFault_69 : decode cX2_logFault 69 = .ok (.aload_n 0, 1) := by decide +kernel
theorem dX2_logFault_70 : decode cX2_logFault 70 = .ok (.getfield 25, 3) := by decide +kernel
theorem dX2_logFault_73 : decode cX2_logFault 73 = .ok (.iload 4, 2) := by decide +kernel
theorem dX2_logFault_75 : decode cX2_logFault 75 = .ok (.iconst 3, 1) := by decide +kernel
theorem dX2_logFault_76 : decode cX2_logFault 76 = .ok (.iload_n 2, 1) := by decide +kernel
theorem dX2_logFault_77 : decode cX2_logFault 77 = .ok (.invokevirtual 126, 3) := by decide +kernel
theorem dX2_logFault_80 : decode cX2_logFault 80 = .ok (.return_, 1) := by decide +kernel
set_option maxRecDepth 20000 in
theorem ggX2_lead_X2_isBelow : GoodIn wsX2_lead wsX2_isBelow := goodIn_r _ [7] (by decide +kernel) (by decide +kernel)
set_option maxRecDepth 20000 in
theorem gX2_lead_X2_isBelow : GoodIn wsX2_lead (va_wsS RX2 55 yX2_isBelow wsX2_isBelow) := goodIn_app (goodIn_of _ (by decide +kernel)) ggX2_lead_X2_isBelow
set_option maxRecDepth 20000 in
theorem ggX2_lead_X2_contextOf : GoodIn wsX2_lead wsX2_contextOf := goodIn_r _ [11, 2, 12, 13, 14, 15, 16, 17, 18, 19, 20, 21, 22, 23, 24, 25, 26, 27, 6, 28, 29, 30, 31, 32, 33, 34, 4, 5, 7, 35, 36, 37, 38, 39, 40, 41, 42, 43, 44, 45, 46, 47, 48, 49, 50, 51, 79, 80, 81, 82, 83, 84, 85, 86, 87, 88, 89, 90, 91, 92, 93] (by decide +kernel) (by decide +kernel)
set_option maxRecDepth 20000 in
theorem gX2_lead_X2_contextOf : GoodIn wsX2_lead (wsV RX2 154 RX2 yX2_contextOf wsX2_contextOf) := goodIn_app (goodIn_of _ (by decide +kernel)) ggX2_lead_X2_contextOf
set_option maxRecDepth 20000 in
theorem ggX2_lead_X1_cell : GoodIn wsX2_lead wsX1_cell := goodIn_r _ [17, 18, 19, 20, 21, 22, 16, 23, 24, 90, 91, 92, 93] (by decide +kernel) (by decide +kernel)
set_option maxRecDepth 20000 in
theorem gX2_lead_X1_cell : GoodIn wsX2_lead (wsV RX2 133 RX1 yX1_cell wsX1_cell) := goodIn_app (goodIn_of _ (by decide +kernel)) ggX2_lead_X1_cell
set_option maxRecDepth 20000 in
theorem ggX2_lead_X2_pageOf : GoodIn wsX2_lead wsX2_pageOf := goodIn_r _ [54] (by decide +kernel) (by decide +kernel)
set_option maxRecDepth 20000 in
theorem gX2_lead_X2_pageOf : GoodIn wsX2_lead (va_wsS RX2 157 yX2_pageOf wsX2_pageOf) := goodIn_app (goodIn_of _ (by decide +kernel)) ggX2_lead_X2_pageOf
set_option maxRecDepth 20000 in
theorem ggX2_lead_X2_leafFor : GoodIn wsX2_lead wsX2_leafFor := goodIn_r _ [58, 3, 59, 13, 14, 15, 16, 17, 18, 19, 20, 21, 22, 23, 24, 60, 61, 62, 6, 63, 64, 65, 66, 67, 12, 68, 69, 70, 30, 31, 32, 33, 34, 4, 5, 7, 52, 53, 54, 71, 72, 73, 74, 35, 36, 37, 38, 39, 40, 41, 42, 43, 44, 45, 46, 47, 48, 49, 50, 51, 79, 80, 81, 82, 83, 84, 85, 86, 87, 88, 89, 90, 91, 92, 93] (by decide +kernel) (by decide +kernel)
set_option maxRecDepth 20000 in
theorem gX2_lead_X2_leafFor : GoodIn wsX2_lead (wsV RX2 160 RX2 yX2_leafFor wsX2_leafFor) := goodIn_app (goodIn_of _ (by decide +kernel)) ggX2_lead_X2_leafFor
set_option maxRecDepth 20000 in
theorem ggX2_lead_X2_placeBy : GoodIn wsX2_lead wsX2_placeBy := goodIn_r _ [78, 3, 13, 14, 15, 16, 17, 18, 19, 20, 21, 22, 23, 24, 68, 69, 6, 70, 79, 80, 81, 82, 83, 84, 85, 86, 87, 88, 89, 90, 91, 92, 93] (by decide +kernel) (by decide +kernel)
set_option maxRecDepth 20000 in
theorem gX2_lead_X2_placeBy : GoodIn wsX2_lead (wsV RX2 163 RX2 yX2_placeBy wsX2_placeBy) := goodIn_app (goodIn_of _ (by decide +kernel)) ggX2_lead_X2_placeBy
theorem dX2_lead_0 : decode cX2_lead 0 = .ok (.iload_n 2, 1) := by decide +kernel
theorem dX2_lead_1 : decode cX2_lead 1 = .ok (.ldc 80, 2) := by decide +kernel
theorem dX2_lead_3 : decode cX2_lead 3 = .ok (.invokestatic 55, 3) := by decide +kernel
theorem dX2_lead_6 : decode cX2_lead 6 = .ok (.ifCond .ne 6, 3) := by decide +kernel
theorem dX2_lead_9 : decode cX2_lead 9 = .ok (.bipush (-4), 2) := by decide +kernel
theorem dX2_lead_11 : decode cX2_lead 11 = .ok (.ireturn, 1) := by decide +kernel
theorem dX2_lead_12 : decode cX2_lead 12 = .ok (.aload_n 0, 1) := by decide +kernel
theorem dX2_lead_13 : decode cX2_lead 13 = .ok (.iload_n 1, 1) := by decide +kernel
theorem dX2_lead_14 : decode cX2_lead 14 = .ok (.invokevirtual 154, 3) := by decide +kernel
theorem dX2_lead_17 : decode cX2_lead 17 = .ok (.istore 4, 2) := by decide +kernel
theorem dX2_lead_19 : decode cX2_lead 19 = .ok (.iload 4, 2) := by decide +kernel
theorem dX2_lead_21 : decode cX2_lead 21 = .ok (.iconst (-1), 1) := by decide +kernel
theorem dX2_lead_22 : decode cX2_lead 22 = .ok (.if_icmp .ne 5, 3) := by decide +kernel
theorem dX2_lead_25 : decode cX2_lead 25 = .ok (.iconst (-1), 1) := by decide +kernel
theorem dX2_lead_26 : decode cX2_lead 26 = .ok (.ireturn, 1) := by decide +kernel
theorem dX2_lead_27 : decode cX2_lead 27 = .ok (.aload_n 0, 1) := by decide +kernel
theorem dX2_lead_28 : decode cX2_lead 28 = .ok (.getfield 18, 3) := by decide +kernel
theorem dX2_lead_31 : decode cX2_lead 31 = .ok (.iload 4, 2) := by decide +kernel
theorem dX2_lead_33 : decode cX2_lead 33 = .ok (.iconst 1, 1) := by decide +kernel
theorem dX2_lead_34 : decode cX2_lead 34 = .ok (.invokevirtual 133, 3) := by decide +kernel
theorem dX2_lead_37 : decode cX2_lead 37 = .ok (.istore 5, 2) := by decide +kernel
theorem dX2_lead_39 : decode cX2_lead 39 = .ok (.iload 5, 2) := by decide +kernel
theorem dX2_lead_41 : decode cX2_lead 41 = .ok (.iconst 2, 1) := by decide +kernel
theorem dX2_lead_42 : decode cX2_lead 42 = .ok (.iand, 1) := by decide +kernel
theorem dX2_lead_43 : decode cX2_lead 43 = .ok (.ifCond .eq 17, 3) := by decide +kernel
theorem dX2_lead_46 : decode cX2_lead 46 = .ok (.iload_n 2, 1) := by decide +kernel
theorem dX2_lead_47 : decode cX2_lead 47 = .ok (.sipush 16384, 3) := by decide +kernel
theorem dX2_lead_50 : decode cX2_lead 50 = .ok (.if_icmp .ge 7, 3) := by decide +kernel
theorem dX2_lead_53 : decode cX2_lead 53 = .ok (.iload_n 2, 1) := by decide +kernel
theorem dX2_lead_54 : decode cX2_lead 54 = .ok (.goto 5, 3) := by decide +kernel
theorem dX2_lead_57 : decode cX2_lead 57 = .ok (.bipush (-4), 2) := by decide +kernel
theorem dX2_lead_59 : decode cX2_lead 59 = .ok (.ireturn, 1) := by decide +kernel
theorem dX2_lead_60 : decode cX2_lead 60 = .ok (.aload_n 0, 1) := by decide +kernel
theorem dX2_lead_61 : decode cX2_lead 61 = .ok (.aload_n 0, 1) := by decide +kernel
theorem dX2_lead_62 : decode cX2_lead 62 = .ok (.getfield 18, 3) := by decide +kernel
theorem dX2_lead_65 : decode cX2_lead 65 = .ok (.iload 4, 2) := by decide +kernel
theorem dX2_lead_67 : decode cX2_lead 67 = .ok (.iconst 2, 1) := by decide +kernel
theorem dX2_lead_68 : decode cX2_lead 68 = .ok (.invokevirtual 133, 3) := by decide +kernel
theorem dX2_lead_71 : decode cX2_lead 71 = .ok (.iload 5, 2) := by decide +kernel
theorem dX2_lead_73 : decode cX2_lead 73 = .ok (.invokestatic 157, 3) := by decide +kernel
theorem dX2_lead_76 : decode cX2_lead 76 = .ok (.iload_n 2, 1) := by decide +kernel
theorem dX2_lead_77 : decode cX2_lead 77 = .ok (.bipush 8, 2) := by decide +kernel
theorem dX2_lead_79 : decode cX2_lead 79 = .ok (.ishr, 1) := by decide +kernel
theorem dX2_lead_80 : decode cX2_lead 80 = .ok (.invokevirtual 160, 3) := by decide +kernel
theorem dX2_lead_83 : decode cX2_lead 83 = .ok (.istore 6, 2) := by decide +kernel
theorem dX2_lead_85 : decode cX2_lead 85 = .ok (.iload 6, 2) := by decide +kernel
theorem dX2_lead_87 : decode cX2_lead 87 = .ok (.ifCond .ge 6, 3) := by decide +kernel
theorem dX2_lead_90 : decode cX2_lead 90 = .ok (.iload 6, 2) := by decide +kernel
theorem dX2_lead_92 : decode cX2_lead 92 = .ok (.ireturn, 1) := by decide +kernel
theorem dX2_lead_93 : decode cX2_lead 93 = .ok (.aload_n 0, 1) := by decide +kernel
theorem dX2_lead_94 : decode cX2_lead 94 = .ok (.getfield 22, 3) := by decide +kernel
theorem dX2_lead_97 : decode cX2_lead 97 = .ok (.iload 6, 2) := by decide +kernel
theorem dX2_lead_99 : decode cX2_lead 99 = .ok (.iconst 4, 1) := by decide +kernel
theorem dX2_lead_100 : decode cX2_lead 100 = .ok (.invokevirtual 133, 3) := by decide +kernel
theorem dX2_lead_103 : decode cX2_lead 103 = .ok (.iload_n 3, 1) := by decide +kernel
theorem dX2_lead_104 : decode cX2_lead 104 = .ok (.iand, 1) := by decide +kernel
theorem dX2_lead_105 : decode cX2_lead 105 = .ok (.ifCond .ne 6, 3) := by decide +kernel
theorem dX2_lead_108 : decode cX2_lead 108 = .ok (.bipush (-3), 2) := by decide +kernel
theorem dX2_lead_110 : decode cX2_lead 110 = .ok (.ireturn, 1) := by decide +kernel
theorem dX2_lead_111 : decode cX2_lead 111 = .ok (.aload_n 0, 1) := by decide +kernel
theorem dX2_lead_112 : decode cX2_lead 112 = .ok (.iload 6, 2) := by decide +kernel
theorem dX2_lead_114 : decode cX2_lead 114 = .ok (.iload_n 2, 1) := by decide +kernel
theorem dX2_lead_115 : decode cX2_lead 115 = .ok (.invokevirtual 163, 3) := by decide +kernel
theorem dX2_lead_118 : decode cX2_lead 118 = .ok (.ireturn, 1) := by decide +kernel
set_option maxRecDepth 20000 in
theorem ggX2_placeBy_X1_cell : GoodIn wsX2_placeBy wsX1_cell := goodIn_r _ [6, 7, 8, 9, 10, 11, 5, 12, 13, 29, 30, 31, 32] (by decide +kernel) (by decide +kernel)
set_option maxRecDepth 20000 in
theorem gX2_placeBy_X1_cell : GoodIn wsX2_placeBy (wsV RX2 133 RX1 yX1_cell wsX1_cell) := goodIn_app (goodIn_of _ (by decide +kernel)) ggX2_placeBy_X1_cell
set_option maxRecDepth 20000 in
theorem ggX2_placeBy_X2_placeIn : GoodIn wsX2_placeBy wsX2_placeIn := goodIn_r _ [17] (by decide +kernel) (by decide +kernel)
set_option maxRecDepth 20000 in
theorem gX2_placeBy_X2_placeIn : GoodIn wsX2_placeBy (va_wsS RX2 69 yX2_placeIn wsX2_placeIn) := goodIn_app (goodIn_of _ (by decide +kernel)) ggX2_placeBy_X2_placeIn
theorem dX2_placeBy_0 : decode cX2_placeBy 0 = .ok (.iconst 1, 1) := by decide +kernel
theorem dX2_placeBy_1 : decode cX2_placeBy 1 = .ok (.iconst 4, 1) := by decide +kernel
theorem dX2_placeBy_2 : decode cX2_placeBy 2 = .ok (.aload_n 0, 1) := by decide +kernel
theorem dX2_placeBy_3 : decode cX2_placeBy 3 = .ok (.getfield 22, 3) := by decide +kernel
theorem dX2_placeBy_6 : decode cX2_placeBy 6 = .ok (.iload_n 1, 1) := by decide +kernel
theorem dX2_placeBy_7 : decode cX2_placeBy 7 = .ok (.iconst 1, 1) := by decide +kernel
theorem dX2_placeBy_8 : decode cX2_placeBy 8 = .ok (.invokevirtual 133, 3) := by decide +kernel
theorem dX2_placeBy_11 : decode cX2_placeBy 11 = .ok (.imul, 1) := by decide +kernel
theorem dX2_placeBy_12 : decode cX2_placeBy 12 = .ok (.ishl, 1) := by decide +kernel
theorem dX2_placeBy_13 : decode cX2_placeBy 13 = .ok (.iconst 1, 1) := by decide +kernel
theorem dX2_placeBy_14 : decode cX2_placeBy 14 = .ok (.isub, 1) := by decide +kernel
theorem dX2_placeBy_15 : decode cX2_placeBy 15 = .ok (.istore_n 3, 1) := by decide +kernel
theorem dX2_placeBy_16 : decode cX2_placeBy 16 = .ok (.aload_n 0, 1) := by decide +kernel
theorem dX2_placeBy_17 : decode cX2_placeBy 17 = .ok (.getfield 22, 3) := by decide +kernel
theorem dX2_placeBy_20 : decode cX2_placeBy 20 = .ok (.iload_n 1, 1) := by decide +kernel
theorem dX2_placeBy_21 : decode cX2_placeBy 21 = .ok (.iconst 3, 1) := by decide +kernel
theorem dX2_placeBy_22 : decode cX2_placeBy 22 = .ok (.invokevirtual 133, 3) := by decide +kernel
theorem dX2_placeBy_25 : decode cX2_placeBy 25 = .ok (.iload_n 2, 1) := by decide +kernel
theorem dX2_placeBy_26 : decode cX2_placeBy 26 = .ok (.bipush 8, 2) := by decide +kernel
theorem dX2_placeBy_28 : decode cX2_placeBy 28 = .ok (.ishr, 1) := by decide +kernel
theorem dX2_placeBy_29 : decode cX2_placeBy 29 = .ok (.iload_n 3, 1) := by decide +kernel
theorem dX2_placeBy_30 : decode cX2_placeBy 30 = .ok (.iand, 1) := by decide +kernel
theorem dX2_placeBy_31 : decode cX2_placeBy 31 = .ok (.iadd, 1) := by decide +kernel
theorem dX2_placeBy_32 : decode cX2_placeBy 32 = .ok (.istore 4, 2) := by decide +kernel
theorem dX2_placeBy_34 : decode cX2_placeBy 34 = .ok (.iload 4, 2) := by decide +kernel
theorem dX2_placeBy_36 : decode cX2_placeBy 36 = .ok (.bipush 63, 2) := by decide +kernel
theorem dX2_placeBy_38 : decode cX2_placeBy 38 = .ok (.iand, 1) := by decide +kernel
theorem dX2_placeBy_39 : decode cX2_placeBy 39 = .ok (.iload_n 2, 1) := by decide +kernel
theorem dX2_placeBy_40 : decode cX2_placeBy 40 = .ok (.sipush 255, 3) := by decide +kernel
theorem dX2_placeBy_43 : decode cX2_placeBy 43 = .ok (.iand, 1) := by decide +kernel
theorem dX2_placeBy_44 : decode cX2_placeBy 44 = .ok (.invokestatic 69, 3) := by decide +kernel
theorem dX2_placeBy_47 : decode cX2_placeBy 47 = .ok (.ireturn, 1) := by decide +kernel
set_option maxRecDepth 20000 in
theorem ggX2_contextOf_X1_cell : GoodIn wsX2_contextOf wsX1_cell := goodIn_r _ [7, 8, 9, 10, 11, 12, 6, 13, 14, 57, 58, 59, 60] (by decide +kernel) (by decide +kernel)
set_option maxRecDepth 20000 in
theorem gX2_contextOf_X1_cell : GoodIn wsX2_contextOf (wsV RX2 133 RX1 yX1_cell wsX1_cell) := goodIn_app (goodIn_of _ (by decide +kernel)) ggX2_contextOf_X1_cell
set_option maxRecDepth 20000 in
theorem ggX2_contextOf_X2_contextPlace : GoodIn wsX2_contextOf wsX2_contextPlace := goodIn_r _ [19, 20, 46, 47, 48, 49, 50, 51, 52, 53, 54, 55, 56] (by decide +kernel) (by decide +kernel)
set_option maxRecDepth 20000 in
theorem gX2_contextOf_X2_contextPlace : GoodIn wsX2_contextOf (wsV RX2 65 RX2 yX2_contextPlace wsX2_contextPlace) := goodIn_app (goodIn_of _ (by decide +kernel)) ggX2_contextOf_X2_contextPlace
set_option maxRecDepth 20000 in
theorem ggX2_contextOf_X2_wordAt : GoodIn wsX2_contextOf wsX2_wordAt := goodIn_r _ [24, 25, 26, 27, 18, 28, 46, 47, 48, 49, 50, 51, 52, 53, 54, 55, 56] (by decide +kernel) (by decide +kernel)
set_option maxRecDepth 20000 in
theorem gX2_contextOf_X2_wordAt : GoodIn wsX2_contextOf (wsV RX2 77 RX2 yX2_wordAt wsX2_wordAt) := goodIn_app (goodIn_of _ (by decide +kernel)) ggX2_contextOf_X2_wordAt
set_option maxRecDepth 20000 in
theorem ggX2_contextOf_X1_open : GoodIn wsX2_contextOf wsX1_open := goodIn_r _ [32, 14, 33, 34, 35, 6, 36, 37, 38, 39, 40, 41, 9, 8, 57, 58, 59, 60] (by decide +kernel) (by decide +kernel)
set_option maxRecDepth 20000 in
theorem gX2_contextOf_X1_open : GoodIn wsX2_contextOf (wsV RX2 122 RX1 yX1_open wsX1_open) := goodIn_app (goodIn_of _ (by decide +kernel)) ggX2_contextOf_X1_open
set_option maxRecDepth 20000 in
theorem ggX2_contextOf_X1_put : GoodIn wsX2_contextOf wsX1_put := goodIn_r _ [45, 8, 9, 10, 11, 12, 6, 13, 14, 57, 58, 59, 60] (by decide +kernel) (by decide +kernel)
set_option maxRecDepth 20000 in
theorem gX2_contextOf_X1_put : GoodIn wsX2_contextOf (wsV RX2 126 RX1 yX1_put wsX1_put) := goodIn_app (goodIn_of _ (by decide +kernel)) ggX2_contextOf_X1_put
theorem dX2_contextOf_0 : decode cX2_contextOf 0 = .ok (.iconst 0, 1) := by decide +kernel
theorem dX2_contextOf_1 : decode cX2_contextOf 1 = .ok (.istore_n 2, 1) := by decide +kernel
theorem dX2_contextOf_2 : decode cX2_contextOf 2 = .ok (.iload_n 2, 1) := by decide +kernel
theorem dX2_contextOf_3 : decode cX2_contextOf 3 = .ok (.aload_n 0, 1) := by decide +kernel
theorem dX2_contextOf_4 : decode cX2_contextOf 4 = .ok (.getfield 18, 3) := by decide +kernel
theorem dX2_contextOf_7 : decode cX2_contextOf 7 = .ok (.getfield 130, 3) := by decide +kernel
theorem dX2_contextOf_10 : decode cX2_contextOf 10 = .ok (.if_icmp .ge 24, 3) := by decide +kernel
theorem dX2_contextOf_13 : decode cX2_contextOf 13 = .ok (.aload_n 0, 1) := by decide +kernel
theorem dX2_contextOf_14 : decode cX2_contextOf 14 = .ok (.getfield 18, 3) := by decide +kernel
theorem dX2_contextOf_17 : decode cX2_contextOf 17 = .ok (.iload_n 2, 1) := by decide +kernel
theorem dX2_contextOf_18 : decode cX2_contextOf 18 = .ok (.iconst 0, 1) := by decide +kernel
theorem dX2_contextOf_19 : decode cX2_contextOf 19 = .ok (.invokevirtual 133, 3) := by decide +kernel
theorem dX2_contextOf_22 : decode cX2_contextOf 22 = .ok (.iload_n 1, 1) := by decide +kernel
theorem dX2_contextOf_23 : decode cX2_contextOf 23 = .ok (.if_icmp .ne 5, 3) := by decide +kernel
theorem dX2_contextOf_26 : decode cX2_contextOf 26 = .ok (.iload_n 2, 1) := by decide +kernel
theorem dX2_contextOf_27 : decode cX2_contextOf 27 = .ok (.ireturn, 1) := by decide +kernel
theorem dX2_contextOf_28 : decode cX2_contextOf 28 = .ok (.iinc 2 1, 3) := by decide +kernel
theorem dX2_contextOf_31 : decode cX2_contextOf 31 = .ok (.goto (-29), 3) := by decide +kernel
theorem dX2_contextOf_34 : decode cX2_contextOf 34 = .ok (.aload_n 0, 1) := by decide +kernel
theorem dX2_contextOf_35 : decode cX2_contextOf 35 = .ok (.iload_n 1, 1) := by decide +kernel
theorem dX2_contextOf_36 : decode cX2_contextOf 36 = .ok (.invokevirtual 65, 3) := by decide +kernel
theorem dX2_contextOf_39 : decode cX2_contextOf 39 = .ok (.istore_n 2, 1) := by decide +kernel
theorem dX2_contextOf_40 : decode cX2_contextOf 40 = .ok (.aload_n 0, 1) := by decide +kernel
theorem dX2_contextOf_41 : decode cX2_contextOf 41 = .ok (.iload_n 2, 1) := by decide +kernel
theorem dX2_contextOf_42 : decode cX2_contextOf 42 = .ok (.invokevirtual 77, 3) := by decide +kernel
theorem dX2_contextOf_45 : decode cX2_contextOf 45 = .ok (.istore_n 3, 1) := by decide +kernel
theorem dX2_contextOf_46 : decode cX2_contextOf 46 = .ok (.aload_n 0, 1) := by decide +kernel
theorem dX2_contextOf_47 : decode cX2_contextOf 47 = .ok (.dup, 1) := by decide +kernel
theorem dX2_contextOf_48 : decode cX2_contextOf 48 = .ok (.getfield 44, 3) := by decide +kernel
theorem dX2_contextOf_51 : decode cX2_contextOf 51 = .ok (.iconst 1, 1) := by decide +kernel
theorem dX2_contextOf_52 : decode cX2_contextOf 52 = .ok (.iadd, 1) := by decide +kernel
theorem dX2_contextOf_53 : decode cX2_contextOf 53 = .ok (.putfield 44, 3) := by decide +kernel
theorem dX2_contextOf_56 : decode cX2_contextOf 56 = .ok (.iload_n 3, 1) := by decide +kernel
theorem dX2_contextOf_57 : decode cX2_contextOf 57 = .ok (.iconst 1, 1) := by decide +kernel
theorem dX2_contextOf_58 : decode cX2_contextOf 58 = .ok (.iand, 1) := by decide +kernel
theorem dX2_contextOf_59 : decode cX2_contextOf 59 = .ok (.ifCond .ne 5, 3) := by decide +kernel
theorem dX2_contextOf_62 : decode cX2_contextOf 62 = .ok (.iconst (-1), 1) := by decide +kernel
theorem dX2_contextOf_63 : decode cX2_contextOf 63 = .ok (.ireturn, 1) := by decide +kernel
theorem dX2_contextOf_64 : decode cX2_contextOf 64 = .ok (.aload_n 0, 1) := by decide +kernel
theorem dX2_contextOf_65 : decode cX2_contextOf 65 = .ok (.getfield 18, 3) := by decide +kernel
theorem dX2_contextOf_68 : decode cX2_contextOf 68 = .ok (.invokevirtual 122, 3) := by decide +kernel
theorem dX2_contextOf_71 : decode cX2_contextOf 71 = .ok (.istore 4, 2) := by decide +kernel
theorem dX2_contextOf_73 : decode cX2_contextOf 73 = .ok (.aload_n 0, 1) := by decide +kernel
theorem dX2_contextOf_74 : decode cX2_contextOf 74 = .ok (.getfield 18, 3) := by decide +kernel
theorem dX2_contextOf_77 : decode cX2_contextOf 77 = .ok (.iload 4, 2) := by decide +kernel
theorem dX2_contextOf_79 : decode cX2_contextOf 79 = .ok (.iconst 0, 1) := by decide +kernel
theorem dX2_contextOf_80 : decode cX2_contextOf 80 = .ok (.iload_n 1, 1) := by decide +kernel
theorem dX2_contextOf_81 : decode cX2_contextOf 81 = .ok (.invokevirtual 126, 3) := by decide +kernel
theorem dX2_contextOf_84 : decode cX2_contextOf 84 = .ok (.aload_n 0, 1) := by decide +kernel
theorem dX2_contextOf_85 : decode cX2_contextOf 85 = .ok (.getfield 18, 3) := by decide +kernel
theorem dX2_contextOf_88 : decode cX2_contextOf 88 = .ok (.iload 4, 2) := by decide +kernel
theorem dX2_contextOf_90 : decode cX2_contextOf 90 = .ok (.iconst 1, 1) := by decide +kernel
theorem dX2_contextOf_91 : decode cX2_contextOf 91 = .ok (.iload_n 3, 1) := by decide +kernel
theorem dX2_contextOf_92 : decode cX2_contextOf 92 = .ok (.invokevirtual 126, 3) := by decide +kernel
theorem dX2_contextOf_95 : decode cX2_contextOf 95 = .ok (.aload_n 0, 1) := by decide +kernel
theorem dX2_contextOf_96 : decode cX2_contextOf 96 = .ok (.getfield 18, 3) := by decide +kernel
theorem dX2_contextOf_99 : decode cX2_contextOf 99 = .ok (.iload 4, 2) := by decide +kernel
theorem dX2_contextOf_101 : decode cX2_contextOf 101 = .ok (.iconst 2, 1) := by decide +kernel
theorem dX2_contextOf_102 : decode cX2_contextOf 102 = .ok (.aload_n 0, 1) := by decide +kernel
theorem dX2_contextOf_103 : decode cX2_contextOf 103 = .ok (.iload_n 2, 1) := by decide +kernel
theorem dX2_contextOf_104 : decode cX2_contextOf 104 = .ok (.iconst 1, 1) := by decide +kernel
theorem dX2_contextOf_105 : decode cX2_contextOf 105 = .ok (.iadd, 1) := by decide +kernel
theorem dX2_contextOf_106 : decode cX2_contextOf 106 = .ok (.invokevirtual 77, 3) := by decide +kernel
theorem dX2_contextOf_109 : decode cX2_contextOf 109 = .ok (.bipush 15, 2) := by decide +kernel
theorem dX2_contextOf_111 : decode cX2_contextOf 111 = .ok (.iand, 1) := by decide +kernel
theorem dX2_contextOf_112 : decode cX2_contextOf 112 = .ok (.invokevirtual 126, 3) := by decide +kernel
theorem dX2_contextOf_115 : decode cX2_contextOf 115 = .ok (.iload 4, 2) := by decide +kernel
theorem dX2_contextOf_117 : decode cX2_contextOf 117 = .ok (.ireturn, 1) := by decide +kernel
set_option maxRecDepth 20000 in
theorem ggX2_leafFor_X1_cell : GoodIn wsX2_leafFor wsX1_cell := goodIn_r _ [7, 8, 9, 10, 11, 12, 6, 13, 14, 71, 72, 73, 74] (by decide +kernel) (by decide +kernel)
set_option maxRecDepth 20000 in
theorem gX2_leafFor_X1_cell : GoodIn wsX2_leafFor (wsV RX2 133 RX1 yX1_cell wsX1_cell) := goodIn_app (goodIn_of _ (by decide +kernel)) ggX2_leafFor_X1_cell
set_option maxRecDepth 20000 in
theorem ggX2_leafFor_X2_isForPage : GoodIn wsX2_leafFor wsX2_isForPage := goodIn_r _ [19, 1, 3, 4, 5, 6, 7, 8, 9, 10, 11, 12, 13, 14, 60, 61, 62, 63, 64, 65, 66, 67, 68, 69, 70, 71, 72, 73, 74] (by decide +kernel) (by decide +kernel)
set_option maxRecDepth 20000 in
theorem gX2_leafFor_X2_isForPage : GoodIn wsX2_leafFor (wsV RX2 166 RX2 yX2_isForPage wsX2_isForPage) := goodIn_app (goodIn_of _ (by decide +kernel)) ggX2_leafFor_X2_isForPage
set_option maxRecDepth 20000 in
theorem ggX2_leafFor_X2_entryFor : GoodIn wsX2_leafFor wsX2_entryFor := goodIn_r _ [23, 24, 25, 26, 18, 27, 28, 29, 30, 31, 32, 33, 34, 35, 60, 61, 62, 63, 64, 65, 66, 67, 68, 69, 70] (by decide +kernel) (by decide +kernel)
set_option maxRecDepth 20000 in
theorem gX2_leafFor_X2_entryFor : GoodIn wsX2_leafFor (wsV RX2 169 RX2 yX2_entryFor wsX2_entryFor) := goodIn_app (goodIn_of _ (by decide +kernel)) ggX2_leafFor_X2_entryFor
set_option maxRecDepth 20000 in
theorem ggX2_leafFor_X2_pageOf : GoodIn wsX2_leafFor wsX2_pageOf := goodIn_r _ [38] (by decide +kernel) (by decide +kernel)
set_option maxRecDepth 20000 in
theorem gX2_leafFor_X2_pageOf : GoodIn wsX2_leafFor (va_wsS RX2 157 yX2_pageOf wsX2_pageOf) := goodIn_app (goodIn_of _ (by decide +kernel)) ggX2_leafFor_X2_pageOf
set_option maxRecDepth 20000 in
theorem ggX2_leafFor_X2_rememberLeaf : GoodIn wsX2_leafFor wsX2_rememberLeaf := goodIn_r _ [42, 1, 43, 44, 45, 6, 46, 14, 47, 48, 49, 50, 51, 52, 53, 54, 55, 9, 8, 56, 57, 58, 59, 10, 11, 12, 13, 36, 37, 18, 38, 60, 61, 62, 63, 64, 65, 66, 67, 68, 69, 70, 71, 72, 73, 74] (by decide +kernel) (by decide +kernel)
set_option maxRecDepth 20000 in
theorem gX2_leafFor_X2_rememberLeaf : GoodIn wsX2_leafFor (wsV RX2 172 RX2 yX2_rememberLeaf wsX2_rememberLeaf) := goodIn_app (goodIn_of _ (by decide +kernel)) ggX2_leafFor_X2_rememberLeaf
theorem dX2_leafFor_0 : decode cX2_leafFor 0 = .ok (.iconst 0, 1) := by decide +kernel
theorem dX2_leafFor_1 : decode cX2_leafFor 1 = .ok (.istore 4, 2) := by decide +kernel
theorem dX2_leafFor_3 : decode cX2_leafFor 3 = .ok (.iload 4, 2) := by decide +kernel
theorem dX2_leafFor_5 : decode cX2_leafFor 5 = .ok (.aload_n 0, 1) := by decide +kernel
theorem dX2_leafFor_6 : decode cX2_leafFor 6 = .ok (.getfield 22, 3) := by decide +kernel
theorem dX2_leafFor_9 : decode cX2_leafFor 9 = .ok (.getfield 130, 3) := by decide +kernel
theorem dX2_leafFor_12 : decode cX2_leafFor 12 = .ok (.if_icmp .ge 46, 3) := by decide +kernel
theorem dX2_leafFor_15 : decode cX2_leafFor 15 = .ok (.aload_n 0, 1) := by decide +kernel
theorem dX2_leafFor_16 : decode cX2_leafFor 16 = .ok (.getfield 22, 3) := by decide +kernel
theorem dX2_leafFor_19 : decode cX2_leafFor 19 = .ok (.iload 4, 2) := by decide +kernel
theorem dX2_leafFor_21 : decode cX2_leafFor 21 = .ok (.iconst 0, 1) := by decide +kernel
theorem dX2_leafFor_22 : decode cX2_leafFor 22 = .ok (.invokevirtual 133, 3) := by decide +kernel
theorem dX2_leafFor_25 : decode cX2_leafFor 25 = .ok (.iload_n 1, 1) := by decide +kernel
theorem dX2_leafFor_26 : decode cX2_leafFor 26 = .ok (.if_icmp .ne 26, 3) := by decide +kernel
theorem dX2_leafFor_29 : decode cX2_leafFor 29 = .ok (.aload_n 0, 1) := by decide +kernel
theorem dX2_leafFor_30 : decode cX2_leafFor 30 = .ok (.iload 4, 2) := by decide +kernel
theorem dX2_leafFor_32 : decode cX2_leafFor 32 = .ok (.iload_n 3, 1) := by decide +kernel
theorem dX2_leafFor_33 : decode cX2_leafFor 33 = .ok (.invokevirtual 166, 3) := by decide +kernel
theorem dX2_leafFor_36 : decode cX2_leafFor 36 = .ok (.ifCond .eq 16, 3) := by decide +kernel
theorem dX2_leafFor_39 : decode cX2_leafFor 39 = .ok (.aload_n 0, 1) := by decide +kernel
theorem dX2_leafFor_40 : decode cX2_leafFor 40 = .ok (.dup, 1) := by decide +kernel
theorem dX2_leafFor_41 : decode cX2_leafFor 41 = .ok (.getfield 47, 3) := by decide +kernel
theorem dX2_leafFor_44 : decode cX2_leafFor 44 = .ok (.iconst 1, 1) := by decide +kernel
theorem dX2_leafFor_45 : decode cX2_leafFor 45 = .ok (.iadd, 1) := by decide +kernel
theorem dX2_leafFor_46 : decode cX2_leafFor 46 = .ok (.putfield 47, 3) := by decide +kernel
theorem dX2_leafFor_49 : decode cX2_leafFor 49 = .ok (.iload 4, 2) := by decide +kernel
theorem dX2_leafFor_51 : decode cX2_leafFor 51 = .ok (.ireturn, 1) := by decide +kernel
theorem dX2_leafFor_52 : decode cX2_leafFor 52 = .ok (.iinc 4 1, 3) := by decide +kernel
theorem dX2_leafFor_55 : decode cX2_leafFor 55 = .ok (.goto (-52), 3) := by decide +kernel
theorem dX2_leafFor_58 : decode cX2_leafFor 58 = .ok (.iconst 2, 1) := by decide +kernel
theorem dX2_leafFor_59 : decode cX2_leafFor 59 = .ok (.istore 4, 2) := by decide +kernel
theorem dX2_leafFor_61 : decode cX2_leafFor 61 = .ok (.aload_n 0, 1) := by decide +kernel
theorem dX2_leafFor_62 : decode cX2_leafFor 62 = .ok (.iload_n 2, 1) := by decide +kernel
theorem dX2_leafFor_63 : decode cX2_leafFor 63 = .ok (.iload 4, 2) := by decide +kernel
theorem dX2_leafFor_65 : decode cX2_leafFor 65 = .ok (.iload_n 3, 1) := by decide +kernel
theorem dX2_leafFor_66 : decode cX2_leafFor 66 = .ok (.invokevirtual 169, 3) := by decide +kernel
theorem dX2_leafFor_69 : decode cX2_leafFor 69 = .ok (.istore 5, 2) := by decide +kernel
theorem dX2_leafFor_71 : decode cX2_leafFor 71 = .ok (.iload 4, 2) := by decide +kernel
theorem dX2_leafFor_73 : decode cX2_leafFor 73 = .ok (.ifCond .le 32, 3) := by decide +kernel
theorem dX2_leafFor_76 : decode cX2_leafFor 76 = .ok (.iload 5, 2) := by decide +kernel
theorem dX2_leafFor_78 : decode cX2_leafFor 78 = .ok (.bipush 9, 2) := by decide +kernel
theorem dX2_leafFor_80 : decode cX2_leafFor 80 = .ok (.iand, 1) := by decide +kernel
theorem dX2_leafFor_81 : decode cX2_leafFor 81 = .ok (.iconst 1, 1) := by decide +kernel
theorem dX2_leafFor_82 : decode cX2_leafFor 82 = .ok (.if_icmp .ne 23, 3) := by decide +kernel
theorem dX2_leafFor_85 : decode cX2_leafFor 85 = .ok (.iinc 4 (-1), 3) := by decide +kernel
theorem dX2_leafFor_88 : decode cX2_leafFor 88 = .ok (.aload_n 0, 1) := by decide +kernel
theorem dX2_leafFor_89 : decode cX2_leafFor 89 = .ok (.iload 5, 2) := by decide +kernel
theorem dX2_leafFor_91 : decode cX2_leafFor 91 = .ok (.invokestatic 157, 3) := by decide +kernel
theorem dX2_leafFor_94 : decode cX2_leafFor 94 = .ok (.iload 4, 2) := by decide +kernel
theorem dX2_leafFor_96 : decode cX2_leafFor 96 = .ok (.iload_n 3, 1) := by decide +kernel
theorem dX2_leafFor_97 : decode cX2_leafFor 97 = .ok (.invokevirtual 169, 3) := by decide +kernel
theorem dX2_leafFor_100 : decode cX2_leafFor 100 = .ok (.istore 5, 2) := by decide +kernel
theorem dX2_leafFor_102 : decode cX2_leafFor 102 = .ok (.goto (-31), 3) := by decide +kernel
theorem dX2_leafFor_105 : decode cX2_leafFor 105 = .ok (.iload 5, 2) := by decide +kernel
theorem dX2_leafFor_107 : decode cX2_leafFor 107 = .ok (.iconst 1, 1) := by decide +kernel
theorem dX2_leafFor_108 : decode cX2_leafFor 108 = .ok (.iand, 1) := by decide +kernel
theorem dX2_leafFor_109 : decode cX2_leafFor 109 = .ok (.ifCond .ne 6, 3) := by decide +kernel
theorem dX2_leafFor_112 : decode cX2_leafFor 112 = .ok (.bipush (-2), 2) := by decide +kernel
theorem dX2_leafFor_114 : decode cX2_leafFor 114 = .ok (.ireturn, 1) := by decide +kernel
theorem dX2_leafFor_115 : decode cX2_leafFor 115 = .ok (.iload 4, 2) := by decide +kernel
theorem dX2_leafFor_117 : decode cX2_leafFor 117 = .ok (.ifCond .le 17, 3) := by decide +kernel
theorem dX2_leafFor_120 : decode cX2_leafFor 120 = .ok (.iload 5, 2) := by decide +kernel
theorem dX2_leafFor_122 : decode cX2_leafFor 122 = .ok (.invokestatic 157, 3) := by decide +kernel
theorem dX2_leafFor_125 : decode cX2_leafFor 125 = .ok (.bipush 15, 2) := by decide +kernel
theorem dX2_leafFor_127 : decode cX2_leafFor 127 = .ok (.iand, 1) := by decide +kernel
theorem dX2_leafFor_128 : decode cX2_leafFor 128 = .ok (.ifCond .eq 6, 3) := by decide +kernel
theorem dX2_leafFor_131 : decode cX2_leafFor 131 = .ok (.bipush (-5), 2) := by decide +kernel
theorem dX2_leafFor_133 : decode cX2_leafFor 133 = .ok (.ireturn, 1) := by decide +kernel
theorem dX2_leafFor_134 : decode cX2_leafFor 134 = .ok (.aload_n 0, 1) := by decide +kernel
theorem dX2_leafFor_135 : decode cX2_leafFor 135 = .ok (.iload_n 1, 1) := by decide +kernel
theorem dX2_leafFor_136 : decode cX2_leafFor 136 = .ok (.iload 4, 2) := by decide +kernel
theorem dX2_leafFor_138 : decode cX2_leafFor 138 = .ok (.iload_n 3, 1) := by decide +kernel
theorem dX2_leafFor_139 : decode cX2_leafFor 139 = .ok (.iload 5, 2) := by decide +kernel
theorem dX2_leafFor_141 : decode cX2_leafFor 141 = .ok (.invokevirtual 172, 3) := by decide +kernel
theorem dX2_leafFor_144 : decode cX2_leafFor 144 = .ok (.ireturn, 1) := by decide +kernel
set_option maxRecDepth 20000 in
theorem ggX2_entryFor_X2_placeIn : GoodIn wsX2_entryFor wsX2_placeIn := goodIn_r _ [5] (by decide +kernel) (by decide +kernel)
set_option maxRecDepth 20000 in
theorem gX2_entryFor_X2_placeIn : GoodIn wsX2_entryFor (va_wsS RX2 69 yX2_placeIn wsX2_placeIn) := goodIn_app (goodIn_of _ (by decide +kernel)) ggX2_entryFor_X2_placeIn
set_option maxRecDepth 20000 in
theorem ggX2_entryFor_X2_wordAt : GoodIn wsX2_entryFor wsX2_wordAt := goodIn_r _ [9, 10, 11, 12, 4, 13, 14, 15, 16, 17, 18, 19, 20, 21, 22, 23, 24] (by decide +kernel) (by decide +kernel)
set_option maxRecDepth 20000 in
theorem gX2_entryFor_X2_wordAt : GoodIn wsX2_entryFor (wsV RX2 77 RX2 yX2_wordAt wsX2_wordAt) := goodIn_app (goodIn_of _ (by decide +kernel)) ggX2_entryFor_X2_wordAt
theorem dX2_entryFor_0 : decode cX2_entryFor 0 = .ok (.aload_n 0, 1) := by decide +kernel
theorem dX2_entryFor_1 : decode cX2_entryFor 1 = .ok (.dup, 1) := by decide +kernel
theorem dX2_entryFor_2 : decode cX2_entryFor 2 = .ok (.getfield 44, 3) := by decide +kernel
theorem dX2_entryFor_5 : decode cX2_entryFor 5 = .ok (.iconst 1, 1) := by decide +kernel
theorem dX2_entryFor_6 : decode cX2_entryFor 6 = .ok (.iadd, 1) := by decide +kernel
theorem dX2_entryFor_7 : decode cX2_entryFor 7 = .ok (.putfield 44, 3) := by decide +kernel
theorem dX2_entryFor_10 : decode cX2_entryFor 10 = .ok (.aload_n 0, 1) := by decide +kernel
theorem dX2_entryFor_11 : decode cX2_entryFor 11 = .ok (.iload_n 1, 1) := by decide +kernel
theorem dX2_entryFor_12 : decode cX2_entryFor 12 = .ok (.iload_n 3, 1) := by decide +kernel
theorem dX2_entryFor_13 : decode cX2_entryFor 13 = .ok (.iconst 4, 1) := by decide +kernel
theorem dX2_entryFor_14 : decode cX2_entryFor 14 = .ok (.iload_n 2, 1) := by decide +kernel
theorem dX2_entryFor_15 : decode cX2_entryFor 15 = .ok (.imul, 1) := by decide +kernel
theorem dX2_entryFor_16 : decode cX2_entryFor 16 = .ok (.ishr, 1) := by decide +kernel
theorem dX2_entryFor_17 : decode cX2_entryFor 17 = .ok (.bipush 15, 2) := by decide +kernel
theorem dX2_entryFor_19 : decode cX2_entryFor 19 = .ok (.iand, 1) := by decide +kernel
theorem dX2_entryFor_20 : decode cX2_entryFor 20 = .ok (.invokestatic 69, 3) := by decide +kernel
theorem dX2_entryFor_23 : decode cX2_entryFor 23 = .ok (.invokevirtual 77, 3) := by decide +kernel
theorem dX2_entryFor_26 : decode cX2_entryFor 26 = .ok (.ireturn, 1) := by decide +kernel
set_option maxRecDepth 20000 in
theorem ggX2_isForPage_X1_cell : GoodIn wsX2_isForPage wsX1_cell := goodIn_r _ [6, 7, 8, 9, 10, 11, 5, 12, 13, 25, 26, 27, 28] (by decide +kernel) (by decide +kernel)
set_option maxRecDepth 20000 in
theorem gX2_isForPage_X1_cell : GoodIn wsX2_isForPage (wsV RX2 133 RX1 yX1_cell wsX1_cell) := goodIn_app (goodIn_of _ (by decide +kernel)) ggX2_isForPage_X1_cell
theorem dX2_isForPage_0 : decode cX2_isForPage 0 = .ok (.aload_n 0, 1) := by decide +kernel
theorem dX2_isForPage_1 : decode cX2_isForPage 1 = .ok (.getfield 22, 3) := by decide +kernel
theorem dX2_isForPage_4 : decode cX2_isForPage 4 = .ok (.iload_n 1, 1) := by decide +kernel
theorem dX2_isForPage_5 : decode cX2_isForPage 5 = .ok (.iconst 2, 1) := by decide +kernel
theorem dX2_isForPage_6 : decode cX2_isForPage 6 = .ok (.invokevirtual 133, 3) := by decide +kernel
theorem dX2_isForPage_9 : decode cX2_isForPage 9 = .ok (.iload_n 2, 1) := by decide +kernel
theorem dX2_isForPage_10 : decode cX2_isForPage 10 = .ok (.iconst 4, 1) := by decide +kernel
theorem dX2_isForPage_11 : decode cX2_isForPage 11 = .ok (.aload_n 0, 1) := by decide +kernel
theorem dX2_isForPage_12 : decode cX2_isForPage 12 = .ok (.getfield 22, 3) := by decide +kernel
theorem dX2_isForPage_15 : decode cX2_isForPage 15 = .ok (.iload_n 1, 1) := by decide +kernel
theorem dX2_isForPage_16 : decode cX2_isForPage 16 = .ok (.iconst 1, 1) := by decide +kernel
theorem dX2_isForPage_17 : decode cX2_isForPage 17 = .ok (.invokevirtual 133, 3) := by decide +kernel
theorem dX2_isForPage_20 : decode cX2_isForPage 20 = .ok (.imul, 1) := by decide +kernel
theorem dX2_isForPage_21 : decode cX2_isForPage 21 = .ok (.ishr, 1) := by decide +kernel
theorem dX2_isForPage_22 : decode cX2_isForPage 22 = .ok (.if_icmp .ne 7, 3) := by decide +kernel
theorem dX2_isForPage_25 : decode cX2_isForPage 25 = .ok (.iconst 1, 1) := by decide +kernel
theorem dX2_isForPage_26 : decode cX2_isForPage 26 = .ok (.goto 4, 3) := by decide +kernel
theorem dX2_isForPage_29 : decode cX2_isForPage 29 = .ok (.iconst 0, 1) := by decide +kernel
theorem dX2_isForPage_30 : decode cX2_isForPage 30 = .ok (.ireturn, 1) := by decide +kernel
set_option maxRecDepth 20000 in
theorem ggX2_rememberLeaf_X1_open : GoodIn wsX2_rememberLeaf wsX1_open := goodIn_r _ [6, 7, 8, 9, 10, 5, 11, 12, 13, 14, 15, 16, 17, 18, 42, 43, 44, 45] (by decide +kernel) (by decide +kernel)
set_option maxRecDepth 20000 in
theorem gX2_rememberLeaf_X1_open : GoodIn wsX2_rememberLeaf (wsV RX2 122 RX1 yX1_open wsX1_open) := goodIn_app (goodIn_of _ (by decide +kernel)) ggX2_rememberLeaf_X1_open
set_option maxRecDepth 20000 in
theorem ggX2_rememberLeaf_X1_put : GoodIn wsX2_rememberLeaf wsX1_put := goodIn_r _ [22, 18, 17, 23, 24, 25, 5, 26, 7, 42, 43, 44, 45] (by decide +kernel) (by decide +kernel)
set_option maxRecDepth 20000 in
theorem gX2_rememberLeaf_X1_put : GoodIn wsX2_rememberLeaf (wsV RX2 126 RX1 yX1_put wsX1_put) := goodIn_app (goodIn_of _ (by decide +kernel)) ggX2_rememberLeaf_X1_put
set_option maxRecDepth 20000 in
theorem ggX2_rememberLeaf_X2_pageOf : GoodIn wsX2_rememberLeaf wsX2_pageOf := goodIn_r _ [30] (by decide +kernel) (by decide +kernel)
set_option maxRecDepth 20000 in
theorem gX2_rememberLeaf_X2_pageOf : GoodIn wsX2_rememberLeaf (va_wsS RX2 157 yX2_pageOf wsX2_pageOf) := goodIn_app (goodIn_of _ (by decide +kernel)) ggX2_rememberLeaf_X2_pageOf
theorem dX2_rememberLeaf_0 : decode cX2_rememberLeaf 0 = .ok (.aload_n 0, 1) := by decide +kernel
theorem dX2_rememberLeaf_1 : decode cX2_rememberLeaf 1 = .ok (.getfield 22, 3) := by decide +kernel
theorem dX2_rememberLeaf_4 : decode cX2_rememberLeaf 4 = .ok (.invokevirtual 122, 3) := by decide +kernel
theorem dX2_rememberLeaf_7 : decode cX2_rememberLeaf 7 = .ok (.istore 5, 2) := by decide +kernel
theorem dX2_rememberLeaf_9 : decode cX2_rememberLeaf 9 = .ok (.aload_n 0, 1) := by decide +kernel
theorem dX2_rememberLeaf_10 : decode cX2_rememberLeaf 10 = .ok (.getfield 22, 3) := by decide +kernel
theorem dX2_rememberLeaf_13 : decode cX2_rememberLeaf 13 = .ok (.iload 5, 2) := by decide +kernel
theorem dX2_rememberLeaf_15 : decode cX2_rememberLeaf 15 = .ok (.iconst 0, 1) := by decide +kernel
theorem dX2_rememberLeaf_16 : decode cX2_rememberLeaf 16 = .ok (.iload_n 1, 1) := by decide +kernel
theorem dX2_rememberLeaf_17 : decode cX2_rememberLeaf 17 = .ok (.invokevirtual 126, 3) := by decide +kernel
theorem dX2_rememberLeaf_20 : decode cX2_rememberLeaf 20 = .ok (.aload_n 0, 1) := by decide +kernel
theorem dX2_rememberLeaf_21 : decode cX2_rememberLeaf 21 = .ok (.getfield 22, 3) := by decide +kernel
theorem dX2_rememberLeaf_24 : decode cX2_rememberLeaf 24 = .ok (.iload 5, 2) := by decide +kernel
theorem dX2_rememberLeaf_26 : decode cX2_rememberLeaf 26 = .ok (.iconst 1, 1) := by decide +kernel
theorem dX2_rememberLeaf_27 : decode cX2_rememberLeaf 27 = .ok (.iload_n 2, 1) := by decide +kernel
theorem dX2_rememberLeaf_28 : decode cX2_rememberLeaf 28 = .ok (.invokevirtual 126, 3) := by decide +kernel
theorem dX2_rememberLeaf_31 : decode cX2_rememberLeaf 31 = .ok (.aload_n 0, 1) := by decide +kernel
theorem dX2_rememberLeaf_32 : decode cX2_rememberLeaf 32 = .ok (.getfield 22, 3) := by decide +kernel
theorem dX2_rememberLeaf_35 : decode cX2_rememberLeaf 35 = .ok (.iload 5, 2) := by decide +kernel
theorem dX2_rememberLeaf_37 : decode cX2_rememberLeaf 37 = .ok (.iconst 2, 1) := by decide +kernel
theorem dX2_rememberLeaf_38 : decode cX2_rememberLeaf 38 = .ok (.iload_n 3, 1) := by decide +kernel
theorem dX2_rememberLeaf_39 : decode cX2_rememberLeaf 39 = .ok (.iconst 4, 1) := by decide +kernel
theorem dX2_rememberLeaf_40 : decode cX2_rememberLeaf 40 = .ok (.iload_n 2, 1) := by decide +kernel
theorem dX2_rememberLeaf_41 : decode cX2_rememberLeaf 41 = .ok (.imul, 1) := by decide +kernel
theorem dX2_rememberLeaf_42 : decode cX2_rememberLeaf 42 = .ok (.ishr, 1) := by decide +kernel
theorem dX2_rememberLeaf_43 : decode cX2_rememberLeaf 43 = .ok (.invokevirtual 126, 3) := by decide +kernel
theorem dX2_rememberLeaf_46 : decode cX2_rememberLeaf 46 = .ok (.aload_n 0, 1) := by decide +kernel
theorem dX2_rememberLeaf_47 : decode cX2_rememberLeaf 47 = .ok (.getfield 22, 3) := by decide +kernel
theorem dX2_rememberLeaf_50 : decode cX2_rememberLeaf 50 = .ok (.iload 5, 2) := by decide +kernel
theorem dX2_rememberLeaf_52 : decode cX2_rememberLeaf 52 = .ok (.iconst 3, 1) := by decide +kernel
theorem dX2_rememberLeaf_53 : decode cX2_rememberLeaf 53 = .ok (.iload 4, 2) := by decide +kernel
theorem dX2_rememberLeaf_55 : decode cX2_rememberLeaf 55 = .ok (.invokestatic 157, 3) := by decide +kernel
theorem dX2_rememberLeaf_58 : decode cX2_rememberLeaf 58 = .ok (.invokevirtual 126, 3) := by decide +kernel
theorem dX2_rememberLeaf_61 : decode cX2_rememberLeaf 61 = .ok (.aload_n 0, 1) := by decide +kernel
theorem dX2_rememberLeaf_62 : decode cX2_rememberLeaf 62 = .ok (.getfield 22, 3) := by decide +kernel
theorem dX2_rememberLeaf_65 : decode cX2_rememberLeaf 65 = .ok (.iload 5, 2) := by decide +kernel
theorem dX2_rememberLeaf_67 : decode cX2_rememberLeaf 67 = .ok (.iconst 4, 1) := by decide +kernel
theorem dX2_rememberLeaf_68 : decode cX2_rememberLeaf 68 = .ok (.iload 4, 2) := by decide +kernel
theorem dX2_rememberLeaf_70 : decode cX2_rememberLeaf 70 = .ok (.iconst 1, 1) := by decide +kernel
theorem dX2_rememberLeaf_71 : decode cX2_rememberLeaf 71 = .ok (.ishr, 1) := by decide +kernel
theorem dX2_rememberLeaf_72 : decode cX2_rememberLeaf 72 = .ok (.iconst 3, 1) := by decide +kernel
theorem dX2_rememberLeaf_73 : decode cX2_rememberLeaf 73 = .ok (.iand, 1) := by decide +kernel
theorem dX2_rememberLeaf_74 : decode cX2_rememberLeaf 74 = .ok (.invokevirtual 126, 3) := by decide +kernel
theorem dX2_rememberLeaf_77 : decode cX2_rememberLeaf 77 = .ok (.iload 5, 2) := by decide +kernel
theorem dX2_rememberLeaf_79 : decode cX2_rememberLeaf 79 = .ok (.ireturn, 1) := by decide +kernel
set_option maxRecDepth 20000 in
theorem ggX2_takeDescriptor_X0_descriptorAddress : GoodIn wsX2_takeDescriptor wsX0_descriptorAddress := goodIn_r _ [5, 6, 7, 110, 111, 112, 113, 114, 115, 116, 117, 118, 119, 120, 121] (by decide +kernel) (by decide +kernel)
set_option maxRecDepth 20000 in
theorem gX2_takeDescriptor_X0_descriptorAddress : GoodIn wsX2_takeDescriptor (wsV RX2 176 RX0 yX0_descriptorAddress wsX0_descriptorAddress) := goodIn_app (goodIn_of _ (by decide +kernel)) ggX2_takeDescriptor_X0_descriptorAddress
set_option maxRecDepth 20000 in
theorem ggX2_takeDescriptor_X2_access : GoodIn wsX2_takeDescriptor wsX2_access := goodIn_r _ [12, 13, 14, 15, 16, 11, 17, 18, 19, 20, 21, 22, 23, 24, 25, 26, 27, 28, 29, 30, 31, 32, 33, 34, 35, 36, 37, 38, 39, 40, 41, 42, 43, 44, 45, 46, 47, 48, 49, 50, 51, 52, 53, 54, 55, 56, 57, 58, 59, 60, 61, 62, 63, 64, 65, 66, 67, 68, 69, 70, 71, 72, 73, 74, 75, 76, 77, 78, 79, 80, 81, 82, 83, 84, 85, 86, 87, 88, 89, 90, 91, 92, 93, 94, 95, 96, 97, 98, 99, 100, 101, 122, 123, 124, 125, 126, 127, 128, 129, 130, 131, 132, 133, 134, 135, 136] (by decide +kernel) (by decide +kernel)
set_option maxRecDepth 20000 in
theorem gX2_takeDescriptor_X2_access : GoodIn wsX2_takeDescriptor (wsV RX2 73 RX2 yX2_access wsX2_access) := goodIn_app (goodIn_of _ (by decide +kernel)) ggX2_takeDescriptor_X2_access
set_option maxRecDepth 20000 in
theorem ggX2_takeDescriptor_X2_wordAt : GoodIn wsX2_takeDescriptor wsX2_wordAt := goodIn_r _ [49, 50, 21, 22, 11, 23, 122, 123, 124, 125, 126, 127, 128, 129, 130, 131, 132] (by decide +kernel) (by decide +kernel)
set_option maxRecDepth 20000 in
theorem gX2_takeDescriptor_X2_wordAt : GoodIn wsX2_takeDescriptor (wsV RX2 77 RX2 yX2_wordAt wsX2_wordAt) := goodIn_app (goodIn_of _ (by decide +kernel)) ggX2_takeDescriptor_X2_wordAt
set_option maxRecDepth 20000 in
theorem ggX2_takeDescriptor_X0_take : GoodIn wsX2_takeDescriptor wsX0_take := goodIn_r _ [105, 106, 107, 108, 109, 110, 111, 112, 113, 114, 115, 116, 117, 118, 119, 120, 121] (by decide +kernel) (by decide +kernel)
set_option maxRecDepth 20000 in
theorem gX2_takeDescriptor_X0_take : GoodIn wsX2_takeDescriptor (wsV RX2 179 RX0 yX0_take wsX0_take) := goodIn_app (goodIn_of _ (by decide +kernel)) ggX2_takeDescriptor_X0_take
theorem dX2_takeDescriptor_0 : decode cX2_takeDescriptor 0 = .ok (.iconst 0, 1) := by decide +kernel
theorem dX2_takeDescriptor_1 : decode cX2_takeDescriptor 1 = .ok (.istore_n 3, 1) := by decide +kernel
theorem dX2_takeDescriptor_2 : decode cX2_takeDescriptor 2 = .ok (.iload_n 3, 1) := by decide +kernel
theorem dX2_takeDescriptor_3 : decode cX2_takeDescriptor 3 = .ok (.iconst 4, 1) := by decide +kernel
theorem dX2_takeDescriptor_4 : decode cX2_takeDescriptor 4 = .ok (.if_icmp .ge 41, 3) := by decide +kernel
theorem dX2_takeDescriptor_7 : decode cX2_takeDescriptor 7 = .ok (.aload_n 0, 1) := by decide +kernel
theorem dX2_takeDescriptor_8 : decode cX2_takeDescriptor 8 = .ok (.iload_n 1, 1) := by decide +kernel
theorem dX2_takeDescriptor_9 : decode cX2_takeDescriptor 9 = .ok (.aload_n 2, 1) := by decide +kernel
theorem dX2_takeDescriptor_10 : decode cX2_takeDescriptor 10 = .ok (.invokevirtual 176, 3) := by decide +kernel
theorem dX2_takeDescriptor_13 : decode cX2_takeDescriptor 13 = .ok (.iload_n 3, 1) := by decide +kernel
theorem dX2_takeDescriptor_14 : decode cX2_takeDescriptor 14 = .ok (.iadd, 1) := by decide +kernel
theorem dX2_takeDescriptor_15 : decode cX2_takeDescriptor 15 = .ok (.iconst 0, 1) := by decide +kernel
theorem dX2_takeDescriptor_16 : decode cX2_takeDescriptor 16 = .ok (.invokevirtual 73, 3) := by decide +kernel
theorem dX2_takeDescriptor_19 : decode cX2_takeDescriptor 19 = .ok (.istore 4, 2) := by decide +kernel
theorem dX2_takeDescriptor_21 : decode cX2_takeDescriptor 21 = .ok (.iload 4, 2) := by decide +kernel
theorem dX2_takeDescriptor_23 : decode cX2_takeDescriptor 23 = .ok (.ifCond .ge 5, 3) := by decide +kernel
theorem dX2_takeDescriptor_26 : decode cX2_takeDescriptor 26 = .ok (.iconst 0, 1) := by decide +kernel
theorem dX2_takeDescriptor_27 : decode cX2_takeDescriptor 27 = .ok (.ireturn, 1) := by decide +kernel
theorem dX2_takeDescriptor_28 : decode cX2_takeDescriptor 28 = .ok (.aload_n 2, 1) := by decide +kernel
theorem dX2_takeDescriptor_29 : decode cX2_takeDescriptor 29 = .ok (.iload_n 3, 1) := by decide +kernel
theorem dX2_takeDescriptor_30 : decode cX2_takeDescriptor 30 = .ok (.aload_n 0, 1) := by decide +kernel
theorem dX2_takeDescriptor_31 : decode cX2_takeDescriptor 31 = .ok (.iload 4, 2) := by decide +kernel
theorem dX2_takeDescriptor_33 : decode cX2_takeDescriptor 33 = .ok (.invokevirtual 77, 3) := by decide +kernel
theorem dX2_takeDescriptor_36 : decode cX2_takeDescriptor 36 = .ok (.invokevirtual 179, 3) := by decide +kernel
theorem dX2_takeDescriptor_39 : decode cX2_takeDescriptor 39 = .ok (.iinc 3 1, 3) := by decide +kernel
theorem dX2_takeDescriptor_42 : decode cX2_takeDescriptor 42 = .ok (.goto (-40), 3) := by decide +kernel
theorem dX2_takeDescriptor_45 : decode cX2_takeDescriptor 45 = .ok (.aload_n 2, 1) := by decide +kernel
theorem dX2_takeDescriptor_46 : decode cX2_takeDescriptor 46 = .ok (.iconst 0, 1) := by decide +kernel
theorem dX2_takeDescriptor_47 : decode cX2_takeDescriptor 47 = .ok (.putfield 103, 3) := by decide +kernel
theorem dX2_takeDescriptor_50 : decode cX2_takeDescriptor 50 = .ok (.aload_n 2, 1) := by decide +kernel
theorem dX2_takeDescriptor_51 : decode cX2_takeDescriptor 51 = .ok (.iconst 1, 1) := by decide +kernel
theorem dX2_takeDescriptor_52 : decode cX2_takeDescriptor 52 = .ok (.putfield 96, 3) := by decide +kernel
theorem dX2_takeDescriptor_55 : decode cX2_takeDescriptor 55 = .ok (.iconst 1, 1) := by decide +kernel
theorem dX2_takeDescriptor_56 : decode cX2_takeDescriptor 56 = .ok (.ireturn, 1) := by decide +kernel
set_option maxRecDepth 20000 in
theorem ggX2_copyWord_X2_access : GoodIn wsX2_copyWord wsX2_access := goodIn_r _ [5, 6, 7, 8, 9, 4, 10, 11, 12, 13, 14, 15, 16, 17, 18, 19, 20, 21, 22, 23, 24, 25, 26, 27, 28, 29, 30, 31, 32, 33, 34, 35, 36, 37, 38, 39, 40, 41, 42, 43, 44, 45, 46, 47, 48, 49, 50, 51, 52, 53, 54, 55, 56, 57, 58, 59, 60, 61, 62, 63, 64, 65, 66, 67, 68, 69, 70, 71, 72, 73, 74, 75, 76, 77, 78, 79, 80, 81, 82, 83, 84, 85, 86, 87, 88, 89, 90, 91, 92, 93, 94, 111, 112, 113, 114, 115, 116, 117, 118, 119, 120, 121, 122, 123, 124, 125] (by decide +kernel) (by decide +kernel)
set_option maxRecDepth 20000 in
theorem gX2_copyWord_X2_access : GoodIn wsX2_copyWord (wsV RX2 73 RX2 yX2_access wsX2_access) := goodIn_app (goodIn_of _ (by decide +kernel)) ggX2_copyWord_X2_access
set_option maxRecDepth 20000 in
theorem ggX2_copyWord_X2_wordAt : GoodIn wsX2_copyWord wsX2_wordAt := goodIn_r _ [42, 43, 14, 15, 4, 16, 111, 112, 113, 114, 115, 116, 117, 118, 119, 120, 121] (by decide +kernel) (by decide +kernel)
set_option maxRecDepth 20000 in
theorem gX2_copyWord_X2_wordAt : GoodIn wsX2_copyWord (wsV RX2 77 RX2 yX2_wordAt wsX2_wordAt) := goodIn_app (goodIn_of _ (by decide +kernel)) ggX2_copyWord_X2_wordAt
set_option maxRecDepth 20000 in
theorem ggX2_copyWord_X2_setWord : GoodIn wsX2_copyWord wsX2_setWord := goodIn_r _ [98, 43, 14, 15, 4, 16, 111, 112, 113, 114, 115, 116, 117, 118, 119, 120, 121] (by decide +kernel) (by decide +kernel)
set_option maxRecDepth 20000 in
theorem gX2_copyWord_X2_setWord : GoodIn wsX2_copyWord (wsV RX2 62 RX2 yX2_setWord wsX2_setWord) := goodIn_app (goodIn_of _ (by decide +kernel)) ggX2_copyWord_X2_setWord
theorem dX2_copyWord_0 : decode cX2_copyWord 0 = .ok (.aload_n 0, 1) := by decide +kernel
theorem dX2_copyWord_1 : decode cX2_copyWord 1 = .ok (.iload_n 1, 1) := by decide +kernel
theorem dX2_copyWord_2 : decode cX2_copyWord 2 = .ok (.aload_n 2, 1) := by decide +kernel
theorem dX2_copyWord_3 : decode cX2_copyWord 3 = .ok (.getfield 182, 3) := by decide +kernel
theorem dX2_copyWord_6 : decode cX2_copyWord 6 = .ok (.aload_n 2, 1) := by decide +kernel
theorem dX2_copyWord_7 : decode cX2_copyWord 7 = .ok (.getfield 103, 3) := by decide +kernel
theorem dX2_copyWord_10 : decode cX2_copyWord 10 = .ok (.iadd, 1) := by decide +kernel
theorem dX2_copyWord_11 : decode cX2_copyWord 11 = .ok (.iconst 0, 1) := by decide +kernel
theorem dX2_copyWord_12 : decode cX2_copyWord 12 = .ok (.invokevirtual 73, 3) := by decide +kernel
theorem dX2_copyWord_15 : decode cX2_copyWord 15 = .ok (.istore_n 3, 1) := by decide +kernel
theorem dX2_copyWord_16 : decode cX2_copyWord 16 = .ok (.iload_n 3, 1) := by decide +kernel
theorem dX2_copyWord_17 : decode cX2_copyWord 17 = .ok (.ifCond .ge 5, 3) := by decide +kernel
theorem dX2_copyWord_20 : decode cX2_copyWord 20 = .ok (.iconst 0, 1) := by decide +kernel
theorem dX2_copyWord_21 : decode cX2_copyWord 21 = .ok (.ireturn, 1) := by decide +kernel
theorem dX2_copyWord_22 : decode cX2_copyWord 22 = .ok (.aload_n 0, 1) := by decide +kernel
theorem dX2_copyWord_23 : decode cX2_copyWord 23 = .ok (.iload_n 3, 1) := by decide +kernel
theorem dX2_copyWord_24 : decode cX2_copyWord 24 = .ok (.invokevirtual 77, 3) := by decide +kernel
theorem dX2_copyWord_27 : decode cX2_copyWord 27 = .ok (.istore 4, 2) := by decide +kernel
theorem dX2_copyWord_29 : decode cX2_copyWord 29 = .ok (.aload_n 0, 1) := by decide +kernel
theorem dX2_copyWord_30 : decode cX2_copyWord 30 = .ok (.iload_n 1, 1) := by decide +kernel
theorem dX2_copyWord_31 : decode cX2_copyWord 31 = .ok (.aload_n 2, 1) := by decide +kernel
theorem dX2_copyWord_32 : decode cX2_copyWord 32 = .ok (.getfield 185, 3) := by decide +kernel
theorem dX2_copyWord_35 : decode cX2_copyWord 35 = .ok (.aload_n 2, 1) := by decide +kernel
theorem dX2_copyWord_36 : decode cX2_copyWord 36 = .ok (.getfield 103, 3) := by decide +kernel
theorem dX2_copyWord_39 : decode cX2_copyWord 39 = .ok (.iadd, 1) := by decide +kernel
theorem dX2_copyWord_40 : decode cX2_copyWord 40 = .ok (.iconst 1, 1) := by decide +kernel
theorem dX2_copyWord_41 : decode cX2_copyWord 41 = .ok (.invokevirtual 73, 3) := by decide +kernel
theorem dX2_copyWord_44 : decode cX2_copyWord 44 = .ok (.istore 5, 2) := by decide +kernel
theorem dX2_copyWord_46 : decode cX2_copyWord 46 = .ok (.iload 5, 2) := by decide +kernel
theorem dX2_copyWord_48 : decode cX2_copyWord 48 = .ok (.ifCond .ge 5, 3) := by decide +kernel
theorem dX2_copyWord_51 : decode cX2_copyWord 51 = .ok (.iconst 0, 1) := by decide +kernel
theorem dX2_copyWord_52 : decode cX2_copyWord 52 = .ok (.ireturn, 1) := by decide +kernel
theorem dX2_copyWord_53 : decode cX2_copyWord 53 = .ok (.aload_n 0, 1) := by decide +kernel
theorem dX2_copyWord_54 : decode cX2_copyWord 54 = .ok (.iload 5, 2) := by decide +kernel
theorem dX2_copyWord_56 : decode cX2_copyWord 56 = .ok (.iload 4, 2) := by decide +kernel
theorem dX2_copyWord_58 : decode cX2_copyWord 58 = .ok (.invokevirtual 62, 3) := by decide +kernel
theorem dX2_copyWord_61 : decode cX2_copyWord 61 = .ok (.pop, 1) := by decide +kernel
theorem dX2_copyWord_62 : decode cX2_copyWord 62 = .ok (.aload_n 2, 1) := by decide +kernel
theorem dX2_copyWord_63 : decode cX2_copyWord 63 = .ok (.dup, 1) := by decide +kernel
theorem dX2_copyWord_64 : decode cX2_copyWord 64 = .ok (.getfield 103, 3) := by decide +kernel
theorem dX2_copyWord_67 : decode cX2_copyWord 67 = .ok (.iconst 1, 1) := by decide +kernel
theorem dX2_copyWord_68 : decode cX2_copyWord 68 = .ok (.iadd, 1) := by decide +kernel
theorem dX2_copyWord_69 : decode cX2_copyWord 69 = .ok (.putfield 103, 3) := by decide +kernel
theorem dX2_copyWord_72 : decode cX2_copyWord 72 = .ok (.iconst 1, 1) := by decide +kernel
theorem dX2_copyWord_73 : decode cX2_copyWord 73 = .ok (.ireturn, 1) := by decide +kernel
set_option maxRecDepth 20000 in
theorem ggX2_finishDescriptor_X0_descriptorAddress : GoodIn wsX2_finishDescriptor wsX0_descriptorAddress := goodIn_r _ [5, 6, 7, 115, 116, 117, 118, 119, 120, 121, 122, 123, 124, 125, 126] (by decide +kernel) (by decide +kernel)
set_option maxRecDepth 20000 in
theorem gX2_finishDescriptor_X0_descriptorAddress : GoodIn wsX2_finishDescriptor (wsV RX2 176 RX0 yX0_descriptorAddress wsX0_descriptorAddress) := goodIn_app (goodIn_of _ (by decide +kernel)) ggX2_finishDescriptor_X0_descriptorAddress
set_option maxRecDepth 20000 in
theorem ggX2_finishDescriptor_X2_access : GoodIn wsX2_finishDescriptor wsX2_access := goodIn_r _ [12, 13, 14, 15, 16, 11, 17, 18, 19, 20, 21, 22, 23, 24, 25, 26, 27, 28, 29, 30, 31, 32, 33, 34, 35, 36, 37, 38, 39, 40, 41, 42, 43, 44, 45, 46, 47, 48, 49, 50, 51, 52, 53, 54, 55, 56, 57, 58, 59, 60, 61, 62, 63, 64, 65, 66, 67, 68, 69, 70, 71, 72, 73, 74, 75, 76, 77, 78, 79, 80, 81, 82, 83, 84, 85, 86, 87, 88, 89, 90, 91, 92, 93, 94, 95, 96, 97, 98, 99, 100, 101, 127, 128, 129, 130, 131, 132, 133, 134, 135, 136, 137, 138, 139, 140, 141] (by decide +kernel) (by decide +kernel)
set_option maxRecDepth 20000 in
theorem gX2_finishDescriptor_X2_access : GoodIn wsX2_finishDescriptor (wsV RX2 73 RX2 yX2_access wsX2_access) := goodIn_app (goodIn_of _ (by decide +kernel)) ggX2_finishDescriptor_X2_access
set_option maxRecDepth 20000 in
theorem ggX2_finishDescriptor_X2_setWord : GoodIn wsX2_finishDescriptor wsX2_setWord := goodIn_r _ [105, 50, 21, 22, 11, 23, 127, 128, 129, 130, 131, 132, 133, 134, 135, 136, 137] (by decide +kernel) (by decide +kernel)
set_option maxRecDepth 20000 in
theorem gX2_finishDescriptor_X2_setWord : GoodIn wsX2_finishDescriptor (wsV RX2 62 RX2 yX2_setWord wsX2_setWord) := goodIn_app (goodIn_of _ (by decide +kernel)) ggX2_finishDescriptor_X2_setWord
set_option maxRecDepth 20000 in
theorem ggX2_finishDescriptor_X0_goOn : GoodIn wsX2_finishDescriptor wsX0_goOn := goodIn_r _ [109, 7, 110, 111, 112, 113, 114, 115, 116, 117, 118, 119, 120, 121, 122, 123, 124, 125, 126] (by decide +kernel) (by decide +kernel)
set_option maxRecDepth 20000 in
theorem gX2_finishDescriptor_X0_goOn : GoodIn wsX2_finishDescriptor (wsV RX2 191 RX0 yX0_goOn wsX0_goOn) := goodIn_app (goodIn_of _ (by decide +kernel)) ggX2_finishDescriptor_X0_goOn
theorem dX2_finishDescriptor_0 : decode cX2_finishDescriptor 0 = .ok (.aload_n 0, 1) := by decide +kernel
theorem dX2_finishDescriptor_1 : decode cX2_finishDescriptor 1 = .ok (.iload_n 1, 1) := by decide +kernel
theorem dX2_finishDescriptor_2 : decode cX2_finishDescriptor 2 = .ok (.aload_n 2, 1) := by decide +kernel
theorem dX2_finishDescriptor_3 : decode cX2_finishDescriptor 3 = .ok (.invokevirtual 176, 3) := by decide +kernel
theorem dX2_finishDescriptor_6 : decode cX2_finishDescriptor 6 = .ok (.iconst 3, 1) := by decide +kernel
theorem dX2_finishDescriptor_7 : decode cX2_finishDescriptor 7 = .ok (.iadd, 1) := by decide +kernel
theorem dX2_finishDescriptor_8 : decode cX2_finishDescriptor 8 = .ok (.iconst 1, 1) := by decide +kernel
theorem dX2_finishDescriptor_9 : decode cX2_finishDescriptor 9 = .ok (.invokevirtual 73, 3) := by decide +kernel
theorem dX2_finishDescriptor_12 : decode cX2_finishDescriptor 12 = .ok (.istore_n 3, 1) := by decide +kernel
theorem dX2_finishDescriptor_13 : decode cX2_finishDescriptor 13 = .ok (.iload_n 3, 1) := by decide +kernel
theorem dX2_finishDescriptor_14 : decode cX2_finishDescriptor 14 = .ok (.ifCond .ge 5, 3) := by decide +kernel
theorem dX2_finishDescriptor_17 : decode cX2_finishDescriptor 17 = .ok (.iconst 0, 1) := by decide +kernel
theorem dX2_finishDescriptor_18 : decode cX2_finishDescriptor 18 = .ok (.ireturn, 1) := by decide +kernel
theorem dX2_finishDescriptor_19 : decode cX2_finishDescriptor 19 = .ok (.aload_n 0, 1) := by decide +kernel
theorem dX2_finishDescriptor_20 : decode cX2_finishDescriptor 20 = .ok (.iload_n 3, 1) := by decide +kernel
theorem dX2_finishDescriptor_21 : decode cX2_finishDescriptor 21 = .ok (.aload_n 2, 1) := by decide +kernel
theorem dX2_finishDescriptor_22 : decode cX2_finishDescriptor 22 = .ok (.getfield 188, 3) := by decide +kernel
theorem dX2_finishDescriptor_25 : decode cX2_finishDescriptor 25 = .ok (.iconst 1, 1) := by decide +kernel
theorem dX2_finishDescriptor_26 : decode cX2_finishDescriptor 26 = .ok (.ior, 1) := by decide +kernel
theorem dX2_finishDescriptor_27 : decode cX2_finishDescriptor 27 = .ok (.invokevirtual 62, 3) := by decide +kernel
theorem dX2_finishDescriptor_30 : decode cX2_finishDescriptor 30 = .ok (.pop, 1) := by decide +kernel
theorem dX2_finishDescriptor_31 : decode cX2_finishDescriptor 31 = .ok (.aload_n 2, 1) := by decide +kernel
theorem dX2_finishDescriptor_32 : decode cX2_finishDescriptor 32 = .ok (.invokevirtual 191, 3) := by decide +kernel
theorem dX2_finishDescriptor_35 : decode cX2_finishDescriptor 35 = .ok (.iconst 1, 1) := by decide +kernel
theorem dX2_finishDescriptor_36 : decode cX2_finishDescriptor 36 = .ok (.ireturn, 1) := by decide +kernel
set_option maxRecDepth 20000 in
theorem ggX2_carryOut_X1_removeAll : GoodIn wsX2_carryOut wsX1_removeAll := goodIn_r _ [7, 8, 59, 60, 61, 62] (by decide +kernel) (by decide +kernel)
set_option maxRecDepth 20000 in
theorem gX2_carryOut_X1_removeAll : GoodIn wsX2_carryOut (wsV RX2 143 RX1 yX1_removeAll wsX1_removeAll) := goodIn_app (goodIn_of _ (by decide +kernel)) ggX2_carryOut_X1_removeAll
set_option maxRecDepth 20000 in
theorem ggX2_carryOut_X2_forgetDomain : GoodIn wsX2_carryOut wsX2_forgetDomain := goodIn_r _ [13, 1, 14, 15, 16, 6, 17, 18, 19, 20, 21, 22, 23, 8, 24, 25, 26, 27, 48, 49, 50, 51, 52, 53, 54, 55, 56, 57, 58, 59, 60, 61, 62] (by decide +kernel) (by decide +kernel)
set_option maxRecDepth 20000 in
theorem gX2_carryOut_X2_forgetDomain : GoodIn wsX2_carryOut (wsV RX2 194 RX2 yX2_forgetDomain wsX2_forgetDomain) := goodIn_app (goodIn_of _ (by decide +kernel)) ggX2_carryOut_X2_forgetDomain
set_option maxRecDepth 20000 in
theorem ggX2_carryOut_X2_forgetPage : GoodIn wsX2_carryOut wsX2_forgetPage := goodIn_r _ [31, 1, 14, 15, 16, 6, 17, 18, 19, 20, 21, 22, 23, 8, 32, 33, 34, 12, 35, 24, 25, 26, 27, 48, 49, 50, 51, 52, 53, 54, 55, 56, 57, 58, 59, 60, 61, 62] (by decide +kernel) (by decide +kernel)
set_option maxRecDepth 20000 in
theorem gX2_carryOut_X2_forgetPage : GoodIn wsX2_carryOut (wsV RX2 197 RX2 yX2_forgetPage wsX2_forgetPage) := goodIn_app (goodIn_of _ (by decide +kernel)) ggX2_carryOut_X2_forgetPage
set_option maxRecDepth 20000 in
theorem ggX2_carryOut_X2_forgetContext : GoodIn wsX2_carryOut wsX2_forgetContext := goodIn_r _ [39, 2, 14, 15, 16, 6, 17, 18, 19, 20, 21, 22, 23, 8, 24, 25, 26, 27, 48, 49, 50, 51, 52, 53, 54, 55, 56, 57, 58, 59, 60, 61, 62] (by decide +kernel) (by decide +kernel)
set_option maxRecDepth 20000 in
theorem gX2_carryOut_X2_forgetContext : GoodIn wsX2_carryOut (wsV RX2 200 RX2 yX2_forgetContext wsX2_forgetContext) := goodIn_app (goodIn_of _ (by decide +kernel)) ggX2_carryOut_X2_forgetContext
set_option maxRecDepth 20000 in
theorem ggX2_carryOut_X2_setWord : GoodIn wsX2_carryOut wsX2_setWord := goodIn_r _ [43, 44, 45, 46, 12, 47, 48, 49, 50, 51, 52, 53, 54, 55, 56, 57, 58] (by decide +kernel) (by decide +kernel)
set_option maxRecDepth 20000 in
theorem gX2_carryOut_X2_setWord : GoodIn wsX2_carryOut (wsV RX2 62 RX2 yX2_setWord wsX2_setWord) := goodIn_app (goodIn_of _ (by decide +kernel)) ggX2_carryOut_X2_setWord
theorem dX2_carryOut_0 : decode cX2_carryOut 0 = .ok (.iload_n 1, 1) := by decide +kernel
theorem dX2_carryOut_1 : decode cX2_carryOut 1 = .ok (.tableswitch 80 0 4 #[35, 45, 53, 62, 70], 35) := by decide +kernel
theorem dX2_carryOut_36 : decode cX2_carryOut 36 = .ok (.aload_n 0, 1) := by decide +kernel
theorem dX2_carryOut_37 : decode cX2_carryOut 37 = .ok (.getfield 22, 3) := by decide +kernel
theorem dX2_carryOut_40 : decode cX2_carryOut 40 = .ok (.invokevirtual 143, 3) := by decide +kernel
theorem dX2_carryOut_43 : decode cX2_carryOut 43 = .ok (.goto 45, 3) := by decide +kernel
theorem dX2_carryOut_46 : decode cX2_carryOut 46 = .ok (.aload_n 0, 1) := by decide +kernel
theorem dX2_carryOut_47 : decode cX2_carryOut 47 = .ok (.iload_n 2, 1) := by decide +kernel
theorem dX2_carryOut_48 : decode cX2_carryOut 48 = .ok (.invokevirtual 194, 3) := by decide +kernel
theorem dX2_carryOut_51 : decode cX2_carryOut 51 = .ok (.goto 37, 3) := by decide +kernel
theorem dX2_carryOut_54 : decode cX2_carryOut 54 = .ok (.aload_n 0, 1) := by decide +kernel
theorem dX2_carryOut_55 : decode cX2_carryOut 55 = .ok (.iload_n 2, 1) := by decide +kernel
theorem dX2_carryOut_56 : decode cX2_carryOut 56 = .ok (.iload_n 3, 1) := by decide +kernel
theorem dX2_carryOut_57 : decode cX2_carryOut 57 = .ok (.invokevirtual 197, 3) := by decide +kernel
theorem dX2_carryOut_60 : decode cX2_carryOut 60 = .ok (.goto 28, 3) := by decide +kernel
theorem dX2_carryOut_63 : decode cX2_carryOut 63 = .ok (.aload_n 0, 1) := by decide +kernel
theorem dX2_carryOut_64 : decode cX2_carryOut 64 = .ok (.iload_n 2, 1) := by decide +kernel
theorem dX2_carryOut_65 : decode cX2_carryOut 65 = .ok (.invokevirtual 200, 3) := by decide +kernel
theorem dX2_carryOut_68 : decode cX2_carryOut 68 = .ok (.goto 20, 3) := by decide +kernel
theorem dX2_carryOut_71 : decode cX2_carryOut 71 = .ok (.aload_n 0, 1) := by decide +kernel
theorem dX2_carryOut_72 : decode cX2_carryOut 72 = .ok (.getfield 18, 3) := by decide +kernel
theorem dX2_carryOut_75 : decode cX2_carryOut 75 = .ok (.invokevirtual 143, 3) := by decide +kernel
theorem dX2_carryOut_78 : decode cX2_carryOut 78 = .ok (.goto 10, 3) := by decide +kernel
theorem dX2_carryOut_81 : decode cX2_carryOut 81 = .ok (.aload_n 0, 1) := by decide +kernel
theorem dX2_carryOut_82 : decode cX2_carryOut 82 = .ok (.iload_n 2, 1) := by decide +kernel
theorem dX2_carryOut_83 : decode cX2_carryOut 83 = .ok (.iload_n 3, 1) := by decide +kernel
theorem dX2_carryOut_84 : decode cX2_carryOut 84 = .ok (.invokevirtual 62, 3) := by decide +kernel
theorem dX2_carryOut_87 : decode cX2_carryOut 87 = .ok (.pop, 1) := by decide +kernel
theorem dX2_carryOut_88 : decode cX2_carryOut 88 = .ok (.return_, 1) := by decide +kernel
set_option maxRecDepth 20000 in
theorem ggX2_forgetDomain_X1_cell : GoodIn wsX2_forgetDomain wsX1_cell := goodIn_r _ [6, 7, 8, 9, 10, 11, 5, 12, 13, 29, 30, 31, 32] (by decide +kernel) (by decide +kernel)
set_option maxRecDepth 20000 in
theorem gX2_forgetDomain_X1_cell : GoodIn wsX2_forgetDomain (wsV RX2 133 RX1 yX1_cell wsX1_cell) := goodIn_app (goodIn_of _ (by decide +kernel)) ggX2_forgetDomain_X1_cell
set_option maxRecDepth 20000 in
theorem ggX2_forgetDomain_X1_remove : GoodIn wsX2_forgetDomain wsX1_remove := goodIn_r _ [17, 13, 8, 7, 29, 30, 31, 32] (by decide +kernel) (by decide +kernel)
set_option maxRecDepth 20000 in
theorem gX2_forgetDomain_X1_remove : GoodIn wsX2_forgetDomain (wsV RX2 139 RX1 yX1_remove wsX1_remove) := goodIn_app (goodIn_of _ (by decide +kernel)) ggX2_forgetDomain_X1_remove
theorem dX2_forgetDomain_0 : decode cX2_forgetDomain 0 = .ok (.aload_n 0, 1) := by decide +kernel
theorem dX2_forgetDomain_1 : decode cX2_forgetDomain 1 = .ok (.getfield 22, 3) := by decide +kernel
theorem dX2_forgetDomain_4 : decode cX2_forgetDomain 4 = .ok (.getfield 130, 3) := by decide +kernel
theorem dX2_forgetDomain_7 : decode cX2_forgetDomain 7 = .ok (.iconst 1, 1) := by decide +kernel
theorem dX2_forgetDomain_8 : decode cX2_forgetDomain 8 = .ok (.isub, 1) := by decide +kernel
theorem dX2_forgetDomain_9 : decode cX2_forgetDomain 9 = .ok (.istore_n 2, 1) := by decide +kernel
theorem dX2_forgetDomain_10 : decode cX2_forgetDomain 10 = .ok (.iload_n 2, 1) := by decide +kernel
theorem dX2_forgetDomain_11 : decode cX2_forgetDomain 11 = .ok (.ifCond .lt 30, 3) := by decide +kernel
theorem dX2_forgetDomain_14 : decode cX2_forgetDomain 14 = .ok (.aload_n 0, 1) := by decide +kernel
theorem dX2_forgetDomain_15 : decode cX2_forgetDomain 15 = .ok (.getfield 22, 3) := by decide +kernel
theorem dX2_forgetDomain_18 : decode cX2_forgetDomain 18 = .ok (.iload_n 2, 1) := by decide +kernel
theorem dX2_forgetDomain_19 : decode cX2_forgetDomain 19 = .ok (.iconst 0, 1) := by decide +kernel
theorem dX2_forgetDomain_20 : decode cX2_forgetDomain 20 = .ok (.invokevirtual 133, 3) := by decide +kernel
theorem dX2_forgetDomain_23 : decode cX2_forgetDomain 23 = .ok (.iload_n 1, 1) := by decide +kernel
theorem dX2_forgetDomain_24 : decode cX2_forgetDomain 24 = .ok (.if_icmp .ne 11, 3) := by decide +kernel
theorem dX2_forgetDomain_27 : decode cX2_forgetDomain 27 = .ok (.aload_n 0, 1) := by decide +kernel
theorem dX2_forgetDomain_28 : decode cX2_forgetDomain 28 = .ok (.getfield 22, 3) := by decide +kernel
theorem dX2_forgetDomain_31 : decode cX2_forgetDomain 31 = .ok (.iload_n 2, 1) := by decide +kernel
theorem dX2_forgetDomain_32 : decode cX2_forgetDomain 32 = .ok (.invokevirtual 139, 3) := by decide +kernel
theorem dX2_forgetDomain_35 : decode cX2_forgetDomain 35 = .ok (.iinc 2 (-1), 3) := by decide +kernel
theorem dX2_forgetDomain_38 : decode cX2_forgetDomain 38 = .ok (.goto (-28), 3) := by decide +kernel
theorem dX2_forgetDomain_41 : decode cX2_forgetDomain 41 = .ok (.return_, 1) := by decide +kernel
set_option maxRecDepth 20000 in
theorem ggX2_forgetPage_X1_cell : GoodIn wsX2_forgetPage wsX1_cell := goodIn_r _ [6, 7, 8, 9, 10, 11, 5, 12, 13, 34, 35, 36, 37] (by decide +kernel) (by decide +kernel)
set_option maxRecDepth 20000 in
theorem gX2_forgetPage_X1_cell : GoodIn wsX2_forgetPage (wsV RX2 133 RX1 yX1_cell wsX1_cell) := goodIn_app (goodIn_of _ (by decide +kernel)) ggX2_forgetPage_X1_cell
set_option maxRecDepth 20000 in
theorem ggX2_forgetPage_X2_isForPage : GoodIn wsX2_forgetPage wsX2_isForPage := goodIn_r _ [18, 1, 2, 3, 4, 5, 6, 7, 8, 9, 10, 11, 12, 13, 23, 24, 25, 26, 27, 28, 29, 30, 31, 32, 33, 34, 35, 36, 37] (by decide +kernel) (by decide +kernel)
set_option maxRecDepth 20000 in
theorem gX2_forgetPage_X2_isForPage : GoodIn wsX2_forgetPage (wsV RX2 166 RX2 yX2_isForPage wsX2_isForPage) := goodIn_app (goodIn_of _ (by decide +kernel)) ggX2_forgetPage_X2_isForPage
set_option maxRecDepth 20000 in
theorem ggX2_forgetPage_X1_remove : GoodIn wsX2_forgetPage wsX1_remove := goodIn_r _ [22, 13, 8, 7, 34, 35, 36, 37] (by decide +kernel) (by decide +kernel)
set_option maxRecDepth 20000 in
theorem gX2_forgetPage_X1_remove : GoodIn wsX2_forgetPage (wsV RX2 139 RX1 yX1_remove wsX1_remove) := goodIn_app (goodIn_of _ (by decide +kernel)) ggX2_forgetPage_X1_remove
theorem dX2_forgetPage_0 : decode cX2_forgetPage 0 = .ok (.aload_n 0, 1) := by decide +kernel
theorem dX2_forgetPage_1 : decode cX2_forgetPage 1 = .ok (.getfield 22, 3) := by decide +kernel
theorem dX2_forgetPage_4 : decode cX2_forgetPage 4 = .ok (.getfield 130, 3) := by decide +kernel
theorem dX2_forgetPage_7 : decode cX2_forgetPage 7 = .ok (.iconst 1, 1) := by decide +kernel
theorem dX2_forgetPage_8 : decode cX2_forgetPage 8 = .ok (.isub, 1) := by decide +kernel
theorem dX2_forgetPage_9 : decode cX2_forgetPage 9 = .ok (.istore_n 3, 1) := by decide +kernel
theorem dX2_forgetPage_10 : decode cX2_forgetPage 10 = .ok (.iload_n 3, 1) := by decide +kernel
theorem dX2_forgetPage_11 : decode cX2_forgetPage 11 = .ok (.ifCond .lt 39, 3) := by decide +kernel
theorem dX2_forgetPage_14 : decode cX2_forgetPage 14 = .ok (.aload_n 0, 1) := by decide +kernel
theorem dX2_forgetPage_15 : decode cX2_forgetPage 15 = .ok (.getfield 22, 3) := by decide +kernel
theorem dX2_forgetPage_18 : decode cX2_forgetPage 18 = .ok (.iload_n 3, 1) := by decide +kernel
theorem dX2_forgetPage_19 : decode cX2_forgetPage 19 = .ok (.iconst 0, 1) := by decide +kernel
theorem dX2_forgetPage_20 : decode cX2_forgetPage 20 = .ok (.invokevirtual 133, 3) := by decide +kernel
theorem dX2_forgetPage_23 : decode cX2_forgetPage 23 = .ok (.iload_n 1, 1) := by decide +kernel
theorem dX2_forgetPage_24 : decode cX2_forgetPage 24 = .ok (.if_icmp .ne 20, 3) := by decide +kernel
theorem dX2_forgetPage_27 : decode cX2_forgetPage 27 = .ok (.aload_n 0, 1) := by decide +kernel
theorem dX2_forgetPage_28 : decode cX2_forgetPage 28 = .ok (.iload_n 3, 1) := by decide +kernel
theorem dX2_forgetPage_29 : decode cX2_forgetPage 29 = .ok (.iload_n 2, 1) := by decide +kernel
theorem dX2_forgetPage_30 : decode cX2_forgetPage 30 = .ok (.invokevirtual 166, 3) := by decide +kernel
theorem dX2_forgetPage_33 : decode cX2_forgetPage 33 = .ok (.ifCond .eq 11, 3) := by decide +kernel
theorem dX2_forgetPage_36 : decode cX2_forgetPage 36 = .ok (.aload_n 0, 1) := by decide +kernel
theorem dX2_forgetPage_37 : decode cX2_forgetPage 37 = .ok (.getfield 22, 3) := by decide +kernel
theorem dX2_forgetPage_40 : decode cX2_forgetPage 40 = .ok (.iload_n 3, 1) := by decide +kernel
theorem dX2_forgetPage_41 : decode cX2_forgetPage 41 = .ok (.invokevirtual 139, 3) := by decide +kernel
theorem dX2_forgetPage_44 : decode cX2_forgetPage 44 = .ok (.iinc 3 (-1), 3) := by decide +kernel
theorem dX2_forgetPage_47 : decode cX2_forgetPage 47 = .ok (.goto (-37), 3) := by decide +kernel
theorem dX2_forgetPage_50 : decode cX2_forgetPage 50 = .ok (.return_, 1) := by decide +kernel
set_option maxRecDepth 20000 in
theorem ggX2_forgetContext_X1_cell : GoodIn wsX2_forgetContext wsX1_cell := goodIn_r _ [6, 7, 8, 9, 10, 11, 5, 12, 13, 29, 30, 31, 32] (by decide +kernel) (by decide +kernel)
set_option maxRecDepth 20000 in
theorem gX2_forgetContext_X1_cell : GoodIn wsX2_forgetContext (wsV RX2 133 RX1 yX1_cell wsX1_cell) := goodIn_app (goodIn_of _ (by decide +kernel)) ggX2_forgetContext_X1_cell
set_option maxRecDepth 20000 in
theorem ggX2_forgetContext_X1_remove : GoodIn wsX2_forgetContext wsX1_remove := goodIn_r _ [17, 13, 8, 7, 29, 30, 31, 32] (by decide +kernel) (by decide +kernel)
set_option maxRecDepth 20000 in
theorem gX2_forgetContext_X1_remove : GoodIn wsX2_forgetContext (wsV RX2 139 RX1 yX1_remove wsX1_remove) := goodIn_app (goodIn_of _ (by decide +kernel)) ggX2_forgetContext_X1_remove
theorem dX2_forgetContext_0 : decode cX2_forgetContext 0 = .ok (.aload_n 0, 1) := by decide +kernel
theorem dX2_forgetContext_1 : decode cX2_forgetContext 1 = .ok (.getfield 18, 3) := by decide +kernel
theorem dX2_forgetContext_4 : decode cX2_forgetContext 4 = .ok (.getfield 130, 3) := by decide +kernel
theorem dX2_forgetContext_7 : decode cX2_forgetContext 7 = .ok (.iconst 1, 1) := by decide +kernel
theorem dX2_forgetContext_8 : decode cX2_forgetContext 8 = .ok (.isub, 1) := by decide +kernel
theorem dX2_forgetContext_9 : decode cX2_forgetContext 9 = .ok (.istore_n 2, 1) := by decide +kernel
theorem dX2_forgetContext_10 : decode cX2_forgetContext 10 = .ok (.iload_n 2, 1) := by decide +kernel
theorem dX2_forgetContext_11 : decode cX2_forgetContext 11 = .ok (.ifCond .lt 30, 3) := by decide +kernel
theorem dX2_forgetContext_14 : decode cX2_forgetContext 14 = .ok (.aload_n 0, 1) := by decide +kernel
theorem dX2_forgetContext_15 : decode cX2_forgetContext 15 = .ok (.getfield 18, 3) := by decide +kernel
theorem dX2_forgetContext_18 : decode cX2_forgetContext 18 = .ok (.iload_n 2, 1) := by decide +kernel
theorem dX2_forgetContext_19 : decode cX2_forgetContext 19 = .ok (.iconst 0, 1) := by decide +kernel
theorem dX2_forgetContext_20 : decode cX2_forgetContext 20 = .ok (.invokevirtual 133, 3) := by decide +kernel
theorem dX2_forgetContext_23 : decode cX2_forgetContext 23 = .ok (.iload_n 1, 1) := by decide +kernel
theorem dX2_forgetContext_24 : decode cX2_forgetContext 24 = .ok (.if_icmp .ne 11, 3) := by decide +kernel
theorem dX2_forgetContext_27 : decode cX2_forgetContext 27 = .ok (.aload_n 0, 1) := by decide +kernel
theorem dX2_forgetContext_28 : decode cX2_forgetContext 28 = .ok (.getfield 18, 3) := by decide +kernel
theorem dX2_forgetContext_31 : decode cX2_forgetContext 31 = .ok (.iload_n 2, 1) := by decide +kernel
theorem dX2_forgetContext_32 : decode cX2_forgetContext 32 = .ok (.invokevirtual 139, 3) := by decide +kernel
theorem dX2_forgetContext_35 : decode cX2_forgetContext 35 = .ok (.iinc 2 (-1), 3) := by decide +kernel
theorem dX2_forgetContext_38 : decode cX2_forgetContext 38 = .ok (.goto (-28), 3) := by decide +kernel
theorem dX2_forgetContext_41 : decode cX2_forgetContext 41 = .ok (.return_, 1) := by decide +kernel

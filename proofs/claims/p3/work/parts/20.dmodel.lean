theorem dX3_init_0 : decode cX3_init 0 = .ok (.aload_n 0, 1) := by decide +kernel
theorem dX3_init_1 : decode cX3_init 1 = .ok (.invokespecial 1, 3) := by decide +kernel
theorem dX3_init_4 : decode cX3_init 4 = .ok (.aload_n 0, 1) := by decide +kernel
theorem dX3_init_5 : decode cX3_init 5 = .ok (.sipush 16384, 3) := by decide +kernel
theorem dX3_init_8 : decode cX3_init 8 = .ok (.newarray .int, 2) := by decide +kernel
theorem dX3_init_10 : decode cX3_init 10 = .ok (.putfield 9, 3) := by decide +kernel
theorem dX3_init_13 : decode cX3_init 13 = .ok (.aload_n 0, 1) := by decide +kernel
theorem dX3_init_14 : decode cX3_init 14 = .ok (.bipush 12, 2) := by decide +kernel
theorem dX3_init_16 : decode cX3_init 16 = .ok (.newarray .int, 2) := by decide +kernel
theorem dX3_init_18 : decode cX3_init 18 = .ok (.putfield 13, 3) := by decide +kernel
theorem dX3_init_21 : decode cX3_init 21 = .ok (.aload_n 0, 1) := by decide +kernel
theorem dX3_init_22 : decode cX3_init 22 = .ok (.bipush 30, 2) := by decide +kernel
theorem dX3_init_24 : decode cX3_init 24 = .ok (.newarray .int, 2) := by decide +kernel
theorem dX3_init_26 : decode cX3_init 26 = .ok (.putfield 16, 3) := by decide +kernel
theorem dX3_init_29 : decode cX3_init 29 = .ok (.aload_n 0, 1) := by decide +kernel
theorem dX3_init_30 : decode cX3_init 30 = .ok (.bipush 24, 2) := by decide +kernel
theorem dX3_init_32 : decode cX3_init 32 = .ok (.newarray .int, 2) := by decide +kernel
theorem dX3_init_34 : decode cX3_init 34 = .ok (.putfield 19, 3) := by decide +kernel
theorem dX3_init_37 : decode cX3_init 37 = .ok (.aload_n 0, 1) := by decide +kernel
theorem dX3_init_38 : decode cX3_init 38 = .ok (.bipush 36, 2) := by decide +kernel
theorem dX3_init_40 : decode cX3_init 40 = .ok (.newarray .int, 2) := by decide +kernel
theorem dX3_init_42 : decode cX3_init 42 = .ok (.putfield 22, 3) := by decide +kernel
theorem dX3_init_45 : decode cX3_init 45 = .ok (.aload_n 0, 1) := by decide +kernel
theorem dX3_init_46 : decode cX3_init 46 = .ok (.bipush 88, 2) := by decide +kernel
theorem dX3_init_48 : decode cX3_init 48 = .ok (.newarray .int, 2) := by decide +kernel
theorem dX3_init_50 : decode cX3_init 50 = .ok (.putfield 25, 3) := by decide +kernel
theorem dX3_init_53 : decode cX3_init 53 = .ok (.iconst 0, 1) := by decide +kernel
theorem dX3_init_54 : decode cX3_init 54 = .ok (.istore_n 1, 1) := by decide +kernel
theorem dX3_init_55 : decode cX3_init 55 = .ok (.iload_n 1, 1) := by decide +kernel
theorem dX3_init_56 : decode cX3_init 56 = .ok (.bipush 8, 2) := by decide +kernel
theorem dX3_init_58 : decode cX3_init 58 = .ok (.if_icmp .ge 34, 3) := by decide +kernel
theorem dX3_init_61 : decode cX3_init 61 = .ok (.aload_n 0, 1) := by decide +kernel
theorem dX3_init_62 : decode cX3_init 62 = .ok (.getfield 25, 3) := by decide +kernel
theorem dX3_init_65 : decode cX3_init 65 = .ok (.bipush 11, 2) := by decide +kernel
theorem dX3_init_67 : decode cX3_init 67 = .ok (.iload_n 1, 1) := by decide +kernel
theorem dX3_init_68 : decode cX3_init 68 = .ok (.imul, 1) := by decide +kernel
theorem dX3_init_69 : decode cX3_init 69 = .ok (.iconst 1, 1) := by decide +kernel
theorem dX3_init_70 : decode cX3_init 70 = .ok (.iadd, 1) := by decide +kernel
theorem dX3_init_71 : decode cX3_init 71 = .ok (.iconst 1, 1) := by decide +kernel
theorem dX3_init_72 : decode cX3_init 72 = .ok (.iastore, 1) := by decide +kernel
theorem dX3_init_73 : decode cX3_init 73 = .ok (.aload_n 0, 1) := by decide +kernel
theorem dX3_init_74 : decode cX3_init 74 = .ok (.getfield 25, 3) := by decide +kernel
theorem dX3_init_77 : decode cX3_init 77 = .ok (.bipush 11, 2) := by decide +kernel
theorem dX3_init_79 : decode cX3_init 79 = .ok (.iload_n 1, 1) := by decide +kernel
theorem dX3_init_80 : decode cX3_init 80 = .ok (.imul, 1) := by decide +kernel
theorem dX3_init_81 : decode cX3_init 81 = .ok (.bipush 6, 2) := by decide +kernel
theorem dX3_init_83 : decode cX3_init 83 = .ok (.iadd, 1) := by decide +kernel
theorem dX3_init_84 : decode cX3_init 84 = .ok (.iconst (-1), 1) := by decide +kernel
theorem dX3_init_85 : decode cX3_init 85 = .ok (.iastore, 1) := by decide +kernel
theorem dX3_init_86 : decode cX3_init 86 = .ok (.iinc 1 1, 3) := by decide +kernel
theorem dX3_init_89 : decode cX3_init 89 = .ok (.goto (-34), 3) := by decide +kernel
theorem dX3_init_92 : decode cX3_init 92 = .ok (.return_, 1) := by decide +kernel
theorem dX3_thrown_0 : decode cX3_thrown 0 = .ok (.aload_n 0, 1) := by decide +kernel
theorem dX3_thrown_1 : decode cX3_thrown 1 = .ok (.getfield 28, 3) := by decide +kernel
theorem dX3_thrown_4 : decode cX3_thrown 4 = .ok (.ireturn, 1) := by decide +kernel
theorem dX3_isPlace_0 : decode cX3_isPlace 0 = .ok (.iload_n 0, 1) := by decide +kernel
theorem dX3_isPlace_1 : decode cX3_isPlace 1 = .ok (.ifCond .lt 14, 3) := by decide +kernel
theorem dX3_isPlace_4 : decode cX3_isPlace 4 = .ok (.iload_n 0, 1) := by decide +kernel
theorem dX3_isPlace_5 : decode cX3_isPlace 5 = .ok (.sipush 16384, 3) := by decide +kernel
theorem dX3_isPlace_8 : decode cX3_isPlace 8 = .ok (.if_icmp .ge 7, 3) := by decide +kernel
theorem dX3_isPlace_11 : decode cX3_isPlace 11 = .ok (.iconst 1, 1) := by decide +kernel
theorem dX3_isPlace_12 : decode cX3_isPlace 12 = .ok (.goto 4, 3) := by decide +kernel
theorem dX3_isPlace_15 : decode cX3_isPlace 15 = .ok (.iconst 0, 1) := by decide +kernel
theorem dX3_isPlace_16 : decode cX3_isPlace 16 = .ok (.ireturn, 1) := by decide +kernel
theorem dX3_isDevice_0 : decode cX3_isDevice 0 = .ok (.iload_n 0, 1) := by decide +kernel
theorem dX3_isDevice_1 : decode cX3_isDevice 1 = .ok (.ifCond .lt 13, 3) := by decide +kernel
theorem dX3_isDevice_4 : decode cX3_isDevice 4 = .ok (.iload_n 0, 1) := by decide +kernel
theorem dX3_isDevice_5 : decode cX3_isDevice 5 = .ok (.bipush 8, 2) := by decide +kernel
theorem dX3_isDevice_7 : decode cX3_isDevice 7 = .ok (.if_icmp .ge 7, 3) := by decide +kernel
theorem dX3_isDevice_10 : decode cX3_isDevice 10 = .ok (.iconst 1, 1) := by decide +kernel
theorem dX3_isDevice_11 : decode cX3_isDevice 11 = .ok (.goto 4, 3) := by decide +kernel
theorem dX3_isDevice_14 : decode cX3_isDevice 14 = .ok (.iconst 0, 1) := by decide +kernel
theorem dX3_isDevice_15 : decode cX3_isDevice 15 = .ok (.ireturn, 1) := by decide +kernel
set_option maxRecDepth 20000 in
theorem ggX3_poke_X3_isPlace : GoodIn wsX3_poke wsX3_isPlace := goodIn_r _ [6] (by decide +kernel) (by decide +kernel)
set_option maxRecDepth 20000 in
theorem gX3_poke_X3_isPlace : GoodIn wsX3_poke (va_wsS RX3 32 yX3_isPlace wsX3_isPlace) := goodIn_app (goodIn_of _ (by decide +kernel)) ggX3_poke_X3_isPlace
theorem dX3_poke_0 : decode cX3_poke 0 = .ok (.aload_n 0, 1) := by decide +kernel
theorem dX3_poke_1 : decode cX3_poke 1 = .ok (.iconst 0, 1) := by decide +kernel
theorem dX3_poke_2 : decode cX3_poke 2 = .ok (.putfield 28, 3) := by decide +kernel
theorem dX3_poke_5 : decode cX3_poke 5 = .ok (.iload_n 1, 1) := by decide +kernel
theorem dX3_poke_6 : decode cX3_poke 6 = .ok (.invokestatic 32, 3) := by decide +kernel
theorem dX3_poke_9 : decode cX3_poke 9 = .ok (.ifCond .ne 10, 3) := by decide +kernel
theorem dX3_poke_12 : decode cX3_poke 12 = .ok (.aload_n 0, 1) := by decide +kernel
theorem dX3_poke_13 : decode cX3_poke 13 = .ok (.iconst 1, 1) := by decide +kernel
theorem dX3_poke_14 : decode cX3_poke 14 = .ok (.putfield 28, 3) := by decide +kernel
theorem dX3_poke_17 : decode cX3_poke 17 = .ok (.iconst 0, 1) := by decide +kernel
theorem dX3_poke_18 : decode cX3_poke 18 = .ok (.ireturn, 1) := by decide +kernel
theorem dX3_poke_19 : decode cX3_poke 19 = .ok (.aload_n 0, 1) := by decide +kernel
theorem dX3_poke_20 : decode cX3_poke 20 = .ok (.getfield 9, 3) := by decide +kernel
theorem dX3_poke_23 : decode cX3_poke 23 = .ok (.iload_n 1, 1) := by decide +kernel
theorem dX3_poke_24 : decode cX3_poke 24 = .ok (.iaload, 1) := by decide +kernel
theorem dX3_poke_25 : decode cX3_poke 25 = .ok (.istore_n 3, 1) := by decide +kernel
theorem dX3_poke_26 : decode cX3_poke 26 = .ok (.aload_n 0, 1) := by decide +kernel
theorem dX3_poke_27 : decode cX3_poke 27 = .ok (.getfield 9, 3) := by decide +kernel
theorem dX3_poke_30 : decode cX3_poke 30 = .ok (.iload_n 1, 1) := by decide +kernel
theorem dX3_poke_31 : decode cX3_poke 31 = .ok (.iload_n 2, 1) := by decide +kernel
theorem dX3_poke_32 : decode cX3_poke 32 = .ok (.iastore, 1) := by decide +kernel
theorem dX3_poke_33 : decode cX3_poke 33 = .ok (.iload_n 3, 1) := by decide +kernel
theorem dX3_poke_34 : decode cX3_poke 34 = .ok (.ireturn, 1) := by decide +kernel
set_option maxRecDepth 20000 in
theorem ggX3_peek_X3_isPlace : GoodIn wsX3_peek wsX3_isPlace := goodIn_r _ [6] (by decide +kernel) (by decide +kernel)
set_option maxRecDepth 20000 in
theorem gX3_peek_X3_isPlace : GoodIn wsX3_peek (va_wsS RX3 32 yX3_isPlace wsX3_isPlace) := goodIn_app (goodIn_of _ (by decide +kernel)) ggX3_peek_X3_isPlace
theorem dX3_peek_0 : decode cX3_peek 0 = .ok (.aload_n 0, 1) := by decide +kernel
theorem dX3_peek_1 : decode cX3_peek 1 = .ok (.iconst 0, 1) := by decide +kernel
theorem dX3_peek_2 : decode cX3_peek 2 = .ok (.putfield 28, 3) := by decide +kernel
theorem dX3_peek_5 : decode cX3_peek 5 = .ok (.iload_n 1, 1) := by decide +kernel
theorem dX3_peek_6 : decode cX3_peek 6 = .ok (.invokestatic 32, 3) := by decide +kernel
theorem dX3_peek_9 : decode cX3_peek 9 = .ok (.ifCond .ne 10, 3) := by decide +kernel
theorem dX3_peek_12 : decode cX3_peek 12 = .ok (.aload_n 0, 1) := by decide +kernel
theorem dX3_peek_13 : decode cX3_peek 13 = .ok (.iconst 1, 1) := by decide +kernel
theorem dX3_peek_14 : decode cX3_peek 14 = .ok (.putfield 28, 3) := by decide +kernel
theorem dX3_peek_17 : decode cX3_peek 17 = .ok (.iconst 0, 1) := by decide +kernel
theorem dX3_peek_18 : decode cX3_peek 18 = .ok (.ireturn, 1) := by decide +kernel
theorem dX3_peek_19 : decode cX3_peek 19 = .ok (.aload_n 0, 1) := by decide +kernel
theorem dX3_peek_20 : decode cX3_peek 20 = .ok (.getfield 9, 3) := by decide +kernel
theorem dX3_peek_23 : decode cX3_peek 23 = .ok (.iload_n 1, 1) := by decide +kernel
theorem dX3_peek_24 : decode cX3_peek 24 = .ok (.iaload, 1) := by decide +kernel
theorem dX3_peek_25 : decode cX3_peek 25 = .ok (.ireturn, 1) := by decide +kernel
theorem dX3_fill_0 : decode cX3_fill 0 = .ok (.aload_n 0, 1) := by decide +kernel
theorem dX3_fill_1 : decode cX3_fill 1 = .ok (.iconst 0, 1) := by decide +kernel
theorem dX3_fill_2 : decode cX3_fill 2 = .ok (.putfield 28, 3) := by decide +kernel
theorem dX3_fill_5 : decode cX3_fill 5 = .ok (.iload_n 1, 1) := by decide +kernel
theorem dX3_fill_6 : decode cX3_fill 6 = .ok (.ifCond .lt 14, 3) := by decide +kernel
theorem dX3_fill_9 : decode cX3_fill 9 = .ok (.iload_n 2, 1) := by decide +kernel
theorem dX3_fill_10 : decode cX3_fill 10 = .ok (.ifCond .lt 10, 3) := by decide +kernel
theorem dX3_fill_13 : decode cX3_fill 13 = .ok (.iload_n 2, 1) := by decide +kernel
theorem dX3_fill_14 : decode cX3_fill 14 = .ok (.sipush 256, 3) := by decide +kernel
theorem dX3_fill_17 : decode cX3_fill 17 = .ok (.if_icmp .le 5, 3) := by decide +kernel
theorem dX3_fill_20 : decode cX3_fill 20 = .ok (.iconst (-1), 1) := by decide +kernel
theorem dX3_fill_21 : decode cX3_fill 21 = .ok (.ireturn, 1) := by decide +kernel
theorem dX3_fill_22 : decode cX3_fill 22 = .ok (.iconst 0, 1) := by decide +kernel
theorem dX3_fill_23 : decode cX3_fill 23 = .ok (.istore 5, 2) := by decide +kernel
theorem dX3_fill_25 : decode cX3_fill 25 = .ok (.iload_n 3, 1) := by decide +kernel
theorem dX3_fill_26 : decode cX3_fill 26 = .ok (.istore 6, 2) := by decide +kernel
theorem dX3_fill_28 : decode cX3_fill 28 = .ok (.iload 5, 2) := by decide +kernel
theorem dX3_fill_30 : decode cX3_fill 30 = .ok (.iload_n 2, 1) := by decide +kernel
theorem dX3_fill_31 : decode cX3_fill 31 = .ok (.if_icmp .ge 37, 3) := by decide +kernel
theorem dX3_fill_34 : decode cX3_fill 34 = .ok (.iload_n 1, 1) := by decide +kernel
theorem dX3_fill_35 : decode cX3_fill 35 = .ok (.sipush 16384, 3) := by decide +kernel
theorem dX3_fill_38 : decode cX3_fill 38 = .ok (.iload 5, 2) := by decide +kernel
theorem dX3_fill_40 : decode cX3_fill 40 = .ok (.isub, 1) := by decide +kernel
theorem dX3_fill_41 : decode cX3_fill 41 = .ok (.if_icmp .ge 27, 3) := by decide +kernel
theorem dX3_fill_44 : decode cX3_fill 44 = .ok (.aload_n 0, 1) := by decide +kernel
theorem dX3_fill_45 : decode cX3_fill 45 = .ok (.getfield 9, 3) := by decide +kernel
theorem dX3_fill_48 : decode cX3_fill 48 = .ok (.iload_n 1, 1) := by decide +kernel
theorem dX3_fill_49 : decode cX3_fill 49 = .ok (.iload 5, 2) := by decide +kernel
theorem dX3_fill_51 : decode cX3_fill 51 = .ok (.iadd, 1) := by decide +kernel
theorem dX3_fill_52 : decode cX3_fill 52 = .ok (.iload 6, 2) := by decide +kernel
theorem dX3_fill_54 : decode cX3_fill 54 = .ok (.iastore, 1) := by decide +kernel
theorem dX3_fill_55 : decode cX3_fill 55 = .ok (.iload 6, 2) := by decide +kernel
theorem dX3_fill_57 : decode cX3_fill 57 = .ok (.iload 4, 2) := by decide +kernel
theorem dX3_fill_59 : decode cX3_fill 59 = .ok (.iadd, 1) := by decide +kernel
theorem dX3_fill_60 : decode cX3_fill 60 = .ok (.istore 6, 2) := by decide +kernel
theorem dX3_fill_62 : decode cX3_fill 62 = .ok (.iinc 5 1, 3) := by decide +kernel
theorem dX3_fill_65 : decode cX3_fill 65 = .ok (.goto (-37), 3) := by decide +kernel
theorem dX3_fill_68 : decode cX3_fill 68 = .ok (.iload 5, 2) := by decide +kernel
theorem dX3_fill_70 : decode cX3_fill 70 = .ok (.ireturn, 1) := by decide +kernel
theorem dX3_table_0 : decode cX3_table 0 = .ok (.aload_n 0, 1) := by decide +kernel
theorem dX3_table_1 : decode cX3_table 1 = .ok (.iconst 0, 1) := by decide +kernel
theorem dX3_table_2 : decode cX3_table 2 = .ok (.putfield 28, 3) := by decide +kernel
theorem dX3_table_5 : decode cX3_table 5 = .ok (.iload_n 1, 1) := by decide +kernel
theorem dX3_table_6 : decode cX3_table 6 = .ok (.ifCond .lt 17, 3) := by decide +kernel
theorem dX3_table_9 : decode cX3_table 9 = .ok (.iload_n 1, 1) := by decide +kernel
theorem dX3_table_10 : decode cX3_table 10 = .ok (.sipush 16368, 3) := by decide +kernel
theorem dX3_table_13 : decode cX3_table 13 = .ok (.if_icmp .gt 10, 3) := by decide +kernel
theorem dX3_table_16 : decode cX3_table 16 = .ok (.iload_n 1, 1) := by decide +kernel
theorem dX3_table_17 : decode cX3_table 17 = .ok (.bipush 16, 2) := by decide +kernel
theorem dX3_table_19 : decode cX3_table 19 = .ok (.irem, 1) := by decide +kernel
theorem dX3_table_20 : decode cX3_table 20 = .ok (.ifCond .eq 5, 3) := by decide +kernel
theorem dX3_table_23 : decode cX3_table 23 = .ok (.iconst 0, 1) := by decide +kernel
theorem dX3_table_24 : decode cX3_table 24 = .ok (.ireturn, 1) := by decide +kernel
theorem dX3_table_25 : decode cX3_table 25 = .ok (.aload_n 0, 1) := by decide +kernel
theorem dX3_table_26 : decode cX3_table 26 = .ok (.iload_n 1, 1) := by decide +kernel
theorem dX3_table_27 : decode cX3_table 27 = .ok (.putfield 36, 3) := by decide +kernel
theorem dX3_table_30 : decode cX3_table 30 = .ok (.iconst 1, 1) := by decide +kernel
theorem dX3_table_31 : decode cX3_table 31 = .ok (.ireturn, 1) := by decide +kernel
set_option maxRecDepth 20000 in
theorem ggX3_context_X3_isDevice : GoodIn wsX3_context wsX3_isDevice := goodIn_r _ [7] (by decide +kernel) (by decide +kernel)
set_option maxRecDepth 20000 in
theorem gX3_context_X3_isDevice : GoodIn wsX3_context (va_wsS RX3 39 yX3_isDevice wsX3_isDevice) := goodIn_app (goodIn_of _ (by decide +kernel)) ggX3_context_X3_isDevice
theorem dX3_context_0 : decode cX3_context 0 = .ok (.aload_n 0, 1) := by decide +kernel
theorem dX3_context_1 : decode cX3_context 1 = .ok (.iconst 0, 1) := by decide +kernel
theorem dX3_context_2 : decode cX3_context 2 = .ok (.putfield 28, 3) := by decide +kernel
theorem dX3_context_5 : decode cX3_context 5 = .ok (.iload_n 1, 1) := by decide +kernel
theorem dX3_context_6 : decode cX3_context 6 = .ok (.invokestatic 39, 3) := by decide +kernel
theorem dX3_context_9 : decode cX3_context 9 = .ok (.ifCond .eq 25, 3) := by decide +kernel
theorem dX3_context_12 : decode cX3_context 12 = .ok (.iload_n 3, 1) := by decide +kernel
theorem dX3_context_13 : decode cX3_context 13 = .ok (.ifCond .lt 21, 3) := by decide +kernel
theorem dX3_context_16 : decode cX3_context 16 = .ok (.iload_n 3, 1) := by decide +kernel
theorem dX3_context_17 : decode cX3_context 17 = .ok (.bipush 63, 2) := by decide +kernel
theorem dX3_context_19 : decode cX3_context 19 = .ok (.if_icmp .gt 15, 3) := by decide +kernel
theorem dX3_context_22 : decode cX3_context 22 = .ok (.iload 4, 2) := by decide +kernel
theorem dX3_context_24 : decode cX3_context 24 = .ok (.ifCond .lt 10, 3) := by decide +kernel
theorem dX3_context_27 : decode cX3_context 27 = .ok (.iload 4, 2) := by decide +kernel
theorem dX3_context_29 : decode cX3_context 29 = .ok (.bipush 15, 2) := by decide +kernel
theorem dX3_context_31 : decode cX3_context 31 = .ok (.if_icmp .le 5, 3) := by decide +kernel
theorem dX3_context_34 : decode cX3_context 34 = .ok (.iconst 0, 1) := by decide +kernel
theorem dX3_context_35 : decode cX3_context 35 = .ok (.ireturn, 1) := by decide +kernel
theorem dX3_context_36 : decode cX3_context 36 = .ok (.aload_n 0, 1) := by decide +kernel
theorem dX3_context_37 : decode cX3_context 37 = .ok (.getfield 9, 3) := by decide +kernel
theorem dX3_context_40 : decode cX3_context 40 = .ok (.aload_n 0, 1) := by decide +kernel
theorem dX3_context_41 : decode cX3_context 41 = .ok (.getfield 36, 3) := by decide +kernel
theorem dX3_context_44 : decode cX3_context 44 = .ok (.iconst 2, 1) := by decide +kernel
theorem dX3_context_45 : decode cX3_context 45 = .ok (.iload_n 1, 1) := by decide +kernel
theorem dX3_context_46 : decode cX3_context 46 = .ok (.imul, 1) := by decide +kernel
theorem dX3_context_47 : decode cX3_context 47 = .ok (.iadd, 1) := by decide +kernel
theorem dX3_context_48 : decode cX3_context 48 = .ok (.iconst 1, 1) := by decide +kernel
theorem dX3_context_49 : decode cX3_context 49 = .ok (.iload_n 2, 1) := by decide +kernel
theorem dX3_context_50 : decode cX3_context 50 = .ok (.ifCond .eq 7, 3) := by decide +kernel
theorem dX3_context_53 : decode cX3_context 53 = .ok (.iconst 2, 1) := by decide +kernel
theorem dX3_context_54 : decode cX3_context 54 = .ok (.goto 4, 3) := by decide +kernel
theorem dX3_context_57 : decode cX3_context 57 = .ok (.iconst 0, 1) := by decide +kernel
theorem dX3_context_58 : decode cX3_context 58 = .ok (.iadd, 1) := by decide +kernel
theorem dX3_context_59 : decode cX3_context 59 = .ok (.sipush 256, 3) := by decide +kernel
theorem dX3_context_62 : decode cX3_context 62 = .ok (.iload_n 3, 1) := by decide +kernel
theorem dX3_context_63 : decode cX3_context 63 = .ok (.imul, 1) := by decide +kernel
theorem dX3_context_64 : decode cX3_context 64 = .ok (.iadd, 1) := by decide +kernel
theorem dX3_context_65 : decode cX3_context 65 = .ok (.iastore, 1) := by decide +kernel
theorem dX3_context_66 : decode cX3_context 66 = .ok (.aload_n 0, 1) := by decide +kernel
theorem dX3_context_67 : decode cX3_context 67 = .ok (.getfield 9, 3) := by decide +kernel
theorem dX3_context_70 : decode cX3_context 70 = .ok (.aload_n 0, 1) := by decide +kernel
theorem dX3_context_71 : decode cX3_context 71 = .ok (.getfield 36, 3) := by decide +kernel
theorem dX3_context_74 : decode cX3_context 74 = .ok (.iconst 2, 1) := by decide +kernel
theorem dX3_context_75 : decode cX3_context 75 = .ok (.iload_n 1, 1) := by decide +kernel
theorem dX3_context_76 : decode cX3_context 76 = .ok (.imul, 1) := by decide +kernel
theorem dX3_context_77 : decode cX3_context 77 = .ok (.iadd, 1) := by decide +kernel
theorem dX3_context_78 : decode cX3_context 78 = .ok (.iconst 1, 1) := by decide +kernel
theorem dX3_context_79 : decode cX3_context 79 = .ok (.iadd, 1) := by decide +kernel
theorem dX3_context_80 : decode cX3_context 80 = .ok (.iload 4, 2) := by decide +kernel
theorem dX3_context_82 : decode cX3_context 82 = .ok (.iastore, 1) := by decide +kernel
theorem dX3_context_83 : decode cX3_context 83 = .ok (.iconst 1, 1) := by decide +kernel
theorem dX3_context_84 : decode cX3_context 84 = .ok (.ireturn, 1) := by decide +kernel
theorem dX3_enter_0 : decode cX3_enter 0 = .ok (.aload_n 0, 1) := by decide +kernel
theorem dX3_enter_1 : decode cX3_enter 1 = .ok (.iconst 0, 1) := by decide +kernel
theorem dX3_enter_2 : decode cX3_enter 2 = .ok (.putfield 28, 3) := by decide +kernel
theorem dX3_enter_5 : decode cX3_enter 5 = .ok (.iload_n 1, 1) := by decide +kernel
theorem dX3_enter_6 : decode cX3_enter 6 = .ok (.ifCond .lt 40, 3) := by decide +kernel
theorem dX3_enter_9 : decode cX3_enter 9 = .ok (.iload_n 1, 1) := by decide +kernel
theorem dX3_enter_10 : decode cX3_enter 10 = .ok (.bipush 63, 2) := by decide +kernel
theorem dX3_enter_12 : decode cX3_enter 12 = .ok (.if_icmp .gt 34, 3) := by decide +kernel
theorem dX3_enter_15 : decode cX3_enter 15 = .ok (.iload_n 2, 1) := by decide +kernel
theorem dX3_enter_16 : decode cX3_enter 16 = .ok (.ifCond .lt 30, 3) := by decide +kernel
theorem dX3_enter_19 : decode cX3_enter 19 = .ok (.iload_n 2, 1) := by decide +kernel
theorem dX3_enter_20 : decode cX3_enter 20 = .ok (.bipush 15, 2) := by decide +kernel
theorem dX3_enter_22 : decode cX3_enter 22 = .ok (.if_icmp .gt 24, 3) := by decide +kernel
theorem dX3_enter_25 : decode cX3_enter 25 = .ok (.iload_n 3, 1) := by decide +kernel
theorem dX3_enter_26 : decode cX3_enter 26 = .ok (.ifCond .lt 20, 3) := by decide +kernel
theorem dX3_enter_29 : decode cX3_enter 29 = .ok (.iload_n 3, 1) := by decide +kernel
theorem dX3_enter_30 : decode cX3_enter 30 = .ok (.iconst 3, 1) := by decide +kernel
theorem dX3_enter_31 : decode cX3_enter 31 = .ok (.if_icmp .gt 15, 3) := by decide +kernel
theorem dX3_enter_34 : decode cX3_enter 34 = .ok (.iload 5, 2) := by decide +kernel
theorem dX3_enter_36 : decode cX3_enter 36 = .ok (.ifCond .lt 10, 3) := by decide +kernel
theorem dX3_enter_39 : decode cX3_enter 39 = .ok (.iload 5, 2) := by decide +kernel
theorem dX3_enter_41 : decode cX3_enter 41 = .ok (.bipush 63, 2) := by decide +kernel
theorem dX3_enter_43 : decode cX3_enter 43 = .ok (.if_icmp .le 5, 3) := by decide +kernel
theorem dX3_enter_46 : decode cX3_enter 46 = .ok (.iconst 0, 1) := by decide +kernel
theorem dX3_enter_47 : decode cX3_enter 47 = .ok (.ireturn, 1) := by decide +kernel
theorem dX3_enter_48 : decode cX3_enter 48 = .ok (.aload_n 0, 1) := by decide +kernel
theorem dX3_enter_49 : decode cX3_enter 49 = .ok (.getfield 9, 3) := by decide +kernel
theorem dX3_enter_52 : decode cX3_enter 52 = .ok (.sipush 256, 3) := by decide +kernel
theorem dX3_enter_55 : decode cX3_enter 55 = .ok (.iload_n 1, 1) := by decide +kernel
theorem dX3_enter_56 : decode cX3_enter 56 = .ok (.imul, 1) := by decide +kernel
theorem dX3_enter_57 : decode cX3_enter 57 = .ok (.iload_n 2, 1) := by decide +kernel
theorem dX3_enter_58 : decode cX3_enter 58 = .ok (.iadd, 1) := by decide +kernel
theorem dX3_enter_59 : decode cX3_enter 59 = .ok (.iconst 1, 1) := by decide +kernel
theorem dX3_enter_60 : decode cX3_enter 60 = .ok (.iconst 2, 1) := by decide +kernel
theorem dX3_enter_61 : decode cX3_enter 61 = .ok (.iload_n 3, 1) := by decide +kernel
theorem dX3_enter_62 : decode cX3_enter 62 = .ok (.imul, 1) := by decide +kernel
theorem dX3_enter_63 : decode cX3_enter 63 = .ok (.iadd, 1) := by decide +kernel
theorem dX3_enter_64 : decode cX3_enter 64 = .ok (.iload 4, 2) := by decide +kernel
theorem dX3_enter_66 : decode cX3_enter 66 = .ok (.ifCond .eq 8, 3) := by decide +kernel
theorem dX3_enter_69 : decode cX3_enter 69 = .ok (.bipush 8, 2) := by decide +kernel
theorem dX3_enter_71 : decode cX3_enter 71 = .ok (.goto 4, 3) := by decide +kernel
theorem dX3_enter_74 : decode cX3_enter 74 = .ok (.iconst 0, 1) := by decide +kernel
theorem dX3_enter_75 : decode cX3_enter 75 = .ok (.iadd, 1) := by decide +kernel
theorem dX3_enter_76 : decode cX3_enter 76 = .ok (.sipush 256, 3) := by decide +kernel
theorem dX3_enter_79 : decode cX3_enter 79 = .ok (.iload 5, 2) := by decide +kernel
theorem dX3_enter_81 : decode cX3_enter 81 = .ok (.imul, 1) := by decide +kernel
theorem dX3_enter_82 : decode cX3_enter 82 = .ok (.iadd, 1) := by decide +kernel
theorem dX3_enter_83 : decode cX3_enter 83 = .ok (.iastore, 1) := by decide +kernel
theorem dX3_enter_84 : decode cX3_enter 84 = .ok (.iconst 1, 1) := by decide +kernel
theorem dX3_enter_85 : decode cX3_enter 85 = .ok (.ireturn, 1) := by decide +kernel
theorem dX3_contextOf_0 : decode cX3_contextOf 0 = .ok (.iconst 0, 1) := by decide +kernel
theorem dX3_contextOf_1 : decode cX3_contextOf 1 = .ok (.istore_n 2, 1) := by decide +kernel
theorem dX3_contextOf_2 : decode cX3_contextOf 2 = .ok (.iload_n 2, 1) := by decide +kernel
theorem dX3_contextOf_3 : decode cX3_contextOf 3 = .ok (.aload_n 0, 1) := by decide +kernel
theorem dX3_contextOf_4 : decode cX3_contextOf 4 = .ok (.getfield 42, 3) := by decide +kernel
theorem dX3_contextOf_7 : decode cX3_contextOf 7 = .ok (.if_icmp .ge 23, 3) := by decide +kernel
theorem dX3_contextOf_10 : decode cX3_contextOf 10 = .ok (.aload_n 0, 1) := by decide +kernel
theorem dX3_contextOf_11 : decode cX3_contextOf 11 = .ok (.getfield 13, 3) := by decide +kernel
theorem dX3_contextOf_14 : decode cX3_contextOf 14 = .ok (.iconst 4, 1) := by decide +kernel
theorem dX3_contextOf_15 : decode cX3_contextOf 15 = .ok (.iload_n 2, 1) := by decide +kernel
theorem dX3_contextOf_16 : decode cX3_contextOf 16 = .ok (.imul, 1) := by decide +kernel
theorem dX3_contextOf_17 : decode cX3_contextOf 17 = .ok (.iaload, 1) := by decide +kernel
theorem dX3_contextOf_18 : decode cX3_contextOf 18 = .ok (.iload_n 1, 1) := by decide +kernel
theorem dX3_contextOf_19 : decode cX3_contextOf 19 = .ok (.if_icmp .ne 5, 3) := by decide +kernel
theorem dX3_contextOf_22 : decode cX3_contextOf 22 = .ok (.iload_n 2, 1) := by decide +kernel
theorem dX3_contextOf_23 : decode cX3_contextOf 23 = .ok (.ireturn, 1) := by decide +kernel
theorem dX3_contextOf_24 : decode cX3_contextOf 24 = .ok (.iinc 2 1, 3) := by decide +kernel
theorem dX3_contextOf_27 : decode cX3_contextOf 27 = .ok (.goto (-25), 3) := by decide +kernel
theorem dX3_contextOf_30 : decode cX3_contextOf 30 = .ok (.iconst (-1), 1) := by decide +kernel
theorem dX3_contextOf_31 : decode cX3_contextOf 31 = .ok (.ireturn, 1) := by decide +kernel
theorem dX3_shift_0 : decode cX3_shift 0 = .ok (.iconst 0, 1) := by decide +kernel
theorem dX3_shift_1 : decode cX3_shift 1 = .ok (.istore_n 3, 1) := by decide +kernel
theorem dX3_shift_2 : decode cX3_shift 2 = .ok (.iload_n 3, 1) := by decide +kernel
theorem dX3_shift_3 : decode cX3_shift 3 = .ok (.iload_n 1, 1) := by decide +kernel
theorem dX3_shift_4 : decode cX3_shift 4 = .ok (.iload_n 2, 1) := by decide +kernel
theorem dX3_shift_5 : decode cX3_shift 5 = .ok (.iconst 1, 1) := by decide +kernel
theorem dX3_shift_6 : decode cX3_shift 6 = .ok (.isub, 1) := by decide +kernel
theorem dX3_shift_7 : decode cX3_shift 7 = .ok (.imul, 1) := by decide +kernel
theorem dX3_shift_8 : decode cX3_shift 8 = .ok (.if_icmp .ge 17, 3) := by decide +kernel
theorem dX3_shift_11 : decode cX3_shift 11 = .ok (.aload_n 0, 1) := by decide +kernel
theorem dX3_shift_12 : decode cX3_shift 12 = .ok (.iload_n 3, 1) := by decide +kernel
theorem dX3_shift_13 : decode cX3_shift 13 = .ok (.aload_n 0, 1) := by decide +kernel
theorem dX3_shift_14 : decode cX3_shift 14 = .ok (.iload_n 3, 1) := by decide +kernel
theorem dX3_shift_15 : decode cX3_shift 15 = .ok (.iload_n 1, 1) := by decide +kernel
theorem dX3_shift_16 : decode cX3_shift 16 = .ok (.iadd, 1) := by decide +kernel
theorem dX3_shift_17 : decode cX3_shift 17 = .ok (.iaload, 1) := by decide +kernel
theorem dX3_shift_18 : decode cX3_shift 18 = .ok (.iastore, 1) := by decide +kernel
theorem dX3_shift_19 : decode cX3_shift 19 = .ok (.iinc 3 1, 3) := by decide +kernel
theorem dX3_shift_22 : decode cX3_shift 22 = .ok (.goto (-20), 3) := by decide +kernel
theorem dX3_shift_25 : decode cX3_shift 25 = .ok (.return_, 1) := by decide +kernel
set_option maxRecDepth 20000 in
theorem ggX3_remember_X3_shift : GoodIn wsX3_remember wsX3_shift := goodIn_r _ [6] (by decide +kernel) (by decide +kernel)
set_option maxRecDepth 20000 in
theorem gX3_remember_X3_shift : GoodIn wsX3_remember (va_wsS RX3 45 yX3_shift wsX3_shift) := goodIn_app (goodIn_of _ (by decide +kernel)) ggX3_remember_X3_shift
theorem dX3_remember_0 : decode cX3_remember 0 = .ok (.aload_n 0, 1) := by decide +kernel
theorem dX3_remember_1 : decode cX3_remember 1 = .ok (.getfield 42, 3) := by decide +kernel
theorem dX3_remember_4 : decode cX3_remember 4 = .ok (.iconst 3, 1) := by decide +kernel
theorem dX3_remember_5 : decode cX3_remember 5 = .ok (.if_icmp .ne 22, 3) := by decide +kernel
theorem dX3_remember_8 : decode cX3_remember 8 = .ok (.aload_n 0, 1) := by decide +kernel
theorem dX3_remember_9 : decode cX3_remember 9 = .ok (.getfield 13, 3) := by decide +kernel
theorem dX3_remember_12 : decode cX3_remember 12 = .ok (.iconst 4, 1) := by decide +kernel
theorem dX3_remember_13 : decode cX3_remember 13 = .ok (.iconst 3, 1) := by decide +kernel
theorem dX3_remember_14 : decode cX3_remember 14 = .ok (.invokestatic 45, 3) := by decide +kernel
theorem dX3_remember_17 : decode cX3_remember 17 = .ok (.aload_n 0, 1) := by decide +kernel
theorem dX3_remember_18 : decode cX3_remember 18 = .ok (.dup, 1) := by decide +kernel
theorem dX3_remember_19 : decode cX3_remember 19 = .ok (.getfield 42, 3) := by decide +kernel
theorem dX3_remember_22 : decode cX3_remember 22 = .ok (.iconst 1, 1) := by decide +kernel
theorem dX3_remember_23 : decode cX3_remember 23 = .ok (.isub, 1) := by decide +kernel
theorem dX3_remember_24 : decode cX3_remember 24 = .ok (.putfield 42, 3) := by decide +kernel
theorem dX3_remember_27 : decode cX3_remember 27 = .ok (.iconst 4, 1) := by decide +kernel
theorem dX3_remember_28 : decode cX3_remember 28 = .ok (.aload_n 0, 1) := by decide +kernel
theorem dX3_remember_29 : decode cX3_remember 29 = .ok (.getfield 42, 3) := by decide +kernel
theorem dX3_remember_32 : decode cX3_remember 32 = .ok (.imul, 1) := by decide +kernel
theorem dX3_remember_33 : decode cX3_remember 33 = .ok (.istore 4, 2) := by decide +kernel
theorem dX3_remember_35 : decode cX3_remember 35 = .ok (.aload_n 0, 1) := by decide +kernel
theorem dX3_remember_36 : decode cX3_remember 36 = .ok (.getfield 13, 3) := by decide +kernel
theorem dX3_remember_39 : decode cX3_remember 39 = .ok (.iload 4, 2) := by decide +kernel
theorem dX3_remember_41 : decode cX3_remember 41 = .ok (.iload_n 1, 1) := by decide +kernel
theorem dX3_remember_42 : decode cX3_remember 42 = .ok (.iastore, 1) := by decide +kernel
theorem dX3_remember_43 : decode cX3_remember 43 = .ok (.aload_n 0, 1) := by decide +kernel
theorem dX3_remember_44 : decode cX3_remember 44 = .ok (.getfield 13, 3) := by decide +kernel
theorem dX3_remember_47 : decode cX3_remember 47 = .ok (.iload 4, 2) := by decide +kernel
theorem dX3_remember_49 : decode cX3_remember 49 = .ok (.iconst 1, 1) := by decide +kernel
theorem dX3_remember_50 : decode cX3_remember 50 = .ok (.iadd, 1) := by decide +kernel
theorem dX3_remember_51 : decode cX3_remember 51 = .ok (.iload_n 2, 1) := by decide +kernel
theorem dX3_remember_52 : decode cX3_remember 52 = .ok (.iconst 1, 1) := by decide +kernel
theorem dX3_remember_53 : decode cX3_remember 53 = .ok (.ishr, 1) := by decide +kernel
theorem dX3_remember_54 : decode cX3_remember 54 = .ok (.iconst 1, 1) := by decide +kernel
theorem dX3_remember_55 : decode cX3_remember 55 = .ok (.iand, 1) := by decide +kernel
theorem dX3_remember_56 : decode cX3_remember 56 = .ok (.iastore, 1) := by decide +kernel
theorem dX3_remember_57 : decode cX3_remember 57 = .ok (.aload_n 0, 1) := by decide +kernel
theorem dX3_remember_58 : decode cX3_remember 58 = .ok (.getfield 13, 3) := by decide +kernel
theorem dX3_remember_61 : decode cX3_remember 61 = .ok (.iload 4, 2) := by decide +kernel
theorem dX3_remember_63 : decode cX3_remember 63 = .ok (.iconst 2, 1) := by decide +kernel
theorem dX3_remember_64 : decode cX3_remember 64 = .ok (.iadd, 1) := by decide +kernel
theorem dX3_remember_65 : decode cX3_remember 65 = .ok (.iload_n 2, 1) := by decide +kernel
theorem dX3_remember_66 : decode cX3_remember 66 = .ok (.bipush 8, 2) := by decide +kernel
theorem dX3_remember_68 : decode cX3_remember 68 = .ok (.ishr, 1) := by decide +kernel
theorem dX3_remember_69 : decode cX3_remember 69 = .ok (.bipush 63, 2) := by decide +kernel
theorem dX3_remember_71 : decode cX3_remember 71 = .ok (.iand, 1) := by decide +kernel
theorem dX3_remember_72 : decode cX3_remember 72 = .ok (.iastore, 1) := by decide +kernel
theorem dX3_remember_73 : decode cX3_remember 73 = .ok (.aload_n 0, 1) := by decide +kernel
theorem dX3_remember_74 : decode cX3_remember 74 = .ok (.getfield 13, 3) := by decide +kernel
theorem dX3_remember_77 : decode cX3_remember 77 = .ok (.iload 4, 2) := by decide +kernel
theorem dX3_remember_79 : decode cX3_remember 79 = .ok (.iconst 3, 1) := by decide +kernel
theorem dX3_remember_80 : decode cX3_remember 80 = .ok (.iadd, 1) := by decide +kernel
theorem dX3_remember_81 : decode cX3_remember 81 = .ok (.iload_n 3, 1) := by decide +kernel
theorem dX3_remember_82 : decode cX3_remember 82 = .ok (.bipush 15, 2) := by decide +kernel
theorem dX3_remember_84 : decode cX3_remember 84 = .ok (.iand, 1) := by decide +kernel
theorem dX3_remember_85 : decode cX3_remember 85 = .ok (.iastore, 1) := by decide +kernel
theorem dX3_remember_86 : decode cX3_remember 86 = .ok (.aload_n 0, 1) := by decide +kernel
theorem dX3_remember_87 : decode cX3_remember 87 = .ok (.dup, 1) := by decide +kernel
theorem dX3_remember_88 : decode cX3_remember 88 = .ok (.getfield 42, 3) := by decide +kernel
theorem dX3_remember_91 : decode cX3_remember 91 = .ok (.iconst 1, 1) := by decide +kernel
theorem dX3_remember_92 : decode cX3_remember 92 = .ok (.iadd, 1) := by decide +kernel
theorem dX3_remember_93 : decode cX3_remember 93 = .ok (.putfield 42, 3) := by decide +kernel
theorem dX3_remember_96 : decode cX3_remember 96 = .ok (.return_, 1) := by decide +kernel
theorem dX3_leafOf_0 : decode cX3_leafOf 0 = .ok (.iconst 0, 1) := by decide +kernel
theorem dX3_leafOf_1 : decode cX3_leafOf 1 = .ok (.istore_n 3, 1) := by decide +kernel
theorem dX3_leafOf_2 : decode cX3_leafOf 2 = .ok (.iload_n 3, 1) := by decide +kernel
theorem dX3_leafOf_3 : decode cX3_leafOf 3 = .ok (.aload_n 0, 1) := by decide +kernel
theorem dX3_leafOf_4 : decode cX3_leafOf 4 = .ok (.getfield 49, 3) := by decide +kernel
theorem dX3_leafOf_7 : decode cX3_leafOf 7 = .ok (.if_icmp .ge 52, 3) := by decide +kernel
theorem dX3_leafOf_10 : decode cX3_leafOf 10 = .ok (.iconst 5, 1) := by decide +kernel
theorem dX3_leafOf_11 : decode cX3_leafOf 11 = .ok (.iload_n 3, 1) := by decide +kernel
theorem dX3_leafOf_12 : decode cX3_leafOf 12 = .ok (.imul, 1) := by decide +kernel
theorem dX3_leafOf_13 : decode cX3_leafOf 13 = .ok (.istore 4, 2) := by decide +kernel
theorem dX3_leafOf_15 : decode cX3_leafOf 15 = .ok (.aload_n 0, 1) := by decide +kernel
theorem dX3_leafOf_16 : decode cX3_leafOf 16 = .ok (.getfield 16, 3) := by decide +kernel
theorem dX3_leafOf_19 : decode cX3_leafOf 19 = .ok (.iload 4, 2) := by decide +kernel
theorem dX3_leafOf_21 : decode cX3_leafOf 21 = .ok (.iaload, 1) := by decide +kernel
theorem dX3_leafOf_22 : decode cX3_leafOf 22 = .ok (.iload_n 1, 1) := by decide +kernel
theorem dX3_leafOf_23 : decode cX3_leafOf 23 = .ok (.if_icmp .ne 30, 3) := by decide +kernel
theorem dX3_leafOf_26 : decode cX3_leafOf 26 = .ok (.aload_n 0, 1) := by decide +kernel
theorem dX3_leafOf_27 : decode cX3_leafOf 27 = .ok (.getfield 16, 3) := by decide +kernel
theorem dX3_leafOf_30 : decode cX3_leafOf 30 = .ok (.iload 4, 2) := by decide +kernel
theorem dX3_leafOf_32 : decode cX3_leafOf 32 = .ok (.iconst 2, 1) := by decide +kernel
theorem dX3_leafOf_33 : decode cX3_leafOf 33 = .ok (.iadd, 1) := by decide +kernel
theorem dX3_leafOf_34 : decode cX3_leafOf 34 = .ok (.iaload, 1) := by decide +kernel
theorem dX3_leafOf_35 : decode cX3_leafOf 35 = .ok (.iload_n 2, 1) := by decide +kernel
theorem dX3_leafOf_36 : decode cX3_leafOf 36 = .ok (.iconst 4, 1) := by decide +kernel
theorem dX3_leafOf_37 : decode cX3_leafOf 37 = .ok (.aload_n 0, 1) := by decide +kernel
theorem dX3_leafOf_38 : decode cX3_leafOf 38 = .ok (.getfield 16, 3) := by decide +kernel
theorem dX3_leafOf_41 : decode cX3_leafOf 41 = .ok (.iload 4, 2) := by decide +kernel
theorem dX3_leafOf_43 : decode cX3_leafOf 43 = .ok (.iconst 1, 1) := by decide +kernel
theorem dX3_leafOf_44 : decode cX3_leafOf 44 = .ok (.iadd, 1) := by decide +kernel
theorem dX3_leafOf_45 : decode cX3_leafOf 45 = .ok (.iaload, 1) := by decide +kernel
theorem dX3_leafOf_46 : decode cX3_leafOf 46 = .ok (.imul, 1) := by decide +kernel
theorem dX3_leafOf_47 : decode cX3_leafOf 47 = .ok (.ishr, 1) := by decide +kernel
theorem dX3_leafOf_48 : decode cX3_leafOf 48 = .ok (.if_icmp .ne 5, 3) := by decide +kernel
theorem dX3_leafOf_51 : decode cX3_leafOf 51 = .ok (.iload_n 3, 1) := by decide +kernel
theorem dX3_leafOf_52 : decode cX3_leafOf 52 = .ok (.ireturn, 1) := by decide +kernel
theorem dX3_leafOf_53 : decode cX3_leafOf 53 = .ok (.iinc 3 1, 3) := by decide +kernel
theorem dX3_leafOf_56 : decode cX3_leafOf 56 = .ok (.goto (-54), 3) := by decide +kernel
theorem dX3_leafOf_59 : decode cX3_leafOf 59 = .ok (.iconst (-1), 1) := by decide +kernel
theorem dX3_leafOf_60 : decode cX3_leafOf 60 = .ok (.ireturn, 1) := by decide +kernel
set_option maxRecDepth 20000 in
theorem ggX3_remember__X3_shift : GoodIn wsX3_remember_ wsX3_shift := goodIn_r _ [6] (by decide +kernel) (by decide +kernel)
set_option maxRecDepth 20000 in
theorem gX3_remember__X3_shift : GoodIn wsX3_remember_ (va_wsS RX3 45 yX3_shift wsX3_shift) := goodIn_app (goodIn_of _ (by decide +kernel)) ggX3_remember__X3_shift
theorem dX3_remember__0 : decode cX3_remember_ 0 = .ok (.aload_n 0, 1) := by decide +kernel
theorem dX3_remember__1 : decode cX3_remember_ 1 = .ok (.getfield 49, 3) := by decide +kernel
theorem dX3_remember__4 : decode cX3_remember_ 4 = .ok (.bipush 6, 2) := by decide +kernel
theorem dX3_remember__6 : decode cX3_remember_ 6 = .ok (.if_icmp .ne 23, 3) := by decide +kernel
theorem dX3_remember__9 : decode cX3_remember_ 9 = .ok (.aload_n 0, 1) := by decide +kernel
theorem dX3_remember__10 : decode cX3_remember_ 10 = .ok (.getfield 16, 3) := by decide +kernel
theorem dX3_remember__13 : decode cX3_remember_ 13 = .ok (.iconst 5, 1) := by decide +kernel
theorem dX3_remember__14 : decode cX3_remember_ 14 = .ok (.bipush 6, 2) := by decide +kernel
theorem dX3_remember__16 : decode cX3_remember_ 16 = .ok (.invokestatic 45, 3) := by decide +kernel
theorem dX3_remember__19 : decode cX3_remember_ 19 = .ok (.aload_n 0, 1) := by decide +kernel
theorem dX3_remember__20 : decode cX3_remember_ 20 = .ok (.dup, 1) := by decide +kernel
theorem dX3_remember__21 : decode cX3_remember_ 21 = .ok (.getfield 49, 3) := by decide +kernel
theorem dX3_remember__24 : decode cX3_remember_ 24 = .ok (.iconst 1, 1) := by decide +kernel
theorem dX3_remember__25 : decode cX3_remember_ 25 = .ok (.isub, 1) := by decide +kernel
theorem dX3_remember__26 : decode cX3_remember_ 26 = .ok (.putfield 49, 3) := by decide +kernel
theorem dX3_remember__29 : decode cX3_remember_ 29 = .ok (.iconst 5, 1) := by decide +kernel
theorem dX3_remember__30 : decode cX3_remember_ 30 = .ok (.aload_n 0, 1) := by decide +kernel
theorem dX3_remember__31 : decode cX3_remember_ 31 = .ok (.getfield 49, 3) := by decide +kernel
theorem dX3_remember__34 : decode cX3_remember_ 34 = .ok (.imul, 1) := by decide +kernel
theorem dX3_remember__35 : decode cX3_remember_ 35 = .ok (.istore 5, 2) := by decide +kernel
theorem dX3_remember__37 : decode cX3_remember_ 37 = .ok (.aload_n 0, 1) := by decide +kernel
theorem dX3_remember__38 : decode cX3_remember_ 38 = .ok (.getfield 16, 3) := by decide +kernel
theorem dX3_remember__41 : decode cX3_remember_ 41 = .ok (.iload 5, 2) := by decide +kernel
theorem dX3_remember__43 : decode cX3_remember_ 43 = .ok (.iload_n 1, 1) := by decide +kernel
theorem dX3_remember__44 : decode cX3_remember_ 44 = .ok (.iastore, 1) := by decide +kernel
theorem dX3_remember__45 : decode cX3_remember_ 45 = .ok (.aload_n 0, 1) := by decide +kernel
theorem dX3_remember__46 : decode cX3_remember_ 46 = .ok (.getfield 16, 3) := by decide +kernel
theorem dX3_remember__49 : decode cX3_remember_ 49 = .ok (.iload 5, 2) := by decide +kernel
theorem dX3_remember__51 : decode cX3_remember_ 51 = .ok (.iconst 1, 1) := by decide +kernel
theorem dX3_remember__52 : decode cX3_remember_ 52 = .ok (.iadd, 1) := by decide +kernel
theorem dX3_remember__53 : decode cX3_remember_ 53 = .ok (.iload_n 2, 1) := by decide +kernel
theorem dX3_remember__54 : decode cX3_remember_ 54 = .ok (.iastore, 1) := by decide +kernel
theorem dX3_remember__55 : decode cX3_remember_ 55 = .ok (.aload_n 0, 1) := by decide +kernel
theorem dX3_remember__56 : decode cX3_remember_ 56 = .ok (.getfield 16, 3) := by decide +kernel
theorem dX3_remember__59 : decode cX3_remember_ 59 = .ok (.iload 5, 2) := by decide +kernel
theorem dX3_remember__61 : decode cX3_remember_ 61 = .ok (.iconst 2, 1) := by decide +kernel
theorem dX3_remember__62 : decode cX3_remember_ 62 = .ok (.iadd, 1) := by decide +kernel
theorem dX3_remember__63 : decode cX3_remember_ 63 = .ok (.iload_n 3, 1) := by decide +kernel
theorem dX3_remember__64 : decode cX3_remember_ 64 = .ok (.iconst 4, 1) := by decide +kernel
theorem dX3_remember__65 : decode cX3_remember_ 65 = .ok (.iload_n 2, 1) := by decide +kernel
theorem dX3_remember__66 : decode cX3_remember_ 66 = .ok (.imul, 1) := by decide +kernel
theorem dX3_remember__67 : decode cX3_remember_ 67 = .ok (.ishr, 1) := by decide +kernel
theorem dX3_remember__68 : decode cX3_remember_ 68 = .ok (.iastore, 1) := by decide +kernel
theorem dX3_remember__69 : decode cX3_remember_ 69 = .ok (.aload_n 0, 1) := by decide +kernel
theorem dX3_remember__70 : decode cX3_remember_ 70 = .ok (.getfield 16, 3) := by decide +kernel
theorem dX3_remember__73 : decode cX3_remember_ 73 = .ok (.iload 5, 2) := by decide +kernel
theorem dX3_remember__75 : decode cX3_remember_ 75 = .ok (.iconst 3, 1) := by decide +kernel
theorem dX3_remember__76 : decode cX3_remember_ 76 = .ok (.iadd, 1) := by decide +kernel
theorem dX3_remember__77 : decode cX3_remember_ 77 = .ok (.iload 4, 2) := by decide +kernel
theorem dX3_remember__79 : decode cX3_remember_ 79 = .ok (.bipush 8, 2) := by decide +kernel
theorem dX3_remember__81 : decode cX3_remember_ 81 = .ok (.ishr, 1) := by decide +kernel
theorem dX3_remember__82 : decode cX3_remember_ 82 = .ok (.bipush 63, 2) := by decide +kernel
theorem dX3_remember__84 : decode cX3_remember_ 84 = .ok (.iand, 1) := by decide +kernel
theorem dX3_remember__85 : decode cX3_remember_ 85 = .ok (.iastore, 1) := by decide +kernel
theorem dX3_remember__86 : decode cX3_remember_ 86 = .ok (.aload_n 0, 1) := by decide +kernel
theorem dX3_remember__87 : decode cX3_remember_ 87 = .ok (.getfield 16, 3) := by decide +kernel
theorem dX3_remember__90 : decode cX3_remember_ 90 = .ok (.iload 5, 2) := by decide +kernel
theorem dX3_remember__92 : decode cX3_remember_ 92 = .ok (.iconst 4, 1) := by decide +kernel
theorem dX3_remember__93 : decode cX3_remember_ 93 = .ok (.iadd, 1) := by decide +kernel
theorem dX3_remember__94 : decode cX3_remember_ 94 = .ok (.iload 4, 2) := by decide +kernel
theorem dX3_remember__96 : decode cX3_remember_ 96 = .ok (.iconst 1, 1) := by decide +kernel
theorem dX3_remember__97 : decode cX3_remember_ 97 = .ok (.ishr, 1) := by decide +kernel
theorem dX3_remember__98 : decode cX3_remember_ 98 = .ok (.iconst 3, 1) := by decide +kernel
theorem dX3_remember__99 : decode cX3_remember_ 99 = .ok (.iand, 1) := by decide +kernel
theorem dX3_remember__100 : decode cX3_remember_ 100 = .ok (.iastore, 1) := by decide +kernel
theorem dX3_remember__101 : decode cX3_remember_ 101 = .ok (.aload_n 0, 1) := by decide +kernel
theorem dX3_remember__102 : decode cX3_remember_ 102 = .ok (.dup, 1) := by decide +kernel
theorem dX3_remember__103 : decode cX3_remember_ 103 = .ok (.getfield 49, 3) := by decide +kernel
theorem dX3_remember__106 : decode cX3_remember_ 106 = .ok (.iconst 1, 1) := by decide +kernel
theorem dX3_remember__107 : decode cX3_remember_ 107 = .ok (.iadd, 1) := by decide +kernel
theorem dX3_remember__108 : decode cX3_remember_ 108 = .ok (.putfield 49, 3) := by decide +kernel
theorem dX3_remember__111 : decode cX3_remember_ 111 = .ok (.aload_n 0, 1) := by decide +kernel
theorem dX3_remember__112 : decode cX3_remember_ 112 = .ok (.getfield 49, 3) := by decide +kernel
theorem dX3_remember__115 : decode cX3_remember_ 115 = .ok (.iconst 1, 1) := by decide +kernel
theorem dX3_remember__116 : decode cX3_remember_ 116 = .ok (.isub, 1) := by decide +kernel
theorem dX3_remember__117 : decode cX3_remember_ 117 = .ok (.ireturn, 1) := by decide +kernel
set_option maxRecDepth 20000 in
theorem ggX3_lead_X3_contextOf : GoodIn wsX3_lead wsX3_contextOf := goodIn_r _ [14, 5, 6, 31, 32, 33, 34, 35, 36, 37, 38, 39, 40, 41, 42, 43, 44, 45, 46, 47] (by decide +kernel) (by decide +kernel)
set_option maxRecDepth 20000 in
theorem gX3_lead_X3_contextOf : GoodIn wsX3_lead (wsV RX3 53 RX3 yX3_contextOf wsX3_contextOf) := goodIn_app (goodIn_of _ (by decide +kernel)) ggX3_lead_X3_contextOf
set_option maxRecDepth 20000 in
theorem ggX3_lead_X3_remember : GoodIn wsX3_lead wsX3_remember := goodIn_r _ [18, 5, 6, 19, 20, 13, 21, 31, 32, 33, 34, 35, 36, 37, 38, 39, 40, 41, 42, 43, 44, 45, 46, 47] (by decide +kernel) (by decide +kernel)
set_option maxRecDepth 20000 in
theorem gX3_lead_X3_remember : GoodIn wsX3_lead (wsV RX3 60 RX3 yX3_remember wsX3_remember) := goodIn_app (goodIn_of _ (by decide +kernel)) ggX3_lead_X3_remember
set_option maxRecDepth 20000 in
theorem ggX3_lead_X3_leafOf : GoodIn wsX3_lead wsX3_leafOf := goodIn_r _ [25, 26, 9, 31, 32, 33, 34, 35, 36, 37, 38, 39, 40, 41, 42, 43, 44, 45, 46, 47] (by decide +kernel) (by decide +kernel)
set_option maxRecDepth 20000 in
theorem gX3_lead_X3_leafOf : GoodIn wsX3_lead (wsV RX3 67 RX3 yX3_leafOf wsX3_leafOf) := goodIn_app (goodIn_of _ (by decide +kernel)) ggX3_lead_X3_leafOf
set_option maxRecDepth 20000 in
theorem ggX3_lead_X3_remember_ : GoodIn wsX3_lead wsX3_remember_ := goodIn_r _ [30, 26, 9, 19, 20, 13, 21, 31, 32, 33, 34, 35, 36, 37, 38, 39, 40, 41, 42, 43, 44, 45, 46, 47] (by decide +kernel) (by decide +kernel)
set_option maxRecDepth 20000 in
theorem gX3_lead_X3_remember_ : GoodIn wsX3_lead (wsV RX3 74 RX3 yX3_remember_ wsX3_remember_) := goodIn_app (goodIn_of _ (by decide +kernel)) ggX3_lead_X3_remember_
theorem dX3_lead_0 : decode cX3_lead 0 = .ok (.iload_n 2, 1) := by decide +kernel
theorem dX3_lead_1 : decode cX3_lead 1 = .ok (.ifCond .lt 9, 3) := by decide +kernel
theorem dX3_lead_4 : decode cX3_lead 4 = .ok (.iload_n 2, 1) := by decide +kernel
theorem dX3_lead_5 : decode cX3_lead 5 = .ok (.ldc 52, 2) := by decide +kernel
theorem dX3_lead_7 : decode cX3_lead 7 = .ok (.if_icmp .le 5, 3) := by decide +kernel
theorem dX3_lead_10 : decode cX3_lead 10 = .ok (.iconst 4, 1) := by decide +kernel
theorem dX3_lead_11 : decode cX3_lead 11 = .ok (.ireturn, 1) := by decide +kernel
theorem dX3_lead_12 : decode cX3_lead 12 = .ok (.aload_n 0, 1) := by decide +kernel
theorem dX3_lead_13 : decode cX3_lead 13 = .ok (.iload_n 1, 1) := by decide +kernel
theorem dX3_lead_14 : decode cX3_lead 14 = .ok (.invokevirtual 53, 3) := by decide +kernel
theorem dX3_lead_17 : decode cX3_lead 17 = .ok (.istore 4, 2) := by decide +kernel
theorem dX3_lead_19 : decode cX3_lead 19 = .ok (.iload 4, 2) := by decide +kernel
theorem dX3_lead_21 : decode cX3_lead 21 = .ok (.iconst (-1), 1) := by decide +kernel
theorem dX3_lead_22 : decode cX3_lead 22 = .ok (.if_icmp .ne 71, 3) := by decide +kernel
theorem dX3_lead_25 : decode cX3_lead 25 = .ok (.aload_n 0, 1) := by decide +kernel
theorem dX3_lead_26 : decode cX3_lead 26 = .ok (.getfield 9, 3) := by decide +kernel
theorem dX3_lead_29 : decode cX3_lead 29 = .ok (.aload_n 0, 1) := by decide +kernel
theorem dX3_lead_30 : decode cX3_lead 30 = .ok (.getfield 36, 3) := by decide +kernel
theorem dX3_lead_33 : decode cX3_lead 33 = .ok (.iconst 2, 1) := by decide +kernel
theorem dX3_lead_34 : decode cX3_lead 34 = .ok (.iload_n 1, 1) := by decide +kernel
theorem dX3_lead_35 : decode cX3_lead 35 = .ok (.imul, 1) := by decide +kernel
theorem dX3_lead_36 : decode cX3_lead 36 = .ok (.iadd, 1) := by decide +kernel
theorem dX3_lead_37 : decode cX3_lead 37 = .ok (.iaload, 1) := by decide +kernel
theorem dX3_lead_38 : decode cX3_lead 38 = .ok (.istore 5, 2) := by decide +kernel
theorem dX3_lead_40 : decode cX3_lead 40 = .ok (.aload_n 0, 1) := by decide +kernel
theorem dX3_lead_41 : decode cX3_lead 41 = .ok (.getfield 9, 3) := by decide +kernel
theorem dX3_lead_44 : decode cX3_lead 44 = .ok (.aload_n 0, 1) := by decide +kernel
theorem dX3_lead_45 : decode cX3_lead 45 = .ok (.getfield 36, 3) := by decide +kernel
theorem dX3_lead_48 : decode cX3_lead 48 = .ok (.iconst 2, 1) := by decide +kernel
theorem dX3_lead_49 : decode cX3_lead 49 = .ok (.iload_n 1, 1) := by decide +kernel
theorem dX3_lead_50 : decode cX3_lead 50 = .ok (.imul, 1) := by decide +kernel
theorem dX3_lead_51 : decode cX3_lead 51 = .ok (.iadd, 1) := by decide +kernel
theorem dX3_lead_52 : decode cX3_lead 52 = .ok (.iconst 1, 1) := by decide +kernel
theorem dX3_lead_53 : decode cX3_lead 53 = .ok (.iadd, 1) := by decide +kernel
theorem dX3_lead_54 : decode cX3_lead 54 = .ok (.iaload, 1) := by decide +kernel
theorem dX3_lead_55 : decode cX3_lead 55 = .ok (.istore 6, 2) := by decide +kernel
theorem dX3_lead_57 : decode cX3_lead 57 = .ok (.aload_n 0, 1) := by decide +kernel
theorem dX3_lead_58 : decode cX3_lead 58 = .ok (.dup, 1) := by decide +kernel
theorem dX3_lead_59 : decode cX3_lead 59 = .ok (.getfield 57, 3) := by decide +kernel
theorem dX3_lead_62 : decode cX3_lead 62 = .ok (.iconst 1, 1) := by decide +kernel
theorem dX3_lead_63 : decode cX3_lead 63 = .ok (.iadd, 1) := by decide +kernel
theorem dX3_lead_64 : decode cX3_lead 64 = .ok (.putfield 57, 3) := by decide +kernel
theorem dX3_lead_67 : decode cX3_lead 67 = .ok (.iload 5, 2) := by decide +kernel
theorem dX3_lead_69 : decode cX3_lead 69 = .ok (.iconst 1, 1) := by decide +kernel
theorem dX3_lead_70 : decode cX3_lead 70 = .ok (.iand, 1) := by decide +kernel
theorem dX3_lead_71 : decode cX3_lead 71 = .ok (.ifCond .ne 5, 3) := by decide +kernel
theorem dX3_lead_74 : decode cX3_lead 74 = .ok (.iconst 1, 1) := by decide +kernel
theorem dX3_lead_75 : decode cX3_lead 75 = .ok (.ireturn, 1) := by decide +kernel
theorem dX3_lead_76 : decode cX3_lead 76 = .ok (.aload_n 0, 1) := by decide +kernel
theorem dX3_lead_77 : decode cX3_lead 77 = .ok (.iload_n 1, 1) := by decide +kernel
theorem dX3_lead_78 : decode cX3_lead 78 = .ok (.iload 5, 2) := by decide +kernel
theorem dX3_lead_80 : decode cX3_lead 80 = .ok (.iload 6, 2) := by decide +kernel
theorem dX3_lead_82 : decode cX3_lead 82 = .ok (.invokevirtual 60, 3) := by decide +kernel
theorem dX3_lead_85 : decode cX3_lead 85 = .ok (.aload_n 0, 1) := by decide +kernel
theorem dX3_lead_86 : decode cX3_lead 86 = .ok (.getfield 42, 3) := by decide +kernel
theorem dX3_lead_89 : decode cX3_lead 89 = .ok (.iconst 1, 1) := by decide +kernel
theorem dX3_lead_90 : decode cX3_lead 90 = .ok (.isub, 1) := by decide +kernel
theorem dX3_lead_91 : decode cX3_lead 91 = .ok (.istore 4, 2) := by decide +kernel
theorem dX3_lead_93 : decode cX3_lead 93 = .ok (.aload_n 0, 1) := by decide +kernel
theorem dX3_lead_94 : decode cX3_lead 94 = .ok (.getfield 13, 3) := by decide +kernel
theorem dX3_lead_97 : decode cX3_lead 97 = .ok (.iconst 4, 1) := by decide +kernel
theorem dX3_lead_98 : decode cX3_lead 98 = .ok (.iload 4, 2) := by decide +kernel
theorem dX3_lead_100 : decode cX3_lead 100 = .ok (.imul, 1) := by decide +kernel
theorem dX3_lead_101 : decode cX3_lead 101 = .ok (.iconst 1, 1) := by decide +kernel
theorem dX3_lead_102 : decode cX3_lead 102 = .ok (.iadd, 1) := by decide +kernel
theorem dX3_lead_103 : decode cX3_lead 103 = .ok (.iaload, 1) := by decide +kernel
theorem dX3_lead_104 : decode cX3_lead 104 = .ok (.iconst 1, 1) := by decide +kernel
theorem dX3_lead_105 : decode cX3_lead 105 = .ok (.if_icmp .ne 21, 3) := by decide +kernel
theorem dX3_lead_108 : decode cX3_lead 108 = .ok (.aload_n 0, 1) := by decide +kernel
theorem dX3_lead_109 : decode cX3_lead 109 = .ok (.iload_n 2, 1) := by decide +kernel
theorem dX3_lead_110 : decode cX3_lead 110 = .ok (.putfield 64, 3) := by decide +kernel
theorem dX3_lead_113 : decode cX3_lead 113 = .ok (.iload_n 2, 1) := by decide +kernel
theorem dX3_lead_114 : decode cX3_lead 114 = .ok (.sipush 16384, 3) := by decide +kernel
theorem dX3_lead_117 : decode cX3_lead 117 = .ok (.if_icmp .ge 7, 3) := by decide +kernel
theorem dX3_lead_120 : decode cX3_lead 120 = .ok (.iconst 0, 1) := by decide +kernel
theorem dX3_lead_121 : decode cX3_lead 121 = .ok (.goto 4, 3) := by decide +kernel
theorem dX3_lead_124 : decode cX3_lead 124 = .ok (.iconst 4, 1) := by decide +kernel
theorem dX3_lead_125 : decode cX3_lead 125 = .ok (.ireturn, 1) := by decide +kernel
theorem dX3_lead_126 : decode cX3_lead 126 = .ok (.aload_n 0, 1) := by decide +kernel
theorem dX3_lead_127 : decode cX3_lead 127 = .ok (.getfield 13, 3) := by decide +kernel
theorem dX3_lead_130 : decode cX3_lead 130 = .ok (.iconst 4, 1) := by decide +kernel
theorem dX3_lead_131 : decode cX3_lead 131 = .ok (.iload 4, 2) := by decide +kernel
theorem dX3_lead_133 : decode cX3_lead 133 = .ok (.imul, 1) := by decide +kernel
theorem dX3_lead_134 : decode cX3_lead 134 = .ok (.iconst 3, 1) := by decide +kernel
theorem dX3_lead_135 : decode cX3_lead 135 = .ok (.iadd, 1) := by decide +kernel
theorem dX3_lead_136 : decode cX3_lead 136 = .ok (.iaload, 1) := by decide +kernel
theorem dX3_lead_137 : decode cX3_lead 137 = .ok (.istore 5, 2) := by decide +kernel
theorem dX3_lead_139 : decode cX3_lead 139 = .ok (.iload_n 2, 1) := by decide +kernel
theorem dX3_lead_140 : decode cX3_lead 140 = .ok (.bipush 8, 2) := by decide +kernel
theorem dX3_lead_142 : decode cX3_lead 142 = .ok (.ishr, 1) := by decide +kernel
theorem dX3_lead_143 : decode cX3_lead 143 = .ok (.istore 6, 2) := by decide +kernel
theorem dX3_lead_145 : decode cX3_lead 145 = .ok (.aload_n 0, 1) := by decide +kernel
theorem dX3_lead_146 : decode cX3_lead 146 = .ok (.iload 5, 2) := by decide +kernel
theorem dX3_lead_148 : decode cX3_lead 148 = .ok (.iload 6, 2) := by decide +kernel
theorem dX3_lead_150 : decode cX3_lead 150 = .ok (.invokevirtual 67, 3) := by decide +kernel
theorem dX3_lead_153 : decode cX3_lead 153 = .ok (.istore 7, 2) := by decide +kernel
theorem dX3_lead_155 : decode cX3_lead 155 = .ok (.iload 7, 2) := by decide +kernel
theorem dX3_lead_157 : decode cX3_lead 157 = .ok (.iconst (-1), 1) := by decide +kernel
theorem dX3_lead_158 : decode cX3_lead 158 = .ok (.if_icmp .eq 16, 3) := by decide +kernel
theorem dX3_lead_161 : decode cX3_lead 161 = .ok (.aload_n 0, 1) := by decide +kernel
theorem dX3_lead_162 : decode cX3_lead 162 = .ok (.dup, 1) := by decide +kernel
theorem dX3_lead_163 : decode cX3_lead 163 = .ok (.getfield 71, 3) := by decide +kernel
theorem dX3_lead_166 : decode cX3_lead 166 = .ok (.iconst 1, 1) := by decide +kernel
theorem dX3_lead_167 : decode cX3_lead 167 = .ok (.iadd, 1) := by decide +kernel
theorem dX3_lead_168 : decode cX3_lead 168 = .ok (.putfield 71, 3) := by decide +kernel
theorem dX3_lead_171 : decode cX3_lead 171 = .ok (.goto 126, 3) := by decide +kernel
theorem dX3_lead_174 : decode cX3_lead 174 = .ok (.aload_n 0, 1) := by decide +kernel
theorem dX3_lead_175 : decode cX3_lead 175 = .ok (.getfield 13, 3) := by decide +kernel
theorem dX3_lead_178 : decode cX3_lead 178 = .ok (.iconst 4, 1) := by decide +kernel
theorem dX3_lead_179 : decode cX3_lead 179 = .ok (.iload 4, 2) := by decide +kernel
theorem dX3_lead_181 : decode cX3_lead 181 = .ok (.imul, 1) := by decide +kernel
theorem dX3_lead_182 : decode cX3_lead 182 = .ok (.iconst 2, 1) := by decide +kernel
theorem dX3_lead_183 : decode cX3_lead 183 = .ok (.iadd, 1) := by decide +kernel
theorem dX3_lead_184 : decode cX3_lead 184 = .ok (.iaload, 1) := by decide +kernel
theorem dX3_lead_185 : decode cX3_lead 185 = .ok (.istore 8, 2) := by decide +kernel
theorem dX3_lead_187 : decode cX3_lead 187 = .ok (.iconst 2, 1) := by decide +kernel
theorem dX3_lead_188 : decode cX3_lead 188 = .ok (.istore 9, 2) := by decide +kernel
theorem dX3_lead_190 : decode cX3_lead 190 = .ok (.iload 7, 2) := by decide +kernel
theorem dX3_lead_192 : decode cX3_lead 192 = .ok (.iconst (-1), 1) := by decide +kernel
theorem dX3_lead_193 : decode cX3_lead 193 = .ok (.if_icmp .ne 104, 3) := by decide +kernel
theorem dX3_lead_196 : decode cX3_lead 196 = .ok (.aload_n 0, 1) := by decide +kernel
theorem dX3_lead_197 : decode cX3_lead 197 = .ok (.getfield 9, 3) := by decide +kernel
theorem dX3_lead_200 : decode cX3_lead 200 = .ok (.sipush 256, 3) := by decide +kernel
theorem dX3_lead_203 : decode cX3_lead 203 = .ok (.iload 8, 2) := by decide +kernel
theorem dX3_lead_205 : decode cX3_lead 205 = .ok (.imul, 1) := by decide +kernel
theorem dX3_lead_206 : decode cX3_lead 206 = .ok (.iload 6, 2) := by decide +kernel
theorem dX3_lead_208 : decode cX3_lead 208 = .ok (.iconst 4, 1) := by decide +kernel
theorem dX3_lead_209 : decode cX3_lead 209 = .ok (.iload 9, 2) := by decide +kernel
theorem dX3_lead_211 : decode cX3_lead 211 = .ok (.imul, 1) := by decide +kernel
theorem dX3_lead_212 : decode cX3_lead 212 = .ok (.ishr, 1) := by decide +kernel
theorem dX3_lead_213 : decode cX3_lead 213 = .ok (.bipush 15, 2) := by decide +kernel
theorem dX3_lead_215 : decode cX3_lead 215 = .ok (.iand, 1) := by decide +kernel
theorem dX3_lead_216 : decode cX3_lead 216 = .ok (.iadd, 1) := by decide +kernel
theorem dX3_lead_217 : decode cX3_lead 217 = .ok (.iaload, 1) := by decide +kernel
theorem dX3_lead_218 : decode cX3_lead 218 = .ok (.istore 10, 2) := by decide +kernel
theorem dX3_lead_220 : decode cX3_lead 220 = .ok (.aload_n 0, 1) := by decide +kernel
theorem dX3_lead_221 : decode cX3_lead 221 = .ok (.dup, 1) := by decide +kernel
theorem dX3_lead_222 : decode cX3_lead 222 = .ok (.getfield 57, 3) := by decide +kernel
theorem dX3_lead_225 : decode cX3_lead 225 = .ok (.iconst 1, 1) := by decide +kernel
theorem dX3_lead_226 : decode cX3_lead 226 = .ok (.iadd, 1) := by decide +kernel
theorem dX3_lead_227 : decode cX3_lead 227 = .ok (.putfield 57, 3) := by decide +kernel
theorem dX3_lead_230 : decode cX3_lead 230 = .ok (.iload 10, 2) := by decide +kernel
theorem dX3_lead_232 : decode cX3_lead 232 = .ok (.iconst 1, 1) := by decide +kernel
theorem dX3_lead_233 : decode cX3_lead 233 = .ok (.iand, 1) := by decide +kernel
theorem dX3_lead_234 : decode cX3_lead 234 = .ok (.ifCond .ne 5, 3) := by decide +kernel
theorem dX3_lead_237 : decode cX3_lead 237 = .ok (.iconst 2, 1) := by decide +kernel
theorem dX3_lead_238 : decode cX3_lead 238 = .ok (.ireturn, 1) := by decide +kernel
theorem dX3_lead_239 : decode cX3_lead 239 = .ok (.iload 10, 2) := by decide +kernel
theorem dX3_lead_241 : decode cX3_lead 241 = .ok (.bipush 8, 2) := by decide +kernel
theorem dX3_lead_243 : decode cX3_lead 243 = .ok (.ishr, 1) := by decide +kernel
theorem dX3_lead_244 : decode cX3_lead 244 = .ok (.bipush 63, 2) := by decide +kernel
theorem dX3_lead_246 : decode cX3_lead 246 = .ok (.iand, 1) := by decide +kernel
theorem dX3_lead_247 : decode cX3_lead 247 = .ok (.istore 8, 2) := by decide +kernel
theorem dX3_lead_249 : decode cX3_lead 249 = .ok (.iload 9, 2) := by decide +kernel
theorem dX3_lead_251 : decode cX3_lead 251 = .ok (.ifCond .eq 11, 3) := by decide +kernel
theorem dX3_lead_254 : decode cX3_lead 254 = .ok (.iload 10, 2) := by decide +kernel
theorem dX3_lead_256 : decode cX3_lead 256 = .ok (.bipush 8, 2) := by decide +kernel
theorem dX3_lead_258 : decode cX3_lead 258 = .ok (.iand, 1) := by decide +kernel
theorem dX3_lead_259 : decode cX3_lead 259 = .ok (.ifCond .eq 32, 3) := by decide +kernel
theorem dX3_lead_262 : decode cX3_lead 262 = .ok (.iload 9, 2) := by decide +kernel
theorem dX3_lead_264 : decode cX3_lead 264 = .ok (.ifCond .le 13, 3) := by decide +kernel
theorem dX3_lead_267 : decode cX3_lead 267 = .ok (.iload 8, 2) := by decide +kernel
theorem dX3_lead_269 : decode cX3_lead 269 = .ok (.bipush 15, 2) := by decide +kernel
theorem dX3_lead_271 : decode cX3_lead 271 = .ok (.iand, 1) := by decide +kernel
theorem dX3_lead_272 : decode cX3_lead 272 = .ok (.ifCond .eq 5, 3) := by decide +kernel
theorem dX3_lead_275 : decode cX3_lead 275 = .ok (.iconst 5, 1) := by decide +kernel
theorem dX3_lead_276 : decode cX3_lead 276 = .ok (.ireturn, 1) := by decide +kernel
theorem dX3_lead_277 : decode cX3_lead 277 = .ok (.aload_n 0, 1) := by decide +kernel
theorem dX3_lead_278 : decode cX3_lead 278 = .ok (.iload 5, 2) := by decide +kernel
theorem dX3_lead_280 : decode cX3_lead 280 = .ok (.iload 9, 2) := by decide +kernel
theorem dX3_lead_282 : decode cX3_lead 282 = .ok (.iload 6, 2) := by decide +kernel
theorem dX3_lead_284 : decode cX3_lead 284 = .ok (.iload 10, 2) := by decide +kernel
theorem dX3_lead_286 : decode cX3_lead 286 = .ok (.invokevirtual 74, 3) := by decide +kernel
theorem dX3_lead_289 : decode cX3_lead 289 = .ok (.istore 7, 2) := by decide +kernel
theorem dX3_lead_291 : decode cX3_lead 291 = .ok (.iinc 9 (-1), 3) := by decide +kernel
theorem dX3_lead_294 : decode cX3_lead 294 = .ok (.goto (-104), 3) := by decide +kernel
theorem dX3_lead_297 : decode cX3_lead 297 = .ok (.iconst 5, 1) := by decide +kernel
theorem dX3_lead_298 : decode cX3_lead 298 = .ok (.iload 7, 2) := by decide +kernel
theorem dX3_lead_300 : decode cX3_lead 300 = .ok (.imul, 1) := by decide +kernel
theorem dX3_lead_301 : decode cX3_lead 301 = .ok (.istore 8, 2) := by decide +kernel
theorem dX3_lead_303 : decode cX3_lead 303 = .ok (.aload_n 0, 1) := by decide +kernel
theorem dX3_lead_304 : decode cX3_lead 304 = .ok (.getfield 16, 3) := by decide +kernel
theorem dX3_lead_307 : decode cX3_lead 307 = .ok (.iload 8, 2) := by decide +kernel
theorem dX3_lead_309 : decode cX3_lead 309 = .ok (.iconst 4, 1) := by decide +kernel
theorem dX3_lead_310 : decode cX3_lead 310 = .ok (.iadd, 1) := by decide +kernel
theorem dX3_lead_311 : decode cX3_lead 311 = .ok (.iaload, 1) := by decide +kernel
theorem dX3_lead_312 : decode cX3_lead 312 = .ok (.iload_n 3, 1) := by decide +kernel
theorem dX3_lead_313 : decode cX3_lead 313 = .ok (.ifCond .eq 7, 3) := by decide +kernel
theorem dX3_lead_316 : decode cX3_lead 316 = .ok (.iconst 1, 1) := by decide +kernel
theorem dX3_lead_317 : decode cX3_lead 317 = .ok (.goto 4, 3) := by decide +kernel
theorem dX3_lead_320 : decode cX3_lead 320 = .ok (.iconst 0, 1) := by decide +kernel
theorem dX3_lead_321 : decode cX3_lead 321 = .ok (.ishr, 1) := by decide +kernel
theorem dX3_lead_322 : decode cX3_lead 322 = .ok (.iconst 1, 1) := by decide +kernel
theorem dX3_lead_323 : decode cX3_lead 323 = .ok (.iand, 1) := by decide +kernel
theorem dX3_lead_324 : decode cX3_lead 324 = .ok (.ifCond .ne 5, 3) := by decide +kernel
theorem dX3_lead_327 : decode cX3_lead 327 = .ok (.iconst 3, 1) := by decide +kernel
theorem dX3_lead_328 : decode cX3_lead 328 = .ok (.ireturn, 1) := by decide +kernel
theorem dX3_lead_329 : decode cX3_lead 329 = .ok (.iload 6, 2) := by decide +kernel
theorem dX3_lead_331 : decode cX3_lead 331 = .ok (.iconst 1, 1) := by decide +kernel
theorem dX3_lead_332 : decode cX3_lead 332 = .ok (.iconst 4, 1) := by decide +kernel
theorem dX3_lead_333 : decode cX3_lead 333 = .ok (.aload_n 0, 1) := by decide +kernel
theorem dX3_lead_334 : decode cX3_lead 334 = .ok (.getfield 16, 3) := by decide +kernel
theorem dX3_lead_337 : decode cX3_lead 337 = .ok (.iload 8, 2) := by decide +kernel
theorem dX3_lead_339 : decode cX3_lead 339 = .ok (.iconst 1, 1) := by decide +kernel
theorem dX3_lead_340 : decode cX3_lead 340 = .ok (.iadd, 1) := by decide +kernel
theorem dX3_lead_341 : decode cX3_lead 341 = .ok (.iaload, 1) := by decide +kernel
theorem dX3_lead_342 : decode cX3_lead 342 = .ok (.imul, 1) := by decide +kernel
theorem dX3_lead_343 : decode cX3_lead 343 = .ok (.ishl, 1) := by decide +kernel
theorem dX3_lead_344 : decode cX3_lead 344 = .ok (.iconst 1, 1) := by decide +kernel
theorem dX3_lead_345 : decode cX3_lead 345 = .ok (.isub, 1) := by decide +kernel
theorem dX3_lead_346 : decode cX3_lead 346 = .ok (.iand, 1) := by decide +kernel
theorem dX3_lead_347 : decode cX3_lead 347 = .ok (.istore 9, 2) := by decide +kernel
theorem dX3_lead_349 : decode cX3_lead 349 = .ok (.aload_n 0, 1) := by decide +kernel
theorem dX3_lead_350 : decode cX3_lead 350 = .ok (.sipush 256, 3) := by decide +kernel
theorem dX3_lead_353 : decode cX3_lead 353 = .ok (.aload_n 0, 1) := by decide +kernel
theorem dX3_lead_354 : decode cX3_lead 354 = .ok (.getfield 16, 3) := by decide +kernel
theorem dX3_lead_357 : decode cX3_lead 357 = .ok (.iload 8, 2) := by decide +kernel
theorem dX3_lead_359 : decode cX3_lead 359 = .ok (.iconst 3, 1) := by decide +kernel
theorem dX3_lead_360 : decode cX3_lead 360 = .ok (.iadd, 1) := by decide +kernel
theorem dX3_lead_361 : decode cX3_lead 361 = .ok (.iaload, 1) := by decide +kernel
theorem dX3_lead_362 : decode cX3_lead 362 = .ok (.iload 9, 2) := by decide +kernel
theorem dX3_lead_364 : decode cX3_lead 364 = .ok (.iadd, 1) := by decide +kernel
theorem dX3_lead_365 : decode cX3_lead 365 = .ok (.bipush 63, 2) := by decide +kernel
theorem dX3_lead_367 : decode cX3_lead 367 = .ok (.iand, 1) := by decide +kernel
theorem dX3_lead_368 : decode cX3_lead 368 = .ok (.imul, 1) := by decide +kernel
theorem dX3_lead_369 : decode cX3_lead 369 = .ok (.iload_n 2, 1) := by decide +kernel
theorem dX3_lead_370 : decode cX3_lead 370 = .ok (.sipush 255, 3) := by decide +kernel
theorem dX3_lead_373 : decode cX3_lead 373 = .ok (.iand, 1) := by decide +kernel
theorem dX3_lead_374 : decode cX3_lead 374 = .ok (.iadd, 1) := by decide +kernel
theorem dX3_lead_375 : decode cX3_lead 375 = .ok (.putfield 64, 3) := by decide +kernel
theorem dX3_lead_378 : decode cX3_lead 378 = .ok (.iconst 0, 1) := by decide +kernel
theorem dX3_lead_379 : decode cX3_lead 379 = .ok (.ireturn, 1) := by decide +kernel
set_option maxRecDepth 20000 in
theorem ggX3_may_X3_lead : GoodIn wsX3_may wsX3_lead := goodIn_r _ [9, 10, 11, 12, 13, 14, 15, 16, 17, 18, 19, 20, 21, 8, 22, 23, 24, 25, 26, 27, 28, 29, 30, 31, 32, 33, 34, 35, 36, 37, 38, 39, 40, 41, 42, 43, 44, 45, 46, 47, 48, 49, 50, 51, 52, 53, 54, 55] (by decide +kernel) (by decide +kernel)
set_option maxRecDepth 20000 in
theorem gX3_may_X3_lead : GoodIn wsX3_may (wsV RX3 77 RX3 yX3_lead wsX3_lead) := goodIn_app (goodIn_of _ (by decide +kernel)) ggX3_may_X3_lead
theorem dX3_may_0 : decode cX3_may 0 = .ok (.aload_n 0, 1) := by decide +kernel
theorem dX3_may_1 : decode cX3_may 1 = .ok (.aload_n 0, 1) := by decide +kernel
theorem dX3_may_2 : decode cX3_may 2 = .ok (.iload_n 1, 1) := by decide +kernel
theorem dX3_may_3 : decode cX3_may 3 = .ok (.iload_n 2, 1) := by decide +kernel
theorem dX3_may_4 : decode cX3_may 4 = .ok (.iload_n 3, 1) := by decide +kernel
theorem dX3_may_5 : decode cX3_may 5 = .ok (.invokevirtual 77, 3) := by decide +kernel
theorem dX3_may_8 : decode cX3_may 8 = .ok (.putfield 81, 3) := by decide +kernel
theorem dX3_may_11 : decode cX3_may 11 = .ok (.aload_n 0, 1) := by decide +kernel
theorem dX3_may_12 : decode cX3_may 12 = .ok (.getfield 81, 3) := by decide +kernel
theorem dX3_may_15 : decode cX3_may 15 = .ok (.ifCond .ne 5, 3) := by decide +kernel
theorem dX3_may_18 : decode cX3_may 18 = .ok (.iconst 1, 1) := by decide +kernel
theorem dX3_may_19 : decode cX3_may 19 = .ok (.ireturn, 1) := by decide +kernel
theorem dX3_may_20 : decode cX3_may 20 = .ok (.aload_n 0, 1) := by decide +kernel
theorem dX3_may_21 : decode cX3_may 21 = .ok (.getfield 84, 3) := by decide +kernel
theorem dX3_may_24 : decode cX3_may 24 = .ok (.bipush 6, 2) := by decide +kernel
theorem dX3_may_26 : decode cX3_may 26 = .ok (.if_icmp .ne 11, 3) := by decide +kernel
theorem dX3_may_29 : decode cX3_may 29 = .ok (.aload_n 0, 1) := by decide +kernel
theorem dX3_may_30 : decode cX3_may 30 = .ok (.iconst 1, 1) := by decide +kernel
theorem dX3_may_31 : decode cX3_may 31 = .ok (.putfield 87, 3) := by decide +kernel
theorem dX3_may_34 : decode cX3_may 34 = .ok (.goto 70, 3) := by decide +kernel
theorem dX3_may_37 : decode cX3_may 37 = .ok (.iconst 4, 1) := by decide +kernel
theorem dX3_may_38 : decode cX3_may 38 = .ok (.aload_n 0, 1) := by decide +kernel
theorem dX3_may_39 : decode cX3_may 39 = .ok (.getfield 84, 3) := by decide +kernel
theorem dX3_may_42 : decode cX3_may 42 = .ok (.imul, 1) := by decide +kernel
theorem dX3_may_43 : decode cX3_may 43 = .ok (.istore 4, 2) := by decide +kernel
theorem dX3_may_45 : decode cX3_may 45 = .ok (.aload_n 0, 1) := by decide +kernel
theorem dX3_may_46 : decode cX3_may 46 = .ok (.getfield 19, 3) := by decide +kernel
theorem dX3_may_49 : decode cX3_may 49 = .ok (.iload 4, 2) := by decide +kernel
theorem dX3_may_51 : decode cX3_may 51 = .ok (.aload_n 0, 1) := by decide +kernel
theorem dX3_may_52 : decode cX3_may 52 = .ok (.getfield 81, 3) := by decide +kernel
theorem dX3_may_55 : decode cX3_may 55 = .ok (.iastore, 1) := by decide +kernel
theorem dX3_may_56 : decode cX3_may 56 = .ok (.aload_n 0, 1) := by decide +kernel
theorem dX3_may_57 : decode cX3_may 57 = .ok (.getfield 19, 3) := by decide +kernel
theorem dX3_may_60 : decode cX3_may 60 = .ok (.iload 4, 2) := by decide +kernel
theorem dX3_may_62 : decode cX3_may 62 = .ok (.iconst 1, 1) := by decide +kernel
theorem dX3_may_63 : decode cX3_may 63 = .ok (.iadd, 1) := by decide +kernel
theorem dX3_may_64 : decode cX3_may 64 = .ok (.iload_n 1, 1) := by decide +kernel
theorem dX3_may_65 : decode cX3_may 65 = .ok (.iastore, 1) := by decide +kernel
theorem dX3_may_66 : decode cX3_may 66 = .ok (.aload_n 0, 1) := by decide +kernel
theorem dX3_may_67 : decode cX3_may 67 = .ok (.getfield 19, 3) := by decide +kernel
theorem dX3_may_70 : decode cX3_may 70 = .ok (.iload 4, 2) := by decide +kernel
theorem dX3_may_72 : decode cX3_may 72 = .ok (.iconst 2, 1) := by decide +kernel
theorem dX3_may_73 : decode cX3_may 73 = .ok (.iadd, 1) := by decide +kernel
theorem dX3_may_74 : decode cX3_may 74 = .ok (.iload_n 3, 1) := by decide +kernel
theorem dX3_may_75 : decode cX3_may 75 = .ok (.ifCond .eq 7, 3) := by decide +kernel
theorem dX3_may_78 : decode cX3_may 78 = .ok (.iconst 1, 1) := by decide +kernel
theorem dX3_may_79 : decode cX3_may 79 = .ok (.goto 4, 3) := by decide +kernel
theorem dX3_may_82 : decode cX3_may 82 = .ok (.iconst 0, 1) := by decide +kernel
theorem dX3_may_83 : decode cX3_may 83 = .ok (.iastore, 1) := by decide +kernel
theorem dX3_may_84 : decode cX3_may 84 = .ok (.aload_n 0, 1) := by decide +kernel
theorem dX3_may_85 : decode cX3_may 85 = .ok (.getfield 19, 3) := by decide +kernel
theorem dX3_may_88 : decode cX3_may 88 = .ok (.iload 4, 2) := by decide +kernel
theorem dX3_may_90 : decode cX3_may 90 = .ok (.iconst 3, 1) := by decide +kernel
theorem dX3_may_91 : decode cX3_may 91 = .ok (.iadd, 1) := by decide +kernel
theorem dX3_may_92 : decode cX3_may 92 = .ok (.iload_n 2, 1) := by decide +kernel
theorem dX3_may_93 : decode cX3_may 93 = .ok (.iastore, 1) := by decide +kernel
theorem dX3_may_94 : decode cX3_may 94 = .ok (.aload_n 0, 1) := by decide +kernel
theorem dX3_may_95 : decode cX3_may 95 = .ok (.dup, 1) := by decide +kernel
theorem dX3_may_96 : decode cX3_may 96 = .ok (.getfield 84, 3) := by decide +kernel
theorem dX3_may_99 : decode cX3_may 99 = .ok (.iconst 1, 1) := by decide +kernel
theorem dX3_may_100 : decode cX3_may 100 = .ok (.iadd, 1) := by decide +kernel
theorem dX3_may_101 : decode cX3_may 101 = .ok (.putfield 84, 3) := by decide +kernel
theorem dX3_may_104 : decode cX3_may 104 = .ok (.iconst 0, 1) := by decide +kernel
theorem dX3_may_105 : decode cX3_may 105 = .ok (.ireturn, 1) := by decide +kernel
set_option maxRecDepth 20000 in
theorem ggX3_read_X3_isDevice : GoodIn wsX3_read wsX3_isDevice := goodIn_r _ [7] (by decide +kernel) (by decide +kernel)
set_option maxRecDepth 20000 in
theorem gX3_read_X3_isDevice : GoodIn wsX3_read (va_wsS RX3 39 yX3_isDevice wsX3_isDevice) := goodIn_app (goodIn_of _ (by decide +kernel)) ggX3_read_X3_isDevice
set_option maxRecDepth 20000 in
theorem ggX3_read_X3_may : GoodIn wsX3_read wsX3_may := goodIn_r _ [11, 12, 13, 14, 15, 16, 17, 18, 6, 19, 20, 2, 21, 22, 23, 24, 3, 25, 26, 27, 28, 29, 30, 31, 32, 33, 34, 35, 36, 37, 38, 39, 40, 41, 42, 43, 44, 45, 46, 47, 48, 49, 50, 51, 52, 53, 54, 55, 56, 57, 58, 59, 60, 61, 62, 63] (by decide +kernel) (by decide +kernel)
set_option maxRecDepth 20000 in
theorem gX3_read_X3_may : GoodIn wsX3_read (wsV RX3 91 RX3 yX3_may wsX3_may) := goodIn_app (goodIn_of _ (by decide +kernel)) ggX3_read_X3_may
theorem dX3_read_0 : decode cX3_read 0 = .ok (.aload_n 0, 1) := by decide +kernel
theorem dX3_read_1 : decode cX3_read 1 = .ok (.iconst 0, 1) := by decide +kernel
theorem dX3_read_2 : decode cX3_read 2 = .ok (.putfield 28, 3) := by decide +kernel
theorem dX3_read_5 : decode cX3_read 5 = .ok (.iload_n 1, 1) := by decide +kernel
theorem dX3_read_6 : decode cX3_read 6 = .ok (.invokestatic 39, 3) := by decide +kernel
theorem dX3_read_9 : decode cX3_read 9 = .ok (.ifCond .ne 10, 3) := by decide +kernel
theorem dX3_read_12 : decode cX3_read 12 = .ok (.aload_n 0, 1) := by decide +kernel
theorem dX3_read_13 : decode cX3_read 13 = .ok (.iconst 1, 1) := by decide +kernel
theorem dX3_read_14 : decode cX3_read 14 = .ok (.putfield 28, 3) := by decide +kernel
theorem dX3_read_17 : decode cX3_read 17 = .ok (.iconst 0, 1) := by decide +kernel
theorem dX3_read_18 : decode cX3_read 18 = .ok (.ireturn, 1) := by decide +kernel
theorem dX3_read_19 : decode cX3_read 19 = .ok (.aload_n 0, 1) := by decide +kernel
theorem dX3_read_20 : decode cX3_read 20 = .ok (.iload_n 1, 1) := by decide +kernel
theorem dX3_read_21 : decode cX3_read 21 = .ok (.iload_n 2, 1) := by decide +kernel
theorem dX3_read_22 : decode cX3_read 22 = .ok (.iconst 0, 1) := by decide +kernel
theorem dX3_read_23 : decode cX3_read 23 = .ok (.invokevirtual 91, 3) := by decide +kernel
theorem dX3_read_26 : decode cX3_read 26 = .ok (.ifCond .eq 15, 3) := by decide +kernel
theorem dX3_read_29 : decode cX3_read 29 = .ok (.aload_n 0, 1) := by decide +kernel
theorem dX3_read_30 : decode cX3_read 30 = .ok (.getfield 9, 3) := by decide +kernel
theorem dX3_read_33 : decode cX3_read 33 = .ok (.aload_n 0, 1) := by decide +kernel
theorem dX3_read_34 : decode cX3_read 34 = .ok (.getfield 64, 3) := by decide +kernel
theorem dX3_read_37 : decode cX3_read 37 = .ok (.iaload, 1) := by decide +kernel
theorem dX3_read_38 : decode cX3_read 38 = .ok (.goto 4, 3) := by decide +kernel
theorem dX3_read_41 : decode cX3_read 41 = .ok (.iconst 0, 1) := by decide +kernel
theorem dX3_read_42 : decode cX3_read 42 = .ok (.ireturn, 1) := by decide +kernel
set_option maxRecDepth 20000 in
theorem ggX3_write_X3_isDevice : GoodIn wsX3_write wsX3_isDevice := goodIn_r _ [8] (by decide +kernel) (by decide +kernel)
set_option maxRecDepth 20000 in
theorem gX3_write_X3_isDevice : GoodIn wsX3_write (va_wsS RX3 39 yX3_isDevice wsX3_isDevice) := goodIn_app (goodIn_of _ (by decide +kernel)) ggX3_write_X3_isDevice
set_option maxRecDepth 20000 in
theorem ggX3_write_X3_may : GoodIn wsX3_write wsX3_may := goodIn_r _ [12, 2, 13, 14, 15, 16, 17, 18, 7, 19, 20, 3, 21, 22, 23, 24, 4, 25, 26, 27, 28, 29, 30, 31, 32, 33, 34, 35, 36, 37, 38, 39, 40, 41, 42, 43, 44, 45, 46, 47, 48, 49, 50, 51, 52, 53, 54, 55, 56, 57, 58, 59, 60, 61, 62, 63] (by decide +kernel) (by decide +kernel)
set_option maxRecDepth 20000 in
theorem gX3_write_X3_may : GoodIn wsX3_write (wsV RX3 91 RX3 yX3_may wsX3_may) := goodIn_app (goodIn_of _ (by decide +kernel)) ggX3_write_X3_may
theorem dX3_write_0 : decode cX3_write 0 = .ok (.aload_n 0, 1) := by decide +kernel
theorem dX3_write_1 : decode cX3_write 1 = .ok (.iconst 0, 1) := by decide +kernel
theorem dX3_write_2 : decode cX3_write 2 = .ok (.putfield 28, 3) := by decide +kernel
theorem dX3_write_5 : decode cX3_write 5 = .ok (.aload_n 0, 1) := by decide +kernel
theorem dX3_write_6 : decode cX3_write 6 = .ok (.iconst 0, 1) := by decide +kernel
theorem dX3_write_7 : decode cX3_write 7 = .ok (.putfield 81, 3) := by decide +kernel
theorem dX3_write_10 : decode cX3_write 10 = .ok (.iload_n 1, 1) := by decide +kernel
theorem dX3_write_11 : decode cX3_write 11 = .ok (.invokestatic 39, 3) := by decide +kernel
theorem dX3_write_14 : decode cX3_write 14 = .ok (.ifCond .eq 13, 3) := by decide +kernel
theorem dX3_write_17 : decode cX3_write 17 = .ok (.aload_n 0, 1) := by decide +kernel
theorem dX3_write_18 : decode cX3_write 18 = .ok (.iload_n 1, 1) := by decide +kernel
theorem dX3_write_19 : decode cX3_write 19 = .ok (.iload_n 2, 1) := by decide +kernel
theorem dX3_write_20 : decode cX3_write 20 = .ok (.iconst 1, 1) := by decide +kernel
theorem dX3_write_21 : decode cX3_write 21 = .ok (.invokevirtual 91, 3) := by decide +kernel
theorem dX3_write_24 : decode cX3_write 24 = .ok (.ifCond .ne 5, 3) := by decide +kernel
theorem dX3_write_27 : decode cX3_write 27 = .ok (.iconst 0, 1) := by decide +kernel
theorem dX3_write_28 : decode cX3_write 28 = .ok (.ireturn, 1) := by decide +kernel
theorem dX3_write_29 : decode cX3_write 29 = .ok (.aload_n 0, 1) := by decide +kernel
theorem dX3_write_30 : decode cX3_write 30 = .ok (.getfield 9, 3) := by decide +kernel
theorem dX3_write_33 : decode cX3_write 33 = .ok (.aload_n 0, 1) := by decide +kernel
theorem dX3_write_34 : decode cX3_write 34 = .ok (.getfield 64, 3) := by decide +kernel
theorem dX3_write_37 : decode cX3_write 37 = .ok (.iload_n 3, 1) := by decide +kernel
theorem dX3_write_38 : decode cX3_write 38 = .ok (.iastore, 1) := by decide +kernel
theorem dX3_write_39 : decode cX3_write 39 = .ok (.iconst 1, 1) := by decide +kernel
theorem dX3_write_40 : decode cX3_write 40 = .ok (.ireturn, 1) := by decide +kernel
theorem dX3_fault_0 : decode cX3_fault 0 = .ok (.aload_n 0, 1) := by decide +kernel
theorem dX3_fault_1 : decode cX3_fault 1 = .ok (.iconst 0, 1) := by decide +kernel
theorem dX3_fault_2 : decode cX3_fault 2 = .ok (.putfield 28, 3) := by decide +kernel
theorem dX3_fault_5 : decode cX3_fault 5 = .ok (.aload_n 0, 1) := by decide +kernel
theorem dX3_fault_6 : decode cX3_fault 6 = .ok (.getfield 81, 3) := by decide +kernel
theorem dX3_fault_9 : decode cX3_fault 9 = .ok (.ireturn, 1) := by decide +kernel
set_option maxRecDepth 20000 in
theorem ggX3_ring_X3_isDevice : GoodIn wsX3_ring wsX3_isDevice := goodIn_r _ [7] (by decide +kernel) (by decide +kernel)
set_option maxRecDepth 20000 in
theorem gX3_ring_X3_isDevice : GoodIn wsX3_ring (va_wsS RX3 39 yX3_isDevice wsX3_isDevice) := goodIn_app (goodIn_of _ (by decide +kernel)) ggX3_ring_X3_isDevice
theorem dX3_ring_0 : decode cX3_ring 0 = .ok (.aload_n 0, 1) := by decide +kernel
theorem dX3_ring_1 : decode cX3_ring 1 = .ok (.iconst 0, 1) := by decide +kernel
theorem dX3_ring_2 : decode cX3_ring 2 = .ok (.putfield 28, 3) := by decide +kernel
theorem dX3_ring_5 : decode cX3_ring 5 = .ok (.iload_n 1, 1) := by decide +kernel
theorem dX3_ring_6 : decode cX3_ring 6 = .ok (.invokestatic 39, 3) := by decide +kernel
theorem dX3_ring_9 : decode cX3_ring 9 = .ok (.ifCond .eq 30, 3) := by decide +kernel
theorem dX3_ring_12 : decode cX3_ring 12 = .ok (.iload_n 2, 1) := by decide +kernel
theorem dX3_ring_13 : decode cX3_ring 13 = .ok (.ifCond .lt 26, 3) := by decide +kernel
theorem dX3_ring_16 : decode cX3_ring 16 = .ok (.iload_n 2, 1) := by decide +kernel
theorem dX3_ring_17 : decode cX3_ring 17 = .ok (.ldc 95, 2) := by decide +kernel
theorem dX3_ring_19 : decode cX3_ring 19 = .ok (.if_icmp .gt 20, 3) := by decide +kernel
theorem dX3_ring_22 : decode cX3_ring 22 = .ok (.iload_n 2, 1) := by decide +kernel
theorem dX3_ring_23 : decode cX3_ring 23 = .ok (.iconst 4, 1) := by decide +kernel
theorem dX3_ring_24 : decode cX3_ring 24 = .ok (.irem, 1) := by decide +kernel
theorem dX3_ring_25 : decode cX3_ring 25 = .ok (.ifCond .ne 14, 3) := by decide +kernel
theorem dX3_ring_28 : decode cX3_ring 28 = .ok (.iload_n 3, 1) := by decide +kernel
theorem dX3_ring_29 : decode cX3_ring 29 = .ok (.iconst 1, 1) := by decide +kernel
theorem dX3_ring_30 : decode cX3_ring 30 = .ok (.if_icmp .lt 9, 3) := by decide +kernel
theorem dX3_ring_33 : decode cX3_ring 33 = .ok (.iload_n 3, 1) := by decide +kernel
theorem dX3_ring_34 : decode cX3_ring 34 = .ok (.bipush 64, 2) := by decide +kernel
theorem dX3_ring_36 : decode cX3_ring 36 = .ok (.if_icmp .le 5, 3) := by decide +kernel
theorem dX3_ring_39 : decode cX3_ring 39 = .ok (.iconst 0, 1) := by decide +kernel
theorem dX3_ring_40 : decode cX3_ring 40 = .ok (.ireturn, 1) := by decide +kernel
theorem dX3_ring_41 : decode cX3_ring 41 = .ok (.bipush 11, 2) := by decide +kernel
theorem dX3_ring_43 : decode cX3_ring 43 = .ok (.iload_n 1, 1) := by decide +kernel
theorem dX3_ring_44 : decode cX3_ring 44 = .ok (.imul, 1) := by decide +kernel
theorem dX3_ring_45 : decode cX3_ring 45 = .ok (.istore 4, 2) := by decide +kernel
theorem dX3_ring_47 : decode cX3_ring 47 = .ok (.aload_n 0, 1) := by decide +kernel
theorem dX3_ring_48 : decode cX3_ring 48 = .ok (.getfield 25, 3) := by decide +kernel
theorem dX3_ring_51 : decode cX3_ring 51 = .ok (.iload 4, 2) := by decide +kernel
theorem dX3_ring_53 : decode cX3_ring 53 = .ok (.iload_n 2, 1) := by decide +kernel
theorem dX3_ring_54 : decode cX3_ring 54 = .ok (.iastore, 1) := by decide +kernel
theorem dX3_ring_55 : decode cX3_ring 55 = .ok (.aload_n 0, 1) := by decide +kernel
theorem dX3_ring_56 : decode cX3_ring 56 = .ok (.getfield 25, 3) := by decide +kernel
theorem dX3_ring_59 : decode cX3_ring 59 = .ok (.iload 4, 2) := by decide +kernel
theorem dX3_ring_61 : decode cX3_ring 61 = .ok (.iconst 1, 1) := by decide +kernel
theorem dX3_ring_62 : decode cX3_ring 62 = .ok (.iadd, 1) := by decide +kernel
theorem dX3_ring_63 : decode cX3_ring 63 = .ok (.iload_n 3, 1) := by decide +kernel
theorem dX3_ring_64 : decode cX3_ring 64 = .ok (.iastore, 1) := by decide +kernel
theorem dX3_ring_65 : decode cX3_ring 65 = .ok (.aload_n 0, 1) := by decide +kernel
theorem dX3_ring_66 : decode cX3_ring 66 = .ok (.getfield 25, 3) := by decide +kernel
theorem dX3_ring_69 : decode cX3_ring 69 = .ok (.iload 4, 2) := by decide +kernel
theorem dX3_ring_71 : decode cX3_ring 71 = .ok (.iconst 2, 1) := by decide +kernel
theorem dX3_ring_72 : decode cX3_ring 72 = .ok (.iadd, 1) := by decide +kernel
theorem dX3_ring_73 : decode cX3_ring 73 = .ok (.iconst 0, 1) := by decide +kernel
theorem dX3_ring_74 : decode cX3_ring 74 = .ok (.iastore, 1) := by decide +kernel
theorem dX3_ring_75 : decode cX3_ring 75 = .ok (.aload_n 0, 1) := by decide +kernel
theorem dX3_ring_76 : decode cX3_ring 76 = .ok (.getfield 25, 3) := by decide +kernel
theorem dX3_ring_79 : decode cX3_ring 79 = .ok (.iload 4, 2) := by decide +kernel
theorem dX3_ring_81 : decode cX3_ring 81 = .ok (.iconst 3, 1) := by decide +kernel
theorem dX3_ring_82 : decode cX3_ring 82 = .ok (.iadd, 1) := by decide +kernel
theorem dX3_ring_83 : decode cX3_ring 83 = .ok (.iconst 0, 1) := by decide +kernel
theorem dX3_ring_84 : decode cX3_ring 84 = .ok (.iastore, 1) := by decide +kernel
theorem dX3_ring_85 : decode cX3_ring 85 = .ok (.aload_n 0, 1) := by decide +kernel
theorem dX3_ring_86 : decode cX3_ring 86 = .ok (.getfield 25, 3) := by decide +kernel
theorem dX3_ring_89 : decode cX3_ring 89 = .ok (.iload 4, 2) := by decide +kernel
theorem dX3_ring_91 : decode cX3_ring 91 = .ok (.iconst 4, 1) := by decide +kernel
theorem dX3_ring_92 : decode cX3_ring 92 = .ok (.iadd, 1) := by decide +kernel
theorem dX3_ring_93 : decode cX3_ring 93 = .ok (.iconst 0, 1) := by decide +kernel
theorem dX3_ring_94 : decode cX3_ring 94 = .ok (.iastore, 1) := by decide +kernel
theorem dX3_ring_95 : decode cX3_ring 95 = .ok (.aload_n 0, 1) := by decide +kernel
theorem dX3_ring_96 : decode cX3_ring 96 = .ok (.getfield 25, 3) := by decide +kernel
theorem dX3_ring_99 : decode cX3_ring 99 = .ok (.iload 4, 2) := by decide +kernel
theorem dX3_ring_101 : decode cX3_ring 101 = .ok (.bipush 6, 2) := by decide +kernel
theorem dX3_ring_103 : decode cX3_ring 103 = .ok (.iadd, 1) := by decide +kernel
theorem dX3_ring_104 : decode cX3_ring 104 = .ok (.iconst (-1), 1) := by decide +kernel
theorem dX3_ring_105 : decode cX3_ring 105 = .ok (.iastore, 1) := by decide +kernel
theorem dX3_ring_106 : decode cX3_ring 106 = .ok (.iconst 1, 1) := by decide +kernel
theorem dX3_ring_107 : decode cX3_ring 107 = .ok (.ireturn, 1) := by decide +kernel
set_option maxRecDepth 20000 in
theorem ggX3_tail_X3_isDevice : GoodIn wsX3_tail wsX3_isDevice := goodIn_r _ [6] (by decide +kernel) (by decide +kernel)
set_option maxRecDepth 20000 in
theorem gX3_tail_X3_isDevice : GoodIn wsX3_tail (va_wsS RX3 39 yX3_isDevice wsX3_isDevice) := goodIn_app (goodIn_of _ (by decide +kernel)) ggX3_tail_X3_isDevice
theorem dX3_tail_0 : decode cX3_tail 0 = .ok (.aload_n 0, 1) := by decide +kernel
theorem dX3_tail_1 : decode cX3_tail 1 = .ok (.iconst 0, 1) := by decide +kernel
theorem dX3_tail_2 : decode cX3_tail 2 = .ok (.putfield 28, 3) := by decide +kernel
theorem dX3_tail_5 : decode cX3_tail 5 = .ok (.iload_n 1, 1) := by decide +kernel
theorem dX3_tail_6 : decode cX3_tail 6 = .ok (.invokestatic 39, 3) := by decide +kernel
theorem dX3_tail_9 : decode cX3_tail 9 = .ok (.ifCond .eq 22, 3) := by decide +kernel
theorem dX3_tail_12 : decode cX3_tail 12 = .ok (.iload_n 2, 1) := by decide +kernel
theorem dX3_tail_13 : decode cX3_tail 13 = .ok (.ifCond .lt 18, 3) := by decide +kernel
theorem dX3_tail_16 : decode cX3_tail 16 = .ok (.iload_n 2, 1) := by decide +kernel
theorem dX3_tail_17 : decode cX3_tail 17 = .ok (.aload_n 0, 1) := by decide +kernel
theorem dX3_tail_18 : decode cX3_tail 18 = .ok (.getfield 25, 3) := by decide +kernel
theorem dX3_tail_21 : decode cX3_tail 21 = .ok (.bipush 11, 2) := by decide +kernel
theorem dX3_tail_23 : decode cX3_tail 23 = .ok (.iload_n 1, 1) := by decide +kernel
theorem dX3_tail_24 : decode cX3_tail 24 = .ok (.imul, 1) := by decide +kernel
theorem dX3_tail_25 : decode cX3_tail 25 = .ok (.iconst 1, 1) := by decide +kernel
theorem dX3_tail_26 : decode cX3_tail 26 = .ok (.iadd, 1) := by decide +kernel
theorem dX3_tail_27 : decode cX3_tail 27 = .ok (.iaload, 1) := by decide +kernel
theorem dX3_tail_28 : decode cX3_tail 28 = .ok (.if_icmp .lt 5, 3) := by decide +kernel
theorem dX3_tail_31 : decode cX3_tail 31 = .ok (.iconst (-1), 1) := by decide +kernel
theorem dX3_tail_32 : decode cX3_tail 32 = .ok (.ireturn, 1) := by decide +kernel
theorem dX3_tail_33 : decode cX3_tail 33 = .ok (.bipush 11, 2) := by decide +kernel
theorem dX3_tail_35 : decode cX3_tail 35 = .ok (.iload_n 1, 1) := by decide +kernel
theorem dX3_tail_36 : decode cX3_tail 36 = .ok (.imul, 1) := by decide +kernel
theorem dX3_tail_37 : decode cX3_tail 37 = .ok (.istore_n 3, 1) := by decide +kernel
theorem dX3_tail_38 : decode cX3_tail 38 = .ok (.aload_n 0, 1) := by decide +kernel
theorem dX3_tail_39 : decode cX3_tail 39 = .ok (.getfield 25, 3) := by decide +kernel
theorem dX3_tail_42 : decode cX3_tail 42 = .ok (.iload_n 3, 1) := by decide +kernel
theorem dX3_tail_43 : decode cX3_tail 43 = .ok (.iconst 3, 1) := by decide +kernel
theorem dX3_tail_44 : decode cX3_tail 44 = .ok (.iadd, 1) := by decide +kernel
theorem dX3_tail_45 : decode cX3_tail 45 = .ok (.iload_n 2, 1) := by decide +kernel
theorem dX3_tail_46 : decode cX3_tail 46 = .ok (.iastore, 1) := by decide +kernel
theorem dX3_tail_47 : decode cX3_tail 47 = .ok (.aload_n 0, 1) := by decide +kernel
theorem dX3_tail_48 : decode cX3_tail 48 = .ok (.getfield 25, 3) := by decide +kernel
theorem dX3_tail_51 : decode cX3_tail 51 = .ok (.iload_n 3, 1) := by decide +kernel
theorem dX3_tail_52 : decode cX3_tail 52 = .ok (.iconst 4, 1) := by decide +kernel
theorem dX3_tail_53 : decode cX3_tail 53 = .ok (.iadd, 1) := by decide +kernel
theorem dX3_tail_54 : decode cX3_tail 54 = .ok (.iaload, 1) := by decide +kernel
theorem dX3_tail_55 : decode cX3_tail 55 = .ok (.ifCond .ne 24, 3) := by decide +kernel
theorem dX3_tail_58 : decode cX3_tail 58 = .ok (.aload_n 0, 1) := by decide +kernel
theorem dX3_tail_59 : decode cX3_tail 59 = .ok (.getfield 25, 3) := by decide +kernel
theorem dX3_tail_62 : decode cX3_tail 62 = .ok (.iload_n 3, 1) := by decide +kernel
theorem dX3_tail_63 : decode cX3_tail 63 = .ok (.iconst 2, 1) := by decide +kernel
theorem dX3_tail_64 : decode cX3_tail 64 = .ok (.iadd, 1) := by decide +kernel
theorem dX3_tail_65 : decode cX3_tail 65 = .ok (.iaload, 1) := by decide +kernel
theorem dX3_tail_66 : decode cX3_tail 66 = .ok (.iload_n 2, 1) := by decide +kernel
theorem dX3_tail_67 : decode cX3_tail 67 = .ok (.if_icmp .eq 12, 3) := by decide +kernel
theorem dX3_tail_70 : decode cX3_tail 70 = .ok (.aload_n 0, 1) := by decide +kernel
theorem dX3_tail_71 : decode cX3_tail 71 = .ok (.getfield 25, 3) := by decide +kernel
theorem dX3_tail_74 : decode cX3_tail 74 = .ok (.iload_n 3, 1) := by decide +kernel
theorem dX3_tail_75 : decode cX3_tail 75 = .ok (.iconst 4, 1) := by decide +kernel
theorem dX3_tail_76 : decode cX3_tail 76 = .ok (.iadd, 1) := by decide +kernel
theorem dX3_tail_77 : decode cX3_tail 77 = .ok (.iconst 1, 1) := by decide +kernel
theorem dX3_tail_78 : decode cX3_tail 78 = .ok (.iastore, 1) := by decide +kernel
theorem dX3_tail_79 : decode cX3_tail 79 = .ok (.aload_n 0, 1) := by decide +kernel
theorem dX3_tail_80 : decode cX3_tail 80 = .ok (.getfield 25, 3) := by decide +kernel
theorem dX3_tail_83 : decode cX3_tail 83 = .ok (.iload_n 3, 1) := by decide +kernel
theorem dX3_tail_84 : decode cX3_tail 84 = .ok (.iconst 4, 1) := by decide +kernel
theorem dX3_tail_85 : decode cX3_tail 85 = .ok (.iadd, 1) := by decide +kernel
theorem dX3_tail_86 : decode cX3_tail 86 = .ok (.iaload, 1) := by decide +kernel
theorem dX3_tail_87 : decode cX3_tail 87 = .ok (.ireturn, 1) := by decide +kernel
set_option maxRecDepth 20000 in
theorem ggX3_go_X3_may : GoodIn wsX3_go wsX3_may := goodIn_r _ [8, 9, 10, 11, 12, 13, 14, 15, 7, 16, 17, 2, 18, 19, 20, 21, 3, 22, 23, 24, 25, 26, 27, 28, 29, 30, 31, 32, 33, 34, 35, 36, 37, 38, 39, 40, 41, 42, 43, 44, 45, 46, 47, 48, 49, 50, 51, 52, 53, 54, 55, 56, 57, 58, 59, 60] (by decide +kernel) (by decide +kernel)
set_option maxRecDepth 20000 in
theorem gX3_go_X3_may : GoodIn wsX3_go (wsV RX3 91 RX3 yX3_may wsX3_may) := goodIn_app (goodIn_of _ (by decide +kernel)) ggX3_go_X3_may
theorem dX3_go_0 : decode cX3_go 0 = .ok (.bipush 11, 2) := by decide +kernel
theorem dX3_go_2 : decode cX3_go 2 = .ok (.iload_n 1, 1) := by decide +kernel
theorem dX3_go_3 : decode cX3_go 3 = .ok (.imul, 1) := by decide +kernel
theorem dX3_go_4 : decode cX3_go 4 = .ok (.istore_n 2, 1) := by decide +kernel
theorem dX3_go_5 : decode cX3_go 5 = .ok (.aload_n 0, 1) := by decide +kernel
theorem dX3_go_6 : decode cX3_go 6 = .ok (.getfield 25, 3) := by decide +kernel
theorem dX3_go_9 : decode cX3_go 9 = .ok (.iload_n 2, 1) := by decide +kernel
theorem dX3_go_10 : decode cX3_go 10 = .ok (.iaload, 1) := by decide +kernel
theorem dX3_go_11 : decode cX3_go 11 = .ok (.iconst 4, 1) := by decide +kernel
theorem dX3_go_12 : decode cX3_go 12 = .ok (.aload_n 0, 1) := by decide +kernel
theorem dX3_go_13 : decode cX3_go 13 = .ok (.getfield 25, 3) := by decide +kernel
theorem dX3_go_16 : decode cX3_go 16 = .ok (.iload_n 2, 1) := by decide +kernel
theorem dX3_go_17 : decode cX3_go 17 = .ok (.iconst 2, 1) := by decide +kernel
theorem dX3_go_18 : decode cX3_go 18 = .ok (.iadd, 1) := by decide +kernel
theorem dX3_go_19 : decode cX3_go 19 = .ok (.iaload, 1) := by decide +kernel
theorem dX3_go_20 : decode cX3_go 20 = .ok (.imul, 1) := by decide +kernel
theorem dX3_go_21 : decode cX3_go 21 = .ok (.iadd, 1) := by decide +kernel
theorem dX3_go_22 : decode cX3_go 22 = .ok (.istore_n 3, 1) := by decide +kernel
theorem dX3_go_23 : decode cX3_go 23 = .ok (.aload_n 0, 1) := by decide +kernel
theorem dX3_go_24 : decode cX3_go 24 = .ok (.getfield 25, 3) := by decide +kernel
theorem dX3_go_27 : decode cX3_go 27 = .ok (.iload_n 2, 1) := by decide +kernel
theorem dX3_go_28 : decode cX3_go 28 = .ok (.bipush 6, 2) := by decide +kernel
theorem dX3_go_30 : decode cX3_go 30 = .ok (.iadd, 1) := by decide +kernel
theorem dX3_go_31 : decode cX3_go 31 = .ok (.iaload, 1) := by decide +kernel
theorem dX3_go_32 : decode cX3_go 32 = .ok (.iconst (-1), 1) := by decide +kernel
theorem dX3_go_33 : decode cX3_go 33 = .ok (.if_icmp .ne 81, 3) := by decide +kernel
theorem dX3_go_36 : decode cX3_go 36 = .ok (.iconst 0, 1) := by decide +kernel
theorem dX3_go_37 : decode cX3_go 37 = .ok (.istore 4, 2) := by decide +kernel
theorem dX3_go_39 : decode cX3_go 39 = .ok (.iload 4, 2) := by decide +kernel
theorem dX3_go_41 : decode cX3_go 41 = .ok (.iconst 4, 1) := by decide +kernel
theorem dX3_go_42 : decode cX3_go 42 = .ok (.if_icmp .ge 45, 3) := by decide +kernel
theorem dX3_go_45 : decode cX3_go 45 = .ok (.aload_n 0, 1) := by decide +kernel
theorem dX3_go_46 : decode cX3_go 46 = .ok (.iload_n 1, 1) := by decide +kernel
theorem dX3_go_47 : decode cX3_go 47 = .ok (.iload_n 3, 1) := by decide +kernel
theorem dX3_go_48 : decode cX3_go 48 = .ok (.iload 4, 2) := by decide +kernel
theorem dX3_go_50 : decode cX3_go 50 = .ok (.iadd, 1) := by decide +kernel
theorem dX3_go_51 : decode cX3_go 51 = .ok (.iconst 0, 1) := by decide +kernel
theorem dX3_go_52 : decode cX3_go 52 = .ok (.invokevirtual 91, 3) := by decide +kernel
theorem dX3_go_55 : decode cX3_go 55 = .ok (.ifCond .ne 5, 3) := by decide +kernel
theorem dX3_go_58 : decode cX3_go 58 = .ok (.iconst 0, 1) := by decide +kernel
theorem dX3_go_59 : decode cX3_go 59 = .ok (.ireturn, 1) := by decide +kernel
theorem dX3_go_60 : decode cX3_go 60 = .ok (.aload_n 0, 1) := by decide +kernel
theorem dX3_go_61 : decode cX3_go 61 = .ok (.getfield 25, 3) := by decide +kernel
theorem dX3_go_64 : decode cX3_go 64 = .ok (.iload_n 2, 1) := by decide +kernel
theorem dX3_go_65 : decode cX3_go 65 = .ok (.bipush 7, 2) := by decide +kernel
theorem dX3_go_67 : decode cX3_go 67 = .ok (.iadd, 1) := by decide +kernel
theorem dX3_go_68 : decode cX3_go 68 = .ok (.iload 4, 2) := by decide +kernel
theorem dX3_go_70 : decode cX3_go 70 = .ok (.iadd, 1) := by decide +kernel
theorem dX3_go_71 : decode cX3_go 71 = .ok (.aload_n 0, 1) := by decide +kernel
theorem dX3_go_72 : decode cX3_go 72 = .ok (.getfield 9, 3) := by decide +kernel
theorem dX3_go_75 : decode cX3_go 75 = .ok (.aload_n 0, 1) := by decide +kernel
theorem dX3_go_76 : decode cX3_go 76 = .ok (.getfield 64, 3) := by decide +kernel
theorem dX3_go_79 : decode cX3_go 79 = .ok (.iaload, 1) := by decide +kernel
theorem dX3_go_80 : decode cX3_go 80 = .ok (.iastore, 1) := by decide +kernel
theorem dX3_go_81 : decode cX3_go 81 = .ok (.iinc 4 1, 3) := by decide +kernel
theorem dX3_go_84 : decode cX3_go 84 = .ok (.goto (-45), 3) := by decide +kernel
theorem dX3_go_87 : decode cX3_go 87 = .ok (.aload_n 0, 1) := by decide +kernel
theorem dX3_go_88 : decode cX3_go 88 = .ok (.getfield 25, 3) := by decide +kernel
theorem dX3_go_91 : decode cX3_go 91 = .ok (.iload_n 2, 1) := by decide +kernel
theorem dX3_go_92 : decode cX3_go 92 = .ok (.bipush 9, 2) := by decide +kernel
theorem dX3_go_94 : decode cX3_go 94 = .ok (.iadd, 1) := by decide +kernel
theorem dX3_go_95 : decode cX3_go 95 = .ok (.dup2, 1) := by decide +kernel
theorem dX3_go_96 : decode cX3_go 96 = .ok (.iaload, 1) := by decide +kernel
theorem dX3_go_97 : decode cX3_go 97 = .ok (.sipush 255, 3) := by decide +kernel
theorem dX3_go_100 : decode cX3_go 100 = .ok (.iand, 1) := by decide +kernel
theorem dX3_go_101 : decode cX3_go 101 = .ok (.iastore, 1) := by decide +kernel
theorem dX3_go_102 : decode cX3_go 102 = .ok (.aload_n 0, 1) := by decide +kernel
theorem dX3_go_103 : decode cX3_go 103 = .ok (.getfield 25, 3) := by decide +kernel
theorem dX3_go_106 : decode cX3_go 106 = .ok (.iload_n 2, 1) := by decide +kernel
theorem dX3_go_107 : decode cX3_go 107 = .ok (.bipush 6, 2) := by decide +kernel
theorem dX3_go_109 : decode cX3_go 109 = .ok (.iadd, 1) := by decide +kernel
theorem dX3_go_110 : decode cX3_go 110 = .ok (.iconst 0, 1) := by decide +kernel
theorem dX3_go_111 : decode cX3_go 111 = .ok (.iastore, 1) := by decide +kernel
theorem dX3_go_112 : decode cX3_go 112 = .ok (.iconst 1, 1) := by decide +kernel
theorem dX3_go_113 : decode cX3_go 113 = .ok (.ireturn, 1) := by decide +kernel
theorem dX3_go_114 : decode cX3_go 114 = .ok (.aload_n 0, 1) := by decide +kernel
theorem dX3_go_115 : decode cX3_go 115 = .ok (.getfield 25, 3) := by decide +kernel
theorem dX3_go_118 : decode cX3_go 118 = .ok (.iload_n 2, 1) := by decide +kernel
theorem dX3_go_119 : decode cX3_go 119 = .ok (.bipush 6, 2) := by decide +kernel
theorem dX3_go_121 : decode cX3_go 121 = .ok (.iadd, 1) := by decide +kernel
theorem dX3_go_122 : decode cX3_go 122 = .ok (.iaload, 1) := by decide +kernel
theorem dX3_go_123 : decode cX3_go 123 = .ok (.istore 4, 2) := by decide +kernel
theorem dX3_go_125 : decode cX3_go 125 = .ok (.iload 4, 2) := by decide +kernel
theorem dX3_go_127 : decode cX3_go 127 = .ok (.aload_n 0, 1) := by decide +kernel
theorem dX3_go_128 : decode cX3_go 128 = .ok (.getfield 25, 3) := by decide +kernel
theorem dX3_go_131 : decode cX3_go 131 = .ok (.iload_n 2, 1) := by decide +kernel
theorem dX3_go_132 : decode cX3_go 132 = .ok (.bipush 9, 2) := by decide +kernel
theorem dX3_go_134 : decode cX3_go 134 = .ok (.iadd, 1) := by decide +kernel
theorem dX3_go_135 : decode cX3_go 135 = .ok (.iaload, 1) := by decide +kernel
theorem dX3_go_136 : decode cX3_go 136 = .ok (.if_icmp .ge 86, 3) := by decide +kernel
theorem dX3_go_139 : decode cX3_go 139 = .ok (.aload_n 0, 1) := by decide +kernel
theorem dX3_go_140 : decode cX3_go 140 = .ok (.iload_n 1, 1) := by decide +kernel
theorem dX3_go_141 : decode cX3_go 141 = .ok (.aload_n 0, 1) := by decide +kernel
theorem dX3_go_142 : decode cX3_go 142 = .ok (.getfield 25, 3) := by decide +kernel
theorem dX3_go_145 : decode cX3_go 145 = .ok (.iload_n 2, 1) := by decide +kernel
theorem dX3_go_146 : decode cX3_go 146 = .ok (.bipush 7, 2) := by decide +kernel
theorem dX3_go_148 : decode cX3_go 148 = .ok (.iadd, 1) := by decide +kernel
theorem dX3_go_149 : decode cX3_go 149 = .ok (.iaload, 1) := by decide +kernel
theorem dX3_go_150 : decode cX3_go 150 = .ok (.iload 4, 2) := by decide +kernel
theorem dX3_go_152 : decode cX3_go 152 = .ok (.iadd, 1) := by decide +kernel
theorem dX3_go_153 : decode cX3_go 153 = .ok (.iconst 0, 1) := by decide +kernel
theorem dX3_go_154 : decode cX3_go 154 = .ok (.invokevirtual 91, 3) := by decide +kernel
theorem dX3_go_157 : decode cX3_go 157 = .ok (.ifCond .ne 5, 3) := by decide +kernel
theorem dX3_go_160 : decode cX3_go 160 = .ok (.iconst 0, 1) := by decide +kernel
theorem dX3_go_161 : decode cX3_go 161 = .ok (.ireturn, 1) := by decide +kernel
theorem dX3_go_162 : decode cX3_go 162 = .ok (.aload_n 0, 1) := by decide +kernel
theorem dX3_go_163 : decode cX3_go 163 = .ok (.getfield 9, 3) := by decide +kernel
theorem dX3_go_166 : decode cX3_go 166 = .ok (.aload_n 0, 1) := by decide +kernel
theorem dX3_go_167 : decode cX3_go 167 = .ok (.getfield 64, 3) := by decide +kernel
theorem dX3_go_170 : decode cX3_go 170 = .ok (.iaload, 1) := by decide +kernel
theorem dX3_go_171 : decode cX3_go 171 = .ok (.istore 5, 2) := by decide +kernel
theorem dX3_go_173 : decode cX3_go 173 = .ok (.aload_n 0, 1) := by decide +kernel
theorem dX3_go_174 : decode cX3_go 174 = .ok (.iload_n 1, 1) := by decide +kernel
theorem dX3_go_175 : decode cX3_go 175 = .ok (.aload_n 0, 1) := by decide +kernel
theorem dX3_go_176 : decode cX3_go 176 = .ok (.getfield 25, 3) := by decide +kernel
theorem dX3_go_179 : decode cX3_go 179 = .ok (.iload_n 2, 1) := by decide +kernel
theorem dX3_go_180 : decode cX3_go 180 = .ok (.bipush 8, 2) := by decide +kernel
theorem dX3_go_182 : decode cX3_go 182 = .ok (.iadd, 1) := by decide +kernel
theorem dX3_go_183 : decode cX3_go 183 = .ok (.iaload, 1) := by decide +kernel
theorem dX3_go_184 : decode cX3_go 184 = .ok (.iload 4, 2) := by decide +kernel
theorem dX3_go_186 : decode cX3_go 186 = .ok (.iadd, 1) := by decide +kernel
theorem dX3_go_187 : decode cX3_go 187 = .ok (.iconst 1, 1) := by decide +kernel
theorem dX3_go_188 : decode cX3_go 188 = .ok (.invokevirtual 91, 3) := by decide +kernel
theorem dX3_go_191 : decode cX3_go 191 = .ok (.ifCond .ne 5, 3) := by decide +kernel
theorem dX3_go_194 : decode cX3_go 194 = .ok (.iconst 0, 1) := by decide +kernel
theorem dX3_go_195 : decode cX3_go 195 = .ok (.ireturn, 1) := by decide +kernel
theorem dX3_go_196 : decode cX3_go 196 = .ok (.aload_n 0, 1) := by decide +kernel
theorem dX3_go_197 : decode cX3_go 197 = .ok (.getfield 9, 3) := by decide +kernel
theorem dX3_go_200 : decode cX3_go 200 = .ok (.aload_n 0, 1) := by decide +kernel
theorem dX3_go_201 : decode cX3_go 201 = .ok (.getfield 64, 3) := by decide +kernel
theorem dX3_go_204 : decode cX3_go 204 = .ok (.iload 5, 2) := by decide +kernel
theorem dX3_go_206 : decode cX3_go 206 = .ok (.iastore, 1) := by decide +kernel
theorem dX3_go_207 : decode cX3_go 207 = .ok (.aload_n 0, 1) := by decide +kernel
theorem dX3_go_208 : decode cX3_go 208 = .ok (.getfield 25, 3) := by decide +kernel
theorem dX3_go_211 : decode cX3_go 211 = .ok (.iload_n 2, 1) := by decide +kernel
theorem dX3_go_212 : decode cX3_go 212 = .ok (.bipush 6, 2) := by decide +kernel
theorem dX3_go_214 : decode cX3_go 214 = .ok (.iadd, 1) := by decide +kernel
theorem dX3_go_215 : decode cX3_go 215 = .ok (.dup2, 1) := by decide +kernel
theorem dX3_go_216 : decode cX3_go 216 = .ok (.iaload, 1) := by decide +kernel
theorem dX3_go_217 : decode cX3_go 217 = .ok (.iconst 1, 1) := by decide +kernel
theorem dX3_go_218 : decode cX3_go 218 = .ok (.iadd, 1) := by decide +kernel
theorem dX3_go_219 : decode cX3_go 219 = .ok (.iastore, 1) := by decide +kernel
theorem dX3_go_220 : decode cX3_go 220 = .ok (.iconst 1, 1) := by decide +kernel
theorem dX3_go_221 : decode cX3_go 221 = .ok (.ireturn, 1) := by decide +kernel
theorem dX3_go_222 : decode cX3_go 222 = .ok (.aload_n 0, 1) := by decide +kernel
theorem dX3_go_223 : decode cX3_go 223 = .ok (.iload_n 1, 1) := by decide +kernel
theorem dX3_go_224 : decode cX3_go 224 = .ok (.iload_n 3, 1) := by decide +kernel
theorem dX3_go_225 : decode cX3_go 225 = .ok (.iconst 3, 1) := by decide +kernel
theorem dX3_go_226 : decode cX3_go 226 = .ok (.iadd, 1) := by decide +kernel
theorem dX3_go_227 : decode cX3_go 227 = .ok (.iconst 1, 1) := by decide +kernel
theorem dX3_go_228 : decode cX3_go 228 = .ok (.invokevirtual 91, 3) := by decide +kernel
theorem dX3_go_231 : decode cX3_go 231 = .ok (.ifCond .ne 5, 3) := by decide +kernel
theorem dX3_go_234 : decode cX3_go 234 = .ok (.iconst 0, 1) := by decide +kernel
theorem dX3_go_235 : decode cX3_go 235 = .ok (.ireturn, 1) := by decide +kernel
theorem dX3_go_236 : decode cX3_go 236 = .ok (.aload_n 0, 1) := by decide +kernel
theorem dX3_go_237 : decode cX3_go 237 = .ok (.getfield 9, 3) := by decide +kernel
theorem dX3_go_240 : decode cX3_go 240 = .ok (.aload_n 0, 1) := by decide +kernel
theorem dX3_go_241 : decode cX3_go 241 = .ok (.getfield 64, 3) := by decide +kernel
theorem dX3_go_244 : decode cX3_go 244 = .ok (.aload_n 0, 1) := by decide +kernel
theorem dX3_go_245 : decode cX3_go 245 = .ok (.getfield 25, 3) := by decide +kernel
theorem dX3_go_248 : decode cX3_go 248 = .ok (.iload_n 2, 1) := by decide +kernel
theorem dX3_go_249 : decode cX3_go 249 = .ok (.bipush 10, 2) := by decide +kernel
theorem dX3_go_251 : decode cX3_go 251 = .ok (.iadd, 1) := by decide +kernel
theorem dX3_go_252 : decode cX3_go 252 = .ok (.iaload, 1) := by decide +kernel
theorem dX3_go_253 : decode cX3_go 253 = .ok (.iconst 1, 1) := by decide +kernel
theorem dX3_go_254 : decode cX3_go 254 = .ok (.ior, 1) := by decide +kernel
theorem dX3_go_255 : decode cX3_go 255 = .ok (.iastore, 1) := by decide +kernel
theorem dX3_go_256 : decode cX3_go 256 = .ok (.aload_n 0, 1) := by decide +kernel
theorem dX3_go_257 : decode cX3_go 257 = .ok (.getfield 25, 3) := by decide +kernel
theorem dX3_go_260 : decode cX3_go 260 = .ok (.iload_n 2, 1) := by decide +kernel
theorem dX3_go_261 : decode cX3_go 261 = .ok (.iconst 2, 1) := by decide +kernel
theorem dX3_go_262 : decode cX3_go 262 = .ok (.iadd, 1) := by decide +kernel
theorem dX3_go_263 : decode cX3_go 263 = .ok (.aload_n 0, 1) := by decide +kernel
theorem dX3_go_264 : decode cX3_go 264 = .ok (.getfield 25, 3) := by decide +kernel
theorem dX3_go_267 : decode cX3_go 267 = .ok (.iload_n 2, 1) := by decide +kernel
theorem dX3_go_268 : decode cX3_go 268 = .ok (.iconst 2, 1) := by decide +kernel
theorem dX3_go_269 : decode cX3_go 269 = .ok (.iadd, 1) := by decide +kernel
theorem dX3_go_270 : decode cX3_go 270 = .ok (.iaload, 1) := by decide +kernel
theorem dX3_go_271 : decode cX3_go 271 = .ok (.iconst 1, 1) := by decide +kernel
theorem dX3_go_272 : decode cX3_go 272 = .ok (.iadd, 1) := by decide +kernel
theorem dX3_go_273 : decode cX3_go 273 = .ok (.aload_n 0, 1) := by decide +kernel
theorem dX3_go_274 : decode cX3_go 274 = .ok (.getfield 25, 3) := by decide +kernel
theorem dX3_go_277 : decode cX3_go 277 = .ok (.iload_n 2, 1) := by decide +kernel
theorem dX3_go_278 : decode cX3_go 278 = .ok (.iconst 1, 1) := by decide +kernel
theorem dX3_go_279 : decode cX3_go 279 = .ok (.iadd, 1) := by decide +kernel
theorem dX3_go_280 : decode cX3_go 280 = .ok (.iaload, 1) := by decide +kernel
theorem dX3_go_281 : decode cX3_go 281 = .ok (.irem, 1) := by decide +kernel
theorem dX3_go_282 : decode cX3_go 282 = .ok (.iastore, 1) := by decide +kernel
theorem dX3_go_283 : decode cX3_go 283 = .ok (.aload_n 0, 1) := by decide +kernel
theorem dX3_go_284 : decode cX3_go 284 = .ok (.getfield 25, 3) := by decide +kernel
theorem dX3_go_287 : decode cX3_go 287 = .ok (.iload_n 2, 1) := by decide +kernel
theorem dX3_go_288 : decode cX3_go 288 = .ok (.bipush 6, 2) := by decide +kernel
theorem dX3_go_290 : decode cX3_go 290 = .ok (.iadd, 1) := by decide +kernel
theorem dX3_go_291 : decode cX3_go 291 = .ok (.iconst (-1), 1) := by decide +kernel
theorem dX3_go_292 : decode cX3_go 292 = .ok (.iastore, 1) := by decide +kernel
theorem dX3_go_293 : decode cX3_go 293 = .ok (.aload_n 0, 1) := by decide +kernel
theorem dX3_go_294 : decode cX3_go 294 = .ok (.getfield 25, 3) := by decide +kernel
theorem dX3_go_297 : decode cX3_go 297 = .ok (.iload_n 2, 1) := by decide +kernel
theorem dX3_go_298 : decode cX3_go 298 = .ok (.iconst 5, 1) := by decide +kernel
theorem dX3_go_299 : decode cX3_go 299 = .ok (.iadd, 1) := by decide +kernel
theorem dX3_go_300 : decode cX3_go 300 = .ok (.dup2, 1) := by decide +kernel
theorem dX3_go_301 : decode cX3_go 301 = .ok (.iaload, 1) := by decide +kernel
theorem dX3_go_302 : decode cX3_go 302 = .ok (.iconst 1, 1) := by decide +kernel
theorem dX3_go_303 : decode cX3_go 303 = .ok (.iadd, 1) := by decide +kernel
theorem dX3_go_304 : decode cX3_go 304 = .ok (.iastore, 1) := by decide +kernel
theorem dX3_go_305 : decode cX3_go 305 = .ok (.aload_n 0, 1) := by decide +kernel
theorem dX3_go_306 : decode cX3_go 306 = .ok (.getfield 25, 3) := by decide +kernel
theorem dX3_go_309 : decode cX3_go 309 = .ok (.iload_n 2, 1) := by decide +kernel
theorem dX3_go_310 : decode cX3_go 310 = .ok (.iconst 2, 1) := by decide +kernel
theorem dX3_go_311 : decode cX3_go 311 = .ok (.iadd, 1) := by decide +kernel
theorem dX3_go_312 : decode cX3_go 312 = .ok (.iaload, 1) := by decide +kernel
theorem dX3_go_313 : decode cX3_go 313 = .ok (.aload_n 0, 1) := by decide +kernel
theorem dX3_go_314 : decode cX3_go 314 = .ok (.getfield 25, 3) := by decide +kernel
theorem dX3_go_317 : decode cX3_go 317 = .ok (.iload_n 2, 1) := by decide +kernel
theorem dX3_go_318 : decode cX3_go 318 = .ok (.iconst 3, 1) := by decide +kernel
theorem dX3_go_319 : decode cX3_go 319 = .ok (.iadd, 1) := by decide +kernel
theorem dX3_go_320 : decode cX3_go 320 = .ok (.iaload, 1) := by decide +kernel
theorem dX3_go_321 : decode cX3_go 321 = .ok (.if_icmp .ne 12, 3) := by decide +kernel
theorem dX3_go_324 : decode cX3_go 324 = .ok (.aload_n 0, 1) := by decide +kernel
theorem dX3_go_325 : decode cX3_go 325 = .ok (.getfield 25, 3) := by decide +kernel
theorem dX3_go_328 : decode cX3_go 328 = .ok (.iload_n 2, 1) := by decide +kernel
theorem dX3_go_329 : decode cX3_go 329 = .ok (.iconst 4, 1) := by decide +kernel
theorem dX3_go_330 : decode cX3_go 330 = .ok (.iadd, 1) := by decide +kernel
theorem dX3_go_331 : decode cX3_go 331 = .ok (.iconst 0, 1) := by decide +kernel
theorem dX3_go_332 : decode cX3_go 332 = .ok (.iastore, 1) := by decide +kernel
theorem dX3_go_333 : decode cX3_go 333 = .ok (.iconst 1, 1) := by decide +kernel
theorem dX3_go_334 : decode cX3_go 334 = .ok (.ireturn, 1) := by decide +kernel
set_option maxRecDepth 20000 in
theorem ggX3_step_X3_isDevice : GoodIn wsX3_step wsX3_isDevice := goodIn_r _ [6] (by decide +kernel) (by decide +kernel)
set_option maxRecDepth 20000 in
theorem gX3_step_X3_isDevice : GoodIn wsX3_step (va_wsS RX3 39 yX3_isDevice wsX3_isDevice) := goodIn_app (goodIn_of _ (by decide +kernel)) ggX3_step_X3_isDevice
set_option maxRecDepth 20000 in
theorem ggX3_step_X3_go : GoodIn wsX3_step wsX3_go := goodIn_r _ [10, 2, 11, 12, 13, 14, 15, 5, 16, 17, 18, 19, 20, 21, 22, 23, 24, 25, 26, 27, 28, 29, 30, 31, 32, 33, 34, 35, 36, 37, 38, 39, 40, 41, 42, 43, 44, 45, 46, 47, 48, 49, 50, 51, 52, 53, 54, 55, 56, 57, 58, 59, 60, 61, 62, 63, 64, 65, 66, 67, 68] (by decide +kernel) (by decide +kernel)
set_option maxRecDepth 20000 in
theorem gX3_step_X3_go : GoodIn wsX3_step (wsV RX3 96 RX3 yX3_go wsX3_go) := goodIn_app (goodIn_of _ (by decide +kernel)) ggX3_step_X3_go
theorem dX3_step_0 : decode cX3_step 0 = .ok (.aload_n 0, 1) := by decide +kernel
theorem dX3_step_1 : decode cX3_step 1 = .ok (.iconst 0, 1) := by decide +kernel
theorem dX3_step_2 : decode cX3_step 2 = .ok (.putfield 28, 3) := by decide +kernel
theorem dX3_step_5 : decode cX3_step 5 = .ok (.iload_n 1, 1) := by decide +kernel
theorem dX3_step_6 : decode cX3_step 6 = .ok (.invokestatic 39, 3) := by decide +kernel
theorem dX3_step_9 : decode cX3_step 9 = .ok (.ifCond .eq 14, 3) := by decide +kernel
theorem dX3_step_12 : decode cX3_step 12 = .ok (.iload_n 2, 1) := by decide +kernel
theorem dX3_step_13 : decode cX3_step 13 = .ok (.ifCond .lt 10, 3) := by decide +kernel
theorem dX3_step_16 : decode cX3_step 16 = .ok (.iload_n 2, 1) := by decide +kernel
theorem dX3_step_17 : decode cX3_step 17 = .ok (.sipush 1000, 3) := by decide +kernel
theorem dX3_step_20 : decode cX3_step 20 = .ok (.if_icmp .le 5, 3) := by decide +kernel
theorem dX3_step_23 : decode cX3_step 23 = .ok (.iconst (-1), 1) := by decide +kernel
theorem dX3_step_24 : decode cX3_step 24 = .ok (.ireturn, 1) := by decide +kernel
theorem dX3_step_25 : decode cX3_step 25 = .ok (.iconst 0, 1) := by decide +kernel
theorem dX3_step_26 : decode cX3_step 26 = .ok (.istore_n 3, 1) := by decide +kernel
theorem dX3_step_27 : decode cX3_step 27 = .ok (.iload_n 3, 1) := by decide +kernel
theorem dX3_step_28 : decode cX3_step 28 = .ok (.iload_n 2, 1) := by decide +kernel
theorem dX3_step_29 : decode cX3_step 29 = .ok (.if_icmp .ge 44, 3) := by decide +kernel
theorem dX3_step_32 : decode cX3_step 32 = .ok (.aload_n 0, 1) := by decide +kernel
theorem dX3_step_33 : decode cX3_step 33 = .ok (.getfield 25, 3) := by decide +kernel
theorem dX3_step_36 : decode cX3_step 36 = .ok (.bipush 11, 2) := by decide +kernel
theorem dX3_step_38 : decode cX3_step 38 = .ok (.iload_n 1, 1) := by decide +kernel
theorem dX3_step_39 : decode cX3_step 39 = .ok (.imul, 1) := by decide +kernel
theorem dX3_step_40 : decode cX3_step 40 = .ok (.iconst 4, 1) := by decide +kernel
theorem dX3_step_41 : decode cX3_step 41 = .ok (.iadd, 1) := by decide +kernel
theorem dX3_step_42 : decode cX3_step 42 = .ok (.iaload, 1) := by decide +kernel
theorem dX3_step_43 : decode cX3_step 43 = .ok (.iconst 1, 1) := by decide +kernel
theorem dX3_step_44 : decode cX3_step 44 = .ok (.if_icmp .ne 29, 3) := by decide +kernel
theorem dX3_step_47 : decode cX3_step 47 = .ok (.aload_n 0, 1) := by decide +kernel
theorem dX3_step_48 : decode cX3_step 48 = .ok (.iload_n 1, 1) := by decide +kernel
theorem dX3_step_49 : decode cX3_step 49 = .ok (.invokevirtual 96, 3) := by decide +kernel
theorem dX3_step_52 : decode cX3_step 52 = .ok (.ifCond .ne 15, 3) := by decide +kernel
theorem dX3_step_55 : decode cX3_step 55 = .ok (.aload_n 0, 1) := by decide +kernel
theorem dX3_step_56 : decode cX3_step 56 = .ok (.getfield 25, 3) := by decide +kernel
theorem dX3_step_59 : decode cX3_step 59 = .ok (.bipush 11, 2) := by decide +kernel
theorem dX3_step_61 : decode cX3_step 61 = .ok (.iload_n 1, 1) := by decide +kernel
theorem dX3_step_62 : decode cX3_step 62 = .ok (.imul, 1) := by decide +kernel
theorem dX3_step_63 : decode cX3_step 63 = .ok (.iconst 4, 1) := by decide +kernel
theorem dX3_step_64 : decode cX3_step 64 = .ok (.iadd, 1) := by decide +kernel
theorem dX3_step_65 : decode cX3_step 65 = .ok (.iconst 2, 1) := by decide +kernel
theorem dX3_step_66 : decode cX3_step 66 = .ok (.iastore, 1) := by decide +kernel
theorem dX3_step_67 : decode cX3_step 67 = .ok (.iinc 3 1, 3) := by decide +kernel
theorem dX3_step_70 : decode cX3_step 70 = .ok (.goto (-43), 3) := by decide +kernel
theorem dX3_step_73 : decode cX3_step 73 = .ok (.iload_n 3, 1) := by decide +kernel
theorem dX3_step_74 : decode cX3_step 74 = .ok (.ireturn, 1) := by decide +kernel
set_option maxRecDepth 20000 in
theorem ggX3_resume_X3_isDevice : GoodIn wsX3_resume wsX3_isDevice := goodIn_r _ [6] (by decide +kernel) (by decide +kernel)
set_option maxRecDepth 20000 in
theorem gX3_resume_X3_isDevice : GoodIn wsX3_resume (va_wsS RX3 39 yX3_isDevice wsX3_isDevice) := goodIn_app (goodIn_of _ (by decide +kernel)) ggX3_resume_X3_isDevice
theorem dX3_resume_0 : decode cX3_resume 0 = .ok (.aload_n 0, 1) := by decide +kernel
theorem dX3_resume_1 : decode cX3_resume 1 = .ok (.iconst 0, 1) := by decide +kernel
theorem dX3_resume_2 : decode cX3_resume 2 = .ok (.putfield 28, 3) := by decide +kernel
theorem dX3_resume_5 : decode cX3_resume 5 = .ok (.iload_n 1, 1) := by decide +kernel
theorem dX3_resume_6 : decode cX3_resume 6 = .ok (.invokestatic 39, 3) := by decide +kernel
theorem dX3_resume_9 : decode cX3_resume 9 = .ok (.ifCond .eq 18, 3) := by decide +kernel
theorem dX3_resume_12 : decode cX3_resume 12 = .ok (.aload_n 0, 1) := by decide +kernel
theorem dX3_resume_13 : decode cX3_resume 13 = .ok (.getfield 25, 3) := by decide +kernel
theorem dX3_resume_16 : decode cX3_resume 16 = .ok (.bipush 11, 2) := by decide +kernel
theorem dX3_resume_18 : decode cX3_resume 18 = .ok (.iload_n 1, 1) := by decide +kernel
theorem dX3_resume_19 : decode cX3_resume 19 = .ok (.imul, 1) := by decide +kernel
theorem dX3_resume_20 : decode cX3_resume 20 = .ok (.iconst 4, 1) := by decide +kernel
theorem dX3_resume_21 : decode cX3_resume 21 = .ok (.iadd, 1) := by decide +kernel
theorem dX3_resume_22 : decode cX3_resume 22 = .ok (.iaload, 1) := by decide +kernel
theorem dX3_resume_23 : decode cX3_resume 23 = .ok (.iconst 2, 1) := by decide +kernel
theorem dX3_resume_24 : decode cX3_resume 24 = .ok (.if_icmp .eq 5, 3) := by decide +kernel
theorem dX3_resume_27 : decode cX3_resume 27 = .ok (.iconst (-1), 1) := by decide +kernel
theorem dX3_resume_28 : decode cX3_resume 28 = .ok (.ireturn, 1) := by decide +kernel
theorem dX3_resume_29 : decode cX3_resume 29 = .ok (.bipush 11, 2) := by decide +kernel
theorem dX3_resume_31 : decode cX3_resume 31 = .ok (.iload_n 1, 1) := by decide +kernel
theorem dX3_resume_32 : decode cX3_resume 32 = .ok (.imul, 1) := by decide +kernel
theorem dX3_resume_33 : decode cX3_resume 33 = .ok (.istore_n 2, 1) := by decide +kernel
theorem dX3_resume_34 : decode cX3_resume 34 = .ok (.aload_n 0, 1) := by decide +kernel
theorem dX3_resume_35 : decode cX3_resume 35 = .ok (.getfield 25, 3) := by decide +kernel
theorem dX3_resume_38 : decode cX3_resume 38 = .ok (.iload_n 2, 1) := by decide +kernel
theorem dX3_resume_39 : decode cX3_resume 39 = .ok (.bipush 6, 2) := by decide +kernel
theorem dX3_resume_41 : decode cX3_resume 41 = .ok (.iadd, 1) := by decide +kernel
theorem dX3_resume_42 : decode cX3_resume 42 = .ok (.iconst (-1), 1) := by decide +kernel
theorem dX3_resume_43 : decode cX3_resume 43 = .ok (.iastore, 1) := by decide +kernel
theorem dX3_resume_44 : decode cX3_resume 44 = .ok (.aload_n 0, 1) := by decide +kernel
theorem dX3_resume_45 : decode cX3_resume 45 = .ok (.getfield 25, 3) := by decide +kernel
theorem dX3_resume_48 : decode cX3_resume 48 = .ok (.iload_n 2, 1) := by decide +kernel
theorem dX3_resume_49 : decode cX3_resume 49 = .ok (.iconst 4, 1) := by decide +kernel
theorem dX3_resume_50 : decode cX3_resume 50 = .ok (.iadd, 1) := by decide +kernel
theorem dX3_resume_51 : decode cX3_resume 51 = .ok (.aload_n 0, 1) := by decide +kernel
theorem dX3_resume_52 : decode cX3_resume 52 = .ok (.getfield 25, 3) := by decide +kernel
theorem dX3_resume_55 : decode cX3_resume 55 = .ok (.iload_n 2, 1) := by decide +kernel
theorem dX3_resume_56 : decode cX3_resume 56 = .ok (.iconst 2, 1) := by decide +kernel
theorem dX3_resume_57 : decode cX3_resume 57 = .ok (.iadd, 1) := by decide +kernel
theorem dX3_resume_58 : decode cX3_resume 58 = .ok (.iaload, 1) := by decide +kernel
theorem dX3_resume_59 : decode cX3_resume 59 = .ok (.aload_n 0, 1) := by decide +kernel
theorem dX3_resume_60 : decode cX3_resume 60 = .ok (.getfield 25, 3) := by decide +kernel
theorem dX3_resume_63 : decode cX3_resume 63 = .ok (.iload_n 2, 1) := by decide +kernel
theorem dX3_resume_64 : decode cX3_resume 64 = .ok (.iconst 3, 1) := by decide +kernel
theorem dX3_resume_65 : decode cX3_resume 65 = .ok (.iadd, 1) := by decide +kernel
theorem dX3_resume_66 : decode cX3_resume 66 = .ok (.iaload, 1) := by decide +kernel
theorem dX3_resume_67 : decode cX3_resume 67 = .ok (.if_icmp .ne 7, 3) := by decide +kernel
theorem dX3_resume_70 : decode cX3_resume 70 = .ok (.iconst 0, 1) := by decide +kernel
theorem dX3_resume_71 : decode cX3_resume 71 = .ok (.goto 4, 3) := by decide +kernel
theorem dX3_resume_74 : decode cX3_resume 74 = .ok (.iconst 1, 1) := by decide +kernel
theorem dX3_resume_75 : decode cX3_resume 75 = .ok (.iastore, 1) := by decide +kernel
theorem dX3_resume_76 : decode cX3_resume 76 = .ok (.aload_n 0, 1) := by decide +kernel
theorem dX3_resume_77 : decode cX3_resume 77 = .ok (.getfield 25, 3) := by decide +kernel
theorem dX3_resume_80 : decode cX3_resume 80 = .ok (.iload_n 2, 1) := by decide +kernel
theorem dX3_resume_81 : decode cX3_resume 81 = .ok (.iconst 4, 1) := by decide +kernel
theorem dX3_resume_82 : decode cX3_resume 82 = .ok (.iadd, 1) := by decide +kernel
theorem dX3_resume_83 : decode cX3_resume 83 = .ok (.iaload, 1) := by decide +kernel
theorem dX3_resume_84 : decode cX3_resume 84 = .ok (.ireturn, 1) := by decide +kernel
set_option maxRecDepth 20000 in
theorem ggX3_engine_X3_isDevice : GoodIn wsX3_engine wsX3_isDevice := goodIn_r _ [6] (by decide +kernel) (by decide +kernel)
set_option maxRecDepth 20000 in
theorem gX3_engine_X3_isDevice : GoodIn wsX3_engine (va_wsS RX3 39 yX3_isDevice wsX3_isDevice) := goodIn_app (goodIn_of _ (by decide +kernel)) ggX3_engine_X3_isDevice
theorem dX3_engine_0 : decode cX3_engine 0 = .ok (.aload_n 0, 1) := by decide +kernel
theorem dX3_engine_1 : decode cX3_engine 1 = .ok (.iconst 0, 1) := by decide +kernel
theorem dX3_engine_2 : decode cX3_engine 2 = .ok (.putfield 28, 3) := by decide +kernel
theorem dX3_engine_5 : decode cX3_engine 5 = .ok (.iload_n 1, 1) := by decide +kernel
theorem dX3_engine_6 : decode cX3_engine 6 = .ok (.invokestatic 39, 3) := by decide +kernel
theorem dX3_engine_9 : decode cX3_engine 9 = .ok (.ifCond .ne 5, 3) := by decide +kernel
theorem dX3_engine_12 : decode cX3_engine 12 = .ok (.iconst (-1), 1) := by decide +kernel
theorem dX3_engine_13 : decode cX3_engine 13 = .ok (.ireturn, 1) := by decide +kernel
theorem dX3_engine_14 : decode cX3_engine 14 = .ok (.bipush 11, 2) := by decide +kernel
theorem dX3_engine_16 : decode cX3_engine 16 = .ok (.iload_n 1, 1) := by decide +kernel
theorem dX3_engine_17 : decode cX3_engine 17 = .ok (.imul, 1) := by decide +kernel
theorem dX3_engine_18 : decode cX3_engine 18 = .ok (.istore_n 3, 1) := by decide +kernel
theorem dX3_engine_19 : decode cX3_engine 19 = .ok (.iload_n 2, 1) := by decide +kernel
theorem dX3_engine_20 : decode cX3_engine 20 = .ok (.tableswitch 82 0 4 #[36, 45, 54, 63, 72], 36) := by decide +kernel
theorem dX3_engine_56 : decode cX3_engine 56 = .ok (.aload_n 0, 1) := by decide +kernel
theorem dX3_engine_57 : decode cX3_engine 57 = .ok (.getfield 25, 3) := by decide +kernel
theorem dX3_engine_60 : decode cX3_engine 60 = .ok (.iload_n 3, 1) := by decide +kernel
theorem dX3_engine_61 : decode cX3_engine 61 = .ok (.iconst 4, 1) := by decide +kernel
theorem dX3_engine_62 : decode cX3_engine 62 = .ok (.iadd, 1) := by decide +kernel
theorem dX3_engine_63 : decode cX3_engine 63 = .ok (.iaload, 1) := by decide +kernel
theorem dX3_engine_64 : decode cX3_engine 64 = .ok (.ireturn, 1) := by decide +kernel
theorem dX3_engine_65 : decode cX3_engine 65 = .ok (.aload_n 0, 1) := by decide +kernel
theorem dX3_engine_66 : decode cX3_engine 66 = .ok (.getfield 25, 3) := by decide +kernel
theorem dX3_engine_69 : decode cX3_engine 69 = .ok (.iload_n 3, 1) := by decide +kernel
theorem dX3_engine_70 : decode cX3_engine 70 = .ok (.iconst 2, 1) := by decide +kernel
theorem dX3_engine_71 : decode cX3_engine 71 = .ok (.iadd, 1) := by decide +kernel
theorem dX3_engine_72 : decode cX3_engine 72 = .ok (.iaload, 1) := by decide +kernel
theorem dX3_engine_73 : decode cX3_engine 73 = .ok (.ireturn, 1) := by decide +kernel
theorem dX3_engine_74 : decode cX3_engine 74 = .ok (.aload_n 0, 1) := by decide +kernel
theorem dX3_engine_75 : decode cX3_engine 75 = .ok (.getfield 25, 3) := by decide +kernel
theorem dX3_engine_78 : decode cX3_engine 78 = .ok (.iload_n 3, 1) := by decide +kernel
theorem dX3_engine_79 : decode cX3_engine 79 = .ok (.iconst 3, 1) := by decide +kernel
theorem dX3_engine_80 : decode cX3_engine 80 = .ok (.iadd, 1) := by decide +kernel
theorem dX3_engine_81 : decode cX3_engine 81 = .ok (.iaload, 1) := by decide +kernel
theorem dX3_engine_82 : decode cX3_engine 82 = .ok (.ireturn, 1) := by decide +kernel
theorem dX3_engine_83 : decode cX3_engine 83 = .ok (.aload_n 0, 1) := by decide +kernel
theorem dX3_engine_84 : decode cX3_engine 84 = .ok (.getfield 25, 3) := by decide +kernel
theorem dX3_engine_87 : decode cX3_engine 87 = .ok (.iload_n 3, 1) := by decide +kernel
theorem dX3_engine_88 : decode cX3_engine 88 = .ok (.iconst 5, 1) := by decide +kernel
theorem dX3_engine_89 : decode cX3_engine 89 = .ok (.iadd, 1) := by decide +kernel
theorem dX3_engine_90 : decode cX3_engine 90 = .ok (.iaload, 1) := by decide +kernel
theorem dX3_engine_91 : decode cX3_engine 91 = .ok (.ireturn, 1) := by decide +kernel
theorem dX3_engine_92 : decode cX3_engine 92 = .ok (.aload_n 0, 1) := by decide +kernel
theorem dX3_engine_93 : decode cX3_engine 93 = .ok (.getfield 25, 3) := by decide +kernel
theorem dX3_engine_96 : decode cX3_engine 96 = .ok (.iload_n 3, 1) := by decide +kernel
theorem dX3_engine_97 : decode cX3_engine 97 = .ok (.bipush 6, 2) := by decide +kernel
theorem dX3_engine_99 : decode cX3_engine 99 = .ok (.iadd, 1) := by decide +kernel
theorem dX3_engine_100 : decode cX3_engine 100 = .ok (.iaload, 1) := by decide +kernel
theorem dX3_engine_101 : decode cX3_engine 101 = .ok (.ireturn, 1) := by decide +kernel
theorem dX3_engine_102 : decode cX3_engine 102 = .ok (.iconst (-1), 1) := by decide +kernel
theorem dX3_engine_103 : decode cX3_engine 103 = .ok (.ireturn, 1) := by decide +kernel
theorem dX3_command_0 : decode cX3_command 0 = .ok (.aload_n 0, 1) := by decide +kernel
theorem dX3_command_1 : decode cX3_command 1 = .ok (.iconst 0, 1) := by decide +kernel
theorem dX3_command_2 : decode cX3_command 2 = .ok (.putfield 28, 3) := by decide +kernel
theorem dX3_command_5 : decode cX3_command 5 = .ok (.iload_n 1, 1) := by decide +kernel
theorem dX3_command_6 : decode cX3_command 6 = .ok (.ifCond .lt 17, 3) := by decide +kernel
theorem dX3_command_9 : decode cX3_command 9 = .ok (.iload_n 1, 1) := by decide +kernel
theorem dX3_command_10 : decode cX3_command 10 = .ok (.iconst 5, 1) := by decide +kernel
theorem dX3_command_11 : decode cX3_command 11 = .ok (.if_icmp .gt 12, 3) := by decide +kernel
theorem dX3_command_14 : decode cX3_command 14 = .ok (.aload_n 0, 1) := by decide +kernel
theorem dX3_command_15 : decode cX3_command 15 = .ok (.getfield 99, 3) := by decide +kernel
theorem dX3_command_18 : decode cX3_command 18 = .ok (.bipush 12, 2) := by decide +kernel
theorem dX3_command_20 : decode cX3_command 20 = .ok (.if_icmp .ne 5, 3) := by decide +kernel
theorem dX3_command_23 : decode cX3_command 23 = .ok (.iconst (-1), 1) := by decide +kernel
theorem dX3_command_24 : decode cX3_command 24 = .ok (.ireturn, 1) := by decide +kernel
theorem dX3_command_25 : decode cX3_command 25 = .ok (.iconst 3, 1) := by decide +kernel
theorem dX3_command_26 : decode cX3_command 26 = .ok (.aload_n 0, 1) := by decide +kernel
theorem dX3_command_27 : decode cX3_command 27 = .ok (.getfield 99, 3) := by decide +kernel
theorem dX3_command_30 : decode cX3_command 30 = .ok (.imul, 1) := by decide +kernel
theorem dX3_command_31 : decode cX3_command 31 = .ok (.istore 4, 2) := by decide +kernel
theorem dX3_command_33 : decode cX3_command 33 = .ok (.aload_n 0, 1) := by decide +kernel
theorem dX3_command_34 : decode cX3_command 34 = .ok (.getfield 22, 3) := by decide +kernel
theorem dX3_command_37 : decode cX3_command 37 = .ok (.iload 4, 2) := by decide +kernel
theorem dX3_command_39 : decode cX3_command 39 = .ok (.iload_n 1, 1) := by decide +kernel
theorem dX3_command_40 : decode cX3_command 40 = .ok (.iastore, 1) := by decide +kernel
theorem dX3_command_41 : decode cX3_command 41 = .ok (.aload_n 0, 1) := by decide +kernel
theorem dX3_command_42 : decode cX3_command 42 = .ok (.getfield 22, 3) := by decide +kernel
theorem dX3_command_45 : decode cX3_command 45 = .ok (.iload 4, 2) := by decide +kernel
theorem dX3_command_47 : decode cX3_command 47 = .ok (.iconst 1, 1) := by decide +kernel
theorem dX3_command_48 : decode cX3_command 48 = .ok (.iadd, 1) := by decide +kernel
theorem dX3_command_49 : decode cX3_command 49 = .ok (.iload_n 2, 1) := by decide +kernel
theorem dX3_command_50 : decode cX3_command 50 = .ok (.iastore, 1) := by decide +kernel
theorem dX3_command_51 : decode cX3_command 51 = .ok (.aload_n 0, 1) := by decide +kernel
theorem dX3_command_52 : decode cX3_command 52 = .ok (.getfield 22, 3) := by decide +kernel
theorem dX3_command_55 : decode cX3_command 55 = .ok (.iload 4, 2) := by decide +kernel
theorem dX3_command_57 : decode cX3_command 57 = .ok (.iconst 2, 1) := by decide +kernel
theorem dX3_command_58 : decode cX3_command 58 = .ok (.iadd, 1) := by decide +kernel
theorem dX3_command_59 : decode cX3_command 59 = .ok (.iload_n 3, 1) := by decide +kernel
theorem dX3_command_60 : decode cX3_command 60 = .ok (.iastore, 1) := by decide +kernel
theorem dX3_command_61 : decode cX3_command 61 = .ok (.aload_n 0, 1) := by decide +kernel
theorem dX3_command_62 : decode cX3_command 62 = .ok (.dup, 1) := by decide +kernel
theorem dX3_command_63 : decode cX3_command 63 = .ok (.getfield 99, 3) := by decide +kernel
theorem dX3_command_66 : decode cX3_command 66 = .ok (.iconst 1, 1) := by decide +kernel
theorem dX3_command_67 : decode cX3_command 67 = .ok (.iadd, 1) := by decide +kernel
theorem dX3_command_68 : decode cX3_command 68 = .ok (.putfield 99, 3) := by decide +kernel
theorem dX3_command_71 : decode cX3_command 71 = .ok (.aload_n 0, 1) := by decide +kernel
theorem dX3_command_72 : decode cX3_command 72 = .ok (.getfield 99, 3) := by decide +kernel
theorem dX3_command_75 : decode cX3_command 75 = .ok (.ireturn, 1) := by decide +kernel
theorem dX3_forgetLeaves_0 : decode cX3_forgetLeaves 0 = .ok (.iconst 0, 1) := by decide +kernel
theorem dX3_forgetLeaves_1 : decode cX3_forgetLeaves 1 = .ok (.istore 4, 2) := by decide +kernel
theorem dX3_forgetLeaves_3 : decode cX3_forgetLeaves 3 = .ok (.iconst 0, 1) := by decide +kernel
theorem dX3_forgetLeaves_4 : decode cX3_forgetLeaves 4 = .ok (.istore 5, 2) := by decide +kernel
theorem dX3_forgetLeaves_6 : decode cX3_forgetLeaves 6 = .ok (.iload 5, 2) := by decide +kernel
theorem dX3_forgetLeaves_8 : decode cX3_forgetLeaves 8 = .ok (.aload_n 0, 1) := by decide +kernel
theorem dX3_forgetLeaves_9 : decode cX3_forgetLeaves 9 = .ok (.getfield 49, 3) := by decide +kernel
theorem dX3_forgetLeaves_12 : decode cX3_forgetLeaves 12 = .ok (.if_icmp .ge 126, 3) := by decide +kernel
theorem dX3_forgetLeaves_15 : decode cX3_forgetLeaves 15 = .ok (.iconst 5, 1) := by decide +kernel
theorem dX3_forgetLeaves_16 : decode cX3_forgetLeaves 16 = .ok (.iload 5, 2) := by decide +kernel
theorem dX3_forgetLeaves_18 : decode cX3_forgetLeaves 18 = .ok (.imul, 1) := by decide +kernel
theorem dX3_forgetLeaves_19 : decode cX3_forgetLeaves 19 = .ok (.istore 6, 2) := by decide +kernel
theorem dX3_forgetLeaves_21 : decode cX3_forgetLeaves 21 = .ok (.iload_n 1, 1) := by decide +kernel
theorem dX3_forgetLeaves_22 : decode cX3_forgetLeaves 22 = .ok (.iconst (-1), 1) := by decide +kernel
theorem dX3_forgetLeaves_23 : decode cX3_forgetLeaves 23 = .ok (.if_icmp .eq 54, 3) := by decide +kernel
theorem dX3_forgetLeaves_26 : decode cX3_forgetLeaves 26 = .ok (.aload_n 0, 1) := by decide +kernel
theorem dX3_forgetLeaves_27 : decode cX3_forgetLeaves 27 = .ok (.getfield 16, 3) := by decide +kernel
theorem dX3_forgetLeaves_30 : decode cX3_forgetLeaves 30 = .ok (.iload 6, 2) := by decide +kernel
theorem dX3_forgetLeaves_32 : decode cX3_forgetLeaves 32 = .ok (.iaload, 1) := by decide +kernel
theorem dX3_forgetLeaves_33 : decode cX3_forgetLeaves 33 = .ok (.iload_n 1, 1) := by decide +kernel
theorem dX3_forgetLeaves_34 : decode cX3_forgetLeaves 34 = .ok (.if_icmp .ne 47, 3) := by decide +kernel
theorem dX3_forgetLeaves_37 : decode cX3_forgetLeaves 37 = .ok (.iload_n 3, 1) := by decide +kernel
theorem dX3_forgetLeaves_38 : decode cX3_forgetLeaves 38 = .ok (.ifCond .eq 39, 3) := by decide +kernel
theorem dX3_forgetLeaves_41 : decode cX3_forgetLeaves 41 = .ok (.iload_n 2, 1) := by decide +kernel
theorem dX3_forgetLeaves_42 : decode cX3_forgetLeaves 42 = .ok (.ifCond .lt 39, 3) := by decide +kernel
theorem dX3_forgetLeaves_45 : decode cX3_forgetLeaves 45 = .ok (.iload_n 2, 1) := by decide +kernel
theorem dX3_forgetLeaves_46 : decode cX3_forgetLeaves 46 = .ok (.sipush 4096, 3) := by decide +kernel
theorem dX3_forgetLeaves_49 : decode cX3_forgetLeaves 49 = .ok (.if_icmp .ge 32, 3) := by decide +kernel
theorem dX3_forgetLeaves_52 : decode cX3_forgetLeaves 52 = .ok (.iload_n 2, 1) := by decide +kernel
theorem dX3_forgetLeaves_53 : decode cX3_forgetLeaves 53 = .ok (.iconst 4, 1) := by decide +kernel
theorem dX3_forgetLeaves_54 : decode cX3_forgetLeaves 54 = .ok (.aload_n 0, 1) := by decide +kernel
theorem dX3_forgetLeaves_55 : decode cX3_forgetLeaves 55 = .ok (.getfield 16, 3) := by decide +kernel
theorem dX3_forgetLeaves_58 : decode cX3_forgetLeaves 58 = .ok (.iload 6, 2) := by decide +kernel
theorem dX3_forgetLeaves_60 : decode cX3_forgetLeaves 60 = .ok (.iconst 1, 1) := by decide +kernel
theorem dX3_forgetLeaves_61 : decode cX3_forgetLeaves 61 = .ok (.iadd, 1) := by decide +kernel
theorem dX3_forgetLeaves_62 : decode cX3_forgetLeaves 62 = .ok (.iaload, 1) := by decide +kernel
theorem dX3_forgetLeaves_63 : decode cX3_forgetLeaves 63 = .ok (.imul, 1) := by decide +kernel
theorem dX3_forgetLeaves_64 : decode cX3_forgetLeaves 64 = .ok (.ishr, 1) := by decide +kernel
theorem dX3_forgetLeaves_65 : decode cX3_forgetLeaves 65 = .ok (.aload_n 0, 1) := by decide +kernel
theorem dX3_forgetLeaves_66 : decode cX3_forgetLeaves 66 = .ok (.getfield 16, 3) := by decide +kernel
theorem dX3_forgetLeaves_69 : decode cX3_forgetLeaves 69 = .ok (.iload 6, 2) := by decide +kernel
theorem dX3_forgetLeaves_71 : decode cX3_forgetLeaves 71 = .ok (.iconst 2, 1) := by decide +kernel
theorem dX3_forgetLeaves_72 : decode cX3_forgetLeaves 72 = .ok (.iadd, 1) := by decide +kernel
theorem dX3_forgetLeaves_73 : decode cX3_forgetLeaves 73 = .ok (.iaload, 1) := by decide +kernel
theorem dX3_forgetLeaves_74 : decode cX3_forgetLeaves 74 = .ok (.if_icmp .ne 7, 3) := by decide +kernel
theorem dX3_forgetLeaves_77 : decode cX3_forgetLeaves 77 = .ok (.iconst 1, 1) := by decide +kernel
theorem dX3_forgetLeaves_78 : decode cX3_forgetLeaves 78 = .ok (.goto 4, 3) := by decide +kernel
theorem dX3_forgetLeaves_81 : decode cX3_forgetLeaves 81 = .ok (.iconst 0, 1) := by decide +kernel
theorem dX3_forgetLeaves_82 : decode cX3_forgetLeaves 82 = .ok (.istore 7, 2) := by decide +kernel
theorem dX3_forgetLeaves_84 : decode cX3_forgetLeaves 84 = .ok (.iload 7, 2) := by decide +kernel
theorem dX3_forgetLeaves_86 : decode cX3_forgetLeaves 86 = .ok (.ifCond .eq 6, 3) := by decide +kernel
theorem dX3_forgetLeaves_89 : decode cX3_forgetLeaves 89 = .ok (.goto 43, 3) := by decide +kernel
theorem dX3_forgetLeaves_92 : decode cX3_forgetLeaves 92 = .ok (.iconst 0, 1) := by decide +kernel
theorem dX3_forgetLeaves_93 : decode cX3_forgetLeaves 93 = .ok (.istore 8, 2) := by decide +kernel
theorem dX3_forgetLeaves_95 : decode cX3_forgetLeaves 95 = .ok (.iload 8, 2) := by decide +kernel
theorem dX3_forgetLeaves_97 : decode cX3_forgetLeaves 97 = .ok (.iconst 5, 1) := by decide +kernel
theorem dX3_forgetLeaves_98 : decode cX3_forgetLeaves 98 = .ok (.if_icmp .ge 31, 3) := by decide +kernel
theorem dX3_forgetLeaves_101 : decode cX3_forgetLeaves 101 = .ok (.aload_n 0, 1) := by decide +kernel
theorem dX3_forgetLeaves_102 : decode cX3_forgetLeaves 102 = .ok (.getfield 16, 3) := by decide +kernel
theorem dX3_forgetLeaves_105 : decode cX3_forgetLeaves 105 = .ok (.iconst 5, 1) := by decide +kernel
theorem dX3_forgetLeaves_106 : decode cX3_forgetLeaves 106 = .ok (.iload 4, 2) := by decide +kernel
theorem dX3_forgetLeaves_108 : decode cX3_forgetLeaves 108 = .ok (.imul, 1) := by decide +kernel
theorem dX3_forgetLeaves_109 : decode cX3_forgetLeaves 109 = .ok (.iload 8, 2) := by decide +kernel
theorem dX3_forgetLeaves_111 : decode cX3_forgetLeaves 111 = .ok (.iadd, 1) := by decide +kernel
theorem dX3_forgetLeaves_112 : decode cX3_forgetLeaves 112 = .ok (.aload_n 0, 1) := by decide +kernel
theorem dX3_forgetLeaves_113 : decode cX3_forgetLeaves 113 = .ok (.getfield 16, 3) := by decide +kernel
theorem dX3_forgetLeaves_116 : decode cX3_forgetLeaves 116 = .ok (.iload 6, 2) := by decide +kernel
theorem dX3_forgetLeaves_118 : decode cX3_forgetLeaves 118 = .ok (.iload 8, 2) := by decide +kernel
theorem dX3_forgetLeaves_120 : decode cX3_forgetLeaves 120 = .ok (.iadd, 1) := by decide +kernel
theorem dX3_forgetLeaves_121 : decode cX3_forgetLeaves 121 = .ok (.iaload, 1) := by decide +kernel
theorem dX3_forgetLeaves_122 : decode cX3_forgetLeaves 122 = .ok (.iastore, 1) := by decide +kernel
theorem dX3_forgetLeaves_123 : decode cX3_forgetLeaves 123 = .ok (.iinc 8 1, 3) := by decide +kernel
theorem dX3_forgetLeaves_126 : decode cX3_forgetLeaves 126 = .ok (.goto (-31), 3) := by decide +kernel
theorem dX3_forgetLeaves_129 : decode cX3_forgetLeaves 129 = .ok (.iinc 4 1, 3) := by decide +kernel
theorem dX3_forgetLeaves_132 : decode cX3_forgetLeaves 132 = .ok (.iinc 5 1, 3) := by decide +kernel
theorem dX3_forgetLeaves_135 : decode cX3_forgetLeaves 135 = .ok (.goto (-129), 3) := by decide +kernel
theorem dX3_forgetLeaves_138 : decode cX3_forgetLeaves 138 = .ok (.aload_n 0, 1) := by decide +kernel
theorem dX3_forgetLeaves_139 : decode cX3_forgetLeaves 139 = .ok (.iload 4, 2) := by decide +kernel
theorem dX3_forgetLeaves_141 : decode cX3_forgetLeaves 141 = .ok (.putfield 49, 3) := by decide +kernel
theorem dX3_forgetLeaves_144 : decode cX3_forgetLeaves 144 = .ok (.return_, 1) := by decide +kernel
theorem dX3_forgetContexts_0 : decode cX3_forgetContexts 0 = .ok (.iconst 0, 1) := by decide +kernel
theorem dX3_forgetContexts_1 : decode cX3_forgetContexts 1 = .ok (.istore_n 3, 1) := by decide +kernel
theorem dX3_forgetContexts_2 : decode cX3_forgetContexts 2 = .ok (.iconst 0, 1) := by decide +kernel
theorem dX3_forgetContexts_3 : decode cX3_forgetContexts 3 = .ok (.istore 4, 2) := by decide +kernel
theorem dX3_forgetContexts_5 : decode cX3_forgetContexts 5 = .ok (.iload 4, 2) := by decide +kernel
theorem dX3_forgetContexts_7 : decode cX3_forgetContexts 7 = .ok (.aload_n 0, 1) := by decide +kernel
theorem dX3_forgetContexts_8 : decode cX3_forgetContexts 8 = .ok (.getfield 42, 3) := by decide +kernel
theorem dX3_forgetContexts_11 : decode cX3_forgetContexts 11 = .ok (.if_icmp .ge 70, 3) := by decide +kernel
theorem dX3_forgetContexts_14 : decode cX3_forgetContexts 14 = .ok (.iload_n 2, 1) := by decide +kernel
theorem dX3_forgetContexts_15 : decode cX3_forgetContexts 15 = .ok (.ifCond .ne 60, 3) := by decide +kernel
theorem dX3_forgetContexts_18 : decode cX3_forgetContexts 18 = .ok (.aload_n 0, 1) := by decide +kernel
theorem dX3_forgetContexts_19 : decode cX3_forgetContexts 19 = .ok (.getfield 13, 3) := by decide +kernel
theorem dX3_forgetContexts_22 : decode cX3_forgetContexts 22 = .ok (.iconst 4, 1) := by decide +kernel
theorem dX3_forgetContexts_23 : decode cX3_forgetContexts 23 = .ok (.iload 4, 2) := by decide +kernel
theorem dX3_forgetContexts_25 : decode cX3_forgetContexts 25 = .ok (.imul, 1) := by decide +kernel
theorem dX3_forgetContexts_26 : decode cX3_forgetContexts 26 = .ok (.iaload, 1) := by decide +kernel
theorem dX3_forgetContexts_27 : decode cX3_forgetContexts 27 = .ok (.iload_n 1, 1) := by decide +kernel
theorem dX3_forgetContexts_28 : decode cX3_forgetContexts 28 = .ok (.if_icmp .ne 6, 3) := by decide +kernel
theorem dX3_forgetContexts_31 : decode cX3_forgetContexts 31 = .ok (.goto 44, 3) := by decide +kernel
theorem dX3_forgetContexts_34 : decode cX3_forgetContexts 34 = .ok (.iconst 0, 1) := by decide +kernel
theorem dX3_forgetContexts_35 : decode cX3_forgetContexts 35 = .ok (.istore 5, 2) := by decide +kernel
theorem dX3_forgetContexts_37 : decode cX3_forgetContexts 37 = .ok (.iload 5, 2) := by decide +kernel
theorem dX3_forgetContexts_39 : decode cX3_forgetContexts 39 = .ok (.iconst 4, 1) := by decide +kernel
theorem dX3_forgetContexts_40 : decode cX3_forgetContexts 40 = .ok (.if_icmp .ge 32, 3) := by decide +kernel
theorem dX3_forgetContexts_43 : decode cX3_forgetContexts 43 = .ok (.aload_n 0, 1) := by decide +kernel
theorem dX3_forgetContexts_44 : decode cX3_forgetContexts 44 = .ok (.getfield 13, 3) := by decide +kernel
theorem dX3_forgetContexts_47 : decode cX3_forgetContexts 47 = .ok (.iconst 4, 1) := by decide +kernel
theorem dX3_forgetContexts_48 : decode cX3_forgetContexts 48 = .ok (.iload_n 3, 1) := by decide +kernel
theorem dX3_forgetContexts_49 : decode cX3_forgetContexts 49 = .ok (.imul, 1) := by decide +kernel
theorem dX3_forgetContexts_50 : decode cX3_forgetContexts 50 = .ok (.iload 5, 2) := by decide +kernel
theorem dX3_forgetContexts_52 : decode cX3_forgetContexts 52 = .ok (.iadd, 1) := by decide +kernel
theorem dX3_forgetContexts_53 : decode cX3_forgetContexts 53 = .ok (.aload_n 0, 1) := by decide +kernel
theorem dX3_forgetContexts_54 : decode cX3_forgetContexts 54 = .ok (.getfield 13, 3) := by decide +kernel
theorem dX3_forgetContexts_57 : decode cX3_forgetContexts 57 = .ok (.iconst 4, 1) := by decide +kernel
theorem dX3_forgetContexts_58 : decode cX3_forgetContexts 58 = .ok (.iload 4, 2) := by decide +kernel
theorem dX3_forgetContexts_60 : decode cX3_forgetContexts 60 = .ok (.imul, 1) := by decide +kernel
theorem dX3_forgetContexts_61 : decode cX3_forgetContexts 61 = .ok (.iload 5, 2) := by decide +kernel
theorem dX3_forgetContexts_63 : decode cX3_forgetContexts 63 = .ok (.iadd, 1) := by decide +kernel
theorem dX3_forgetContexts_64 : decode cX3_forgetContexts 64 = .ok (.iaload, 1) := by decide +kernel
theorem dX3_forgetContexts_65 : decode cX3_forgetContexts 65 = .ok (.iastore, 1) := by decide +kernel
theorem dX3_forgetContexts_66 : decode cX3_forgetContexts 66 = .ok (.iinc 5 1, 3) := by decide +kernel
theorem dX3_forgetContexts_69 : decode cX3_forgetContexts 69 = .ok (.goto (-32), 3) := by decide +kernel
theorem dX3_forgetContexts_72 : decode cX3_forgetContexts 72 = .ok (.iinc 3 1, 3) := by decide +kernel
theorem dX3_forgetContexts_75 : decode cX3_forgetContexts 75 = .ok (.iinc 4 1, 3) := by decide +kernel
theorem dX3_forgetContexts_78 : decode cX3_forgetContexts 78 = .ok (.goto (-73), 3) := by decide +kernel
theorem dX3_forgetContexts_81 : decode cX3_forgetContexts 81 = .ok (.aload_n 0, 1) := by decide +kernel
theorem dX3_forgetContexts_82 : decode cX3_forgetContexts 82 = .ok (.iload_n 3, 1) := by decide +kernel
theorem dX3_forgetContexts_83 : decode cX3_forgetContexts 83 = .ok (.putfield 42, 3) := by decide +kernel
theorem dX3_forgetContexts_86 : decode cX3_forgetContexts 86 = .ok (.return_, 1) := by decide +kernel
set_option maxRecDepth 20000 in
theorem ggX3_does_X3_forgetLeaves : GoodIn wsX3_does wsX3_forgetLeaves := goodIn_r _ [6, 7, 8, 18, 19, 20, 21, 22, 23, 24, 25, 26, 27, 28, 29, 30, 31, 32, 33, 34] (by decide +kernel) (by decide +kernel)
set_option maxRecDepth 20000 in
theorem gX3_does_X3_forgetLeaves : GoodIn wsX3_does (wsV RX3 102 RX3 yX3_forgetLeaves wsX3_forgetLeaves) := goodIn_app (goodIn_of _ (by decide +kernel)) ggX3_does_X3_forgetLeaves
set_option maxRecDepth 20000 in
theorem ggX3_does_X3_forgetContexts : GoodIn wsX3_does wsX3_forgetContexts := goodIn_r _ [12, 13, 14, 18, 19, 20, 21, 22, 23, 24, 25, 26, 27, 28, 29, 30, 31, 32, 33, 34] (by decide +kernel) (by decide +kernel)
set_option maxRecDepth 20000 in
theorem gX3_does_X3_forgetContexts : GoodIn wsX3_does (wsV RX3 106 RX3 yX3_forgetContexts wsX3_forgetContexts) := goodIn_app (goodIn_of _ (by decide +kernel)) ggX3_does_X3_forgetContexts
set_option maxRecDepth 20000 in
theorem ggX3_does_X3_isPlace : GoodIn wsX3_does wsX3_isPlace := goodIn_r _ [17] (by decide +kernel) (by decide +kernel)
set_option maxRecDepth 20000 in
theorem gX3_does_X3_isPlace : GoodIn wsX3_does (va_wsS RX3 32 yX3_isPlace wsX3_isPlace) := goodIn_app (goodIn_of _ (by decide +kernel)) ggX3_does_X3_isPlace
theorem dX3_does_0 : decode cX3_does 0 = .ok (.iload_n 1, 1) := by decide +kernel
theorem dX3_does_1 : decode cX3_does 1 = .ok (.tableswitch 91 0 4 #[35, 45, 59, 73, 82], 35) := by decide +kernel
theorem dX3_does_36 : decode cX3_does 36 = .ok (.aload_n 0, 1) := by decide +kernel
theorem dX3_does_37 : decode cX3_does 37 = .ok (.iconst (-1), 1) := by decide +kernel
theorem dX3_does_38 : decode cX3_does 38 = .ok (.iconst 0, 1) := by decide +kernel
theorem dX3_does_39 : decode cX3_does 39 = .ok (.iconst 0, 1) := by decide +kernel
theorem dX3_does_40 : decode cX3_does 40 = .ok (.invokevirtual 102, 3) := by decide +kernel
theorem dX3_does_43 : decode cX3_does 43 = .ok (.goto 63, 3) := by decide +kernel
theorem dX3_does_46 : decode cX3_does 46 = .ok (.iload_n 2, 1) := by decide +kernel
theorem dX3_does_47 : decode cX3_does 47 = .ok (.ifCond .lt 59, 3) := by decide +kernel
theorem dX3_does_50 : decode cX3_does 50 = .ok (.aload_n 0, 1) := by decide +kernel
theorem dX3_does_51 : decode cX3_does 51 = .ok (.iload_n 2, 1) := by decide +kernel
theorem dX3_does_52 : decode cX3_does 52 = .ok (.iconst 0, 1) := by decide +kernel
theorem dX3_does_53 : decode cX3_does 53 = .ok (.iconst 0, 1) := by decide +kernel
theorem dX3_does_54 : decode cX3_does 54 = .ok (.invokevirtual 102, 3) := by decide +kernel
theorem dX3_does_57 : decode cX3_does 57 = .ok (.goto 49, 3) := by decide +kernel
theorem dX3_does_60 : decode cX3_does 60 = .ok (.iload_n 2, 1) := by decide +kernel
theorem dX3_does_61 : decode cX3_does 61 = .ok (.ifCond .lt 45, 3) := by decide +kernel
theorem dX3_does_64 : decode cX3_does 64 = .ok (.aload_n 0, 1) := by decide +kernel
theorem dX3_does_65 : decode cX3_does 65 = .ok (.iload_n 2, 1) := by decide +kernel
theorem dX3_does_66 : decode cX3_does 66 = .ok (.iload_n 3, 1) := by decide +kernel
theorem dX3_does_67 : decode cX3_does 67 = .ok (.iconst 1, 1) := by decide +kernel
theorem dX3_does_68 : decode cX3_does 68 = .ok (.invokevirtual 102, 3) := by decide +kernel
theorem dX3_does_71 : decode cX3_does 71 = .ok (.goto 35, 3) := by decide +kernel
theorem dX3_does_74 : decode cX3_does 74 = .ok (.aload_n 0, 1) := by decide +kernel
theorem dX3_does_75 : decode cX3_does 75 = .ok (.iload_n 2, 1) := by decide +kernel
theorem dX3_does_76 : decode cX3_does 76 = .ok (.iconst 0, 1) := by decide +kernel
theorem dX3_does_77 : decode cX3_does 77 = .ok (.invokevirtual 106, 3) := by decide +kernel
theorem dX3_does_80 : decode cX3_does 80 = .ok (.goto 26, 3) := by decide +kernel
theorem dX3_does_83 : decode cX3_does 83 = .ok (.aload_n 0, 1) := by decide +kernel
theorem dX3_does_84 : decode cX3_does 84 = .ok (.iconst 0, 1) := by decide +kernel
theorem dX3_does_85 : decode cX3_does 85 = .ok (.iconst 1, 1) := by decide +kernel
theorem dX3_does_86 : decode cX3_does 86 = .ok (.invokevirtual 106, 3) := by decide +kernel
theorem dX3_does_89 : decode cX3_does 89 = .ok (.goto 17, 3) := by decide +kernel
theorem dX3_does_92 : decode cX3_does 92 = .ok (.iload_n 2, 1) := by decide +kernel
theorem dX3_does_93 : decode cX3_does 93 = .ok (.invokestatic 32, 3) := by decide +kernel
theorem dX3_does_96 : decode cX3_does 96 = .ok (.ifCond .eq 10, 3) := by decide +kernel
theorem dX3_does_99 : decode cX3_does 99 = .ok (.aload_n 0, 1) := by decide +kernel
theorem dX3_does_100 : decode cX3_does 100 = .ok (.getfield 9, 3) := by decide +kernel
theorem dX3_does_103 : decode cX3_does 103 = .ok (.iload_n 2, 1) := by decide +kernel
theorem dX3_does_104 : decode cX3_does 104 = .ok (.iload_n 3, 1) := by decide +kernel
theorem dX3_does_105 : decode cX3_does 105 = .ok (.iastore, 1) := by decide +kernel
theorem dX3_does_106 : decode cX3_does 106 = .ok (.return_, 1) := by decide +kernel
set_option maxRecDepth 20000 in
theorem ggX3_obey_X3_shift : GoodIn wsX3_obey wsX3_shift := goodIn_r _ [7] (by decide +kernel) (by decide +kernel)
set_option maxRecDepth 20000 in
theorem gX3_obey_X3_shift : GoodIn wsX3_obey (va_wsS RX3 45 yX3_shift wsX3_shift) := goodIn_app (goodIn_of _ (by decide +kernel)) ggX3_obey_X3_shift
set_option maxRecDepth 20000 in
theorem ggX3_obey_X3_does : GoodIn wsX3_obey wsX3_does := goodIn_r _ [11, 12, 13, 14, 15, 6, 16, 17, 18, 19, 20, 21, 22, 23, 24, 25, 26, 27, 28, 29, 30, 31, 32, 33, 34, 35, 36, 37, 38, 39, 40, 41, 42, 43, 44] (by decide +kernel) (by decide +kernel)
set_option maxRecDepth 20000 in
theorem gX3_obey_X3_does : GoodIn wsX3_obey (wsV RX3 110 RX3 yX3_does wsX3_does) := goodIn_app (goodIn_of _ (by decide +kernel)) ggX3_obey_X3_does
theorem dX3_obey_0 : decode cX3_obey 0 = .ok (.aload_n 0, 1) := by decide +kernel
theorem dX3_obey_1 : decode cX3_obey 1 = .ok (.iconst 0, 1) := by decide +kernel
theorem dX3_obey_2 : decode cX3_obey 2 = .ok (.putfield 28, 3) := by decide +kernel
theorem dX3_obey_5 : decode cX3_obey 5 = .ok (.iload_n 1, 1) := by decide +kernel
theorem dX3_obey_6 : decode cX3_obey 6 = .ok (.ifCond .ge 5, 3) := by decide +kernel
theorem dX3_obey_9 : decode cX3_obey 9 = .ok (.iconst (-1), 1) := by decide +kernel
theorem dX3_obey_10 : decode cX3_obey 10 = .ok (.ireturn, 1) := by decide +kernel
theorem dX3_obey_11 : decode cX3_obey 11 = .ok (.iconst 0, 1) := by decide +kernel
theorem dX3_obey_12 : decode cX3_obey 12 = .ok (.istore_n 2, 1) := by decide +kernel
theorem dX3_obey_13 : decode cX3_obey 13 = .ok (.iload_n 2, 1) := by decide +kernel
theorem dX3_obey_14 : decode cX3_obey 14 = .ok (.iload_n 1, 1) := by decide +kernel
theorem dX3_obey_15 : decode cX3_obey 15 = .ok (.if_icmp .ge 70, 3) := by decide +kernel
theorem dX3_obey_18 : decode cX3_obey 18 = .ok (.aload_n 0, 1) := by decide +kernel
theorem dX3_obey_19 : decode cX3_obey 19 = .ok (.getfield 99, 3) := by decide +kernel
theorem dX3_obey_22 : decode cX3_obey 22 = .ok (.ifCond .le 63, 3) := by decide +kernel
theorem dX3_obey_25 : decode cX3_obey 25 = .ok (.aload_n 0, 1) := by decide +kernel
theorem dX3_obey_26 : decode cX3_obey 26 = .ok (.getfield 22, 3) := by decide +kernel
theorem dX3_obey_29 : decode cX3_obey 29 = .ok (.iconst 0, 1) := by decide +kernel
theorem dX3_obey_30 : decode cX3_obey 30 = .ok (.iaload, 1) := by decide +kernel
theorem dX3_obey_31 : decode cX3_obey 31 = .ok (.istore_n 3, 1) := by decide +kernel
theorem dX3_obey_32 : decode cX3_obey 32 = .ok (.aload_n 0, 1) := by decide +kernel
theorem dX3_obey_33 : decode cX3_obey 33 = .ok (.getfield 22, 3) := by decide +kernel
theorem dX3_obey_36 : decode cX3_obey 36 = .ok (.iconst 1, 1) := by decide +kernel
theorem dX3_obey_37 : decode cX3_obey 37 = .ok (.iaload, 1) := by decide +kernel
theorem dX3_obey_38 : decode cX3_obey 38 = .ok (.istore 4, 2) := by decide +kernel
theorem dX3_obey_40 : decode cX3_obey 40 = .ok (.aload_n 0, 1) := by decide +kernel
theorem dX3_obey_41 : decode cX3_obey 41 = .ok (.getfield 22, 3) := by decide +kernel
theorem dX3_obey_44 : decode cX3_obey 44 = .ok (.iconst 2, 1) := by decide +kernel
theorem dX3_obey_45 : decode cX3_obey 45 = .ok (.iaload, 1) := by decide +kernel
theorem dX3_obey_46 : decode cX3_obey 46 = .ok (.istore 5, 2) := by decide +kernel
theorem dX3_obey_48 : decode cX3_obey 48 = .ok (.aload_n 0, 1) := by decide +kernel
theorem dX3_obey_49 : decode cX3_obey 49 = .ok (.getfield 22, 3) := by decide +kernel
theorem dX3_obey_52 : decode cX3_obey 52 = .ok (.iconst 3, 1) := by decide +kernel
theorem dX3_obey_53 : decode cX3_obey 53 = .ok (.aload_n 0, 1) := by decide +kernel
theorem dX3_obey_54 : decode cX3_obey 54 = .ok (.getfield 99, 3) := by decide +kernel
theorem dX3_obey_57 : decode cX3_obey 57 = .ok (.invokestatic 45, 3) := by decide +kernel
theorem dX3_obey_60 : decode cX3_obey 60 = .ok (.aload_n 0, 1) := by decide +kernel
theorem dX3_obey_61 : decode cX3_obey 61 = .ok (.dup, 1) := by decide +kernel
theorem dX3_obey_62 : decode cX3_obey 62 = .ok (.getfield 99, 3) := by decide +kernel
theorem dX3_obey_65 : decode cX3_obey 65 = .ok (.iconst 1, 1) := by decide +kernel
theorem dX3_obey_66 : decode cX3_obey 66 = .ok (.isub, 1) := by decide +kernel
theorem dX3_obey_67 : decode cX3_obey 67 = .ok (.putfield 99, 3) := by decide +kernel
theorem dX3_obey_70 : decode cX3_obey 70 = .ok (.aload_n 0, 1) := by decide +kernel
theorem dX3_obey_71 : decode cX3_obey 71 = .ok (.iload_n 3, 1) := by decide +kernel
theorem dX3_obey_72 : decode cX3_obey 72 = .ok (.iload 4, 2) := by decide +kernel
theorem dX3_obey_74 : decode cX3_obey 74 = .ok (.iload 5, 2) := by decide +kernel
theorem dX3_obey_76 : decode cX3_obey 76 = .ok (.invokevirtual 110, 3) := by decide +kernel
theorem dX3_obey_79 : decode cX3_obey 79 = .ok (.iinc 2 1, 3) := by decide +kernel
theorem dX3_obey_82 : decode cX3_obey 82 = .ok (.goto (-69), 3) := by decide +kernel
theorem dX3_obey_85 : decode cX3_obey 85 = .ok (.iload_n 2, 1) := by decide +kernel
theorem dX3_obey_86 : decode cX3_obey 86 = .ok (.ireturn, 1) := by decide +kernel
theorem dX3_count_0 : decode cX3_count 0 = .ok (.aload_n 0, 1) := by decide +kernel
theorem dX3_count_1 : decode cX3_count 1 = .ok (.iconst 0, 1) := by decide +kernel
theorem dX3_count_2 : decode cX3_count 2 = .ok (.putfield 28, 3) := by decide +kernel
theorem dX3_count_5 : decode cX3_count 5 = .ok (.iload_n 1, 1) := by decide +kernel
theorem dX3_count_6 : decode cX3_count 6 = .ok (.tableswitch 94 0 7 #[46, 51, 56, 69, 74, 79, 84, 89], 46) := by decide +kernel
theorem dX3_count_52 : decode cX3_count 52 = .ok (.aload_n 0, 1) := by decide +kernel
theorem dX3_count_53 : decode cX3_count 53 = .ok (.getfield 99, 3) := by decide +kernel
theorem dX3_count_56 : decode cX3_count 56 = .ok (.ireturn, 1) := by decide +kernel
theorem dX3_count_57 : decode cX3_count 57 = .ok (.aload_n 0, 1) := by decide +kernel
theorem dX3_count_58 : decode cX3_count 58 = .ok (.getfield 84, 3) := by decide +kernel
theorem dX3_count_61 : decode cX3_count 61 = .ok (.ireturn, 1) := by decide +kernel
theorem dX3_count_62 : decode cX3_count 62 = .ok (.aload_n 0, 1) := by decide +kernel
theorem dX3_count_63 : decode cX3_count 63 = .ok (.getfield 87, 3) := by decide +kernel
theorem dX3_count_66 : decode cX3_count 66 = .ok (.ifCond .eq 7, 3) := by decide +kernel
theorem dX3_count_69 : decode cX3_count 69 = .ok (.iconst 1, 1) := by decide +kernel
theorem dX3_count_70 : decode cX3_count 70 = .ok (.goto 4, 3) := by decide +kernel
theorem dX3_count_73 : decode cX3_count 73 = .ok (.iconst 0, 1) := by decide +kernel
theorem dX3_count_74 : decode cX3_count 74 = .ok (.ireturn, 1) := by decide +kernel
theorem dX3_count_75 : decode cX3_count 75 = .ok (.aload_n 0, 1) := by decide +kernel
theorem dX3_count_76 : decode cX3_count 76 = .ok (.getfield 42, 3) := by decide +kernel
theorem dX3_count_79 : decode cX3_count 79 = .ok (.ireturn, 1) := by decide +kernel
theorem dX3_count_80 : decode cX3_count 80 = .ok (.aload_n 0, 1) := by decide +kernel
theorem dX3_count_81 : decode cX3_count 81 = .ok (.getfield 49, 3) := by decide +kernel
theorem dX3_count_84 : decode cX3_count 84 = .ok (.ireturn, 1) := by decide +kernel
theorem dX3_count_85 : decode cX3_count 85 = .ok (.aload_n 0, 1) := by decide +kernel
theorem dX3_count_86 : decode cX3_count 86 = .ok (.getfield 57, 3) := by decide +kernel
theorem dX3_count_89 : decode cX3_count 89 = .ok (.ireturn, 1) := by decide +kernel
theorem dX3_count_90 : decode cX3_count 90 = .ok (.aload_n 0, 1) := by decide +kernel
theorem dX3_count_91 : decode cX3_count 91 = .ok (.getfield 71, 3) := by decide +kernel
theorem dX3_count_94 : decode cX3_count 94 = .ok (.ireturn, 1) := by decide +kernel
theorem dX3_count_95 : decode cX3_count 95 = .ok (.aload_n 0, 1) := by decide +kernel
theorem dX3_count_96 : decode cX3_count 96 = .ok (.getfield 36, 3) := by decide +kernel
theorem dX3_count_99 : decode cX3_count 99 = .ok (.ireturn, 1) := by decide +kernel
theorem dX3_count_100 : decode cX3_count 100 = .ok (.iconst (-1), 1) := by decide +kernel
theorem dX3_count_101 : decode cX3_count 101 = .ok (.ireturn, 1) := by decide +kernel
theorem dX3_record_0 : decode cX3_record 0 = .ok (.aload_n 0, 1) := by decide +kernel
theorem dX3_record_1 : decode cX3_record 1 = .ok (.iconst 0, 1) := by decide +kernel
theorem dX3_record_2 : decode cX3_record 2 = .ok (.putfield 28, 3) := by decide +kernel
theorem dX3_record_5 : decode cX3_record 5 = .ok (.iload_n 1, 1) := by decide +kernel
theorem dX3_record_6 : decode cX3_record 6 = .ok (.ifCond .lt 33, 3) := by decide +kernel
theorem dX3_record_9 : decode cX3_record 9 = .ok (.iload_n 1, 1) := by decide +kernel
theorem dX3_record_10 : decode cX3_record 10 = .ok (.aload_n 0, 1) := by decide +kernel
theorem dX3_record_11 : decode cX3_record 11 = .ok (.getfield 84, 3) := by decide +kernel
theorem dX3_record_14 : decode cX3_record 14 = .ok (.if_icmp .ge 25, 3) := by decide +kernel
theorem dX3_record_17 : decode cX3_record 17 = .ok (.iload_n 2, 1) := by decide +kernel
theorem dX3_record_18 : decode cX3_record 18 = .ok (.ifCond .lt 21, 3) := by decide +kernel
theorem dX3_record_21 : decode cX3_record 21 = .ok (.iload_n 2, 1) := by decide +kernel
theorem dX3_record_22 : decode cX3_record 22 = .ok (.iconst 4, 1) := by decide +kernel
theorem dX3_record_23 : decode cX3_record 23 = .ok (.if_icmp .ge 16, 3) := by decide +kernel
theorem dX3_record_26 : decode cX3_record 26 = .ok (.aload_n 0, 1) := by decide +kernel
theorem dX3_record_27 : decode cX3_record 27 = .ok (.getfield 19, 3) := by decide +kernel
theorem dX3_record_30 : decode cX3_record 30 = .ok (.iconst 4, 1) := by decide +kernel
theorem dX3_record_31 : decode cX3_record 31 = .ok (.iload_n 1, 1) := by decide +kernel
theorem dX3_record_32 : decode cX3_record 32 = .ok (.imul, 1) := by decide +kernel
theorem dX3_record_33 : decode cX3_record 33 = .ok (.iload_n 2, 1) := by decide +kernel
theorem dX3_record_34 : decode cX3_record 34 = .ok (.iadd, 1) := by decide +kernel
theorem dX3_record_35 : decode cX3_record 35 = .ok (.iaload, 1) := by decide +kernel
theorem dX3_record_36 : decode cX3_record 36 = .ok (.goto 4, 3) := by decide +kernel
theorem dX3_record_39 : decode cX3_record 39 = .ok (.iconst (-1), 1) := by decide +kernel
theorem dX3_record_40 : decode cX3_record 40 = .ok (.ireturn, 1) := by decide +kernel
set_option maxRecDepth 20000 in
theorem ggX3_drop_X3_shift : GoodIn wsX3_drop wsX3_shift := goodIn_r _ [7] (by decide +kernel) (by decide +kernel)
set_option maxRecDepth 20000 in
theorem gX3_drop_X3_shift : GoodIn wsX3_drop (va_wsS RX3 45 yX3_shift wsX3_shift) := goodIn_app (goodIn_of _ (by decide +kernel)) ggX3_drop_X3_shift
theorem dX3_drop_0 : decode cX3_drop 0 = .ok (.aload_n 0, 1) := by decide +kernel
theorem dX3_drop_1 : decode cX3_drop 1 = .ok (.iconst 0, 1) := by decide +kernel
theorem dX3_drop_2 : decode cX3_drop 2 = .ok (.putfield 28, 3) := by decide +kernel
theorem dX3_drop_5 : decode cX3_drop 5 = .ok (.aload_n 0, 1) := by decide +kernel
theorem dX3_drop_6 : decode cX3_drop 6 = .ok (.getfield 84, 3) := by decide +kernel
theorem dX3_drop_9 : decode cX3_drop 9 = .ok (.ifCond .ne 5, 3) := by decide +kernel
theorem dX3_drop_12 : decode cX3_drop 12 = .ok (.iconst (-1), 1) := by decide +kernel
theorem dX3_drop_13 : decode cX3_drop 13 = .ok (.ireturn, 1) := by decide +kernel
theorem dX3_drop_14 : decode cX3_drop 14 = .ok (.aload_n 0, 1) := by decide +kernel
theorem dX3_drop_15 : decode cX3_drop 15 = .ok (.getfield 19, 3) := by decide +kernel
theorem dX3_drop_18 : decode cX3_drop 18 = .ok (.iconst 4, 1) := by decide +kernel
theorem dX3_drop_19 : decode cX3_drop 19 = .ok (.aload_n 0, 1) := by decide +kernel
theorem dX3_drop_20 : decode cX3_drop 20 = .ok (.getfield 84, 3) := by decide +kernel
theorem dX3_drop_23 : decode cX3_drop 23 = .ok (.invokestatic 45, 3) := by decide +kernel
theorem dX3_drop_26 : decode cX3_drop 26 = .ok (.aload_n 0, 1) := by decide +kernel
theorem dX3_drop_27 : decode cX3_drop 27 = .ok (.dup, 1) := by decide +kernel
theorem dX3_drop_28 : decode cX3_drop 28 = .ok (.getfield 84, 3) := by decide +kernel
theorem dX3_drop_31 : decode cX3_drop 31 = .ok (.iconst 1, 1) := by decide +kernel
theorem dX3_drop_32 : decode cX3_drop 32 = .ok (.isub, 1) := by decide +kernel
theorem dX3_drop_33 : decode cX3_drop 33 = .ok (.putfield 84, 3) := by decide +kernel
theorem dX3_drop_36 : decode cX3_drop 36 = .ok (.aload_n 0, 1) := by decide +kernel
theorem dX3_drop_37 : decode cX3_drop 37 = .ok (.getfield 84, 3) := by decide +kernel
theorem dX3_drop_40 : decode cX3_drop 40 = .ok (.ireturn, 1) := by decide +kernel
theorem dX3_clear_0 : decode cX3_clear 0 = .ok (.aload_n 0, 1) := by decide +kernel
theorem dX3_clear_1 : decode cX3_clear 1 = .ok (.iconst 0, 1) := by decide +kernel
theorem dX3_clear_2 : decode cX3_clear 2 = .ok (.putfield 28, 3) := by decide +kernel
theorem dX3_clear_5 : decode cX3_clear 5 = .ok (.aload_n 0, 1) := by decide +kernel
theorem dX3_clear_6 : decode cX3_clear 6 = .ok (.getfield 84, 3) := by decide +kernel
theorem dX3_clear_9 : decode cX3_clear 9 = .ok (.istore_n 1, 1) := by decide +kernel
theorem dX3_clear_10 : decode cX3_clear 10 = .ok (.aload_n 0, 1) := by decide +kernel
theorem dX3_clear_11 : decode cX3_clear 11 = .ok (.iconst 0, 1) := by decide +kernel
theorem dX3_clear_12 : decode cX3_clear 12 = .ok (.putfield 84, 3) := by decide +kernel
theorem dX3_clear_15 : decode cX3_clear 15 = .ok (.aload_n 0, 1) := by decide +kernel
theorem dX3_clear_16 : decode cX3_clear 16 = .ok (.iconst 0, 1) := by decide +kernel
theorem dX3_clear_17 : decode cX3_clear 17 = .ok (.putfield 87, 3) := by decide +kernel
theorem dX3_clear_20 : decode cX3_clear 20 = .ok (.iload_n 1, 1) := by decide +kernel
theorem dX3_clear_21 : decode cX3_clear 21 = .ok (.ireturn, 1) := by decide +kernel
theorem dX3_leaf_0 : decode cX3_leaf 0 = .ok (.aload_n 0, 1) := by decide +kernel
theorem dX3_leaf_1 : decode cX3_leaf 1 = .ok (.iconst 0, 1) := by decide +kernel
theorem dX3_leaf_2 : decode cX3_leaf 2 = .ok (.putfield 28, 3) := by decide +kernel
theorem dX3_leaf_5 : decode cX3_leaf 5 = .ok (.iload_n 1, 1) := by decide +kernel
theorem dX3_leaf_6 : decode cX3_leaf 6 = .ok (.ifCond .lt 33, 3) := by decide +kernel
theorem dX3_leaf_9 : decode cX3_leaf 9 = .ok (.iload_n 1, 1) := by decide +kernel
theorem dX3_leaf_10 : decode cX3_leaf 10 = .ok (.aload_n 0, 1) := by decide +kernel
theorem dX3_leaf_11 : decode cX3_leaf 11 = .ok (.getfield 49, 3) := by decide +kernel
theorem dX3_leaf_14 : decode cX3_leaf 14 = .ok (.if_icmp .ge 25, 3) := by decide +kernel
theorem dX3_leaf_17 : decode cX3_leaf 17 = .ok (.iload_n 2, 1) := by decide +kernel
theorem dX3_leaf_18 : decode cX3_leaf 18 = .ok (.ifCond .lt 21, 3) := by decide +kernel
theorem dX3_leaf_21 : decode cX3_leaf 21 = .ok (.iload_n 2, 1) := by decide +kernel
theorem dX3_leaf_22 : decode cX3_leaf 22 = .ok (.iconst 5, 1) := by decide +kernel
theorem dX3_leaf_23 : decode cX3_leaf 23 = .ok (.if_icmp .ge 16, 3) := by decide +kernel
theorem dX3_leaf_26 : decode cX3_leaf 26 = .ok (.aload_n 0, 1) := by decide +kernel
theorem dX3_leaf_27 : decode cX3_leaf 27 = .ok (.getfield 16, 3) := by decide +kernel
theorem dX3_leaf_30 : decode cX3_leaf 30 = .ok (.iconst 5, 1) := by decide +kernel
theorem dX3_leaf_31 : decode cX3_leaf 31 = .ok (.iload_n 1, 1) := by decide +kernel
theorem dX3_leaf_32 : decode cX3_leaf 32 = .ok (.imul, 1) := by decide +kernel
theorem dX3_leaf_33 : decode cX3_leaf 33 = .ok (.iload_n 2, 1) := by decide +kernel
theorem dX3_leaf_34 : decode cX3_leaf 34 = .ok (.iadd, 1) := by decide +kernel
theorem dX3_leaf_35 : decode cX3_leaf 35 = .ok (.iaload, 1) := by decide +kernel
theorem dX3_leaf_36 : decode cX3_leaf 36 = .ok (.goto 4, 3) := by decide +kernel
theorem dX3_leaf_39 : decode cX3_leaf 39 = .ok (.iconst (-1), 1) := by decide +kernel
theorem dX3_leaf_40 : decode cX3_leaf 40 = .ok (.ireturn, 1) := by decide +kernel

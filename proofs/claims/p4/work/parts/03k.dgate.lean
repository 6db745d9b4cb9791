set_option maxRecDepth 20000 in
theorem ggX2_finishDescriptor_X0_goOn : GoodIn wsX2_finishDescriptor wsX0_goOn := goodIn_r _ [109, 7, 110, 111, 112, 113, 114, 115, 116, 117, 118, 119, 120, 121, 122, 123, 124, 125, 126] (by first | exact rfl | decide +kernel) (by decide +kernel)
set_option maxRecDepth 20000 in
theorem gX2_finishDescriptor_X0_goOn : GoodIn wsX2_finishDescriptor (wsV RX2 191 RX0 yX0_goOn wsX0_goOn) := goodIn_app (goodIn_of _ (by decide +kernel)) ggX2_finishDescriptor_X0_goOn
theorem dX2_finishDescriptor_0 : decode cX2_finishDescriptor 0 = .ok (.aload_n 0, 1) := dz0 ok_42 (by decide +kernel)
theorem dX2_finishDescriptor_1 : decode cX2_finishDescriptor 1 = .ok (.iload_n 1, 1) := dz0 ok_27 (by decide +kernel)
theorem dX2_finishDescriptor_2 : decode cX2_finishDescriptor 2 = .ok (.aload_n 2, 1) := dz0 ok_44 (by decide +kernel)
theorem dX2_finishDescriptor_3 : decode cX2_finishDescriptor 3 = .ok (.invokevirtual 176, 3) := dzu2 ok_182 (by decide +kernel)
theorem dX2_finishDescriptor_6 : decode cX2_finishDescriptor 6 = .ok (.iconst 3, 1) := dz0 ok_6 (by decide +kernel)
theorem dX2_finishDescriptor_7 : decode cX2_finishDescriptor 7 = .ok (.iadd, 1) := dz0 ok_96 (by decide +kernel)
theorem dX2_finishDescriptor_8 : decode cX2_finishDescriptor 8 = .ok (.iconst 1, 1) := dz0 ok_4 (by decide +kernel)
theorem dX2_finishDescriptor_9 : decode cX2_finishDescriptor 9 = .ok (.invokevirtual 73, 3) := dzu2 ok_182 (by decide +kernel)
theorem dX2_finishDescriptor_12 : decode cX2_finishDescriptor 12 = .ok (.istore_n 3, 1) := dz0 ok_62 (by decide +kernel)
theorem dX2_finishDescriptor_13 : decode cX2_finishDescriptor 13 = .ok (.iload_n 3, 1) := dz0 ok_29 (by decide +kernel)
theorem dX2_finishDescriptor_14 : decode cX2_finishDescriptor 14 = .ok (.ifCond .ge 5, 3) := dzs2 ok_156 (by decide +kernel)
theorem dX2_finishDescriptor_17 : decode cX2_finishDescriptor 17 = .ok (.iconst 0, 1) := dz0 ok_3 (by decide +kernel)
theorem dX2_finishDescriptor_18 : decode cX2_finishDescriptor 18 = .ok (.ireturn, 1) := dz0 ok_172 (by decide +kernel)
theorem dX2_finishDescriptor_19 : decode cX2_finishDescriptor 19 = .ok (.aload_n 0, 1) := dz0 ok_42 (by decide +kernel)
theorem dX2_finishDescriptor_20 : decode cX2_finishDescriptor 20 = .ok (.iload_n 3, 1) := dz0 ok_29 (by decide +kernel)
theorem dX2_finishDescriptor_21 : decode cX2_finishDescriptor 21 = .ok (.aload_n 2, 1) := dz0 ok_44 (by decide +kernel)
theorem dX2_finishDescriptor_22 : decode cX2_finishDescriptor 22 = .ok (.getfield 188, 3) := dzu2 ok_180 (by decide +kernel)
theorem dX2_finishDescriptor_25 : decode cX2_finishDescriptor 25 = .ok (.iconst 1, 1) := dz0 ok_4 (by decide +kernel)
theorem dX2_finishDescriptor_26 : decode cX2_finishDescriptor 26 = .ok (.ior, 1) := dz0 ok_128 (by decide +kernel)
theorem dX2_finishDescriptor_27 : decode cX2_finishDescriptor 27 = .ok (.invokevirtual 62, 3) := dzu2 ok_182 (by decide +kernel)
theorem dX2_finishDescriptor_30 : decode cX2_finishDescriptor 30 = .ok (.pop, 1) := dz0 ok_87 (by decide +kernel)
theorem dX2_finishDescriptor_31 : decode cX2_finishDescriptor 31 = .ok (.aload_n 2, 1) := dz0 ok_44 (by decide +kernel)
theorem dX2_finishDescriptor_32 : decode cX2_finishDescriptor 32 = .ok (.invokevirtual 191, 3) := dzu2 ok_182 (by decide +kernel)
theorem dX2_finishDescriptor_35 : decode cX2_finishDescriptor 35 = .ok (.iconst 1, 1) := dz0 ok_4 (by decide +kernel)
theorem dX2_finishDescriptor_36 : decode cX2_finishDescriptor 36 = .ok (.ireturn, 1) := dz0 ok_172 (by decide +kernel)
set_option maxRecDepth 20000 in
theorem ggX2_carryOut_X1_removeAll : GoodIn wsX2_carryOut wsX1_removeAll := goodIn_r _ [7, 8, 59, 60, 61, 62] (by first | exact rfl | decide +kernel) (by decide +kernel)
set_option maxRecDepth 20000 in
theorem gX2_carryOut_X1_removeAll : GoodIn wsX2_carryOut (wsV RX2 143 RX1 yX1_removeAll wsX1_removeAll) := goodIn_app (goodIn_of _ (by decide +kernel)) ggX2_carryOut_X1_removeAll
set_option maxRecDepth 20000 in
theorem ggX2_carryOut_X2_forgetDomain : GoodIn wsX2_carryOut wsX2_forgetDomain := goodIn_r _ [13, 1, 14, 15, 16, 6, 17, 18, 19, 20, 21, 22, 23, 8, 24, 25, 26, 27, 48, 49, 50, 51, 52, 53, 54, 55, 56, 57, 58, 59, 60, 61, 62] (by first | exact rfl | decide +kernel) (by decide +kernel)
set_option maxRecDepth 20000 in
theorem gX2_carryOut_X2_forgetDomain : GoodIn wsX2_carryOut (wsV RX2 194 RX2 yX2_forgetDomain wsX2_forgetDomain) := goodIn_app (goodIn_of _ (by decide +kernel)) ggX2_carryOut_X2_forgetDomain
set_option maxRecDepth 20000 in
theorem ggX2_carryOut_X2_forgetPage : GoodIn wsX2_carryOut wsX2_forgetPage := goodIn_r _ [31, 1, 14, 15, 16, 6, 17, 18, 19, 20, 21, 22, 23, 8, 32, 33, 34, 12, 35, 24, 25, 26, 27, 48, 49, 50, 51, 52, 53, 54, 55, 56, 57, 58, 59, 60, 61, 62] (by first | exact rfl | decide +kernel) (by decide +kernel)
set_option maxRecDepth 20000 in
theorem gX2_carryOut_X2_forgetPage : GoodIn wsX2_carryOut (wsV RX2 197 RX2 yX2_forgetPage wsX2_forgetPage) := goodIn_app (goodIn_of _ (by decide +kernel)) ggX2_carryOut_X2_forgetPage
set_option maxRecDepth 20000 in
theorem ggX2_carryOut_X2_forgetContext : GoodIn wsX2_carryOut wsX2_forgetContext := goodIn_r _ [39, 2, 14, 15, 16, 6, 17, 18, 19, 20, 21, 22, 23, 8, 24, 25, 26, 27, 48, 49, 50, 51, 52, 53, 54, 55, 56, 57, 58, 59, 60, 61, 62] (by first | exact rfl | decide +kernel) (by decide +kernel)
set_option maxRecDepth 20000 in
theorem gX2_carryOut_X2_forgetContext : GoodIn wsX2_carryOut (wsV RX2 200 RX2 yX2_forgetContext wsX2_forgetContext) := goodIn_app (goodIn_of _ (by decide +kernel)) ggX2_carryOut_X2_forgetContext
set_option maxRecDepth 20000 in
theorem ggX2_carryOut_X2_setWord : GoodIn wsX2_carryOut wsX2_setWord := goodIn_r _ [43, 44, 45, 46, 12, 47, 48, 49, 50, 51, 52, 53, 54, 55, 56, 57, 58] (by first | exact rfl | decide +kernel) (by decide +kernel)
set_option maxRecDepth 20000 in
theorem gX2_carryOut_X2_setWord : GoodIn wsX2_carryOut (wsV RX2 62 RX2 yX2_setWord wsX2_setWord) := goodIn_app (goodIn_of _ (by decide +kernel)) ggX2_carryOut_X2_setWord
theorem dX2_carryOut_0 : decode cX2_carryOut 0 = .ok (.iload_n 1, 1) := dz0 ok_27 (by decide +kernel)
theorem dX2_carryOut_1 : decode cX2_carryOut 1 = .ok (.tableswitch 80 0 4 #[35, 45, 53, 62, 70], 35) := by decide +kernel
theorem dX2_carryOut_36 : decode cX2_carryOut 36 = .ok (.aload_n 0, 1) := dz0 ok_42 (by decide +kernel)
theorem dX2_carryOut_37 : decode cX2_carryOut 37 = .ok (.getfield 22, 3) := dzu2 ok_180 (by decide +kernel)
theorem dX2_carryOut_40 : decode cX2_carryOut 40 = .ok (.invokevirtual 143, 3) := dzu2 ok_182 (by decide +kernel)
theorem dX2_carryOut_43 : decode cX2_carryOut 43 = .ok (.goto 45, 3) := dzs2 ok_167 (by decide +kernel)
theorem dX2_carryOut_46 : decode cX2_carryOut 46 = .ok (.aload_n 0, 1) := dz0 ok_42 (by decide +kernel)
theorem dX2_carryOut_47 : decode cX2_carryOut 47 = .ok (.iload_n 2, 1) := dz0 ok_28 (by decide +kernel)
theorem dX2_carryOut_48 : decode cX2_carryOut 48 = .ok (.invokevirtual 194, 3) := dzu2 ok_182 (by decide +kernel)
theorem dX2_carryOut_51 : decode cX2_carryOut 51 = .ok (.goto 37, 3) := dzs2 ok_167 (by decide +kernel)
theorem dX2_carryOut_54 : decode cX2_carryOut 54 = .ok (.aload_n 0, 1) := dz0 ok_42 (by decide +kernel)
theorem dX2_carryOut_55 : decode cX2_carryOut 55 = .ok (.iload_n 2, 1) := dz0 ok_28 (by decide +kernel)
theorem dX2_carryOut_56 : decode cX2_carryOut 56 = .ok (.iload_n 3, 1) := dz0 ok_29 (by decide +kernel)
theorem dX2_carryOut_57 : decode cX2_carryOut 57 = .ok (.invokevirtual 197, 3) := dzu2 ok_182 (by decide +kernel)
theorem dX2_carryOut_60 : decode cX2_carryOut 60 = .ok (.goto 28, 3) := dzs2 ok_167 (by decide +kernel)
theorem dX2_carryOut_63 : decode cX2_carryOut 63 = .ok (.aload_n 0, 1) := dz0 ok_42 (by decide +kernel)
theorem dX2_carryOut_64 : decode cX2_carryOut 64 = .ok (.iload_n 2, 1) := dz0 ok_28 (by decide +kernel)
theorem dX2_carryOut_65 : decode cX2_carryOut 65 = .ok (.invokevirtual 200, 3) := dzu2 ok_182 (by decide +kernel)
theorem dX2_carryOut_68 : decode cX2_carryOut 68 = .ok (.goto 20, 3) := dzs2 ok_167 (by decide +kernel)
theorem dX2_carryOut_71 : decode cX2_carryOut 71 = .ok (.aload_n 0, 1) := dz0 ok_42 (by decide +kernel)
theorem dX2_carryOut_72 : decode cX2_carryOut 72 = .ok (.getfield 18, 3) := dzu2 ok_180 (by decide +kernel)
theorem dX2_carryOut_75 : decode cX2_carryOut 75 = .ok (.invokevirtual 143, 3) := dzu2 ok_182 (by decide +kernel)
theorem dX2_carryOut_78 : decode cX2_carryOut 78 = .ok (.goto 10, 3) := dzs2 ok_167 (by decide +kernel)
theorem dX2_carryOut_81 : decode cX2_carryOut 81 = .ok (.aload_n 0, 1) := dz0 ok_42 (by decide +kernel)
theorem dX2_carryOut_82 : decode cX2_carryOut 82 = .ok (.iload_n 2, 1) := dz0 ok_28 (by decide +kernel)
theorem dX2_carryOut_83 : decode cX2_carryOut 83 = .ok (.iload_n 3, 1) := dz0 ok_29 (by decide +kernel)
theorem dX2_carryOut_84 : decode cX2_carryOut 84 = .ok (.invokevirtual 62, 3) := dzu2 ok_182 (by decide +kernel)
theorem dX2_carryOut_87 : decode cX2_carryOut 87 = .ok (.pop, 1) := dz0 ok_87 (by decide +kernel)
theorem dX2_carryOut_88 : decode cX2_carryOut 88 = .ok (.return_, 1) := dz0 ok_177 (by decide +kernel)
set_option maxRecDepth 20000 in
theorem ggX2_forgetDomain_X1_cell : GoodIn wsX2_forgetDomain wsX1_cell := goodIn_r _ [6, 7, 8, 9, 10, 11, 5, 12, 13, 29, 30, 31, 32] (by first | exact rfl | decide +kernel) (by decide +kernel)
set_option maxRecDepth 20000 in
theorem gX2_forgetDomain_X1_cell : GoodIn wsX2_forgetDomain (wsV RX2 133 RX1 yX1_cell wsX1_cell) := goodIn_app (goodIn_of _ (by decide +kernel)) ggX2_forgetDomain_X1_cell
set_option maxRecDepth 20000 in
theorem ggX2_forgetDomain_X1_remove : GoodIn wsX2_forgetDomain wsX1_remove := goodIn_r _ [17, 13, 8, 7, 29, 30, 31, 32] (by first | exact rfl | decide +kernel) (by decide +kernel)
set_option maxRecDepth 20000 in
theorem gX2_forgetDomain_X1_remove : GoodIn wsX2_forgetDomain (wsV RX2 139 RX1 yX1_remove wsX1_remove) := goodIn_app (goodIn_of _ (by decide +kernel)) ggX2_forgetDomain_X1_remove
theorem dX2_forgetDomain_0 : decode cX2_forgetDomain 0 = .ok (.aload_n 0, 1) := dz0 ok_42 (by decide +kernel)
theorem dX2_forgetDomain_1 : decode cX2_forgetDomain 1 = .ok (.getfield 22, 3) := dzu2 ok_180 (by decide +kernel)
theorem dX2_forgetDomain_4 : decode cX2_forgetDomain 4 = .ok (.getfield 130, 3) := dzu2 ok_180 (by decide +kernel)
theorem dX2_forgetDomain_7 : decode cX2_forgetDomain 7 = .ok (.iconst 1, 1) := dz0 ok_4 (by decide +kernel)
theorem dX2_forgetDomain_8 : decode cX2_forgetDomain 8 = .ok (.isub, 1) := dz0 ok_100 (by decide +kernel)
theorem dX2_forgetDomain_9 : decode cX2_forgetDomain 9 = .ok (.istore_n 2, 1) := dz0 ok_61 (by decide +kernel)
theorem dX2_forgetDomain_10 : decode cX2_forgetDomain 10 = .ok (.iload_n 2, 1) := dz0 ok_28 (by decide +kernel)
theorem dX2_forgetDomain_11 : decode cX2_forgetDomain 11 = .ok (.ifCond .lt 30, 3) := dzs2 ok_155 (by decide +kernel)
theorem dX2_forgetDomain_14 : decode cX2_forgetDomain 14 = .ok (.aload_n 0, 1) := dz0 ok_42 (by decide +kernel)
theorem dX2_forgetDomain_15 : decode cX2_forgetDomain 15 = .ok (.getfield 22, 3) := dzu2 ok_180 (by decide +kernel)
theorem dX2_forgetDomain_18 : decode cX2_forgetDomain 18 = .ok (.iload_n 2, 1) := dz0 ok_28 (by decide +kernel)
theorem dX2_forgetDomain_19 : decode cX2_forgetDomain 19 = .ok (.iconst 0, 1) := dz0 ok_3 (by decide +kernel)
theorem dX2_forgetDomain_20 : decode cX2_forgetDomain 20 = .ok (.invokevirtual 133, 3) := dzu2 ok_182 (by decide +kernel)
theorem dX2_forgetDomain_23 : decode cX2_forgetDomain 23 = .ok (.iload_n 1, 1) := dz0 ok_27 (by decide +kernel)
theorem dX2_forgetDomain_24 : decode cX2_forgetDomain 24 = .ok (.if_icmp .ne 11, 3) := dzs2 ok_160 (by decide +kernel)
theorem dX2_forgetDomain_27 : decode cX2_forgetDomain 27 = .ok (.aload_n 0, 1) := dz0 ok_42 (by decide +kernel)
theorem dX2_forgetDomain_28 : decode cX2_forgetDomain 28 = .ok (.getfield 22, 3) := dzu2 ok_180 (by decide +kernel)
theorem dX2_forgetDomain_31 : decode cX2_forgetDomain 31 = .ok (.iload_n 2, 1) := dz0 ok_28 (by decide +kernel)
theorem dX2_forgetDomain_32 : decode cX2_forgetDomain 32 = .ok (.invokevirtual 139, 3) := dzu2 ok_182 (by decide +kernel)
theorem dX2_forgetDomain_35 : decode cX2_forgetDomain 35 = .ok (.iinc 2 (-1), 3) := dzii (by decide +kernel)
theorem dX2_forgetDomain_38 : decode cX2_forgetDomain 38 = .ok (.goto (-28), 3) := dzs2 ok_167 (by decide +kernel)
theorem dX2_forgetDomain_41 : decode cX2_forgetDomain 41 = .ok (.return_, 1) := dz0 ok_177 (by decide +kernel)
set_option maxRecDepth 20000 in
theorem ggX2_forgetPage_X1_cell : GoodIn wsX2_forgetPage wsX1_cell := goodIn_r _ [6, 7, 8, 9, 10, 11, 5, 12, 13, 34, 35, 36, 37] (by first | exact rfl | decide +kernel) (by decide +kernel)
set_option maxRecDepth 20000 in
theorem gX2_forgetPage_X1_cell : GoodIn wsX2_forgetPage (wsV RX2 133 RX1 yX1_cell wsX1_cell) := goodIn_app (goodIn_of _ (by decide +kernel)) ggX2_forgetPage_X1_cell
set_option maxRecDepth 20000 in
theorem ggX2_forgetPage_X2_isForPage : GoodIn wsX2_forgetPage wsX2_isForPage := goodIn_r _ [18, 1, 2, 3, 4, 5, 6, 7, 8, 9, 10, 11, 12, 13, 23, 24, 25, 26, 27, 28, 29, 30, 31, 32, 33, 34, 35, 36, 37] (by first | exact rfl | decide +kernel) (by decide +kernel)
set_option maxRecDepth 20000 in
theorem gX2_forgetPage_X2_isForPage : GoodIn wsX2_forgetPage (wsV RX2 166 RX2 yX2_isForPage wsX2_isForPage) := goodIn_app (goodIn_of _ (by decide +kernel)) ggX2_forgetPage_X2_isForPage
set_option maxRecDepth 20000 in
theorem ggX2_forgetPage_X1_remove : GoodIn wsX2_forgetPage wsX1_remove := goodIn_r _ [22, 13, 8, 7, 34, 35, 36, 37] (by first | exact rfl | decide +kernel) (by decide +kernel)
set_option maxRecDepth 20000 in
theorem gX2_forgetPage_X1_remove : GoodIn wsX2_forgetPage (wsV RX2 139 RX1 yX1_remove wsX1_remove) := goodIn_app (goodIn_of _ (by decide +kernel)) ggX2_forgetPage_X1_remove
theorem dX2_forgetPage_0 : decode cX2_forgetPage 0 = .ok (.aload_n 0, 1) := dz0 ok_42 (by decide +kernel)
theorem dX2_forgetPage_1 : decode cX2_forgetPage 1 = .ok (.getfield 22, 3) := dzu2 ok_180 (by decide +kernel)
theorem dX2_forgetPage_4 : decode cX2_forgetPage 4 = .ok (.getfield 130, 3) := dzu2 ok_180 (by decide +kernel)
theorem dX2_forgetPage_7 : decode cX2_forgetPage 7 = .ok (.iconst 1, 1) := dz0 ok_4 (by decide +kernel)
theorem dX2_forgetPage_8 : decode cX2_forgetPage 8 = .ok (.isub, 1) := dz0 ok_100 (by decide +kernel)
theorem dX2_forgetPage_9 : decode cX2_forgetPage 9 = .ok (.istore_n 3, 1) := dz0 ok_62 (by decide +kernel)
theorem dX2_forgetPage_10 : decode cX2_forgetPage 10 = .ok (.iload_n 3, 1) := dz0 ok_29 (by decide +kernel)
theorem dX2_forgetPage_11 : decode cX2_forgetPage 11 = .ok (.ifCond .lt 39, 3) := dzs2 ok_155 (by decide +kernel)
theorem dX2_forgetPage_14 : decode cX2_forgetPage 14 = .ok (.aload_n 0, 1) := dz0 ok_42 (by decide +kernel)
theorem dX2_forgetPage_15 : decode cX2_forgetPage 15 = .ok (.getfield 22, 3) := dzu2 ok_180 (by decide +kernel)
theorem dX2_forgetPage_18 : decode cX2_forgetPage 18 = .ok (.iload_n 3, 1) := dz0 ok_29 (by decide +kernel)
theorem dX2_forgetPage_19 : decode cX2_forgetPage 19 = .ok (.iconst 0, 1) := dz0 ok_3 (by decide +kernel)
theorem dX2_forgetPage_20 : decode cX2_forgetPage 20 = .ok (.invokevirtual 133, 3) := dzu2 ok_182 (by decide +kernel)
theorem dX2_forgetPage_23 : decode cX2_forgetPage 23 = .ok (.iload_n 1, 1) := dz0 ok_27 (by decide +kernel)
theorem dX2_forgetPage_24 : decode cX2_forgetPage 24 = .ok (.if_icmp .ne 20, 3) := dzs2 ok_160 (by decide +kernel)
theorem dX2_forgetPage_27 : decode cX2_forgetPage 27 = .ok (.aload_n 0, 1) := dz0 ok_42 (by decide +kernel)
theorem dX2_forgetPage_28 : decode cX2_forgetPage 28 = .ok (.iload_n 3, 1) := dz0 ok_29 (by decide +kernel)
theorem dX2_forgetPage_29 : decode cX2_forgetPage 29 = .ok (.iload_n 2, 1) := dz0 ok_28 (by decide +kernel)
theorem dX2_forgetPage_30 : decode cX2_forgetPage 30 = .ok (.invokevirtual 166, 3) := dzu2 ok_182 (by decide +kernel)
theorem dX2_forgetPage_33 : decode cX2_forgetPage 33 = .ok (.ifCond .eq 11, 3) := dzs2 ok_153 (by decide +kernel)
theorem dX2_forgetPage_36 : decode cX2_forgetPage 36 = .ok (.aload_n 0, 1) := dz0 ok_42 (by decide +kernel)
theorem dX2_forgetPage_37 : decode cX2_forgetPage 37 = .ok (.getfield 22, 3) := dzu2 ok_180 (by decide +kernel)
theorem dX2_forgetPage_40 : decode cX2_forgetPage 40 = .ok (.iload_n 3, 1) := dz0 ok_29 (by decide +kernel)
theorem dX2_forgetPage_41 : decode cX2_forgetPage 41 = .ok (.invokevirtual 139, 3) := dzu2 ok_182 (by decide +kernel)
theorem dX2_forgetPage_44 : decode cX2_forgetPage 44 = .ok (.iinc 3 (-1), 3) := dzii (by decide +kernel)
theorem dX2_forgetPage_47 : decode cX2_forgetPage 47 = .ok (.goto (-37), 3) := dzs2 ok_167 (by decide +kernel)
theorem dX2_forgetPage_50 : decode cX2_forgetPage 50 = .ok (.return_, 1) := dz0 ok_177 (by decide +kernel)
set_option maxRecDepth 20000 in
theorem ggX2_forgetContext_X1_cell : GoodIn wsX2_forgetContext wsX1_cell := goodIn_r _ [6, 7, 8, 9, 10, 11, 5, 12, 13, 29, 30, 31, 32] (by first | exact rfl | decide +kernel) (by decide +kernel)
set_option maxRecDepth 20000 in
theorem gX2_forgetContext_X1_cell : GoodIn wsX2_forgetContext (wsV RX2 133 RX1 yX1_cell wsX1_cell) := goodIn_app (goodIn_of _ (by decide +kernel)) ggX2_forgetContext_X1_cell
set_option maxRecDepth 20000 in
theorem ggX2_forgetContext_X1_remove : GoodIn wsX2_forgetContext wsX1_remove := goodIn_r _ [17, 13, 8, 7, 29, 30, 31, 32] (by first | exact rfl | decide +kernel) (by decide +kernel)
set_option maxRecDepth 20000 in
theorem gX2_forgetContext_X1_remove : GoodIn wsX2_forgetContext (wsV RX2 139 RX1 yX1_remove wsX1_remove) := goodIn_app (goodIn_of _ (by decide +kernel)) ggX2_forgetContext_X1_remove
theorem dX2_forgetContext_0 : decode cX2_forgetContext 0 = .ok (.aload_n 0, 1) := dz0 ok_42 (by decide +kernel)
theorem dX2_forgetContext_1 : decode cX2_forgetContext 1 = .ok (.getfield 18, 3) := dzu2 ok_180 (by decide +kernel)
theorem dX2_forgetContext_4 : decode cX2_forgetContext 4 = .ok (.getfield 130, 3) := dzu2 ok_180 (by decide +kernel)
theorem dX2_forgetContext_7 : decode cX2_forgetContext 7 = .ok (.iconst 1, 1) := dz0 ok_4 (by decide +kernel)
theorem dX2_forgetContext_8 : decode cX2_forgetContext 8 = .ok (.isub, 1) := dz0 ok_100 (by decide +kernel)
theorem dX2_forgetContext_9 : decode cX2_forgetContext 9 = .ok (.istore_n 2, 1) := dz0 ok_61 (by decide +kernel)
theorem dX2_forgetContext_10 : decode cX2_forgetContext 10 = .ok (.iload_n 2, 1) := dz0 ok_28 (by decide +kernel)
theorem dX2_forgetContext_11 : decode cX2_forgetContext 11 = .ok (.ifCond .lt 30, 3) := dzs2 ok_155 (by decide +kernel)
theorem dX2_forgetContext_14 : decode cX2_forgetContext 14 = .ok (.aload_n 0, 1) := dz0 ok_42 (by decide +kernel)
theorem dX2_forgetContext_15 : decode cX2_forgetContext 15 = .ok (.getfield 18, 3) := dzu2 ok_180 (by decide +kernel)
theorem dX2_forgetContext_18 : decode cX2_forgetContext 18 = .ok (.iload_n 2, 1) := dz0 ok_28 (by decide +kernel)
theorem dX2_forgetContext_19 : decode cX2_forgetContext 19 = .ok (.iconst 0, 1) := dz0 ok_3 (by decide +kernel)
theorem dX2_forgetContext_20 : decode cX2_forgetContext 20 = .ok (.invokevirtual 133, 3) := dzu2 ok_182 (by decide +kernel)
theorem dX2_forgetContext_23 : decode cX2_forgetContext 23 = .ok (.iload_n 1, 1) := dz0 ok_27 (by decide +kernel)
theorem dX2_forgetContext_24 : decode cX2_forgetContext 24 = .ok (.if_icmp .ne 11, 3) := dzs2 ok_160 (by decide +kernel)
theorem dX2_forgetContext_27 : decode cX2_forgetContext 27 = .ok (.aload_n 0, 1) := dz0 ok_42 (by decide +kernel)
theorem dX2_forgetContext_28 : decode cX2_forgetContext 28 = .ok (.getfield 18, 3) := dzu2 ok_180 (by decide +kernel)
theorem dX2_forgetContext_31 : decode cX2_forgetContext 31 = .ok (.iload_n 2, 1) := dz0 ok_28 (by decide +kernel)
theorem dX2_forgetContext_32 : decode cX2_forgetContext 32 = .ok (.invokevirtual 139, 3) := dzu2 ok_182 (by decide +kernel)
theorem dX2_forgetContext_35 : decode cX2_forgetContext 35 = .ok (.iinc 2 (-1), 3) := dzii (by decide +kernel)
theorem dX2_forgetContext_38 : decode cX2_forgetContext 38 = .ok (.goto (-28), 3) := dzs2 ok_167 (by decide +kernel)
theorem dX2_forgetContext_41 : decode cX2_forgetContext 41 = .ok (.return_, 1) := dz0 ok_177 (by decide +kernel)


theorem dX2_logFault_65 : decode cX2_logFault 65 = .ok (.iconst 0, 1) := dz0 ok_3 (by decide +kernel)
theorem dX2_logFault_66 : decode cX2_logFault 66 = .ok (.invokevirtual 126, 3) := dzu2 ok_182 (by decide +kernel)
theorem dX2_logFault_69 : decode cX2_logFault 69 = .ok (.aload_n 0, 1) := dz0 ok_42 (by decide +kernel)
theorem dX2_logFault_70 : decode cX2_logFault 70 = .ok (.getfield 25, 3) := dzu2 ok_180 (by decide +kernel)
theorem dX2_logFault_73 : decode cX2_logFault 73 = .ok (.iload 4, 2) := dzu1 ok_21 (by decide +kernel)
theorem dX2_logFault_75 : decode cX2_logFault 75 = .ok (.iconst 3, 1) := dz0 ok_6 (by decide +kernel)
theorem dX2_logFault_76 : decode cX2_logFault 76 = .ok (.iload_n 2, 1) := dz0 ok_28 (by decide +kernel)
theorem dX2_logFault_77 : decode cX2_logFault 77 = .ok (.invokevirtual 126, 3) := dzu2 ok_182 (by decide +kernel)
theorem dX2_logFault_80 : decode cX2_logFault 80 = .ok (.return_, 1) := dz0 ok_177 (by decide +kernel)
set_option maxRecDepth 20000 in
theorem ggX2_lead_X2_isBelow : GoodIn wsX2_lead wsX2_isBelow := goodIn_r _ [7] (by first | exact rfl | decide +kernel) (by decide +kernel)
set_option maxRecDepth 20000 in
theorem gX2_lead_X2_isBelow : GoodIn wsX2_lead (va_wsS RX2 55 yX2_isBelow wsX2_isBelow) := goodIn_app (goodIn_of _ (by decide +kernel)) ggX2_lead_X2_isBelow
set_option maxRecDepth 20000 in
theorem ggX2_lead_X2_contextOf : GoodIn wsX2_lead wsX2_contextOf := goodIn_r _ [11, 2, 12, 13, 14, 15, 16, 17, 18, 19, 20, 21, 22, 23, 24, 25, 26, 27, 6, 28, 29, 30, 31, 32, 33, 34, 4, 5, 7, 35, 36, 37, 38, 39, 40, 41, 42, 43, 44, 45, 46, 47, 48, 49, 50, 51, 79, 80, 81, 82, 83, 84, 85, 86, 87, 88, 89, 90, 91, 92, 93] (by first | exact rfl | decide +kernel) (by decide +kernel)
set_option maxRecDepth 20000 in
theorem gX2_lead_X2_contextOf : GoodIn wsX2_lead (wsV RX2 154 RX2 yX2_contextOf wsX2_contextOf) := goodIn_app (goodIn_of _ (by decide +kernel)) ggX2_lead_X2_contextOf
set_option maxRecDepth 20000 in
theorem ggX2_lead_X1_cell : GoodIn wsX2_lead wsX1_cell := goodIn_r _ [17, 18, 19, 20, 21, 22, 16, 23, 24, 90, 91, 92, 93] (by first | exact rfl | decide +kernel) (by decide +kernel)
set_option maxRecDepth 20000 in
theorem gX2_lead_X1_cell : GoodIn wsX2_lead (wsV RX2 133 RX1 yX1_cell wsX1_cell) := goodIn_app (goodIn_of _ (by decide +kernel)) ggX2_lead_X1_cell
set_option maxRecDepth 20000 in
theorem ggX2_lead_X2_pageOf : GoodIn wsX2_lead wsX2_pageOf := goodIn_r _ [54] (by first | exact rfl | decide +kernel) (by decide +kernel)
set_option maxRecDepth 20000 in
theorem gX2_lead_X2_pageOf : GoodIn wsX2_lead (va_wsS RX2 157 yX2_pageOf wsX2_pageOf) := goodIn_app (goodIn_of _ (by decide +kernel)) ggX2_lead_X2_pageOf
set_option maxRecDepth 20000 in
theorem ggX2_lead_X2_leafFor : GoodIn wsX2_lead wsX2_leafFor := goodIn_r _ [58, 3, 59, 13, 14, 15, 16, 17, 18, 19, 20, 21, 22, 23, 24, 60, 61, 62, 6, 63, 64, 65, 66, 67, 12, 68, 69, 70, 30, 31, 32, 33, 34, 4, 5, 7, 52, 53, 54, 71, 72, 73, 74, 35, 36, 37, 38, 39, 40, 41, 42, 43, 44, 45, 46, 47, 48, 49, 50, 51, 79, 80, 81, 82, 83, 84, 85, 86, 87, 88, 89, 90, 91, 92, 93] (by first | exact rfl | decide +kernel) (by decide +kernel)
set_option maxRecDepth 20000 in
theorem gX2_lead_X2_leafFor : GoodIn wsX2_lead (wsV RX2 160 RX2 yX2_leafFor wsX2_leafFor) := goodIn_app (goodIn_of _ (by decide +kernel)) ggX2_lead_X2_leafFor
set_option maxRecDepth 20000 in
theorem ggX2_lead_X2_placeBy : GoodIn wsX2_lead wsX2_placeBy := goodIn_r _ [78, 3, 13, 14, 15, 16, 17, 18, 19, 20, 21, 22, 23, 24, 68, 69, 6, 70, 79, 80, 81, 82, 83, 84, 85, 86, 87, 88, 89, 90, 91, 92, 93] (by first | exact rfl | decide +kernel) (by decide +kernel)
set_option maxRecDepth 20000 in
theorem gX2_lead_X2_placeBy : GoodIn wsX2_lead (wsV RX2 163 RX2 yX2_placeBy wsX2_placeBy) := goodIn_app (goodIn_of _ (by decide +kernel)) ggX2_lead_X2_placeBy
theorem dX2_lead_0 : decode cX2_lead 0 = .ok (.iload_n 2, 1) := dz0 ok_28 (by decide +kernel)
theorem dX2_lead_1 : decode cX2_lead 1 = .ok (.ldc 80, 2) := dzu1 ok_18 (by decide +kernel)
theorem dX2_lead_3 : decode cX2_lead 3 = .ok (.invokestatic 55, 3) := dzu2 ok_184 (by decide +kernel)
theorem dX2_lead_6 : decode cX2_lead 6 = .ok (.ifCond .ne 6, 3) := dzs2 ok_154 (by decide +kernel)
theorem dX2_lead_9 : decode cX2_lead 9 = .ok (.bipush (-4), 2) := dzs1 ok_16 (by decide +kernel)
theorem dX2_lead_11 : decode cX2_lead 11 = .ok (.ireturn, 1) := dz0 ok_172 (by decide +kernel)
theorem dX2_lead_12 : decode cX2_lead 12 = .ok (.aload_n 0, 1) := dz0 ok_42 (by decide +kernel)
theorem dX2_lead_13 : decode cX2_lead 13 = .ok (.iload_n 1, 1) := dz0 ok_27 (by decide +kernel)
theorem dX2_lead_14 : decode cX2_lead 14 = .ok (.invokevirtual 154, 3) := dzu2 ok_182 (by decide +kernel)
theorem dX2_lead_17 : decode cX2_lead 17 = .ok (.istore 4, 2) := dzu1 ok_54 (by decide +kernel)
theorem dX2_lead_19 : decode cX2_lead 19 = .ok (.iload 4, 2) := dzu1 ok_21 (by decide +kernel)
theorem dX2_lead_21 : decode cX2_lead 21 = .ok (.iconst (-1), 1) := dz0 ok_2 (by decide +kernel)
theorem dX2_lead_22 : decode cX2_lead 22 = .ok (.if_icmp .ne 5, 3) := dzs2 ok_160 (by decide +kernel)
theorem dX2_lead_25 : decode cX2_lead 25 = .ok (.iconst (-1), 1) := dz0 ok_2 (by decide +kernel)
theorem dX2_lead_26 : decode cX2_lead 26 = .ok (.ireturn, 1) := dz0 ok_172 (by decide +kernel)
theorem dX2_lead_27 : decode cX2_lead 27 = .ok (.aload_n 0, 1) := dz0 ok_42 (by decide +kernel)
theorem dX2_lead_28 : decode cX2_lead 28 = .ok (.getfield 18, 3) := dzu2 ok_180 (by decide +kernel)
theorem dX2_lead_31 : decode cX2_lead 31 = .ok (.iload 4, 2) := dzu1 ok_21 (by decide +kernel)
theorem dX2_lead_33 : decode cX2_lead 33 = .ok (.iconst 1, 1) := dz0 ok_4 (by decide +kernel)
theorem dX2_lead_34 : decode cX2_lead 34 = .ok (.invokevirtual 133, 3) := dzu2 ok_182 (by decide +kernel)
theorem dX2_lead_37 : decode cX2_lead 37 = .ok (.istore 5, 2) := dzu1 ok_54 (by decide +kernel)
theorem dX2_lead_39 : decode cX2_lead 39 = .ok (.iload 5, 2) := dzu1 ok_21 (by decide +kernel)
theorem dX2_lead_41 : decode cX2_lead 41 = .ok (.iconst 2, 1) := dz0 ok_5 (by decide +kernel)
theorem dX2_lead_42 : decode cX2_lead 42 = .ok (.iand, 1) := dz0 ok_126 (by decide +kernel)
theorem dX2_lead_43 : decode cX2_lead 43 = .ok (.ifCond .eq 17, 3) := dzs2 ok_153 (by decide +kernel)
theorem dX2_lead_46 : decode cX2_lead 46 = .ok (.iload_n 2, 1) := dz0 ok_28 (by decide +kernel)
theorem dX2_lead_47 : decode cX2_lead 47 = .ok (.sipush 16384, 3) := dzs2 ok_17 (by decide +kernel)
theorem dX2_lead_50 : decode cX2_lead 50 = .ok (.if_icmp .ge 7, 3) := dzs2 ok_162 (by decide +kernel)
theorem dX2_lead_53 : decode cX2_lead 53 = .ok (.iload_n 2, 1) := dz0 ok_28 (by decide +kernel)
theorem dX2_lead_54 : decode cX2_lead 54 = .ok (.goto 5, 3) := dzs2 ok_167 (by decide +kernel)
theorem dX2_lead_57 : decode cX2_lead 57 = .ok (.bipush (-4), 2) := dzs1 ok_16 (by decide +kernel)
theorem dX2_lead_59 : decode cX2_lead 59 = .ok (.ireturn, 1) := dz0 ok_172 (by decide +kernel)
theorem dX2_lead_60 : decode cX2_lead 60 = .ok (.aload_n 0, 1) := dz0 ok_42 (by decide +kernel)
theorem dX2_lead_61 : decode cX2_lead 61 = .ok (.aload_n 0, 1) := dz0 ok_42 (by decide +kernel)
theorem dX2_lead_62 : decode cX2_lead 62 = .ok (.getfield 18, 3) := dzu2 ok_180 (by decide +kernel)
theorem dX2_lead_65 : decode cX2_lead 65 = .ok (.iload 4, 2) := dzu1 ok_21 (by decide +kernel)
theorem dX2_lead_67 : decode cX2_lead 67 = .ok (.iconst 2, 1) := dz0 ok_5 (by decide +kernel)
theorem dX2_lead_68 : decode cX2_lead 68 = .ok (.invokevirtual 133, 3) := dzu2 ok_182 (by decide +kernel)
theorem dX2_lead_71 : decode cX2_lead 71 = .ok (.iload 5, 2) := dzu1 ok_21 (by decide +kernel)
theorem dX2_lead_73 : decode cX2_lead 73 = .ok (.invokestatic 157, 3) := dzu2 ok_184 (by decide +kernel)
theorem dX2_lead_76 : decode cX2_lead 76 = .ok (.iload_n 2, 1) := dz0 ok_28 (by decide +kernel)
theorem dX2_lead_77 : decode cX2_lead 77 = .ok (.bipush 8, 2) := dzs1 ok_16 (by decide +kernel)
theorem dX2_lead_79 : decode cX2_lead 79 = .ok (.ishr, 1) := dz0 ok_122 (by decide +kernel)
theorem dX2_lead_80 : decode cX2_lead 80 = .ok (.invokevirtual 160, 3) := dzu2 ok_182 (by decide +kernel)
theorem dX2_lead_83 : decode cX2_lead 83 = .ok (.istore 6, 2) := dzu1 ok_54 (by decide +kernel)
theorem dX2_lead_85 : decode cX2_lead 85 = .ok (.iload 6, 2) := dzu1 ok_21 (by decide +kernel)
theorem dX2_lead_87 : decode cX2_lead 87 = .ok (.ifCond .ge 6, 3) := dzs2 ok_156 (by decide +kernel)
theorem dX2_lead_90 : decode cX2_lead 90 = .ok (.iload 6, 2) := dzu1 ok_21 (by decide +kernel)
theorem dX2_lead_92 : decode cX2_lead 92 = .ok (.ireturn, 1) := dz0 ok_172 (by decide +kernel)
theorem dX2_lead_93 : decode cX2_lead 93 = .ok (.aload_n 0, 1) := dz0 ok_42 (by decide +kernel)
theorem dX2_lead_94 : decode cX2_lead 94 = .ok (.getfield 22, 3) := dzu2 ok_180 (by decide +kernel)
theorem dX2_lead_97 : decode cX2_lead 97 = .ok (.iload 6, 2) := dzu1 ok_21 (by decide +kernel)
theorem dX2_lead_99 : decode cX2_lead 99 = .ok (.iconst 4, 1) := dz0 ok_7 (by decide +kernel)
theorem dX2_lead_100 : decode cX2_lead 100 = .ok (.invokevirtual 133, 3) := dzu2 ok_182 (by decide +kernel)
theorem dX2_lead_103 : decode cX2_lead 103 = .ok (.iload_n 3, 1) := dz0 ok_29 (by decide +kernel)
theorem dX2_lead_104 : decode cX2_lead 104 = .ok (.iand, 1) := dz0 ok_126 (by decide +kernel)
theorem dX2_lead_105 : decode cX2_lead 105 = .ok (.ifCond .ne 6, 3) := dzs2 ok_154 (by decide +kernel)
theorem dX2_lead_108 : decode cX2_lead 108 = .ok (.bipush (-3), 2) := dzs1 ok_16 (by decide +kernel)
theorem dX2_lead_110 : decode cX2_lead 110 = .ok (.ireturn, 1) := dz0 ok_172 (by decide +kernel)
theorem dX2_lead_111 : decode cX2_lead 111 = .ok (.aload_n 0, 1) := dz0 ok_42 (by decide +kernel)
theorem dX2_lead_112 : decode cX2_lead 112 = .ok (.iload 6, 2) := dzu1 ok_21 (by decide +kernel)
theorem dX2_lead_114 : decode cX2_lead 114 = .ok (.iload_n 2, 1) := dz0 ok_28 (by decide +kernel)
theorem dX2_lead_115 : decode cX2_lead 115 = .ok (.invokevirtual 163, 3) := dzu2 ok_182 (by decide +kernel)
theorem dX2_lead_118 : decode cX2_lead 118 = .ok (.ireturn, 1) := dz0 ok_172 (by decide +kernel)
set_option maxRecDepth 20000 in
theorem ggX2_placeBy_X1_cell : GoodIn wsX2_placeBy wsX1_cell := goodIn_r _ [6, 7, 8, 9, 10, 11, 5, 12, 13, 29, 30, 31, 32] (by first | exact rfl | decide +kernel) (by decide +kernel)
set_option maxRecDepth 20000 in
theorem gX2_placeBy_X1_cell : GoodIn wsX2_placeBy (wsV RX2 133 RX1 yX1_cell wsX1_cell) := goodIn_app (goodIn_of _ (by decide +kernel)) ggX2_placeBy_X1_cell
set_option maxRecDepth 20000 in
theorem ggX2_placeBy_X2_placeIn : GoodIn wsX2_placeBy wsX2_placeIn := goodIn_r _ [17] (by first | exact rfl | decide +kernel) (by decide +kernel)
set_option maxRecDepth 20000 in
theorem gX2_placeBy_X2_placeIn : GoodIn wsX2_placeBy (va_wsS RX2 69 yX2_placeIn wsX2_placeIn) := goodIn_app (goodIn_of _ (by decide +kernel)) ggX2_placeBy_X2_placeIn
theorem dX2_placeBy_0 : decode cX2_placeBy 0 = .ok (.iconst 1, 1) := dz0 ok_4 (by decide +kernel)
theorem dX2_placeBy_1 : decode cX2_placeBy 1 = .ok (.iconst 4, 1) := dz0 ok_7 (by decide +kernel)
theorem dX2_placeBy_2 : decode cX2_placeBy 2 = .ok (.aload_n 0, 1) := dz0 ok_42 (by decide +kernel)
theorem dX2_placeBy_3 : decode cX2_placeBy 3 = .ok (.getfield 22, 3) := dzu2 ok_180 (by decide +kernel)
theorem dX2_placeBy_6 : decode cX2_placeBy 6 = .ok (.iload_n 1, 1) := dz0 ok_27 (by decide +kernel)
theorem dX2_placeBy_7 : decode cX2_placeBy 7 = .ok (.iconst 1, 1) := dz0 ok_4 (by decide +kernel)
theorem dX2_placeBy_8 : decode cX2_placeBy 8 = .ok (.invokevirtual 133, 3) := dzu2 ok_182 (by decide +kernel)
theorem dX2_placeBy_11 : decode cX2_placeBy 11 = .ok (.imul, 1) := dz0 ok_104 (by decide +kernel)
theorem dX2_placeBy_12 : decode cX2_placeBy 12 = .ok (.ishl, 1) := dz0 ok_120 (by decide +kernel)
theorem dX2_placeBy_13 : decode cX2_placeBy 13 = .ok (.iconst 1, 1) := dz0 ok_4 (by decide +kernel)
theorem dX2_placeBy_14 : decode cX2_placeBy 14 = .ok (.isub, 1) := dz0 ok_100 (by decide +kernel)
theorem dX2_placeBy_15 : decode cX2_placeBy 15 = .ok (.istore_n 3, 1) := dz0 ok_62 (by decide +kernel)
theorem dX2_placeBy_16 : decode cX2_placeBy 16 = .ok (.aload_n 0, 1) := dz0 ok_42 (by decide +kernel)
theorem dX2_placeBy_17 : decode cX2_placeBy 17 = .ok (.getfield 22, 3) := dzu2 ok_180 (by decide +kernel)
theorem dX2_placeBy_20 : decode cX2_placeBy 20 = .ok (.iload_n 1, 1) := dz0 ok_27 (by decide +kernel)
theorem dX2_placeBy_21 : decode cX2_placeBy 21 = .ok (.iconst 3, 1) := dz0 ok_6 (by decide +kernel)
theorem dX2_placeBy_22 : decode cX2_placeBy 22 = .ok (.invokevirtual 133, 3) := dzu2 ok_182 (by decide +kernel)
theorem dX2_placeBy_25 : decode cX2_placeBy 25 = .ok (.iload_n 2, 1) := dz0 ok_28 (by decide +kernel)
theorem dX2_placeBy_26 : decode cX2_placeBy 26 = .ok (.bipush 8, 2) := dzs1 ok_16 (by decide +kernel)
theorem dX2_placeBy_28 : decode cX2_placeBy 28 = .ok (.ishr, 1) := dz0 ok_122 (by decide +kernel)
theorem dX2_placeBy_29 : decode cX2_placeBy 29 = .ok (.iload_n 3, 1) := dz0 ok_29 (by decide +kernel)
theorem dX2_placeBy_30 : decode cX2_placeBy 30 = .ok (.iand, 1) := dz0 ok_126 (by decide +kernel)
theorem dX2_placeBy_31 : decode cX2_placeBy 31 = .ok (.iadd, 1) := dz0 ok_96 (by decide +kernel)
theorem dX2_placeBy_32 : decode cX2_placeBy 32 = .ok (.istore 4, 2) := dzu1 ok_54 (by decide +kernel)
theorem dX2_placeBy_34 : decode cX2_placeBy 34 = .ok (.iload 4, 2) := dzu1 ok_21 (by decide +kernel)
theorem dX2_placeBy_36 : decode cX2_placeBy 36 = .ok (.bipush 63, 2) := dzs1 ok_16 (by decide +kernel)
theorem dX2_placeBy_38 : decode cX2_placeBy 38 = .ok (.iand, 1) := dz0 ok_126 (by decide +kernel)
theorem dX2_placeBy_39 : decode cX2_placeBy 39 = .ok (.iload_n 2, 1) := dz0 ok_28 (by decide +kernel)
theorem dX2_placeBy_40 : decode cX2_placeBy 40 = .ok (.sipush 255, 3) := dzs2 ok_17 (by decide +kernel)
theorem dX2_placeBy_43 : decode cX2_placeBy 43 = .ok (.iand, 1) := dz0 ok_126 (by decide +kernel)
theorem dX2_placeBy_44 : decode cX2_placeBy 44 = .ok (.invokestatic 69, 3) := dzu2 ok_184 (by decide +kernel)
theorem dX2_placeBy_47 : decode cX2_placeBy 47 = .ok (.ireturn, 1) := dz0 ok_172 (by decide +kernel)
set_option maxRecDepth 20000 in
theorem ggX2_contextOf_X1_cell : GoodIn wsX2_contextOf wsX1_cell := goodIn_r _ [7, 8, 9, 10, 11, 12, 6, 13, 14, 57, 58, 59, 60] (by first | exact rfl | decide +kernel) (by decide +kernel)
set_option maxRecDepth 20000 in
theorem gX2_contextOf_X1_cell : GoodIn wsX2_contextOf (wsV RX2 133 RX1 yX1_cell wsX1_cell) := goodIn_app (goodIn_of _ (by decide +kernel)) ggX2_contextOf_X1_cell
set_option maxRecDepth 20000 in
theorem ggX2_contextOf_X2_contextPlace : GoodIn wsX2_contextOf wsX2_contextPlace := goodIn_r _ [19, 20, 46, 47, 48, 49, 50, 51, 52, 53, 54, 55, 56] (by first | exact rfl | decide +kernel) (by decide +kernel)
set_option maxRecDepth 20000 in
theorem gX2_contextOf_X2_contextPlace : GoodIn wsX2_contextOf (wsV RX2 65 RX2 yX2_contextPlace wsX2_contextPlace) := goodIn_app (goodIn_of _ (by decide +kernel)) ggX2_contextOf_X2_contextPlace
set_option maxRecDepth 20000 in
theorem ggX2_contextOf_X2_wordAt : GoodIn wsX2_contextOf wsX2_wordAt := goodIn_r _ [24, 25, 26, 27, 18, 28, 46, 47, 48, 49, 50, 51, 52, 53, 54, 55, 56] (by first | exact rfl | decide +kernel) (by decide +kernel)
set_option maxRecDepth 20000 in
theorem gX2_contextOf_X2_wordAt : GoodIn wsX2_contextOf (wsV RX2 77 RX2 yX2_wordAt wsX2_wordAt) := goodIn_app (goodIn_of _ (by decide +kernel)) ggX2_contextOf_X2_wordAt
set_option maxRecDepth 20000 in
theorem ggX2_contextOf_X1_open : GoodIn wsX2_contextOf wsX1_open := goodIn_r _ [32, 14, 33, 34, 35, 6, 36, 37, 38, 39, 40, 41, 9, 8, 57, 58, 59, 60] (by first | exact rfl | decide +kernel) (by decide +kernel)
set_option maxRecDepth 20000 in
theorem gX2_contextOf_X1_open : GoodIn wsX2_contextOf (wsV RX2 122 RX1 yX1_open wsX1_open) := goodIn_app (goodIn_of _ (by decide +kernel)) ggX2_contextOf_X1_open
set_option maxRecDepth 20000 in
theorem ggX2_contextOf_X1_put : GoodIn wsX2_contextOf wsX1_put := goodIn_r _ [45, 8, 9, 10, 11, 12, 6, 13, 14, 57, 58, 59, 60] (by first | exact rfl | decide +kernel) (by decide +kernel)
set_option maxRecDepth 20000 in
theorem gX2_contextOf_X1_put : GoodIn wsX2_contextOf (wsV RX2 126 RX1 yX1_put wsX1_put) := goodIn_app (goodIn_of _ (by decide +kernel)) ggX2_contextOf_X1_put
theorem dX2_contextOf_0 : decode cX2_contextOf 0 = .ok (.iconst 0, 1) := dz0 ok_3 (by decide +kernel)
theorem dX2_contextOf_1 : decode cX2_contextOf 1 = .ok (.istore_n 2, 1) := dz0 ok_61 (by decide +kernel)
theorem dX2_contextOf_2 : decode cX2_contextOf 2 = .ok (.iload_n 2, 1) := dz0 ok_28 (by decide +kernel)
theorem dX2_contextOf_3 : decode cX2_contextOf 3 = .ok (.aload_n 0, 1) := dz0 ok_42 (by decide +kernel)
theorem dX2_contextOf_4 : decode cX2_contextOf 4 = .ok (.getfield 18, 3) := dzu2 ok_180 (by decide +kernel)
theorem dX2_contextOf_7 : decode cX2_contextOf 7 = .ok (.getfield 130, 3) := dzu2 ok_180 (by decide +kernel)
theorem dX2_contextOf_10 : decode cX2_contextOf 10 = .ok (.if_icmp .ge 24, 3) := dzs2 ok_162 (by decide +kernel)
theorem dX2_contextOf_13 : decode cX2_contextOf 13 = .ok (.aload_n 0, 1) := dz0 ok_42 (by decide +kernel)
theorem dX2_contextOf_14 : decode cX2_contextOf 14 = .ok (.getfield 18, 3) := dzu2 ok_180 (by decide +kernel)
theorem dX2_contextOf_17 : decode cX2_contextOf 17 = .ok (.iload_n 2, 1) := dz0 ok_28 (by decide +kernel)
theorem dX2_contextOf_18 : decode cX2_contextOf 18 = .ok (.iconst 0, 1) := dz0 ok_3 (by decide +kernel)
theorem dX2_contextOf_19 : decode cX2_contextOf 19 = .ok (.invokevirtual 133, 3) := dzu2 ok_182 (by decide +kernel)
theorem dX2_contextOf_22 : decode cX2_contextOf 22 = .ok (.iload_n 1, 1) := dz0 ok_27 (by decide +kernel)
theorem dX2_contextOf_23 : decode cX2_contextOf 23 = .ok (.if_icmp .ne 5, 3) := dzs2 ok_160 (by decide +kernel)
theorem dX2_contextOf_26 : decode cX2_contextOf 26 = .ok (.iload_n 2, 1) := dz0 ok_28 (by decide +kernel)
theorem dX2_contextOf_27 : decode cX2_contextOf 27 = .ok (.ireturn, 1) := dz0 ok_172 (by decide +kernel)
theorem dX2_contextOf_28 : decode cX2_contextOf 28 = .ok (.iinc 2 1, 3) := dzii (by decide +kernel)
theorem dX2_contextOf_31 : decode cX2_contextOf 31 = .ok (.goto (-29), 3) := dzs2 ok_167 (by decide +kernel)
theorem dX2_contextOf_34 : decode cX2_contextOf 34 = .ok (.aload_n 0, 1) := dz0 ok_42 (by decide +kernel)
theorem dX2_contextOf_35 : decode cX2_contextOf 35 = .ok (.iload_n 1, 1) := dz0 ok_27 (by decide +kernel)
theorem dX2_contextOf_36 : decode cX2_contextOf 36 = .ok (.invokevirtual 65, 3) := dzu2 ok_182 (by decide +kernel)
theorem dX2_contextOf_39 : decode cX2_contextOf 39 = .ok (.istore_n 2, 1) := dz0 ok_61 (by decide +kernel)
theorem dX2_contextOf_40 : decode cX2_contextOf 40 = .ok (.aload_n 0, 1) := dz0 ok_42 (by decide +kernel)
theorem dX2_contextOf_41 : decode cX2_contextOf 41 = .ok (.iload_n 2, 1) := dz0 ok_28 (by decide +kernel)
theorem dX2_contextOf_42 : decode cX2_contextOf 42 = .ok (.invokevirtual 77, 3) := dzu2 ok_182 (by decide +kernel)
theorem dX2_contextOf_45 : decode cX2_contextOf 45 = .ok (.istore_n 3, 1) := dz0 ok_62 (by decide +kernel)
theorem dX2_contextOf_46 : decode cX2_contextOf 46 = .ok (.aload_n 0, 1) := dz0 ok_42 (by decide +kernel)
theorem dX2_contextOf_47 : decode cX2_contextOf 47 = .ok (.dup, 1) := dz0 ok_89 (by decide +kernel)

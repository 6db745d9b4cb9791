theorem dX2_contextOf_111 : decode cX2_contextOf 111 = .ok (.iand, 1) := dz0 ok_126 (by decide +kernel)
theorem dX2_contextOf_112 : decode cX2_contextOf 112 = .ok (.invokevirtual 126, 3) := dzu2 ok_182 (by decide +kernel)
theorem dX2_contextOf_115 : decode cX2_contextOf 115 = .ok (.iload 4, 2) := dzu1 ok_21 (by decide +kernel)
theorem dX2_contextOf_117 : decode cX2_contextOf 117 = .ok (.ireturn, 1) := dz0 ok_172 (by decide +kernel)
set_option maxRecDepth 20000 in
theorem ggX2_leafFor_X1_cell : GoodIn wsX2_leafFor wsX1_cell := goodIn_r _ [7, 8, 9, 10, 11, 12, 6, 13, 14, 71, 72, 73, 74] (by first | exact rfl | decide +kernel) (by decide +kernel)
set_option maxRecDepth 20000 in
theorem gX2_leafFor_X1_cell : GoodIn wsX2_leafFor (wsV RX2 133 RX1 yX1_cell wsX1_cell) := goodIn_app (goodIn_of _ (by decide +kernel)) ggX2_leafFor_X1_cell
set_option maxRecDepth 20000 in
theorem ggX2_leafFor_X2_isForPage : GoodIn wsX2_leafFor wsX2_isForPage := goodIn_r _ [19, 1, 3, 4, 5, 6, 7, 8, 9, 10, 11, 12, 13, 14, 60, 61, 62, 63, 64, 65, 66, 67, 68, 69, 70, 71, 72, 73, 74] (by first | exact rfl | decide +kernel) (by decide +kernel)
set_option maxRecDepth 20000 in
theorem gX2_leafFor_X2_isForPage : GoodIn wsX2_leafFor (wsV RX2 166 RX2 yX2_isForPage wsX2_isForPage) := goodIn_app (goodIn_of _ (by decide +kernel)) ggX2_leafFor_X2_isForPage
set_option maxRecDepth 20000 in
theorem ggX2_leafFor_X2_entryFor : GoodIn wsX2_leafFor wsX2_entryFor := goodIn_r _ [23, 24, 25, 26, 18, 27, 28, 29, 30, 31, 32, 33, 34, 35, 60, 61, 62, 63, 64, 65, 66, 67, 68, 69, 70] (by first | exact rfl | decide +kernel) (by decide +kernel)
set_option maxRecDepth 20000 in
theorem gX2_leafFor_X2_entryFor : GoodIn wsX2_leafFor (wsV RX2 169 RX2 yX2_entryFor wsX2_entryFor) := goodIn_app (goodIn_of _ (by decide +kernel)) ggX2_leafFor_X2_entryFor
set_option maxRecDepth 20000 in
theorem ggX2_leafFor_X2_pageOf : GoodIn wsX2_leafFor wsX2_pageOf := goodIn_r _ [38] (by first | exact rfl | decide +kernel) (by decide +kernel)
set_option maxRecDepth 20000 in
theorem gX2_leafFor_X2_pageOf : GoodIn wsX2_leafFor (va_wsS RX2 157 yX2_pageOf wsX2_pageOf) := goodIn_app (goodIn_of _ (by decide +kernel)) ggX2_leafFor_X2_pageOf
set_option maxRecDepth 20000 in
theorem ggX2_leafFor_X2_rememberLeaf : GoodIn wsX2_leafFor wsX2_rememberLeaf := goodIn_r _ [42, 1, 43, 44, 45, 6, 46, 14, 47, 48, 49, 50, 51, 52, 53, 54, 55, 9, 8, 56, 57, 58, 59, 10, 11, 12, 13, 36, 37, 18, 38, 60, 61, 62, 63, 64, 65, 66, 67, 68, 69, 70, 71, 72, 73, 74] (by first | exact rfl | decide +kernel) (by decide +kernel)
set_option maxRecDepth 20000 in
theorem gX2_leafFor_X2_rememberLeaf : GoodIn wsX2_leafFor (wsV RX2 172 RX2 yX2_rememberLeaf wsX2_rememberLeaf) := goodIn_app (goodIn_of _ (by decide +kernel)) ggX2_leafFor_X2_rememberLeaf
theorem dX2_leafFor_0 : decode cX2_leafFor 0 = .ok (.iconst 0, 1) := dz0 ok_3 (by decide +kernel)
theorem dX2_leafFor_1 : decode cX2_leafFor 1 = .ok (.istore 4, 2) := dzu1 ok_54 (by decide +kernel)
theorem dX2_leafFor_3 : decode cX2_leafFor 3 = .ok (.iload 4, 2) := dzu1 ok_21 (by decide +kernel)
theorem dX2_leafFor_5 : decode cX2_leafFor 5 = .ok (.aload_n 0, 1) := dz0 ok_42 (by decide +kernel)
theorem dX2_leafFor_6 : decode cX2_leafFor 6 = .ok (.getfield 22, 3) := dzu2 ok_180 (by decide +kernel)
theorem dX2_leafFor_9 : decode cX2_leafFor 9 = .ok (.getfield 130, 3) := dzu2 ok_180 (by decide +kernel)
theorem dX2_leafFor_12 : decode cX2_leafFor 12 = .ok (.if_icmp .ge 46, 3) := dzs2 ok_162 (by decide +kernel)
theorem dX2_leafFor_15 : decode cX2_leafFor 15 = .ok (.aload_n 0, 1) := dz0 ok_42 (by decide +kernel)
theorem dX2_leafFor_16 : decode cX2_leafFor 16 = .ok (.getfield 22, 3) := dzu2 ok_180 (by decide +kernel)
theorem dX2_leafFor_19 : decode cX2_leafFor 19 = .ok (.iload 4, 2) := dzu1 ok_21 (by decide +kernel)
theorem dX2_leafFor_21 : decode cX2_leafFor 21 = .ok (.iconst 0, 1) := dz0 ok_3 (by decide +kernel)
theorem dX2_leafFor_22 : decode cX2_leafFor 22 = .ok (.invokevirtual 133, 3) := dzu2 ok_182 (by decide +kernel)
theorem dX2_leafFor_25 : decode cX2_leafFor 25 = .ok (.iload_n 1, 1) := dz0 ok_27 (by decide +kernel)
theorem dX2_leafFor_26 : decode cX2_leafFor 26 = .ok (.if_icmp .ne 26, 3) := dzs2 ok_160 (by decide +kernel)
theorem dX2_leafFor_29 : decode cX2_leafFor 29 = .ok (.aload_n 0, 1) := dz0 ok_42 (by decide +kernel)
theorem dX2_leafFor_30 : decode cX2_leafFor 30 = .ok (.iload 4, 2) := dzu1 ok_21 (by decide +kernel)
theorem dX2_leafFor_32 : decode cX2_leafFor 32 = .ok (.iload_n 3, 1) := dz0 ok_29 (by decide +kernel)
theorem dX2_leafFor_33 : decode cX2_leafFor 33 = .ok (.invokevirtual 166, 3) := dzu2 ok_182 (by decide +kernel)
theorem dX2_leafFor_36 : decode cX2_leafFor 36 = .ok (.ifCond .eq 16, 3) := dzs2 ok_153 (by decide +kernel)
theorem dX2_leafFor_39 : decode cX2_leafFor 39 = .ok (.aload_n 0, 1) := dz0 ok_42 (by decide +kernel)
theorem dX2_leafFor_40 : decode cX2_leafFor 40 = .ok (.dup, 1) := dz0 ok_89 (by decide +kernel)
theorem dX2_leafFor_41 : decode cX2_leafFor 41 = .ok (.getfield 47, 3) := dzu2 ok_180 (by decide +kernel)
theorem dX2_leafFor_44 : decode cX2_leafFor 44 = .ok (.iconst 1, 1) := dz0 ok_4 (by decide +kernel)
theorem dX2_leafFor_45 : decode cX2_leafFor 45 = .ok (.iadd, 1) := dz0 ok_96 (by decide +kernel)
theorem dX2_leafFor_46 : decode cX2_leafFor 46 = .ok (.putfield 47, 3) := dzu2 ok_181 (by decide +kernel)
theorem dX2_leafFor_49 : decode cX2_leafFor 49 = .ok (.iload 4, 2) := dzu1 ok_21 (by decide +kernel)
theorem dX2_leafFor_51 : decode cX2_leafFor 51 = .ok (.ireturn, 1) := dz0 ok_172 (by decide +kernel)
theorem dX2_leafFor_52 : decode cX2_leafFor 52 = .ok (.iinc 4 1, 3) := dzii (by decide +kernel)
theorem dX2_leafFor_55 : decode cX2_leafFor 55 = .ok (.goto (-52), 3) := dzs2 ok_167 (by decide +kernel)
theorem dX2_leafFor_58 : decode cX2_leafFor 58 = .ok (.iconst 2, 1) := dz0 ok_5 (by decide +kernel)
theorem dX2_leafFor_59 : decode cX2_leafFor 59 = .ok (.istore 4, 2) := dzu1 ok_54 (by decide +kernel)
theorem dX2_leafFor_61 : decode cX2_leafFor 61 = .ok (.aload_n 0, 1) := dz0 ok_42 (by decide +kernel)
theorem dX2_leafFor_62 : decode cX2_leafFor 62 = .ok (.iload_n 2, 1) := dz0 ok_28 (by decide +kernel)
theorem dX2_leafFor_63 : decode cX2_leafFor 63 = .ok (.iload 4, 2) := dzu1 ok_21 (by decide +kernel)
theorem dX2_leafFor_65 : decode cX2_leafFor 65 = .ok (.iload_n 3, 1) := dz0 ok_29 (by decide +kernel)
theorem dX2_leafFor_66 : decode cX2_leafFor 66 = .ok (.invokevirtual 169, 3) := dzu2 ok_182 (by decide +kernel)
theorem dX2_leafFor_69 : decode cX2_leafFor 69 = .ok (.istore 5, 2) := dzu1 ok_54 (by decide +kernel)
theorem dX2_leafFor_71 : decode cX2_leafFor 71 = .ok (.iload 4, 2) := dzu1 ok_21 (by decide +kernel)
theorem dX2_leafFor_73 : decode cX2_leafFor 73 = .ok (.ifCond .le 32, 3) := dzs2 ok_158 (by decide +kernel)
theorem dX2_leafFor_76 : decode cX2_leafFor 76 = .ok (.iload 5, 2) := dzu1 ok_21 (by decide +kernel)
theorem dX2_leafFor_78 : decode cX2_leafFor 78 = .ok (.bipush 9, 2) := dzs1 ok_16 (by decide +kernel)
theorem dX2_leafFor_80 : decode cX2_leafFor 80 = .ok (.iand, 1) := dz0 ok_126 (by decide +kernel)
theorem dX2_leafFor_81 : decode cX2_leafFor 81 = .ok (.iconst 1, 1) := dz0 ok_4 (by decide +kernel)
theorem dX2_leafFor_82 : decode cX2_leafFor 82 = .ok (.if_icmp .ne 23, 3) := dzs2 ok_160 (by decide +kernel)
theorem dX2_leafFor_85 : decode cX2_leafFor 85 = .ok (.iinc 4 (-1), 3) := dzii (by decide +kernel)
theorem dX2_leafFor_88 : decode cX2_leafFor 88 = .ok (.aload_n 0, 1) := dz0 ok_42 (by decide +kernel)
theorem dX2_leafFor_89 : decode cX2_leafFor 89 = .ok (.iload 5, 2) := dzu1 ok_21 (by decide +kernel)
theorem dX2_leafFor_91 : decode cX2_leafFor 91 = .ok (.invokestatic 157, 3) := dzu2 ok_184 (by decide +kernel)
theorem dX2_leafFor_94 : decode cX2_leafFor 94 = .ok (.iload 4, 2) := dzu1 ok_21 (by decide +kernel)
theorem dX2_leafFor_96 : decode cX2_leafFor 96 = .ok (.iload_n 3, 1) := dz0 ok_29 (by decide +kernel)
theorem dX2_leafFor_97 : decode cX2_leafFor 97 = .ok (.invokevirtual 169, 3) := dzu2 ok_182 (by decide +kernel)
theorem dX2_leafFor_100 : decode cX2_leafFor 100 = .ok (.istore 5, 2) := dzu1 ok_54 (by decide +kernel)
theorem dX2_leafFor_102 : decode cX2_leafFor 102 = .ok (.goto (-31), 3) := dzs2 ok_167 (by decide +kernel)
theorem dX2_leafFor_105 : decode cX2_leafFor 105 = .ok (.iload 5, 2) := dzu1 ok_21 (by decide +kernel)
theorem dX2_leafFor_107 : decode cX2_leafFor 107 = .ok (.iconst 1, 1) := dz0 ok_4 (by decide +kernel)
theorem dX2_leafFor_108 : decode cX2_leafFor 108 = .ok (.iand, 1) := dz0 ok_126 (by decide +kernel)
theorem dX2_leafFor_109 : decode cX2_leafFor 109 = .ok (.ifCond .ne 6, 3) := dzs2 ok_154 (by decide +kernel)
theorem dX2_leafFor_112 : decode cX2_leafFor 112 = .ok (.bipush (-2), 2) := dzs1 ok_16 (by decide +kernel)
theorem dX2_leafFor_114 : decode cX2_leafFor 114 = .ok (.ireturn, 1) := dz0 ok_172 (by decide +kernel)
theorem dX2_leafFor_115 : decode cX2_leafFor 115 = .ok (.iload 4, 2) := dzu1 ok_21 (by decide +kernel)
theorem dX2_leafFor_117 : decode cX2_leafFor 117 = .ok (.ifCond .le 17, 3) := dzs2 ok_158 (by decide +kernel)
theorem dX2_leafFor_120 : decode cX2_leafFor 120 = .ok (.iload 5, 2) := dzu1 ok_21 (by decide +kernel)
theorem dX2_leafFor_122 : decode cX2_leafFor 122 = .ok (.invokestatic 157, 3) := dzu2 ok_184 (by decide +kernel)
theorem dX2_leafFor_125 : decode cX2_leafFor 125 = .ok (.bipush 15, 2) := dzs1 ok_16 (by decide +kernel)
theorem dX2_leafFor_127 : decode cX2_leafFor 127 = .ok (.iand, 1) := dz0 ok_126 (by decide +kernel)
theorem dX2_leafFor_128 : decode cX2_leafFor 128 = .ok (.ifCond .eq 6, 3) := dzs2 ok_153 (by decide +kernel)
theorem dX2_leafFor_131 : decode cX2_leafFor 131 = .ok (.bipush (-5), 2) := dzs1 ok_16 (by decide +kernel)
theorem dX2_leafFor_133 : decode cX2_leafFor 133 = .ok (.ireturn, 1) := dz0 ok_172 (by decide +kernel)
theorem dX2_leafFor_134 : decode cX2_leafFor 134 = .ok (.aload_n 0, 1) := dz0 ok_42 (by decide +kernel)
theorem dX2_leafFor_135 : decode cX2_leafFor 135 = .ok (.iload_n 1, 1) := dz0 ok_27 (by decide +kernel)
theorem dX2_leafFor_136 : decode cX2_leafFor 136 = .ok (.iload 4, 2) := dzu1 ok_21 (by decide +kernel)
theorem dX2_leafFor_138 : decode cX2_leafFor 138 = .ok (.iload_n 3, 1) := dz0 ok_29 (by decide +kernel)
theorem dX2_leafFor_139 : decode cX2_leafFor 139 = .ok (.iload 5, 2) := dzu1 ok_21 (by decide +kernel)
theorem dX2_leafFor_141 : decode cX2_leafFor 141 = .ok (.invokevirtual 172, 3) := dzu2 ok_182 (by decide +kernel)
theorem dX2_leafFor_144 : decode cX2_leafFor 144 = .ok (.ireturn, 1) := dz0 ok_172 (by decide +kernel)
set_option maxRecDepth 20000 in
theorem ggX2_entryFor_X2_placeIn : GoodIn wsX2_entryFor wsX2_placeIn := goodIn_r _ [5] (by first | exact rfl | decide +kernel) (by decide +kernel)
set_option maxRecDepth 20000 in
theorem gX2_entryFor_X2_placeIn : GoodIn wsX2_entryFor (va_wsS RX2 69 yX2_placeIn wsX2_placeIn) := goodIn_app (goodIn_of _ (by decide +kernel)) ggX2_entryFor_X2_placeIn
set_option maxRecDepth 20000 in
theorem ggX2_entryFor_X2_wordAt : GoodIn wsX2_entryFor wsX2_wordAt := goodIn_r _ [9, 10, 11, 12, 4, 13, 14, 15, 16, 17, 18, 19, 20, 21, 22, 23, 24] (by first | exact rfl | decide +kernel) (by decide +kernel)
set_option maxRecDepth 20000 in
theorem gX2_entryFor_X2_wordAt : GoodIn wsX2_entryFor (wsV RX2 77 RX2 yX2_wordAt wsX2_wordAt) := goodIn_app (goodIn_of _ (by decide +kernel)) ggX2_entryFor_X2_wordAt
theorem dX2_entryFor_0 : decode cX2_entryFor 0 = .ok (.aload_n 0, 1) := dz0 ok_42 (by decide +kernel)
theorem dX2_entryFor_1 : decode cX2_entryFor 1 = .ok (.dup, 1) := dz0 ok_89 (by decide +kernel)
theorem dX2_entryFor_2 : decode cX2_entryFor 2 = .ok (.getfield 44, 3) := dzu2 ok_180 (by decide +kernel)
theorem dX2_entryFor_5 : decode cX2_entryFor 5 = .ok (.iconst 1, 1) := dz0 ok_4 (by decide +kernel)
theorem dX2_entryFor_6 : decode cX2_entryFor 6 = .ok (.iadd, 1) := dz0 ok_96 (by decide +kernel)
theorem dX2_entryFor_7 : decode cX2_entryFor 7 = .ok (.putfield 44, 3) := dzu2 ok_181 (by decide +kernel)
theorem dX2_entryFor_10 : decode cX2_entryFor 10 = .ok (.aload_n 0, 1) := dz0 ok_42 (by decide +kernel)
theorem dX2_entryFor_11 : decode cX2_entryFor 11 = .ok (.iload_n 1, 1) := dz0 ok_27 (by decide +kernel)
theorem dX2_entryFor_12 : decode cX2_entryFor 12 = .ok (.iload_n 3, 1) := dz0 ok_29 (by decide +kernel)
theorem dX2_entryFor_13 : decode cX2_entryFor 13 = .ok (.iconst 4, 1) := dz0 ok_7 (by decide +kernel)
theorem dX2_entryFor_14 : decode cX2_entryFor 14 = .ok (.iload_n 2, 1) := dz0 ok_28 (by decide +kernel)
theorem dX2_entryFor_15 : decode cX2_entryFor 15 = .ok (.imul, 1) := dz0 ok_104 (by decide +kernel)
theorem dX2_entryFor_16 : decode cX2_entryFor 16 = .ok (.ishr, 1) := dz0 ok_122 (by decide +kernel)
theorem dX2_entryFor_17 : decode cX2_entryFor 17 = .ok (.bipush 15, 2) := dzs1 ok_16 (by decide +kernel)
theorem dX2_entryFor_19 : decode cX2_entryFor 19 = .ok (.iand, 1) := dz0 ok_126 (by decide +kernel)
theorem dX2_entryFor_20 : decode cX2_entryFor 20 = .ok (.invokestatic 69, 3) := dzu2 ok_184 (by decide +kernel)
theorem dX2_entryFor_23 : decode cX2_entryFor 23 = .ok (.invokevirtual 77, 3) := dzu2 ok_182 (by decide +kernel)
theorem dX2_entryFor_26 : decode cX2_entryFor 26 = .ok (.ireturn, 1) := dz0 ok_172 (by decide +kernel)
set_option maxRecDepth 20000 in
theorem ggX2_isForPage_X1_cell : GoodIn wsX2_isForPage wsX1_cell := goodIn_r _ [6, 7, 8, 9, 10, 11, 5, 12, 13, 25, 26, 27, 28] (by first | exact rfl | decide +kernel) (by decide +kernel)
set_option maxRecDepth 20000 in
theorem gX2_isForPage_X1_cell : GoodIn wsX2_isForPage (wsV RX2 133 RX1 yX1_cell wsX1_cell) := goodIn_app (goodIn_of _ (by decide +kernel)) ggX2_isForPage_X1_cell
theorem dX2_isForPage_0 : decode cX2_isForPage 0 = .ok (.aload_n 0, 1) := dz0 ok_42 (by decide +kernel)
theorem dX2_isForPage_1 : decode cX2_isForPage 1 = .ok (.getfield 22, 3) := dzu2 ok_180 (by decide +kernel)
theorem dX2_isForPage_4 : decode cX2_isForPage 4 = .ok (.iload_n 1, 1) := dz0 ok_27 (by decide +kernel)
theorem dX2_isForPage_5 : decode cX2_isForPage 5 = .ok (.iconst 2, 1) := dz0 ok_5 (by decide +kernel)
theorem dX2_isForPage_6 : decode cX2_isForPage 6 = .ok (.invokevirtual 133, 3) := dzu2 ok_182 (by decide +kernel)
theorem dX2_isForPage_9 : decode cX2_isForPage 9 = .ok (.iload_n 2, 1) := dz0 ok_28 (by decide +kernel)
theorem dX2_isForPage_10 : decode cX2_isForPage 10 = .ok (.iconst 4, 1) := dz0 ok_7 (by decide +kernel)
theorem dX2_isForPage_11 : decode cX2_isForPage 11 = .ok (.aload_n 0, 1) := dz0 ok_42 (by decide +kernel)
theorem dX2_isForPage_12 : decode cX2_isForPage 12 = .ok (.getfield 22, 3) := dzu2 ok_180 (by decide +kernel)
theorem dX2_isForPage_15 : decode cX2_isForPage 15 = .ok (.iload_n 1, 1) := dz0 ok_27 (by decide +kernel)
theorem dX2_isForPage_16 : decode cX2_isForPage 16 = .ok (.iconst 1, 1) := dz0 ok_4 (by decide +kernel)
theorem dX2_isForPage_17 : decode cX2_isForPage 17 = .ok (.invokevirtual 133, 3) := dzu2 ok_182 (by decide +kernel)
theorem dX2_isForPage_20 : decode cX2_isForPage 20 = .ok (.imul, 1) := dz0 ok_104 (by decide +kernel)
theorem dX2_isForPage_21 : decode cX2_isForPage 21 = .ok (.ishr, 1) := dz0 ok_122 (by decide +kernel)
theorem dX2_isForPage_22 : decode cX2_isForPage 22 = .ok (.if_icmp .ne 7, 3) := dzs2 ok_160 (by decide +kernel)
theorem dX2_isForPage_25 : decode cX2_isForPage 25 = .ok (.iconst 1, 1) := dz0 ok_4 (by decide +kernel)
theorem dX2_isForPage_26 : decode cX2_isForPage 26 = .ok (.goto 4, 3) := dzs2 ok_167 (by decide +kernel)
theorem dX2_isForPage_29 : decode cX2_isForPage 29 = .ok (.iconst 0, 1) := dz0 ok_3 (by decide +kernel)
theorem dX2_isForPage_30 : decode cX2_isForPage 30 = .ok (.ireturn, 1) := dz0 ok_172 (by decide +kernel)
set_option maxRecDepth 20000 in
theorem ggX2_rememberLeaf_X1_open : GoodIn wsX2_rememberLeaf wsX1_open := goodIn_r _ [6, 7, 8, 9, 10, 5, 11, 12, 13, 14, 15, 16, 17, 18, 42, 43, 44, 45] (by first | exact rfl | decide +kernel) (by decide +kernel)
set_option maxRecDepth 20000 in
theorem gX2_rememberLeaf_X1_open : GoodIn wsX2_rememberLeaf (wsV RX2 122 RX1 yX1_open wsX1_open) := goodIn_app (goodIn_of _ (by decide +kernel)) ggX2_rememberLeaf_X1_open
set_option maxRecDepth 20000 in
theorem ggX2_rememberLeaf_X1_put : GoodIn wsX2_rememberLeaf wsX1_put := goodIn_r _ [22, 18, 17, 23, 24, 25, 5, 26, 7, 42, 43, 44, 45] (by first | exact rfl | decide +kernel) (by decide +kernel)
set_option maxRecDepth 20000 in
theorem gX2_rememberLeaf_X1_put : GoodIn wsX2_rememberLeaf (wsV RX2 126 RX1 yX1_put wsX1_put) := goodIn_app (goodIn_of _ (by decide +kernel)) ggX2_rememberLeaf_X1_put
set_option maxRecDepth 20000 in
theorem ggX2_rememberLeaf_X2_pageOf : GoodIn wsX2_rememberLeaf wsX2_pageOf := goodIn_r _ [30] (by first | exact rfl | decide +kernel) (by decide +kernel)
set_option maxRecDepth 20000 in
theorem gX2_rememberLeaf_X2_pageOf : GoodIn wsX2_rememberLeaf (va_wsS RX2 157 yX2_pageOf wsX2_pageOf) := goodIn_app (goodIn_of _ (by decide +kernel)) ggX2_rememberLeaf_X2_pageOf
theorem dX2_rememberLeaf_0 : decode cX2_rememberLeaf 0 = .ok (.aload_n 0, 1) := dz0 ok_42 (by decide +kernel)
theorem dX2_rememberLeaf_1 : decode cX2_rememberLeaf 1 = .ok (.getfield 22, 3) := dzu2 ok_180 (by decide +kernel)
theorem dX2_rememberLeaf_4 : decode cX2_rememberLeaf 4 = .ok (.invokevirtual 122, 3) := dzu2 ok_182 (by decide +kernel)
theorem dX2_rememberLeaf_7 : decode cX2_rememberLeaf 7 = .ok (.istore 5, 2) := dzu1 ok_54 (by decide +kernel)
theorem dX2_rememberLeaf_9 : decode cX2_rememberLeaf 9 = .ok (.aload_n 0, 1) := dz0 ok_42 (by decide +kernel)
theorem dX2_rememberLeaf_10 : decode cX2_rememberLeaf 10 = .ok (.getfield 22, 3) := dzu2 ok_180 (by decide +kernel)
theorem dX2_rememberLeaf_13 : decode cX2_rememberLeaf 13 = .ok (.iload 5, 2) := dzu1 ok_21 (by decide +kernel)
theorem dX2_rememberLeaf_15 : decode cX2_rememberLeaf 15 = .ok (.iconst 0, 1) := dz0 ok_3 (by decide +kernel)
theorem dX2_rememberLeaf_16 : decode cX2_rememberLeaf 16 = .ok (.iload_n 1, 1) := dz0 ok_27 (by decide +kernel)
theorem dX2_rememberLeaf_17 : decode cX2_rememberLeaf 17 = .ok (.invokevirtual 126, 3) := dzu2 ok_182 (by decide +kernel)
theorem dX2_rememberLeaf_20 : decode cX2_rememberLeaf 20 = .ok (.aload_n 0, 1) := dz0 ok_42 (by decide +kernel)
theorem dX2_rememberLeaf_21 : decode cX2_rememberLeaf 21 = .ok (.getfield 22, 3) := dzu2 ok_180 (by decide +kernel)
theorem dX2_rememberLeaf_24 : decode cX2_rememberLeaf 24 = .ok (.iload 5, 2) := dzu1 ok_21 (by decide +kernel)
theorem dX2_rememberLeaf_26 : decode cX2_rememberLeaf 26 = .ok (.iconst 1, 1) := dz0 ok_4 (by decide +kernel)
theorem dX2_rememberLeaf_27 : decode cX2_rememberLeaf 27 = .ok (.iload_n 2, 1) := dz0 ok_28 (by decide +kernel)
theorem dX2_rememberLeaf_28 : decode cX2_rememberLeaf 28 = .ok (.invokevirtual 126, 3) := dzu2 ok_182 (by decide +kernel)
theorem dX2_rememberLeaf_31 : decode cX2_rememberLeaf 31 = .ok (.aload_n 0, 1) := dz0 ok_42 (by decide +kernel)
theorem dX2_rememberLeaf_32 : decode cX2_rememberLeaf 32 = .ok (.getfield 22, 3) := dzu2 ok_180 (by decide +kernel)
theorem dX2_rememberLeaf_35 : decode cX2_rememberLeaf 35 = .ok (.iload 5, 2) := dzu1 ok_21 (by decide +kernel)
theorem dX2_rememberLeaf_37 : decode cX2_rememberLeaf 37 = .ok (.iconst 2, 1) := dz0 ok_5 (by decide +kernel)
theorem dX2_rememberLeaf_38 : decode cX2_rememberLeaf 38 = .ok (.iload_n 3, 1) := dz0 ok_29 (by decide +kernel)
theorem dX2_rememberLeaf_39 : decode cX2_rememberLeaf 39 = .ok (.iconst 4, 1) := dz0 ok_7 (by decide +kernel)
theorem dX2_rememberLeaf_40 : decode cX2_rememberLeaf 40 = .ok (.iload_n 2, 1) := dz0 ok_28 (by decide +kernel)
theorem dX2_rememberLeaf_41 : decode cX2_rememberLeaf 41 = .ok (.imul, 1) := dz0 ok_104 (by decide +kernel)
theorem dX2_rememberLeaf_42 : decode cX2_rememberLeaf 42 = .ok (.ishr, 1) := dz0 ok_122 (by decide +kernel)
theorem dX2_rememberLeaf_43 : decode cX2_rememberLeaf 43 = .ok (.invokevirtual 126, 3) := dzu2 ok_182 (by decide +kernel)
theorem dX2_rememberLeaf_46 : decode cX2_rememberLeaf 46 = .ok (.aload_n 0, 1) := dz0 ok_42 (by decide +kernel)
theorem dX2_rememberLeaf_47 : decode cX2_rememberLeaf 47 = .ok (.getfield 22, 3) := dzu2 ok_180 (by decide +kernel)
theorem dX2_rememberLeaf_50 : decode cX2_rememberLeaf 50 = .ok (.iload 5, 2) := dzu1 ok_21 (by decide +kernel)
theorem dX2_rememberLeaf_52 : decode cX2_rememberLeaf 52 = .ok (.iconst 3, 1) := dz0 ok_6 (by decide +kernel)
theorem dX2_rememberLeaf_53 : decode cX2_rememberLeaf 53 = .ok (.iload 4, 2) := dzu1 ok_21 (by decide +kernel)
theorem dX2_rememberLeaf_55 : decode cX2_rememberLeaf 55 = .ok (.invokestatic 157, 3) := dzu2 ok_184 (by decide +kernel)
theorem dX2_rememberLeaf_58 : decode cX2_rememberLeaf 58 = .ok (.invokevirtual 126, 3) := dzu2 ok_182 (by decide +kernel)
theorem dX2_rememberLeaf_61 : decode cX2_rememberLeaf 61 = .ok (.aload_n 0, 1) := dz0 ok_42 (by decide +kernel)
theorem dX2_rememberLeaf_62 : decode cX2_rememberLeaf 62 = .ok (.getfield 22, 3) := dzu2 ok_180 (by decide +kernel)
theorem dX2_rememberLeaf_65 : decode cX2_rememberLeaf 65 = .ok (.iload 5, 2) := dzu1 ok_21 (by decide +kernel)
theorem dX2_rememberLeaf_67 : decode cX2_rememberLeaf 67 = .ok (.iconst 4, 1) := dz0 ok_7 (by decide +kernel)
theorem dX2_rememberLeaf_68 : decode cX2_rememberLeaf 68 = .ok (.iload 4, 2) := dzu1 ok_21 (by decide +kernel)
theorem dX2_rememberLeaf_70 : decode cX2_rememberLeaf 70 = .ok (.iconst 1, 1) := dz0 ok_4 (by decide +kernel)
theorem dX2_rememberLeaf_71 : decode cX2_rememberLeaf 71 = .ok (.ishr, 1) := dz0 ok_122 (by decide +kernel)
theorem dX2_rememberLeaf_72 : decode cX2_rememberLeaf 72 = .ok (.iconst 3, 1) := dz0 ok_6 (by decide +kernel)
theorem dX2_rememberLeaf_73 : decode cX2_rememberLeaf 73 = .ok (.iand, 1) := dz0 ok_126 (by decide +kernel)
theorem dX2_rememberLeaf_74 : decode cX2_rememberLeaf 74 = .ok (.invokevirtual 126, 3) := dzu2 ok_182 (by decide +kernel)
theorem dX2_rememberLeaf_77 : decode cX2_rememberLeaf 77 = .ok (.iload 5, 2) := dzu1 ok_21 (by decide +kernel)
theorem dX2_rememberLeaf_79 : decode cX2_rememberLeaf 79 = .ok (.ireturn, 1) := dz0 ok_172 (by decide +kernel)
set_option maxRecDepth 20000 in
theorem ggX2_takeDescriptor_X0_descriptorAddress : GoodIn wsX2_takeDescriptor wsX0_descriptorAddress := goodIn_r _ [5, 6, 7, 110, 111, 112, 113, 114, 115, 116, 117, 118, 119, 120, 121] (by first | exact rfl | decide +kernel) (by decide +kernel)
set_option maxRecDepth 20000 in
theorem gX2_takeDescriptor_X0_descriptorAddress : GoodIn wsX2_takeDescriptor (wsV RX2 176 RX0 yX0_descriptorAddress wsX0_descriptorAddress) := goodIn_app (goodIn_of _ (by decide +kernel)) ggX2_takeDescriptor_X0_descriptorAddress
set_option maxRecDepth 20000 in
theorem ggX2_takeDescriptor_X2_access : GoodIn wsX2_takeDescriptor wsX2_access := goodIn_r _ [12, 13, 14, 15, 16, 11, 17, 18, 19, 20, 21, 22, 23, 24, 25, 26, 27, 28, 29, 30, 31, 32, 33, 34, 35, 36, 37, 38, 39, 40, 41, 42, 43, 44, 45, 46, 47, 48, 49, 50, 51, 52, 53, 54, 55, 56, 57, 58, 59, 60, 61, 62, 63, 64, 65, 66, 67, 68, 69, 70, 71, 72, 73, 74, 75, 76, 77, 78, 79, 80, 81, 82, 83, 84, 85, 86, 87, 88, 89, 90, 91, 92, 93, 94, 95, 96, 97, 98, 99, 100, 101, 122, 123, 124, 125, 126, 127, 128, 129, 130, 131, 132, 133, 134, 135, 136] (by first | exact rfl | decide +kernel) (by decide +kernel)
set_option maxRecDepth 20000 in
theorem gX2_takeDescriptor_X2_access : GoodIn wsX2_takeDescriptor (wsV RX2 73 RX2 yX2_access wsX2_access) := goodIn_app (goodIn_of _ (by decide +kernel)) ggX2_takeDescriptor_X2_access
set_option maxRecDepth 20000 in
theorem ggX2_takeDescriptor_X2_wordAt : GoodIn wsX2_takeDescriptor wsX2_wordAt := goodIn_r _ [49, 50, 21, 22, 11, 23, 122, 123, 124, 125, 126, 127, 128, 129, 130, 131, 132] (by first | exact rfl | decide +kernel) (by decide +kernel)
set_option maxRecDepth 20000 in
theorem gX2_takeDescriptor_X2_wordAt : GoodIn wsX2_takeDescriptor (wsV RX2 77 RX2 yX2_wordAt wsX2_wordAt) := goodIn_app (goodIn_of _ (by decide +kernel)) ggX2_takeDescriptor_X2_wordAt
set_option maxRecDepth 20000 in
theorem ggX2_takeDescriptor_X0_take : GoodIn wsX2_takeDescriptor wsX0_take := goodIn_r _ [105, 106, 107, 108, 109, 110, 111, 112, 113, 114, 115, 116, 117, 118, 119, 120, 121] (by first | exact rfl | decide +kernel) (by decide +kernel)
set_option maxRecDepth 20000 in
theorem gX2_takeDescriptor_X0_take : GoodIn wsX2_takeDescriptor (wsV RX2 179 RX0 yX0_take wsX0_take) := goodIn_app (goodIn_of _ (by decide +kernel)) ggX2_takeDescriptor_X0_take
theorem dX2_takeDescriptor_0 : decode cX2_takeDescriptor 0 = .ok (.iconst 0, 1) := dz0 ok_3 (by decide +kernel)
theorem dX2_takeDescriptor_1 : decode cX2_takeDescriptor 1 = .ok (.istore_n 3, 1) := dz0 ok_62 (by decide +kernel)
theorem dX2_takeDescriptor_2 : decode cX2_takeDescriptor 2 = .ok (.iload_n 3, 1) := dz0 ok_29 (by decide +kernel)
theorem dX2_takeDescriptor_3 : decode cX2_takeDescriptor 3 = .ok (.iconst 4, 1) := dz0 ok_7 (by decide +kernel)
theorem dX2_takeDescriptor_4 : decode cX2_takeDescriptor 4 = .ok (.if_icmp .ge 41, 3) := dzs2 ok_162 (by decide +kernel)
theorem dX2_takeDescriptor_7 : decode cX2_takeDescriptor 7 = .ok (.aload_n 0, 1) := dz0 ok_42 (by decide +kernel)
theorem dX2_takeDescriptor_8 : decode cX2_takeDescriptor 8 = .ok (.iload_n 1, 1) := dz0 ok_27 (by decide +kernel)
theorem dX2_takeDescriptor_9 : decode cX2_takeDescriptor 9 = .ok (.aload_n 2, 1) := dz0 ok_44 (by decide +kernel)
theorem dX2_takeDescriptor_10 : decode cX2_takeDescriptor 10 = .ok (.invokevirtual 176, 3) := dzu2 ok_182 (by decide +kernel)
theorem dX2_takeDescriptor_13 : decode cX2_takeDescriptor 13 = .ok (.iload_n 3, 1) := dz0 ok_29 (by decide +kernel)
theorem dX2_takeDescriptor_14 : decode cX2_takeDescriptor 14 = .ok (.iadd, 1) := dz0 ok_96 (by decide +kernel)
theorem dX2_takeDescriptor_15 : decode cX2_takeDescriptor 15 = .ok (.iconst 0, 1) := dz0 ok_3 (by decide +kernel)
theorem dX2_takeDescriptor_16 : decode cX2_takeDescriptor 16 = .ok (.invokevirtual 73, 3) := dzu2 ok_182 (by decide +kernel)
theorem dX2_takeDescriptor_19 : decode cX2_takeDescriptor 19 = .ok (.istore 4, 2) := dzu1 ok_54 (by decide +kernel)
theorem dX2_takeDescriptor_21 : decode cX2_takeDescriptor 21 = .ok (.iload 4, 2) := dzu1 ok_21 (by decide +kernel)
theorem dX2_takeDescriptor_23 : decode cX2_takeDescriptor 23 = .ok (.ifCond .ge 5, 3) := dzs2 ok_156 (by decide +kernel)
theorem dX2_takeDescriptor_26 : decode cX2_takeDescriptor 26 = .ok (.iconst 0, 1) := dz0 ok_3 (by decide +kernel)
theorem dX2_takeDescriptor_27 : decode cX2_takeDescriptor 27 = .ok (.ireturn, 1) := dz0 ok_172 (by decide +kernel)
theorem dX2_takeDescriptor_28 : decode cX2_takeDescriptor 28 = .ok (.aload_n 2, 1) := dz0 ok_44 (by decide +kernel)
theorem dX2_takeDescriptor_29 : decode cX2_takeDescriptor 29 = .ok (.iload_n 3, 1) := dz0 ok_29 (by decide +kernel)
theorem dX2_takeDescriptor_30 : decode cX2_takeDescriptor 30 = .ok (.aload_n 0, 1) := dz0 ok_42 (by decide +kernel)
theorem dX2_takeDescriptor_31 : decode cX2_takeDescriptor 31 = .ok (.iload 4, 2) := dzu1 ok_21 (by decide +kernel)
theorem dX2_takeDescriptor_33 : decode cX2_takeDescriptor 33 = .ok (.invokevirtual 77, 3) := dzu2 ok_182 (by decide +kernel)
theorem dX2_takeDescriptor_36 : decode cX2_takeDescriptor 36 = .ok (.invokevirtual 179, 3) := dzu2 ok_182 (by decide +kernel)
theorem dX2_takeDescriptor_39 : decode cX2_takeDescriptor 39 = .ok (.iinc 3 1, 3) := dzii (by decide +kernel)
theorem dX2_takeDescriptor_42 : decode cX2_takeDescriptor 42 = .ok (.goto (-40), 3) := dzs2 ok_167 (by decide +kernel)
theorem dX2_takeDescriptor_45 : decode cX2_takeDescriptor 45 = .ok (.aload_n 2, 1) := dz0 ok_44 (by decide +kernel)
theorem dX2_takeDescriptor_46 : decode cX2_takeDescriptor 46 = .ok (.iconst 0, 1) := dz0 ok_3 (by decide +kernel)
theorem dX2_takeDescriptor_47 : decode cX2_takeDescriptor 47 = .ok (.putfield 103, 3) := dzu2 ok_181 (by decide +kernel)
theorem dX2_takeDescriptor_50 : decode cX2_takeDescriptor 50 = .ok (.aload_n 2, 1) := dz0 ok_44 (by decide +kernel)
theorem dX2_takeDescriptor_51 : decode cX2_takeDescriptor 51 = .ok (.iconst 1, 1) := dz0 ok_4 (by decide +kernel)
theorem dX2_takeDescriptor_52 : decode cX2_takeDescriptor 52 = .ok (.putfield 96, 3) := dzu2 ok_181 (by decide +kernel)
theorem dX2_takeDescriptor_55 : decode cX2_takeDescriptor 55 = .ok (.iconst 1, 1) := dz0 ok_4 (by decide +kernel)
theorem dX2_takeDescriptor_56 : decode cX2_takeDescriptor 56 = .ok (.ireturn, 1) := dz0 ok_172 (by decide +kernel)
set_option maxRecDepth 20000 in
theorem ggX2_copyWord_X2_access : GoodIn wsX2_copyWord wsX2_access := goodIn_r _ [5, 6, 7, 8, 9, 4, 10, 11, 12, 13, 14, 15, 16, 17, 18, 19, 20, 21, 22, 23, 24, 25, 26, 27, 28, 29, 30, 31, 32, 33, 34, 35, 36, 37, 38, 39, 40, 41, 42, 43, 44, 45, 46, 47, 48, 49, 50, 51, 52, 53, 54, 55, 56, 57, 58, 59, 60, 61, 62, 63, 64, 65, 66, 67, 68, 69, 70, 71, 72, 73, 74, 75, 76, 77, 78, 79, 80, 81, 82, 83, 84, 85, 86, 87, 88, 89, 90, 91, 92, 93, 94, 111, 112, 113, 114, 115, 116, 117, 118, 119, 120, 121, 122, 123, 124, 125] (by first | exact rfl | decide +kernel) (by decide +kernel)
set_option maxRecDepth 20000 in
theorem gX2_copyWord_X2_access : GoodIn wsX2_copyWord (wsV RX2 73 RX2 yX2_access wsX2_access) := goodIn_app (goodIn_of _ (by decide +kernel)) ggX2_copyWord_X2_access
set_option maxRecDepth 20000 in
theorem ggX2_copyWord_X2_wordAt : GoodIn wsX2_copyWord wsX2_wordAt := goodIn_r _ [42, 43, 14, 15, 4, 16, 111, 112, 113, 114, 115, 116, 117, 118, 119, 120, 121] (by first | exact rfl | decide +kernel) (by decide +kernel)
set_option maxRecDepth 20000 in
theorem gX2_copyWord_X2_wordAt : GoodIn wsX2_copyWord (wsV RX2 77 RX2 yX2_wordAt wsX2_wordAt) := goodIn_app (goodIn_of _ (by decide +kernel)) ggX2_copyWord_X2_wordAt
set_option maxRecDepth 20000 in
theorem ggX2_copyWord_X2_setWord : GoodIn wsX2_copyWord wsX2_setWord := goodIn_r _ [98, 43, 14, 15, 4, 16, 111, 112, 113, 114, 115, 116, 117, 118, 119, 120, 121] (by first | exact rfl | decide +kernel) (by decide +kernel)
set_option maxRecDepth 20000 in
theorem gX2_copyWord_X2_setWord : GoodIn wsX2_copyWord (wsV RX2 62 RX2 yX2_setWord wsX2_setWord) := goodIn_app (goodIn_of _ (by decide +kernel)) ggX2_copyWord_X2_setWord
theorem dX2_copyWord_0 : decode cX2_copyWord 0 = .ok (.aload_n 0, 1) := dz0 ok_42 (by decide +kernel)
theorem dX2_copyWord_1 : decode cX2_copyWord 1 = .ok (.iload_n 1, 1) := dz0 ok_27 (by decide +kernel)
theorem dX2_copyWord_2 : decode cX2_copyWord 2 = .ok (.aload_n 2, 1) := dz0 ok_44 (by decide +kernel)
theorem dX2_copyWord_3 : decode cX2_copyWord 3 = .ok (.getfield 182, 3) := dzu2 ok_180 (by decide +kernel)
theorem dX2_copyWord_6 : decode cX2_copyWord 6 = .ok (.aload_n 2, 1) := dz0 ok_44 (by decide +kernel)
theorem dX2_copyWord_7 : decode cX2_copyWord 7 = .ok (.getfield 103, 3) := dzu2 ok_180 (by decide +kernel)
theorem dX2_copyWord_10 : decode cX2_copyWord 10 = .ok (.iadd, 1) := dz0 ok_96 (by decide +kernel)
theorem dX2_copyWord_11 : decode cX2_copyWord 11 = .ok (.iconst 0, 1) := dz0 ok_3 (by decide +kernel)
theorem dX2_copyWord_12 : decode cX2_copyWord 12 = .ok (.invokevirtual 73, 3) := dzu2 ok_182 (by decide +kernel)
theorem dX2_copyWord_15 : decode cX2_copyWord 15 = .ok (.istore_n 3, 1) := dz0 ok_62 (by decide +kernel)
theorem dX2_copyWord_16 : decode cX2_copyWord 16 = .ok (.iload_n 3, 1) := dz0 ok_29 (by decide +kernel)
theorem dX2_copyWord_17 : decode cX2_copyWord 17 = .ok (.ifCond .ge 5, 3) := dzs2 ok_156 (by decide +kernel)
theorem dX2_copyWord_20 : decode cX2_copyWord 20 = .ok (.iconst 0, 1) := dz0 ok_3 (by decide +kernel)
theorem dX2_copyWord_21 : decode cX2_copyWord 21 = .ok (.ireturn, 1) := dz0 ok_172 (by decide +kernel)
theorem dX2_copyWord_22 : decode cX2_copyWord 22 = .ok (.aload_n 0, 1) := dz0 ok_42 (by decide +kernel)
theorem dX2_copyWord_23 : decode cX2_copyWord 23 = .ok (.iload_n 3, 1) := dz0 ok_29 (by decide +kernel)
theorem dX2_copyWord_24 : decode cX2_copyWord 24 = .ok (.invokevirtual 77, 3) := dzu2 ok_182 (by decide +kernel)
theorem dX2_copyWord_27 : decode cX2_copyWord 27 = .ok (.istore 4, 2) := dzu1 ok_54 (by decide +kernel)
theorem dX2_copyWord_29 : decode cX2_copyWord 29 = .ok (.aload_n 0, 1) := dz0 ok_42 (by decide +kernel)
theorem dX2_copyWord_30 : decode cX2_copyWord 30 = .ok (.iload_n 1, 1) := dz0 ok_27 (by decide +kernel)
theorem dX2_copyWord_31 : decode cX2_copyWord 31 = .ok (.aload_n 2, 1) := dz0 ok_44 (by decide +kernel)
theorem dX2_copyWord_32 : decode cX2_copyWord 32 = .ok (.getfield 185, 3) := dzu2 ok_180 (by decide +kernel)
theorem dX2_copyWord_35 : decode cX2_copyWord 35 = .ok (.aload_n 2, 1) := dz0 ok_44 (by decide +kernel)
theorem dX2_copyWord_36 : decode cX2_copyWord 36 = .ok (.getfield 103, 3) := dzu2 ok_180 (by decide +kernel)
theorem dX2_copyWord_39 : decode cX2_copyWord 39 = .ok (.iadd, 1) := dz0 ok_96 (by decide +kernel)
theorem dX2_copyWord_40 : decode cX2_copyWord 40 = .ok (.iconst 1, 1) := dz0 ok_4 (by decide +kernel)
theorem dX2_copyWord_41 : decode cX2_copyWord 41 = .ok (.invokevirtual 73, 3) := dzu2 ok_182 (by decide +kernel)
theorem dX2_copyWord_44 : decode cX2_copyWord 44 = .ok (.istore 5, 2) := dzu1 ok_54 (by decide +kernel)
theorem dX2_copyWord_46 : decode cX2_copyWord 46 = .ok (.iload 5, 2) := dzu1 ok_21 (by decide +kernel)
theorem dX2_copyWord_48 : decode cX2_copyWord 48 = .ok (.ifCond .ge 5, 3) := dzs2 ok_156 (by decide +kernel)
theorem dX2_copyWord_51 : decode cX2_copyWord 51 = .ok (.iconst 0, 1) := dz0 ok_3 (by decide +kernel)
theorem dX2_copyWord_52 : decode cX2_copyWord 52 = .ok (.ireturn, 1) := dz0 ok_172 (by decide +kernel)
theorem dX2_copyWord_53 : decode cX2_copyWord 53 = .ok (.aload_n 0, 1) := dz0 ok_42 (by decide +kernel)
theorem dX2_copyWord_54 : decode cX2_copyWord 54 = .ok (.iload 5, 2) := dzu1 ok_21 (by decide +kernel)
theorem dX2_copyWord_56 : decode cX2_copyWord 56 = .ok (.iload 4, 2) := dzu1 ok_21 (by decide +kernel)
theorem dX2_copyWord_58 : decode cX2_copyWord 58 = .ok (.invokevirtual 62, 3) := dzu2 ok_182 (by decide +kernel)
theorem dX2_copyWord_61 : decode cX2_copyWord 61 = .ok (.pop, 1) := dz0 ok_87 (by decide +kernel)
theorem dX2_copyWord_62 : decode cX2_copyWord 62 = .ok (.aload_n 2, 1) := dz0 ok_44 (by decide +kernel)
theorem dX2_copyWord_63 : decode cX2_copyWord 63 = .ok (.dup, 1) := dz0 ok_89 (by decide +kernel)
theorem dX2_copyWord_64 : decode cX2_copyWord 64 = .ok (.getfield 103, 3) := dzu2 ok_180 (by decide +kernel)
theorem dX2_copyWord_67 : decode cX2_copyWord 67 = .ok (.iconst 1, 1) := dz0 ok_4 (by decide +kernel)
theorem dX2_copyWord_68 : decode cX2_copyWord 68 = .ok (.iadd, 1) := dz0 ok_96 (by decide +kernel)
theorem dX2_copyWord_69 : decode cX2_copyWord 69 = .ok (.putfield 103, 3) := dzu2 ok_181 (by decide +kernel)
theorem dX2_copyWord_72 : decode cX2_copyWord 72 = .ok (.iconst 1, 1) := dz0 ok_4 (by decide +kernel)
theorem dX2_copyWord_73 : decode cX2_copyWord 73 = .ok (.ireturn, 1) := dz0 ok_172 (by decide +kernel)
set_option maxRecDepth 20000 in
theorem ggX2_finishDescriptor_X0_descriptorAddress : GoodIn wsX2_finishDescriptor wsX0_descriptorAddress := goodIn_r _ [5, 6, 7, 115, 116, 117, 118, 119, 120, 121, 122, 123, 124, 125, 126] (by first | exact rfl | decide +kernel) (by decide +kernel)
set_option maxRecDepth 20000 in
theorem gX2_finishDescriptor_X0_descriptorAddress : GoodIn wsX2_finishDescriptor (wsV RX2 176 RX0 yX0_descriptorAddress wsX0_descriptorAddress) := goodIn_app (goodIn_of _ (by decide +kernel)) ggX2_finishDescriptor_X0_descriptorAddress
set_option maxRecDepth 20000 in
theorem ggX2_finishDescriptor_X2_access : GoodIn wsX2_finishDescriptor wsX2_access := goodIn_r _ [12, 13, 14, 15, 16, 11, 17, 18, 19, 20, 21, 22, 23, 24, 25, 26, 27, 28, 29, 30, 31, 32, 33, 34, 35, 36, 37, 38, 39, 40, 41, 42, 43, 44, 45, 46, 47, 48, 49, 50, 51, 52, 53, 54, 55, 56, 57, 58, 59, 60, 61, 62, 63, 64, 65, 66, 67, 68, 69, 70, 71, 72, 73, 74, 75, 76, 77, 78, 79, 80, 81, 82, 83, 84, 85, 86, 87, 88, 89, 90, 91, 92, 93, 94, 95, 96, 97, 98, 99, 100, 101, 127, 128, 129, 130, 131, 132, 133, 134, 135, 136, 137, 138, 139, 140, 141] (by first | exact rfl | decide +kernel) (by decide +kernel)
set_option maxRecDepth 20000 in
theorem gX2_finishDescriptor_X2_access : GoodIn wsX2_finishDescriptor (wsV RX2 73 RX2 yX2_access wsX2_access) := goodIn_app (goodIn_of _ (by decide +kernel)) ggX2_finishDescriptor_X2_access
set_option maxRecDepth 20000 in
theorem ggX2_finishDescriptor_X2_setWord : GoodIn wsX2_finishDescriptor wsX2_setWord := goodIn_r _ [105, 50, 21, 22, 11, 23, 127, 128, 129, 130, 131, 132, 133, 134, 135, 136, 137] (by first | exact rfl | decide +kernel) (by decide +kernel)
set_option maxRecDepth 20000 in
theorem gX2_finishDescriptor_X2_setWord : GoodIn wsX2_finishDescriptor (wsV RX2 62 RX2 yX2_setWord wsX2_setWord) := goodIn_app (goodIn_of _ (by decide +kernel)) ggX2_finishDescriptor_X2_setWord
set_option maxRecDepth 20000 in
theorem ggX2_finishDescriptor_X0_goOn : GoodIn wsX2_finishDescriptor wsX0_goOn := goodIn_r _ [109, 7, 110, 111, 112, 113, 114, 115, 116, 117, 118, 119, 120, 121, 122, 123, 124, 125, 126] (by first | exact rfl | decide +kernel) (by decide +kernel)
set_option maxRecDepth 20000 in
theorem gX2_finishDescriptor_X0_goOn : GoodIn wsX2_finishDescriptor (wsV RX2 191 RX0 yX0_goOn wsX0_goOn) := goodIn_app (goodIn_of _ (by decide +kernel)) ggX2_finishDescriptor_X0_goOn
theorem dX2_finishDescriptor_0 : decode cX2_finishDescriptor 0 = .ok (.aload_n 0, 1) := dz0 ok_42 (by decide +kernel)
theorem dX2_finishDescriptor_1 : decode cX2_finishDescriptor 1 = .ok (.iload_n 1, 1) := dz0 ok_27 (by decide +kernel)
theorem dX2_finishDescriptor_2 : decode cX2_finishDescriptor 2 = .ok (.aload_n 2, 1) := dz0 ok_44 (by decide +kernel)
theorem dX2_finishDescriptor_3 : decode cX2_finishDescriptor 3 = .ok (.invokevirtual 176, 3) := dzu2 ok_182 (by decide +kernel)
theorem dX2_finishDescriptor_6 : decode cX2_finishDescriptor 6 = .ok (.iconst 3, 1) := dz0 ok_6 (by decide +kernel)
theorem dX2_finishDescriptor_7 : decode cX2_finishDescriptor 7 = .ok (.iadd, 1) := dz0 ok_96 (by decide +kernel)
theorem dX2_finishDescriptor_8 : decode cX2_finishDescriptor 8 = .ok (.iconst 1, 1) := dz0 ok_4 (by decide +kernel)
theorem dX2_finishDescriptor_9 : decode cX2_finishDescriptor 9 = .ok (.invokevirtual 73, 3) := dzu2 ok_182 (by decide +kernel)
theorem dX2_finishDescriptor_12 : decode cX2_finishDescriptor 12 = .ok (.istore_n 3, 1) := dz0 ok_62 (by decide +kernel)
theorem dX2_finishDescriptor_13 : decode cX2_finishDescriptor 13 = .ok (.iload_n 3, 1) := dz0 ok_29 (by decide +kernel)
theorem dX2_finishDescriptor_14 : decode cX2_finishDescriptor 14 = .ok (.ifCond .ge 5, 3) := dzs2 ok_156 (by decide +kernel)
theorem dX2_finishDescriptor_17 : decode cX2_finishDescriptor 17 = .ok (.iconst 0, 1) := dz0 ok_3 (by decide +kernel)
theorem dX2_finishDescriptor_18 : decode cX2_finishDescriptor 18 = .ok (.ireturn, 1) := dz0 ok_172 (by decide +kernel)
theorem dX2_finishDescriptor_19 : decode cX2_finishDescriptor 19 = .ok (.aload_n 0, 1) := dz0 ok_42 (by decide +kernel)
theorem dX2_finishDescriptor_20 : decode cX2_finishDescriptor 20 = .ok (.iload_n 3, 1) := dz0 ok_29 (by decide +kernel)
theorem dX2_finishDescriptor_21 : decode cX2_finishDescriptor 21 = .ok (.aload_n 2, 1) := dz0 ok_44 (by decide +kernel)
theorem dX2_finishDescriptor_22 : decode cX2_finishDescriptor 22 = .ok (.getfield 188, 3) := dzu2 ok_180 (by decide +kernel)
theorem dX2_finishDescriptor_25 : decode cX2_finishDescriptor 25 = .ok (.iconst 1, 1) := dz0 ok_4 (by decide +kernel)
theorem dX2_finishDescriptor_26 : decode cX2_finishDescriptor 26 = .ok (.ior, 1) := dz0 ok_128 (by decide +kernel)
theorem dX2_finishDescriptor_27 : decode cX2_finishDescriptor 27 = .ok (.invokevirtual 62, 3) := dzu2 ok_182 (by decide +kernel)
theorem dX2_finishDescriptor_30 : decode cX2_finishDescriptor 30 = .ok (.pop, 1) := dz0 ok_87 (by decide +kernel)
theorem dX2_finishDescriptor_31 : decode cX2_finishDescriptor 31 = .ok (.aload_n 2, 1) := dz0 ok_44 (by decide +kernel)
theorem dX2_finishDescriptor_32 : decode cX2_finishDescriptor 32 = .ok (.invokevirtual 191, 3) := dzu2 ok_182 (by decide +kernel)
theorem dX2_finishDescriptor_35 : decode cX2_finishDescriptor 35 = .ok (.iconst 1, 1) := dz0 ok_4 (by decide +kernel)
theorem dX2_finishDescriptor_36 : decode cX2_finishDescriptor 36 = .ok (.ireturn, 1) := dz0 ok_172 (by decide +kernel)
set_option maxRecDepth 20000 in
theorem ggX2_carryOut_X1_removeAll : GoodIn wsX2_carryOut wsX1_removeAll := goodIn_r _ [7, 8, 59, 60, 61, 62] (by first | exact rfl | decide +kernel) (by decide +kernel)
set_option maxRecDepth 20000 in
theorem gX2_carryOut_X1_removeAll : GoodIn wsX2_carryOut (wsV RX2 143 RX1 yX1_removeAll wsX1_removeAll) := goodIn_app (goodIn_of _ (by decide +kernel)) ggX2_carryOut_X1_removeAll
set_option maxRecDepth 20000 in
theorem ggX2_carryOut_X2_forgetDomain : GoodIn wsX2_carryOut wsX2_forgetDomain := goodIn_r _ [13, 1, 14, 15, 16, 6, 17, 18, 19, 20, 21, 22, 23, 8, 24, 25, 26, 27, 48, 49, 50, 51, 52, 53, 54, 55, 56, 57, 58, 59, 60, 61, 62] (by first | exact rfl | decide +kernel) (by decide +kernel)
set_option maxRecDepth 20000 in
theorem gX2_carryOut_X2_forgetDomain : GoodIn wsX2_carryOut (wsV RX2 194 RX2 yX2_forgetDomain wsX2_forgetDomain) := goodIn_app (goodIn_of _ (by decide +kernel)) ggX2_carryOut_X2_forgetDomain
set_option maxRecDepth 20000 in
theorem ggX2_carryOut_X2_forgetPage : GoodIn wsX2_carryOut wsX2_forgetPage := goodIn_r _ [31, 1, 14, 15, 16, 6, 17, 18, 19, 20, 21, 22, 23, 8, 32, 33, 34, 12, 35, 24, 25, 26, 27, 48, 49, 50, 51, 52, 53, 54, 55, 56, 57, 58, 59, 60, 61, 62] (by first | exact rfl | decide +kernel) (by decide +kernel)
set_option maxRecDepth 20000 in
theorem gX2_carryOut_X2_forgetPage : GoodIn wsX2_carryOut (wsV RX2 197 RX2 yX2_forgetPage wsX2_forgetPage) := goodIn_app (goodIn_of _ (by decide +kernel)) ggX2_carryOut_X2_forgetPage
set_option maxRecDepth 20000 in
theorem ggX2_carryOut_X2_forgetContext : GoodIn wsX2_carryOut wsX2_forgetContext := goodIn_r _ [39, 2, 14, 15, 16, 6, 17, 18, 19, 20, 21, 22, 23, 8, 24, 25, 26, 27, 48, 49, 50, 51, 52, 53, 54, 55, 56, 57, 58, 59, 60, 61, 62] (by first | exact rfl | decide +kernel) (by decide +kernel)
set_option maxRecDepth 20000 in
theorem gX2_carryOut_X2_forgetContext : GoodIn wsX2_carryOut (wsV RX2 200 RX2 yX2_forgetContext wsX2_forgetContext) := goodIn_app (goodIn_of _ (by decide +kernel)) ggX2_carryOut_X2_forgetContext
set_option maxRecDepth 20000 in
theorem ggX2_carryOut_X2_setWord : GoodIn wsX2_carryOut wsX2_setWord := goodIn_r _ [43, 44, 45, 46, 12, 47, 48, 49, 50, 51, 52, 53, 54, 55, 56, 57, 58] (by first | exact rfl | decide +kernel) (by decide +kernel)
set_option maxRecDepth 20000 in
theorem gX2_carryOut_X2_setWord : GoodIn wsX2_carryOut (wsV RX2 62 RX2 yX2_setWord wsX2_setWord) := goodIn_app (goodIn_of _ (by decide +kernel)) ggX2_carryOut_X2_setWord
theorem dX2_carryOut_0 : decode cX2_carryOut 0 = .ok (.iload_n 1, 1) := dz0 ok_27 (by decide +kernel)
theorem dX2_carryOut_1 : decode cX2_carryOut 1 = .ok (.tableswitch 80 0 4 #[35, 45, 53, 62, 70], 35) := by decide +kernel
theorem dX2_carryOut_36 : decode cX2_carryOut 36 = .ok (.aload_n 0, 1) := dz0 ok_42 (by decide +kernel)
theorem dX2_carryOut_37 : decode cX2_carryOut 37 = .ok (.getfield 22, 3) := dzu2 ok_180 (by decide +kernel)
theorem dX2_carryOut_40 : decode cX2_carryOut 40 = .ok (.invokevirtual 143, 3) := dzu2 ok_182 (by decide +kernel)
theorem dX2_carryOut_43 : decode cX2_carryOut 43 = .ok (.goto 45, 3) := dzs2 ok_167 (by decide +kernel)
theorem dX2_carryOut_46 : decode cX2_carryOut 46 = .ok (.aload_n 0, 1) := dz0 ok_42 (by decide +kernel)
theorem dX2_carryOut_47 : decode cX2_carryOut 47 = .ok (.iload_n 2, 1) := dz0 ok_28 (by decide +kernel)
theorem dX2_carryOut_48 : decode cX2_carryOut 48 = .ok (.invokevirtual 194, 3) := dzu2 ok_182 (by decide +kernel)
theorem dX2_carryOut_51 : decode cX2_carryOut 51 = .ok (.goto 37, 3) := dzs2 ok_167 (by decide +kernel)
theorem dX2_carryOut_54 : decode cX2_carryOut 54 = .ok (.aload_n 0, 1) := dz0 ok_42 (by decide +kernel)
theorem dX2_carryOut_55 : decode cX2_carryOut 55 = .ok (.iload_n 2, 1) := dz0 ok_28 (by decide +kernel)
theorem dX2_carryOut_56 : decode cX2_carryOut 56 = .ok (.iload_n 3, 1) := dz0 ok_29 (by decide +kernel)
theorem dX2_carryOut_57 : decode cX2_carryOut 57 = .ok (.invokevirtual 197, 3) := dzu2 ok_182 (by decide +kernel)
theorem dX2_carryOut_60 : decode cX2_carryOut 60 = .ok (.goto 28, 3) := dzs2 ok_167 (by decide +kernel)
theorem dX2_carryOut_63 : decode cX2_carryOut 63 = .ok (.aload_n 0, 1) := dz0 ok_42 (by decide +kernel)
theorem dX2_carryOut_64 : decode cX2_carryOut 64 = .ok (.iload_n 2, 1) := dz0 ok_28 (by decide +kernel)
theorem dX2_carryOut_65 : decode cX2_carryOut 65 = .ok (.invokevirtual 200, 3) := dzu2 ok_182 (by decide +kernel)
theorem dX2_carryOut_68 : decode cX2_carryOut 68 = .ok (.goto 20, 3) := dzs2 ok_167 (by decide +kernel)
theorem dX2_carryOut_71 : decode cX2_carryOut 71 = .ok (.aload_n 0, 1) := dz0 ok_42 (by decide +kernel)
theorem dX2_carryOut_72 : decode cX2_carryOut 72 = .ok (.getfield 18, 3) := dzu2 ok_180 (by decide +kernel)
theorem dX2_carryOut_75 : decode cX2_carryOut 75 = .ok (.invokevirtual 143, 3) := dzu2 ok_182 (by decide +kernel)
theorem dX2_carryOut_78 : decode cX2_carryOut 78 = .ok (.goto 10, 3) := dzs2 ok_167 (by decide +kernel)
theorem dX2_carryOut_81 : decode cX2_carryOut 81 = .ok (.aload_n 0, 1) := dz0 ok_42 (by decide +kernel)
theorem dX2_carryOut_82 : decode cX2_carryOut 82 = .ok (.iload_n 2, 1) := dz0 ok_28 (by decide +kernel)
theorem dX2_carryOut_83 : decode cX2_carryOut 83 = .ok (.iload_n 3, 1) := dz0 ok_29 (by decide +kernel)
theorem dX2_carryOut_84 : decode cX2_carryOut 84 = .ok (.invokevirtual 62, 3) := dzu2 ok_182 (by decide +kernel)
theorem dX2_carryOut_87 : decode cX2_carryOut 87 = .ok (.pop, 1) := dz0 ok_87 (by decide +kernel)
theorem dX2_carryOut_88 : decode cX2_carryOut 88 = .ok (.return_, 1) := dz0 ok_177 (by decide +kernel)
set_option maxRecDepth 20000 in
theorem ggX2_forgetDomain_X1_cell : GoodIn wsX2_forgetDomain wsX1_cell := goodIn_r _ [6, 7, 8, 9, 10, 11, 5, 12, 13, 29, 30, 31, 32] (by first | exact rfl | decide +kernel) (by decide +kernel)
set_option maxRecDepth 20000 in
theorem gX2_forgetDomain_X1_cell : GoodIn wsX2_forgetDomain (wsV RX2 133 RX1 yX1_cell wsX1_cell) := goodIn_app (goodIn_of _ (by decide +kernel)) ggX2_forgetDomain_X1_cell
set_option maxRecDepth 20000 in
theorem ggX2_forgetDomain_X1_remove : GoodIn wsX2_forgetDomain wsX1_remove := goodIn_r _ [17, 13, 8, 7, 29, 30, 31, 32] (by first | exact rfl | decide +kernel) (by decide +kernel)
set_option maxRecDepth 20000 in
theorem gX2_forgetDomain_X1_remove : GoodIn wsX2_forgetDomain (wsV RX2 139 RX1 yX1_remove wsX1_remove) := goodIn_app (goodIn_of _ (by decide +kernel)) ggX2_forgetDomain_X1_remove
theorem dX2_forgetDomain_0 : decode cX2_forgetDomain 0 = .ok (.aload_n 0, 1) := dz0 ok_42 (by decide +kernel)
theorem dX2_forgetDomain_1 : decode cX2_forgetDomain 1 = .ok (.getfield 22, 3) := dzu2 ok_180 (by decide +kernel)
theorem dX2_forgetDomain_4 : decode cX2_forgetDomain 4 = .ok (.getfield 130, 3) := dzu2 ok_180 (by decide +kernel)
theorem dX2_forgetDomain_7 : decode cX2_forgetDomain 7 = .ok (.iconst 1, 1) := dz0 ok_4 (by decide +kernel)
theorem dX2_forgetDomain_8 : decode cX2_forgetDomain 8 = .ok (.isub, 1) := dz0 ok_100 (by decide +kernel)
theorem dX2_forgetDomain_9 : decode cX2_forgetDomain 9 = .ok (.istore_n 2, 1) := dz0 ok_61 (by decide +kernel)
theorem dX2_forgetDomain_10 : decode cX2_forgetDomain 10 = .ok (.iload_n 2, 1) := dz0 ok_28 (by decide +kernel)
theorem dX2_forgetDomain_11 : decode cX2_forgetDomain 11 = .ok (.ifCond .lt 30, 3) := dzs2 ok_155 (by decide +kernel)
theorem dX2_forgetDomain_14 : decode cX2_forgetDomain 14 = .ok (.aload_n 0, 1) := dz0 ok_42 (by decide +kernel)
theorem dX2_forgetDomain_15 : decode cX2_forgetDomain 15 = .ok (.getfield 22, 3) := dzu2 ok_180 (by decide +kernel)
theorem dX2_forgetDomain_18 : decode cX2_forgetDomain 18 = .ok (.iload_n 2, 1) := dz0 ok_28 (by decide +kernel)
theorem dX2_forgetDomain_19 : decode cX2_forgetDomain 19 = .ok (.iconst 0, 1) := dz0 ok_3 (by decide +kernel)
theorem dX2_forgetDomain_20 : decode cX2_forgetDomain 20 = .ok (.invokevirtual 133, 3) := dzu2 ok_182 (by decide +kernel)
theorem dX2_forgetDomain_23 : decode cX2_forgetDomain 23 = .ok (.iload_n 1, 1) := dz0 ok_27 (by decide +kernel)
theorem dX2_forgetDomain_24 : decode cX2_forgetDomain 24 = .ok (.if_icmp .ne 11, 3) := dzs2 ok_160 (by decide +kernel)
theorem dX2_forgetDomain_27 : decode cX2_forgetDomain 27 = .ok (.aload_n 0, 1) := dz0 ok_42 (by decide +kernel)
theorem dX2_forgetDomain_28 : decode cX2_forgetDomain 28 = .ok (.getfield 22, 3) := dzu2 ok_180 (by decide +kernel)
theorem dX2_forgetDomain_31 : decode cX2_forgetDomain 31 = .ok (.iload_n 2, 1) := dz0 ok_28 (by decide +kernel)
theorem dX2_forgetDomain_32 : decode cX2_forgetDomain 32 = .ok (.invokevirtual 139, 3) := dzu2 ok_182 (by decide +kernel)
theorem dX2_forgetDomain_35 : decode cX2_forgetDomain 35 = .ok (.iinc 2 (-1), 3) := dzii (by decide +kernel)
theorem dX2_forgetDomain_38 : decode cX2_forgetDomain 38 = .ok (.goto (-28), 3) := dzs2 ok_167 (by decide +kernel)
theorem dX2_forgetDomain_41 : decode cX2_forgetDomain 41 = .ok (.return_, 1) := dz0 ok_177 (by decide +kernel)
set_option maxRecDepth 20000 in
theorem ggX2_forgetPage_X1_cell : GoodIn wsX2_forgetPage wsX1_cell := goodIn_r _ [6, 7, 8, 9, 10, 11, 5, 12, 13, 34, 35, 36, 37] (by first | exact rfl | decide +kernel) (by decide +kernel)
set_option maxRecDepth 20000 in
theorem gX2_forgetPage_X1_cell : GoodIn wsX2_forgetPage (wsV RX2 133 RX1 yX1_cell wsX1_cell) := goodIn_app (goodIn_of _ (by decide +kernel)) ggX2_forgetPage_X1_cell
set_option maxRecDepth 20000 in
theorem ggX2_forgetPage_X2_isForPage : GoodIn wsX2_forgetPage wsX2_isForPage := goodIn_r _ [18, 1, 2, 3, 4, 5, 6, 7, 8, 9, 10, 11, 12, 13, 23, 24, 25, 26, 27, 28, 29, 30, 31, 32, 33, 34, 35, 36, 37] (by first | exact rfl | decide +kernel) (by decide +kernel)
set_option maxRecDepth 20000 in
theorem gX2_forgetPage_X2_isForPage : GoodIn wsX2_forgetPage (wsV RX2 166 RX2 yX2_isForPage wsX2_isForPage) := goodIn_app (goodIn_of _ (by decide +kernel)) ggX2_forgetPage_X2_isForPage
set_option maxRecDepth 20000 in
theorem ggX2_forgetPage_X1_remove : GoodIn wsX2_forgetPage wsX1_remove := goodIn_r _ [22, 13, 8, 7, 34, 35, 36, 37] (by first | exact rfl | decide +kernel) (by decide +kernel)
set_option maxRecDepth 20000 in
theorem gX2_forgetPage_X1_remove : GoodIn wsX2_forgetPage (wsV RX2 139 RX1 yX1_remove wsX1_remove) := goodIn_app (goodIn_of _ (by decide +kernel)) ggX2_forgetPage_X1_remove
theorem dX2_forgetPage_0 : decode cX2_forgetPage 0 = .ok (.aload_n 0, 1) := dz0 ok_42 (by decide +kernel)
theorem dX2_forgetPage_1 : decode cX2_forgetPage 1 = .ok (.getfield 22, 3) := dzu2 ok_180 (by decide +kernel)
theorem dX2_forgetPage_4 : decode cX2_forgetPage 4 = .ok (.getfield 130, 3) := dzu2 ok_180 (by decide +kernel)
theorem dX2_forgetPage_7 : decode cX2_forgetPage 7 = .ok (.iconst 1, 1) := dz0 ok_4 (by decide +kernel)
theorem dX2_forgetPage_8 : decode cX2_forgetPage 8 = .ok (.isub, 1) := dz0 ok_100 (by decide +kernel)
theorem dX2_forgetPage_9 : decode cX2_forgetPage 9 = .ok (.istore_n 3, 1) := dz0 ok_62 (by decide +kernel)
theorem dX2_forgetPage_10 : decode cX2_forgetPage 10 = .ok (.iload_n 3, 1) := dz0 ok_29 (by decide +kernel)
theorem dX2_forgetPage_11 : decode cX2_forgetPage 11 = .ok (.ifCond .lt 39, 3) := dzs2 ok_155 (by decide +kernel)
theorem dX2_forgetPage_14 : decode cX2_forgetPage 14 = .ok (.aload_n 0, 1) := dz0 ok_42 (by decide +kernel)
theorem dX2_forgetPage_15 : decode cX2_forgetPage 15 = .ok (.getfield 22, 3) := dzu2 ok_180 (by decide +kernel)
theorem dX2_forgetPage_18 : decode cX2_forgetPage 18 = .ok (.iload_n 3, 1) := dz0 ok_29 (by decide +kernel)
theorem dX2_forgetPage_19 : decode cX2_forgetPage 19 = .ok (.iconst 0, 1) := dz0 ok_3 (by decide +kernel)
theorem dX2_forgetPage_20 : decode cX2_forgetPage 20 = .ok (.invokevirtual 133, 3) := dzu2 ok_182 (by decide +kernel)
theorem dX2_forgetPage_23 : decode cX2_forgetPage 23 = .ok (.iload_n 1, 1) := dz0 ok_27 (by decide +kernel)
theorem dX2_forgetPage_24 : decode cX2_forgetPage 24 = .ok (.if_icmp .ne 20, 3) := dzs2 ok_160 (by decide +kernel)
theorem dX2_forgetPage_27 : decode cX2_forgetPage 27 = .ok (.aload_n 0, 1) := dz0 ok_42 (by decide +kernel)
theorem dX2_forgetPage_28 : decode cX2_forgetPage 28 = .ok (.iload_n 3, 1) := dz0 ok_29 (by decide +kernel)
theorem dX2_forgetPage_29 : decode cX2_forgetPage 29 = .ok (.iload_n 2, 1) := dz0 ok_28 (by decide +kernel)
theorem dX2_forgetPage_30 : decode cX2_forgetPage 30 = .ok (.invokevirtual 166, 3) := dzu2 ok_182 (by decide +kernel)
theorem dX2_forgetPage_33 : decode cX2_forgetPage 33 = .ok (.ifCond .eq 11, 3) := dzs2 ok_153 (by decide +kernel)
theorem dX2_forgetPage_36 : decode cX2_forgetPage 36 = .ok (.aload_n 0, 1) := dz0 ok_42 (by decide +kernel)
theorem dX2_forgetPage_37 : decode cX2_forgetPage 37 = .ok (.getfield 22, 3) := dzu2 ok_180 (by decide +kernel)
theorem dX2_forgetPage_40 : decode cX2_forgetPage 40 = .ok (.iload_n 3, 1) := dz0 ok_29 (by decide +kernel)
theorem dX2_forgetPage_41 : decode cX2_forgetPage 41 = .ok (.invokevirtual 139, 3) := dzu2 ok_182 (by decide +kernel)
theorem dX2_forgetPage_44 : decode cX2_forgetPage 44 = .ok (.iinc 3 (-1), 3) := dzii (by decide +kernel)
theorem dX2_forgetPage_47 : decode cX2_forgetPage 47 = .ok (.goto (-37), 3) := dzs2 ok_167 (by decide +kernel)
theorem dX2_forgetPage_50 : decode cX2_forgetPage 50 = .ok (.return_, 1) := dz0 ok_177 (by decide +kernel)
set_option maxRecDepth 20000 in
theorem ggX2_forgetContext_X1_cell : GoodIn wsX2_forgetContext wsX1_cell := goodIn_r _ [6, 7, 8, 9, 10, 11, 5, 12, 13, 29, 30, 31, 32] (by first | exact rfl | decide +kernel) (by decide +kernel)
set_option maxRecDepth 20000 in
theorem gX2_forgetContext_X1_cell : GoodIn wsX2_forgetContext (wsV RX2 133 RX1 yX1_cell wsX1_cell) := goodIn_app (goodIn_of _ (by decide +kernel)) ggX2_forgetContext_X1_cell
set_option maxRecDepth 20000 in
theorem ggX2_forgetContext_X1_remove : GoodIn wsX2_forgetContext wsX1_remove := goodIn_r _ [17, 13, 8, 7, 29, 30, 31, 32] (by first | exact rfl | decide +kernel) (by decide +kernel)
set_option maxRecDepth 20000 in
theorem gX2_forgetContext_X1_remove : GoodIn wsX2_forgetContext (wsV RX2 139 RX1 yX1_remove wsX1_remove) := goodIn_app (goodIn_of _ (by decide +kernel)) ggX2_forgetContext_X1_remove
theorem dX2_forgetContext_0 : decode cX2_forgetContext 0 = .ok (.aload_n 0, 1) := dz0 ok_42 (by decide +kernel)
theorem dX2_forgetContext_1 : decode cX2_forgetContext 1 = .ok (.getfield 18, 3) := dzu2 ok_180 (by decide +kernel)
theorem dX2_forgetContext_4 : decode cX2_forgetContext 4 = .ok (.getfield 130, 3) := dzu2 ok_180 (by decide +kernel)
theorem dX2_forgetContext_7 : decode cX2_forgetContext 7 = .ok (.iconst 1, 1) := dz0 ok_4 (by decide +kernel)
theorem dX2_forgetContext_8 : decode cX2_forgetContext 8 = .ok (.isub, 1) := dz0 ok_100 (by decide +kernel)
theorem dX2_forgetContext_9 : decode cX2_forgetContext 9 = .ok (.istore_n 2, 1) := dz0 ok_61 (by decide +kernel)
theorem dX2_forgetContext_10 : decode cX2_forgetContext 10 = .ok (.iload_n 2, 1) := dz0 ok_28 (by decide +kernel)
theorem dX2_forgetContext_11 : decode cX2_forgetContext 11 = .ok (.ifCond .lt 30, 3) := dzs2 ok_155 (by decide +kernel)
theorem dX2_forgetContext_14 : decode cX2_forgetContext 14 = .ok (.aload_n 0, 1) := dz0 ok_42 (by decide +kernel)
theorem dX2_forgetContext_15 : decode cX2_forgetContext 15 = .ok (.getfield 18, 3) := dzu2 ok_180 (by decide +kernel)
theorem dX2_forgetContext_18 : decode cX2_forgetContext 18 = .ok (.iload_n 2, 1) := dz0 ok_28 (by decide +kernel)
theorem dX2_forgetContext_19 : decode cX2_forgetContext 19 = .ok (.iconst 0, 1) := dz0 ok_3 (by decide +kernel)
theorem dX2_forgetContext_20 : decode cX2_forgetContext 20 = .ok (.invokevirtual 133, 3) := dzu2 ok_182 (by decide +kernel)
theorem dX2_forgetContext_23 : decode cX2_forgetContext 23 = .ok (.iload_n 1, 1) := dz0 ok_27 (by decide +kernel)
theorem dX2_forgetContext_24 : decode cX2_forgetContext 24 = .ok (.if_icmp .ne 11, 3) := dzs2 ok_160 (by decide +kernel)
theorem dX2_forgetContext_27 : decode cX2_forgetContext 27 = .ok (.aload_n 0, 1) := dz0 ok_42 (by decide +kernel)
theorem dX2_forgetContext_28 : decode cX2_forgetContext 28 = .ok (.getfield 18, 3) := dzu2 ok_180 (by decide +kernel)
theorem dX2_forgetContext_31 : decode cX2_forgetContext 31 = .ok (.iload_n 2, 1) := dz0 ok_28 (by decide +kernel)
theorem dX2_forgetContext_32 : decode cX2_forgetContext 32 = .ok (.invokevirtual 139, 3) := dzu2 ok_182 (by decide +kernel)
theorem dX2_forgetContext_35 : decode cX2_forgetContext 35 = .ok (.iinc 2 (-1), 3) := dzii (by decide +kernel)
theorem dX2_forgetContext_38 : decode cX2_forgetContext 38 = .ok (.goto (-28), 3) := dzs2 ok_167 (by decide +kernel)
theorem dX2_forgetContext_41 : decode cX2_forgetContext 41 = .ok (.return_, 1) := dz0 ok_177 (by decide +kernel)


theorem dX2_isForPage_16 : decode cX2_isForPage 16 = .ok (.iconst 1, 1) := dz0 ok_4 (by decide +kernel)
theorem dX2_isForPage_17 : decode cX2_isForPage 17 = .ok (.invokevirtual 133, 3) := dzu2 ok_182 (by decide +kernel)
theorem dX2_isForPage_20 : decode cX2_isForPage 20 = .ok (.imul, 1) := dz0 ok_104 (by decide +kernel)
theorem dX2_isForPage_21 : decode cX2_isForPage 21 = .ok (.ishr, 1) := dz0 ok_122 (by decide +kernel)
theorem dX2_isForPage_22 : decode cX2_isForPage 22 = .ok (.if_icmp .ne 7, 3) := dzs2 ok_160 (by decide +kernel)
theorem dX2_isForPage_25 : decode cX2_isForPage 25 = .ok (.iconst 1, 1) := dz0 ok_4 (by decide +kernel)
theorem dX2_isForPage_26 : decode cX2_isForPage 26 = .ok (.goto 4, 3) := dzs2 ok_167 (by decide +kernel)
theorem dX2_isForPage_29 : decode cX2_isForPage 29 = .ok (.iconst 0, 1) := dz0 ok_3 (by decide +kernel)
theorem dX2_isForPage_30 : decode cX2_isForPage 30 = .ok (.ireturn, 1) := dz0 ok_172 (by decide +kernel)
set_option maxRecDepth 20000 in
theorem ggX2_rememberLeaf_X1_open : GoodIn wsX2_rememberLeaf wsX1_open := goodIn_r _ [6, 7, 8, 9, 10, 5, 11, 12, 13, 14, 15, 16, 17, 18, 42, 43, 44, 45] (by first | exact rfl | decide +kernel) (by decide +kernel)
set_option maxRecDepth 20000 in
theorem gX2_rememberLeaf_X1_open : GoodIn wsX2_rememberLeaf (wsV RX2 122 RX1 yX1_open wsX1_open) := goodIn_app (goodIn_of _ (by decide +kernel)) ggX2_rememberLeaf_X1_open
set_option maxRecDepth 20000 in
theorem ggX2_rememberLeaf_X1_put : GoodIn wsX2_rememberLeaf wsX1_put := goodIn_r _ [22, 18, 17, 23, 24, 25, 5, 26, 7, 42, 43, 44, 45] (by first | exact rfl | decide +kernel) (by decide +kernel)
set_option maxRecDepth 20000 in
theorem gX2_rememberLeaf_X1_put : GoodIn wsX2_rememberLeaf (wsV RX2 126 RX1 yX1_put wsX1_put) := goodIn_app (goodIn_of _ (by decide +kernel)) ggX2_rememberLeaf_X1_put
set_option maxRecDepth 20000 in
theorem ggX2_rememberLeaf_X2_pageOf : GoodIn wsX2_rememberLeaf wsX2_pageOf := goodIn_r _ [30] (by first | exact rfl | decide +kernel) (by decide +kernel)
set_option maxRecDepth 20000 in
theorem gX2_rememberLeaf_X2_pageOf : GoodIn wsX2_rememberLeaf (va_wsS RX2 157 yX2_pageOf wsX2_pageOf) := goodIn_app (goodIn_of _ (by decide +kernel)) ggX2_rememberLeaf_X2_pageOf
theorem dX2_rememberLeaf_0 : decode cX2_rememberLeaf 0 = .ok (.aload_n 0, 1) := dz0 ok_42 (by decide +kernel)
theorem dX2_rememberLeaf_1 : decode cX2_rememberLeaf 1 = .ok (.getfield 22, 3) := dzu2 ok_180 (by decide +kernel)
theorem dX2_rememberLeaf_4 : decode cX2_rememberLeaf 4 = .ok (.invokevirtual 122, 3) := dzu2 ok_182 (by decide +kernel)
theorem dX2_rememberLeaf_7 : decode cX2_rememberLeaf 7 = .ok (.istore 5, 2) := dzu1 ok_54 (by decide +kernel)
theorem dX2_rememberLeaf_9 : decode cX2_rememberLeaf 9 = .ok (.aload_n 0, 1) := dz0 ok_42 (by decide +kernel)
theorem dX2_rememberLeaf_10 : decode cX2_rememberLeaf 10 = .ok (.getfield 22, 3) := dzu2 ok_180 (by decide +kernel)
theorem dX2_rememberLeaf_13 : decode cX2_rememberLeaf 13 = .ok (.iload 5, 2) := dzu1 ok_21 (by decide +kernel)
theorem dX2_rememberLeaf_15 : decode cX2_rememberLeaf 15 = .ok (.iconst 0, 1) := dz0 ok_3 (by decide +kernel)
theorem dX2_rememberLeaf_16 : decode cX2_rememberLeaf 16 = .ok (.iload_n 1, 1) := dz0 ok_27 (by decide +kernel)
theorem dX2_rememberLeaf_17 : decode cX2_rememberLeaf 17 = .ok (.invokevirtual 126, 3) := dzu2 ok_182 (by decide +kernel)
theorem dX2_rememberLeaf_20 : decode cX2_rememberLeaf 20 = .ok (.aload_n 0, 1) := dz0 ok_42 (by decide +kernel)
theorem dX2_rememberLeaf_21 : decode cX2_rememberLeaf 21 = .ok (.getfield 22, 3) := dzu2 ok_180 (by decide +kernel)
theorem dX2_rememberLeaf_24 : decode cX2_rememberLeaf 24 = .ok (.iload 5, 2) := dzu1 ok_21 (by decide +kernel)
theorem dX2_rememberLeaf_26 : decode cX2_rememberLeaf 26 = .ok (.iconst 1, 1) := dz0 ok_4 (by decide +kernel)
theorem dX2_rememberLeaf_27 : decode cX2_rememberLeaf 27 = .ok (.iload_n 2, 1) := dz0 ok_28 (by decide +kernel)
theorem dX2_rememberLeaf_28 : decode cX2_rememberLeaf 28 = .ok (.invokevirtual 126, 3) := dzu2 ok_182 (by decide +kernel)
theorem dX2_rememberLeaf_31 : decode cX2_rememberLeaf 31 = .ok (.aload_n 0, 1) := dz0 ok_42 (by decide +kernel)
theorem dX2_rememberLeaf_32 : decode cX2_rememberLeaf 32 = .ok (.getfield 22, 3) := dzu2 ok_180 (by decide +kernel)
theorem dX2_rememberLeaf_35 : decode cX2_rememberLeaf 35 = .ok (.iload 5, 2) := dzu1 ok_21 (by decide +kernel)
theorem dX2_rememberLeaf_37 : decode cX2_rememberLeaf 37 = .ok (.iconst 2, 1) := dz0 ok_5 (by decide +kernel)
theorem dX2_rememberLeaf_38 : decode cX2_rememberLeaf 38 = .ok (.iload_n 3, 1) := dz0 ok_29 (by decide +kernel)
theorem dX2_rememberLeaf_39 : decode cX2_rememberLeaf 39 = .ok (.iconst 4, 1) := dz0 ok_7 (by decide +kernel)
theorem dX2_rememberLeaf_40 : decode cX2_rememberLeaf 40 = .ok (.iload_n 2, 1) := dz0 ok_28 (by decide +kernel)
theorem dX2_rememberLeaf_41 : decode cX2_rememberLeaf 41 = .ok (.imul, 1) := dz0 ok_104 (by decide +kernel)
theorem dX2_rememberLeaf_42 : decode cX2_rememberLeaf 42 = .ok (.ishr, 1) := dz0 ok_122 (by decide +kernel)
theorem dX2_rememberLeaf_43 : decode cX2_rememberLeaf 43 = .ok (.invokevirtual 126, 3) := dzu2 ok_182 (by decide +kernel)
theorem dX2_rememberLeaf_46 : decode cX2_rememberLeaf 46 = .ok (.aload_n 0, 1) := dz0 ok_42 (by decide +kernel)
theorem dX2_rememberLeaf_47 : decode cX2_rememberLeaf 47 = .ok (.getfield 22, 3) := dzu2 ok_180 (by decide +kernel)
theorem dX2_rememberLeaf_50 : decode cX2_rememberLeaf 50 = .ok (.iload 5, 2) := dzu1 ok_21 (by decide +kernel)
theorem dX2_rememberLeaf_52 : decode cX2_rememberLeaf 52 = .ok (.iconst 3, 1) := dz0 ok_6 (by decide +kernel)
theorem dX2_rememberLeaf_53 : decode cX2_rememberLeaf 53 = .ok (.iload 4, 2) := dzu1 ok_21 (by decide +kernel)
theorem dX2_rememberLeaf_55 : decode cX2_rememberLeaf 55 = .ok (.invokestatic 157, 3) := dzu2 ok_184 (by decide +kernel)
theorem dX2_rememberLeaf_58 : decode cX2_rememberLeaf 58 = .ok (.invokevirtual 126, 3) := dzu2 ok_182 (by decide +kernel)
theorem dX2_rememberLeaf_61 : decode cX2_rememberLeaf 61 = .ok (.aload_n 0, 1) := dz0 ok_42 (by decide +kernel)
theorem dX2_rememberLeaf_62 : decode cX2_rememberLeaf 62 = .ok (.getfield 22, 3) := dzu2 ok_180 (by decide +kernel)
theorem dX2_rememberLeaf_65 : decode cX2_rememberLeaf 65 = .ok (.iload 5, 2) := dzu1 ok_21 (by decide +kernel)
theorem dX2_rememberLeaf_67 : decode cX2_rememberLeaf 67 = .ok (.iconst 4, 1) := dz0 ok_7 (by decide +kernel)
theorem dX2_rememberLeaf_68 : decode cX2_rememberLeaf 68 = .ok (.iload 4, 2) := dzu1 ok_21 (by decide +kernel)
theorem dX2_rememberLeaf_70 : decode cX2_rememberLeaf 70 = .ok (.iconst 1, 1) := dz0 ok_4 (by decide +kernel)
theorem dX2_rememberLeaf_71 : decode cX2_rememberLeaf 71 = .ok (.ishr, 1) := dz0 ok_122 (by decide +kernel)
theorem dX2_rememberLeaf_72 : decode cX2_rememberLeaf 72 = .ok (.iconst 3, 1) := dz0 ok_6 (by decide +kernel)
theorem dX2_rememberLeaf_73 : decode cX2_rememberLeaf 73 = .ok (.iand, 1) := dz0 ok_126 (by decide +kernel)
theorem dX2_rememberLeaf_74 : decode cX2_rememberLeaf 74 = .ok (.invokevirtual 126, 3) := dzu2 ok_182 (by decide +kernel)
theorem dX2_rememberLeaf_77 : decode cX2_rememberLeaf 77 = .ok (.iload 5, 2) := dzu1 ok_21 (by decide +kernel)
theorem dX2_rememberLeaf_79 : decode cX2_rememberLeaf 79 = .ok (.ireturn, 1) := dz0 ok_172 (by decide +kernel)
set_option maxRecDepth 20000 in
theorem ggX2_takeDescriptor_X0_descriptorAddress : GoodIn wsX2_takeDescriptor wsX0_descriptorAddress := goodIn_r _ [5, 6, 7, 110, 111, 112, 113, 114, 115, 116, 117, 118, 119, 120, 121] (by first | exact rfl | decide +kernel) (by decide +kernel)
set_option maxRecDepth 20000 in
theorem gX2_takeDescriptor_X0_descriptorAddress : GoodIn wsX2_takeDescriptor (wsV RX2 176 RX0 yX0_descriptorAddress wsX0_descriptorAddress) := goodIn_app (goodIn_of _ (by decide +kernel)) ggX2_takeDescriptor_X0_descriptorAddress
set_option maxRecDepth 20000 in
theorem ggX2_takeDescriptor_X2_access : GoodIn wsX2_takeDescriptor wsX2_access := goodIn_r _ [12, 13, 14, 15, 16, 11, 17, 18, 19, 20, 21, 22, 23, 24, 25, 26, 27, 28, 29, 30, 31, 32, 33, 34, 35, 36, 37, 38, 39, 40, 41, 42, 43, 44, 45, 46, 47, 48, 49, 50, 51, 52, 53, 54, 55, 56, 57, 58, 59, 60, 61, 62, 63, 64, 65, 66, 67, 68, 69, 70, 71, 72, 73, 74, 75, 76, 77, 78, 79, 80, 81, 82, 83, 84, 85, 86, 87, 88, 89, 90, 91, 92, 93, 94, 95, 96, 97, 98, 99, 100, 101, 122, 123, 124, 125, 126, 127, 128, 129, 130, 131, 132, 133, 134, 135, 136] (by first | exact rfl | decide +kernel) (by decide +kernel)
set_option maxRecDepth 20000 in
theorem gX2_takeDescriptor_X2_access : GoodIn wsX2_takeDescriptor (wsV RX2 73 RX2 yX2_access wsX2_access) := goodIn_app (goodIn_of _ (by decide +kernel)) ggX2_takeDescriptor_X2_access
set_option maxRecDepth 20000 in
theorem ggX2_takeDescriptor_X2_wordAt : GoodIn wsX2_takeDescriptor wsX2_wordAt := goodIn_r _ [49, 50, 21, 22, 11, 23, 122, 123, 124, 125, 126, 127, 128, 129, 130, 131, 132] (by first | exact rfl | decide +kernel) (by decide +kernel)
set_option maxRecDepth 20000 in
theorem gX2_takeDescriptor_X2_wordAt : GoodIn wsX2_takeDescriptor (wsV RX2 77 RX2 yX2_wordAt wsX2_wordAt) := goodIn_app (goodIn_of _ (by decide +kernel)) ggX2_takeDescriptor_X2_wordAt
set_option maxRecDepth 20000 in
theorem ggX2_takeDescriptor_X0_take : GoodIn wsX2_takeDescriptor wsX0_take := goodIn_r _ [105, 106, 107, 108, 109, 110, 111, 112, 113, 114, 115, 116, 117, 118, 119, 120, 121] (by first | exact rfl | decide +kernel) (by decide +kernel)
set_option maxRecDepth 20000 in
theorem gX2_takeDescriptor_X0_take : GoodIn wsX2_takeDescriptor (wsV RX2 179 RX0 yX0_take wsX0_take) := goodIn_app (goodIn_of _ (by decide +kernel)) ggX2_takeDescriptor_X0_take
theorem dX2_takeDescriptor_0 : decode cX2_takeDescriptor 0 = .ok (.iconst 0, 1) := dz0 ok_3 (by decide +kernel)
theorem dX2_takeDescriptor_1 : decode cX2_takeDescriptor 1 = .ok (.istore_n 3, 1) := dz0 ok_62 (by decide +kernel)
theorem dX2_takeDescriptor_2 : decode cX2_takeDescriptor 2 = .ok (.iload_n 3, 1) := dz0 ok_29 (by decide +kernel)
theorem dX2_takeDescriptor_3 : decode cX2_takeDescriptor 3 = .ok (.iconst 4, 1) := dz0 ok_7 (by decide +kernel)
theorem dX2_takeDescriptor_4 : decode cX2_takeDescriptor 4 = .ok (.if_icmp .ge 41, 3) := dzs2 ok_162 (by decide +kernel)
theorem dX2_takeDescriptor_7 : decode cX2_takeDescriptor 7 = .ok (.aload_n 0, 1) := dz0 ok_42 (by decide +kernel)
theorem dX2_takeDescriptor_8 : decode cX2_takeDescriptor 8 = .ok (.iload_n 1, 1) := dz0 ok_27 (by decide +kernel)
theorem dX2_takeDescriptor_9 : decode cX2_takeDescriptor 9 = .ok (.aload_n 2, 1) := dz0 ok_44 (by decide +kernel)
theorem dX2_takeDescriptor_10 : decode cX2_takeDescriptor 10 = .ok (.invokevirtual 176, 3) := dzu2 ok_182 (by decide +kernel)
theorem dX2_takeDescriptor_13 : decode cX2_takeDescriptor 13 = .ok (.iload_n 3, 1) := dz0 ok_29 (by decide +kernel)
theorem dX2_takeDescriptor_14 : decode cX2_takeDescriptor 14 = .ok (.iadd, 1) := dz0 ok_96 (by decide +kernel)
theorem dX2_takeDescriptor_15 : decode cX2_takeDescriptor 15 = .ok (.iconst 0, 1) := dz0 ok_3 (by decide +kernel)
theorem dX2_takeDescriptor_16 : decode cX2_takeDescriptor 16 = .ok (.invokevirtual 73, 3) := dzu2 ok_182 (by decide +kernel)
theorem dX2_takeDescriptor_19 : decode cX2_takeDescriptor 19 = .ok (.istore 4, 2) := dzu1 ok_54 (by decide +kernel)
theorem dX2_takeDescriptor_21 : decode cX2_takeDescriptor 21 = .ok (.iload 4, 2) := dzu1 ok_21 (by decide +kernel)
theorem dX2_takeDescriptor_23 : decode cX2_takeDescriptor 23 = .ok (.ifCond .ge 5, 3) := dzs2 ok_156 (by decide +kernel)
theorem dX2_takeDescriptor_26 : decode cX2_takeDescriptor 26 = .ok (.iconst 0, 1) := dz0 ok_3 (by decide +kernel)
theorem dX2_takeDescriptor_27 : decode cX2_takeDescriptor 27 = .ok (.ireturn, 1) := dz0 ok_172 (by decide +kernel)
theorem dX2_takeDescriptor_28 : decode cX2_takeDescriptor 28 = .ok (.aload_n 2, 1) := dz0 ok_44 (by decide +kernel)
theorem dX2_takeDescriptor_29 : decode cX2_takeDescriptor 29 = .ok (.iload_n 3, 1) := dz0 ok_29 (by decide +kernel)
theorem dX2_takeDescriptor_30 : decode cX2_takeDescriptor 30 = .ok (.aload_n 0, 1) := dz0 ok_42 (by decide +kernel)
theorem dX2_takeDescriptor_31 : decode cX2_takeDescriptor 31 = .ok (.iload 4, 2) := dzu1 ok_21 (by decide +kernel)
theorem dX2_takeDescriptor_33 : decode cX2_takeDescriptor 33 = .ok (.invokevirtual 77, 3) := dzu2 ok_182 (by decide +kernel)
theorem dX2_takeDescriptor_36 : decode cX2_takeDescriptor 36 = .ok (.invokevirtual 179, 3) := dzu2 ok_182 (by decide +kernel)
theorem dX2_takeDescriptor_39 : decode cX2_takeDescriptor 39 = .ok (.iinc 3 1, 3) := dzii (by decide +kernel)
theorem dX2_takeDescriptor_42 : decode cX2_takeDescriptor 42 = .ok (.goto (-40), 3) := dzs2 ok_167 (by decide +kernel)
theorem dX2_takeDescriptor_45 : decode cX2_takeDescriptor 45 = .ok (.aload_n 2, 1) := dz0 ok_44 (by decide +kernel)
theorem dX2_takeDescriptor_46 : decode cX2_takeDescriptor 46 = .ok (.iconst 0, 1) := dz0 ok_3 (by decide +kernel)
theorem dX2_takeDescriptor_47 : decode cX2_takeDescriptor 47 = .ok (.putfield 103, 3) := dzu2 ok_181 (by decide +kernel)
theorem dX2_takeDescriptor_50 : decode cX2_takeDescriptor 50 = .ok (.aload_n 2, 1) := dz0 ok_44 (by decide +kernel)
theorem dX2_takeDescriptor_51 : decode cX2_takeDescriptor 51 = .ok (.iconst 1, 1) := dz0 ok_4 (by decide +kernel)
theorem dX2_takeDescriptor_52 : decode cX2_takeDescriptor 52 = .ok (.putfield 96, 3) := dzu2 ok_181 (by decide +kernel)
theorem dX2_takeDescriptor_55 : decode cX2_takeDescriptor 55 = .ok (.iconst 1, 1) := dz0 ok_4 (by decide +kernel)
theorem dX2_takeDescriptor_56 : decode cX2_takeDescriptor 56 = .ok (.ireturn, 1) := dz0 ok_172 (by decide +kernel)
set_option maxRecDepth 20000 in
theorem ggX2_copyWord_X2_access : GoodIn wsX2_copyWord wsX2_access := goodIn_r _ [5, 6, 7, 8, 9, 4, 10, 11, 12, 13, 14, 15, 16, 17, 18, 19, 20, 21, 22, 23, 24, 25, 26, 27, 28, 29, 30, 31, 32, 33, 34, 35, 36, 37, 38, 39, 40, 41, 42, 43, 44, 45, 46, 47, 48, 49, 50, 51, 52, 53, 54, 55, 56, 57, 58, 59, 60, 61, 62, 63, 64, 65, 66, 67, 68, 69, 70, 71, 72, 73, 74, 75, 76, 77, 78, 79, 80, 81, 82, 83, 84, 85, 86, 87, 88, 89, 90, 91, 92, 93, 94, 111, 112, 113, 114, 115, 116, 117, 118, 119, 120, 121, 122, 123, 124, 125] (by first | exact rfl | decide +kernel) (by decide +kernel)
set_option maxRecDepth 20000 in
theorem gX2_copyWord_X2_access : GoodIn wsX2_copyWord (wsV RX2 73 RX2 yX2_access wsX2_access) := goodIn_app (goodIn_of _ (by decide +kernel)) ggX2_copyWord_X2_access
set_option maxRecDepth 20000 in
theorem ggX2_copyWord_X2_wordAt : GoodIn wsX2_copyWord wsX2_wordAt := goodIn_r _ [42, 43, 14, 15, 4, 16, 111, 112, 113, 114, 115, 116, 117, 118, 119, 120, 121] (by first | exact rfl | decide +kernel) (by decide +kernel)
set_option maxRecDepth 20000 in
theorem gX2_copyWord_X2_wordAt : GoodIn wsX2_copyWord (wsV RX2 77 RX2 yX2_wordAt wsX2_wordAt) := goodIn_app (goodIn_of _ (by decide +kernel)) ggX2_copyWord_X2_wordAt
set_option maxRecDepth 20000 in
theorem ggX2_copyWord_X2_setWord : GoodIn wsX2_copyWord wsX2_setWord := goodIn_r _ [98, 43, 14, 15, 4, 16, 111, 112, 113, 114, 115, 116, 117, 118, 119, 120, 121] (by first | exact rfl | decide +kernel) (by decide +kernel)
set_option maxRecDepth 20000 in
theorem gX2_copyWord_X2_setWord : GoodIn wsX2_copyWord (wsV RX2 62 RX2 yX2_setWord wsX2_setWord) := goodIn_app (goodIn_of _ (by decide +kernel)) ggX2_copyWord_X2_setWord
theorem dX2_copyWord_0 : decode cX2_copyWord 0 = .ok (.aload_n 0, 1) := dz0 ok_42 (by decide +kernel)
theorem dX2_copyWord_1 : decode cX2_copyWord 1 = .ok (.iload_n 1, 1) := dz0 ok_27 (by decide +kernel)
theorem dX2_copyWord_2 : decode cX2_copyWord 2 = .ok (.aload_n 2, 1) := dz0 ok_44 (by decide +kernel)
theorem dX2_copyWord_3 : decode cX2_copyWord 3 = .ok (.getfield 182, 3) := dzu2 ok_180 (by decide +kernel)
theorem dX2_copyWord_6 : decode cX2_copyWord 6 = .ok (.aload_n 2, 1) := dz0 ok_44 (by decide +kernel)
theorem dX2_copyWord_7 : decode cX2_copyWord 7 = .ok (.getfield 103, 3) := dzu2 ok_180 (by decide +kernel)
theorem dX2_copyWord_10 : decode cX2_copyWord 10 = .ok (.iadd, 1) := dz0 ok_96 (by decide +kernel)
theorem dX2_copyWord_11 : decode cX2_copyWord 11 = .ok (.iconst 0, 1) := dz0 ok_3 (by decide +kernel)
theorem dX2_copyWord_12 : decode cX2_copyWord 12 = .ok (.invokevirtual 73, 3) := dzu2 ok_182 (by decide +kernel)
theorem dX2_copyWord_15 : decode cX2_copyWord 15 = .ok (.istore_n 3, 1) := dz0 ok_62 (by decide +kernel)
theorem dX2_copyWord_16 : decode cX2_copyWord 16 = .ok (.iload_n 3, 1) := dz0 ok_29 (by decide +kernel)
theorem dX2_copyWord_17 : decode cX2_copyWord 17 = .ok (.ifCond .ge 5, 3) := dzs2 ok_156 (by decide +kernel)
theorem dX2_copyWord_20 : decode cX2_copyWord 20 = .ok (.iconst 0, 1) := dz0 ok_3 (by decide +kernel)
theorem dX2_copyWord_21 : decode cX2_copyWord 21 = .ok (.ireturn, 1) := dz0 ok_172 (by decide +kernel)
theorem dX2_copyWord_22 : decode cX2_copyWord 22 = .ok (.aload_n 0, 1) := dz0 ok_42 (by decide +kernel)
theorem dX2_copyWord_23 : decode cX2_copyWord 23 = .ok (.iload_n 3, 1) := dz0 ok_29 (by decide +kernel)
theorem dX2_copyWord_24 : decode cX2_copyWord 24 = .ok (.invokevirtual 77, 3) := dzu2 ok_182 (by decide +kernel)
theorem dX2_copyWord_27 : decode cX2_copyWord 27 = .ok (.istore 4, 2) := dzu1 ok_54 (by decide +kernel)
theorem dX2_copyWord_29 : decode cX2_copyWord 29 = .ok (.aload_n 0, 1) := dz0 ok_42 (by decide +kernel)
theorem dX2_copyWord_30 : decode cX2_copyWord 30 = .ok (.iload_n 1, 1) := dz0 ok_27 (by decide +kernel)
theorem dX2_copyWord_31 : decode cX2_copyWord 31 = .ok (.aload_n 2, 1) := dz0 ok_44 (by decide +kernel)
theorem dX2_copyWord_32 : decode cX2_copyWord 32 = .ok (.getfield 185, 3) := dzu2 ok_180 (by decide +kernel)
theorem dX2_copyWord_35 : decode cX2_copyWord 35 = .ok (.aload_n 2, 1) := dz0 ok_44 (by decide +kernel)
theorem dX2_copyWord_36 : decode cX2_copyWord 36 = .ok (.getfield 103, 3) := dzu2 ok_180 (by decide +kernel)
theorem dX2_copyWord_39 : decode cX2_copyWord 39 = .ok (.iadd, 1) := dz0 ok_96 (by decide +kernel)
theorem dX2_copyWord_40 : decode cX2_copyWord 40 = .ok (.iconst 1, 1) := dz0 ok_4 (by decide +kernel)
theorem dX2_copyWord_41 : decode cX2_copyWord 41 = .ok (.invokevirtual 73, 3) := dzu2 ok_182 (by decide +kernel)
theorem dX2_copyWord_44 : decode cX2_copyWord 44 = .ok (.istore 5, 2) := dzu1 ok_54 (by decide +kernel)
theorem dX2_copyWord_46 : decode cX2_copyWord 46 = .ok (.iload 5, 2) := dzu1 ok_21 (by decide +kernel)
theorem dX2_copyWord_48 : decode cX2_copyWord 48 = .ok (.ifCond .ge 5, 3) := dzs2 ok_156 (by decide +kernel)
theorem dX2_copyWord_51 : decode cX2_copyWord 51 = .ok (.iconst 0, 1) := dz0 ok_3 (by decide +kernel)
theorem dX2_copyWord_52 : decode cX2_copyWord 52 = .ok (.ireturn, 1) := dz0 ok_172 (by decide +kernel)
theorem dX2_copyWord_53 : decode cX2_copyWord 53 = .ok (.aload_n 0, 1) := dz0 ok_42 (by decide +kernel)
theorem dX2_copyWord_54 : decode cX2_copyWord 54 = .ok (.iload 5, 2) := dzu1 ok_21 (by decide +kernel)
theorem dX2_copyWord_56 : decode cX2_copyWord 56 = .ok (.iload 4, 2) := dzu1 ok_21 (by decide +kernel)
theorem dX2_copyWord_58 : decode cX2_copyWord 58 = .ok (.invokevirtual 62, 3) := dzu2 ok_182 (by decide +kernel)
theorem dX2_copyWord_61 : decode cX2_copyWord 61 = .ok (.pop, 1) := dz0 ok_87 (by decide +kernel)
theorem dX2_copyWord_62 : decode cX2_copyWord 62 = .ok (.aload_n 2, 1) := dz0 ok_44 (by decide +kernel)
theorem dX2_copyWord_63 : decode cX2_copyWord 63 = .ok (.dup, 1) := dz0 ok_89 (by decide +kernel)
theorem dX2_copyWord_64 : decode cX2_copyWord 64 = .ok (.getfield 103, 3) := dzu2 ok_180 (by decide +kernel)
theorem dX2_copyWord_67 : decode cX2_copyWord 67 = .ok (.iconst 1, 1) := dz0 ok_4 (by decide +kernel)
theorem dX2_copyWord_68 : decode cX2_copyWord 68 = .ok (.iadd, 1) := dz0 ok_96 (by decide +kernel)
theorem dX2_copyWord_69 : decode cX2_copyWord 69 = .ok (.putfield 103, 3) := dzu2 ok_181 (by decide +kernel)
theorem dX2_copyWord_72 : decode cX2_copyWord 72 = .ok (.iconst 1, 1) := dz0 ok_4 (by decide +kernel)
theorem dX2_copyWord_73 : decode cX2_copyWord 73 = .ok (.ireturn, 1) := dz0 ok_172 (by decide +kernel)
set_option maxRecDepth 20000 in
theorem ggX2_finishDescriptor_X0_descriptorAddress : GoodIn wsX2_finishDescriptor wsX0_descriptorAddress := goodIn_r _ [5, 6, 7, 115, 116, 117, 118, 119, 120, 121, 122, 123, 124, 125, 126] (by first | exact rfl | decide +kernel) (by decide +kernel)
set_option maxRecDepth 20000 in
theorem gX2_finishDescriptor_X0_descriptorAddress : GoodIn wsX2_finishDescriptor (wsV RX2 176 RX0 yX0_descriptorAddress wsX0_descriptorAddress) := goodIn_app (goodIn_of _ (by decide +kernel)) ggX2_finishDescriptor_X0_descriptorAddress
set_option maxRecDepth 20000 in
theorem ggX2_finishDescriptor_X2_access : GoodIn wsX2_finishDescriptor wsX2_access := goodIn_r _ [12, 13, 14, 15, 16, 11, 17, 18, 19, 20, 21, 22, 23, 24, 25, 26, 27, 28, 29, 30, 31, 32, 33, 34, 35, 36, 37, 38, 39, 40, 41, 42, 43, 44, 45, 46, 47, 48, 49, 50, 51, 52, 53, 54, 55, 56, 57, 58, 59, 60, 61, 62, 63, 64, 65, 66, 67, 68, 69, 70, 71, 72, 73, 74, 75, 76, 77, 78, 79, 80, 81, 82, 83, 84, 85, 86, 87, 88, 89, 90, 91, 92, 93, 94, 95, 96, 97, 98, 99, 100, 101, 127, 128, 129, 130, 131, 132, 133, 134, 135, 136, 137, 138, 139, 140, 141] (by first | exact rfl | decide +kernel) (by decide +kernel)
set_option maxRecDepth 20000 in
theorem gX2_finishDescriptor_X2_access : GoodIn wsX2_finishDescriptor (wsV RX2 73 RX2 yX2_access wsX2_access) := goodIn_app (goodIn_of _ (by decide +kernel)) ggX2_finishDescriptor_X2_access
set_option maxRecDepth 20000 in
theorem ggX2_finishDescriptor_X2_setWord : GoodIn wsX2_finishDescriptor wsX2_setWord := goodIn_r _ [105, 50, 21, 22, 11, 23, 127, 128, 129, 130, 131, 132, 133, 134, 135, 136, 137] (by first | exact rfl | decide +kernel) (by decide +kernel)
set_option maxRecDepth 20000 in
theorem gX2_finishDescriptor_X2_setWord : GoodIn wsX2_finishDescriptor (wsV RX2 62 RX2 yX2_setWord wsX2_setWord) := goodIn_app (goodIn_of _ (by decide +kernel)) ggX2_finishDescriptor_X2_setWord

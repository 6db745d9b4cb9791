theorem in_at {ws t : List Cond} (ps : List Nat) (hp : ws = ps.filterMap (fun i => t[i]?)) : ∀ w ∈ ws, w ∈ t := by
  intro w hw
  rw [hp] at hw
  obtain ⟨i, -, hi⟩ := List.mem_filterMap.mp hw
  exact List.mem_of_getElem? hi
noncomputable def blkL : List (List Cond) := [wsL_law0_r1, wsL_law0_r2, wsL_law0_r3, wsL_law0_r4, wsL_law0_r5, wsL_law0_r6, wsL_law0_r7, wsL_law0_r8, wsL_law0_r9, wsL_law0_r10, wsL_law0_r11, wsL_law0_r12, wsL_law0_r13, wsL_law0_r14, wsL_law0_r15, wsL_law0_r16, wsL_law0_r17, wsL_law0_r18, wsL_law0_r19, wsX20, wsX30, wsX10, wsX00, (vx_at0 RX2 61 "java/util/NoSuchElementException" ["java/lang/RuntimeException", "java/lang/Exception"]).filter goodWord]
theorem blkL_eq : blkL.flatten = wsL_law := by simp only [blkL, wsL_law, wsL_law0, List.flatten_cons, List.flatten_nil, List.append_assoc, List.append_nil, List.nil_append]
theorem goodIn_l (ws : List Cond) (ps : List (Nat × Nat)) (hp : ws = ps.filterMap (fun q => (blkL[q.1]?).bind (fun b => b[q.2]?))) (h : ws.all goodWord = true) : GoodIn wsL_law ws := by
  intro w hw
  have h1 := List.all_eq_true.mp h w hw
  rw [hp] at hw
  obtain ⟨q, -, hq⟩ := List.mem_filterMap.mp hw
  obtain ⟨b, hb, hw⟩ := Option.bind_eq_some_iff.mp hq
  have hm : w ∈ blkL.flatten := List.mem_flatten.mpr ⟨b, List.mem_of_getElem? hb, List.mem_of_getElem? hw⟩
  rw [blkL_eq] at hm
  exact ⟨hm, good_of_word h1⟩
theorem jall {a b c : List Cond} (ha : ∀ w ∈ a, w ∈ c) (hb : ∀ w ∈ b, w ∈ c) : ∀ w ∈ a ++ b, w ∈ c := fun w h => (List.mem_append.mp h).elim (ha w) (hb w)
set_option maxRecDepth 100000 in
theorem in_wsL_law0_r1 : ∀ w ∈ wsL_law0_r1, w ∈ lw_tbl := in_at [40, 41, 32, 445, 446, 35, 638, 42, 43, 44, 45, 46, 47, 68, 124, 48, 49, 33, 125, 126, 127, 128, 69, 129] (by first | exact rfl | decide +kernel)
set_option maxRecDepth 100000 in
theorem in_wsL_law0_r2 : ∀ w ∈ wsL_law0_r2, w ∈ lw_tbl := in_at [130, 131, 132, 133, 134, 71, 34, 50, 51, 52, 53, 57, 54, 55, 56, 73, 74, 75, 76, 77, 79, 81, 83, 85] (by first | exact rfl | decide +kernel)
set_option maxRecDepth 100000 in
theorem in_wsL_law0_r3 : ∀ w ∈ wsL_law0_r3, w ∈ lw_tbl := in_at [87, 89, 91, 93, 95, 97, 447, 448, 449, 450, 451, 453, 455, 457, 460, 466, 362, 363, 31, 364, 365, 366, 367, 368] (by first | exact rfl | decide +kernel)
set_option maxRecDepth 100000 in
theorem in_wsL_law0_r4 : ∀ w ∈ wsL_law0_r4, w ∈ lw_tbl := in_at [369, 370, 39, 166, 167, 168, 503, 504, 505, 506, 465, 507, 508, 509, 431, 432, 433, 434, 435, 436, 437, 510, 511, 512] (by first | exact rfl | decide +kernel)
set_option maxRecDepth 100000 in
theorem in_wsL_law0_r5 : ∀ w ∈ wsL_law0_r5, w ∈ lw_tbl := in_at [513, 158, 159, 160, 161, 162, 164, 0, 165, 514, 515, 516, 517, 169, 170, 171, 172, 518, 519, 520, 521, 452, 173, 174] (by first | exact rfl | decide +kernel)
set_option maxRecDepth 100000 in
theorem in_wsL_law0_r6 : ∀ w ∈ wsL_law0_r6, w ∈ lw_tbl := in_at [175, 176, 177, 179, 1, 180, 522, 523, 524, 525, 526, 527, 528, 181, 182, 183, 184, 185, 186, 187, 529, 530, 531, 532] (by first | exact rfl | decide +kernel)
set_option maxRecDepth 100000 in
theorem in_wsL_law0_r7 : ∀ w ∈ wsL_law0_r7, w ∈ lw_tbl := in_at [438, 439, 440, 441, 442, 443, 444, 192, 194, 2, 195, 196, 198, 3, 199, 200, 201, 203, 4, 204, 205, 206, 207, 208] (by first | exact rfl | decide +kernel)
set_option maxRecDepth 100000 in
theorem in_wsL_law0_r8 : ∀ w ∈ wsL_law0_r8, w ∈ lw_tbl := in_at [209, 211, 5, 212, 213, 215, 6, 216, 217, 218, 219, 220, 221, 222, 223, 224, 225, 226, 227, 228, 229, 230, 231, 232] (by first | exact rfl | decide +kernel)
set_option maxRecDepth 100000 in
theorem in_wsL_law0_r9 : ∀ w ∈ wsL_law0_r9, w ∈ lw_tbl := in_at [233, 234, 235, 236, 238, 7, 239, 240, 242, 8, 243, 244, 246, 9, 247, 248, 250, 10, 251, 252, 254, 11, 255, 256] (by first | exact rfl | decide +kernel)
set_option maxRecDepth 100000 in
theorem in_wsL_law0_r10 : ∀ w ∈ wsL_law0_r10, w ∈ lw_tbl := in_at [258, 12, 259, 260, 533, 534, 535, 536, 467, 537, 539, 21, 540, 464, 458, 459, 541, 543, 22, 544, 545, 462, 454, 463] (by first | exact rfl | decide +kernel)
set_option maxRecDepth 100000 in
theorem in_wsL_law0_r11 : ∀ w ∈ wsL_law0_r11, w ∈ lw_tbl := in_at [546, 548, 23, 549, 550, 552, 24, 553, 554, 555, 556, 557, 559, 25, 560, 456, 561, 563, 26, 564, 188, 189, 190, 191] (by first | exact rfl | decide +kernel)
set_option maxRecDepth 100000 in
theorem in_wsL_law0_r12 : ∀ w ∈ wsL_law0_r12, w ∈ lw_tbl := in_at [565, 566, 567, 568, 261, 262, 263, 264, 569, 570, 571, 572, 265, 266, 267, 268, 269, 270, 271, 272, 573, 574, 575, 576] (by first | exact rfl | decide +kernel)
set_option maxRecDepth 100000 in
theorem in_wsL_law0_r13 : ∀ w ∈ wsL_law0_r13, w ∈ lw_tbl := in_at [577, 273, 274, 275, 276, 578, 579, 580, 581, 277, 278, 279, 280, 281, 283, 13, 284, 285, 286, 287, 288, 289, 290, 291] (by first | exact rfl | decide +kernel)
set_option maxRecDepth 100000 in
theorem in_wsL_law0_r14 : ∀ w ∈ wsL_law0_r14, w ∈ lw_tbl := in_at [292, 293, 295, 14, 296, 297, 299, 15, 300, 301, 302, 303, 304, 582, 583, 584, 585, 586, 588, 27, 589, 305, 306, 307] (by first | exact rfl | decide +kernel)
set_option maxRecDepth 100000 in
theorem in_wsL_law0_r15 : ∀ w ∈ wsL_law0_r15, w ∈ lw_tbl := in_at [308, 590, 591, 592, 593, 309, 310, 311, 312, 594, 595, 596, 597, 313, 314, 315, 316, 598, 599, 600, 601, 461, 317, 318] (by first | exact rfl | decide +kernel)
set_option maxRecDepth 100000 in
theorem in_wsL_law0_r16 : ∀ w ∈ wsL_law0_r16, w ∈ lw_tbl := in_at [319, 320, 321, 323, 16, 324, 325, 326, 327, 328, 329, 331, 17, 332, 333, 334, 336, 18, 337, 338, 340, 19, 341, 602] (by first | exact rfl | decide +kernel)
set_option maxRecDepth 100000 in
theorem in_wsL_law0_r17 : ∀ w ∈ wsL_law0_r17, w ∈ lw_tbl := in_at [603, 604, 605, 606, 608, 28, 609, 610, 612, 29, 613, 614, 616, 30, 617, 342, 343, 344, 345, 618, 619, 620, 621, 346] (by first | exact rfl | decide +kernel)
set_option maxRecDepth 100000 in
theorem in_wsL_law0_r18 : ∀ w ∈ wsL_law0_r18, w ∈ lw_tbl := in_at [347, 348, 349, 622, 623, 624, 625, 350, 351, 352, 353, 626, 627, 628, 629, 354, 355, 356, 357, 630, 631, 632, 633, 358] (by first | exact rfl | decide +kernel)
set_option maxRecDepth 100000 in
theorem in_wsL_law0_r19 : ∀ w ∈ wsL_law0_r19, w ∈ lw_tbl := in_at [359, 360, 361, 634, 635, 636, 637] (by first | exact rfl | decide +kernel)
theorem in_wsX20 : ∀ w ∈ wsX20, w ∈ lw_tbl := by decide +kernel
theorem in_wsX30 : ∀ w ∈ wsX30, w ∈ lw_tbl := by decide +kernel
theorem in_wsX10 : ∀ w ∈ wsX10, w ∈ lw_tbl := by decide +kernel
theorem in_wsX00 : ∀ w ∈ wsX00, w ∈ lw_tbl := by decide +kernel
theorem wsL_law_in0 : ∀ w ∈ wsL_law0, w ∈ lw_tbl := (jall (jall (jall (jall (jall (jall in_wsL_law0_r1 (jall in_wsL_law0_r2 (jall in_wsL_law0_r3 (jall in_wsL_law0_r4 (jall in_wsL_law0_r5 (jall in_wsL_law0_r6 (jall in_wsL_law0_r7 (jall in_wsL_law0_r8 (jall in_wsL_law0_r9 (jall in_wsL_law0_r10 (jall in_wsL_law0_r11 (jall in_wsL_law0_r12 (jall in_wsL_law0_r13 (jall in_wsL_law0_r14 (jall in_wsL_law0_r15 (jall in_wsL_law0_r16 (jall in_wsL_law0_r17 (jall in_wsL_law0_r18 in_wsL_law0_r19)))))))))))))))))) in_wsX20) in_wsX30) in_wsX10) in_wsX00) (fun _ h => absurd h List.not_mem_nil))
theorem wsL_law_x0 : ∀ w ∈ (vx_at0 RX2 61 "java/util/NoSuchElementException" ["java/lang/RuntimeException", "java/lang/Exception"]).filter goodWord, w ∈ lw_tbl := by decide +kernel
theorem wsL_law_in : ∀ w ∈ wsL_law, w ∈ lw_tbl := fun w h => (List.mem_append.mp h).elim (fun h => wsL_law_in0 w h) (fun h => wsL_law_x0 w h)
theorem inlX0 : ∀ w ∈ wsX00, w ∈ wsL_law := fun _ h => List.mem_append_left _ (List.mem_append_left _ (List.mem_append_right _ h))
theorem inX0 : ∀ w ∈ wsX00, w ∈ lw_tbl := fun w h => wsL_law_in w (inlX0 w h)
theorem inlX1 : ∀ w ∈ wsX10, w ∈ wsL_law := fun _ h => List.mem_append_left _ (List.mem_append_left _ (List.mem_append_left _ (List.mem_append_right _ h)))
theorem inX1 : ∀ w ∈ wsX10, w ∈ lw_tbl := fun w h => wsL_law_in w (inlX1 w h)
theorem inlX2 : ∀ w ∈ wsX20, w ∈ wsL_law := fun _ h => List.mem_append_left _ (List.mem_append_left _ (List.mem_append_left _ (List.mem_append_left _ (List.mem_append_left _ (List.mem_append_right _ h)))))
theorem inX2 : ∀ w ∈ wsX20, w ∈ lw_tbl := fun w h => wsL_law_in w (inlX2 w h)
theorem inlX3 : ∀ w ∈ wsX30, w ∈ wsL_law := fun _ h => List.mem_append_left _ (List.mem_append_left _ (List.mem_append_left _ (List.mem_append_left _ (List.mem_append_right _ h))))
theorem inX3 : ∀ w ∈ wsX30, w ∈ lw_tbl := fun w h => wsL_law_in w (inlX3 w h)
set_option maxRecDepth 20000 in
theorem ggL_poke_X2_poke : GoodIn wsL_poke wsX2_poke := goodIn_ca (goodIn_r _ [6, 7, 8, 9, 10, 11, 5, 12, 13, 14, 15, 16, 17, 18, 19, 20, 21, 22, 23] (by first | exact rfl | decide +kernel) (by decide +kernel)) (goodIn_sub (fun _ h => List.mem_cons_of_mem _ (List.mem_append_right _ h)) (by decide +kernel))
set_option maxRecDepth 20000 in
theorem gL_poke_X2_poke : GoodIn wsL_poke (wsV RL 7 RX2 yX2_poke wsX2_poke) := goodIn_app (goodIn_of _ (by decide +kernel)) ggL_poke_X2_poke
theorem dL_poke_0 : decode cL_poke 0 = .ok (.aload_n 3, 1) := dz0 ok_45 (by decide +kernel)
theorem dL_poke_1 : decode cL_poke 1 = .ok (.iconst 0, 1) := dz0 ok_3 (by decide +kernel)
theorem dL_poke_2 : decode cL_poke 2 = .ok (.aload_n 0, 1) := dz0 ok_42 (by decide +kernel)
theorem dL_poke_3 : decode cL_poke 3 = .ok (.iload_n 1, 1) := dz0 ok_27 (by decide +kernel)
theorem dL_poke_4 : decode cL_poke 4 = .ok (.iload_n 2, 1) := dz0 ok_28 (by decide +kernel)
theorem dL_poke_5 : decode cL_poke 5 = .ok (.invokevirtual 7, 3) := dzu2 ok_182 (by decide +kernel)
theorem dL_poke_8 : decode cL_poke 8 = .ok (.i2l, 1) := dz0 ok_133 (by decide +kernel)
theorem dL_poke_9 : decode cL_poke 9 = .ok (.lastore, 1) := dz0 ok_80 (by decide +kernel)
theorem dL_poke_10 : decode cL_poke 10 = .ok (.goto 7, 3) := dzs2 ok_167 (by decide +kernel)
theorem dL_poke_13 : decode cL_poke 13 = .ok (.astore 4, 2) := dzu1 ok_58 (by decide +kernel)
theorem dL_poke_15 : decode cL_poke 15 = .ok (.iconst 1, 1) := dz0 ok_4 (by decide +kernel)
theorem dL_poke_16 : decode cL_poke 16 = .ok (.ireturn, 1) := dz0 ok_172 (by decide +kernel)
theorem dL_poke_17 : decode cL_poke 17 = .ok (.iconst 0, 1) := dz0 ok_3 (by decide +kernel)
theorem dL_poke_18 : decode cL_poke 18 = .ok (.ireturn, 1) := dz0 ok_172 (by decide +kernel)
set_option maxRecDepth 20000 in
theorem ggL_peek_X2_peek : GoodIn wsL_peek wsX2_peek := goodIn_ca (goodIn_r _ [6, 7, 8, 9, 10, 11, 5, 12, 13, 14, 15, 16, 17, 18, 19, 20, 21, 22, 23] (by first | exact rfl | decide +kernel) (by decide +kernel)) (goodIn_sub (fun _ h => List.mem_cons_of_mem _ (List.mem_append_right _ h)) (by decide +kernel))
set_option maxRecDepth 20000 in
theorem gL_peek_X2_peek : GoodIn wsL_peek (wsV RL 15 RX2 yX2_peek wsX2_peek) := goodIn_app (goodIn_of _ (by decide +kernel)) ggL_peek_X2_peek
theorem dL_peek_0 : decode cL_peek 0 = .ok (.aload_n 2, 1) := dz0 ok_44 (by decide +kernel)
theorem dL_peek_1 : decode cL_peek 1 = .ok (.iconst 0, 1) := dz0 ok_3 (by decide +kernel)
theorem dL_peek_2 : decode cL_peek 2 = .ok (.aload_n 0, 1) := dz0 ok_42 (by decide +kernel)
theorem dL_peek_3 : decode cL_peek 3 = .ok (.iload_n 1, 1) := dz0 ok_27 (by decide +kernel)
theorem dL_peek_4 : decode cL_peek 4 = .ok (.invokevirtual 15, 3) := dzu2 ok_182 (by decide +kernel)
theorem dL_peek_7 : decode cL_peek 7 = .ok (.i2l, 1) := dz0 ok_133 (by decide +kernel)
theorem dL_peek_8 : decode cL_peek 8 = .ok (.lastore, 1) := dz0 ok_80 (by decide +kernel)
theorem dL_peek_9 : decode cL_peek 9 = .ok (.goto 6, 3) := dzs2 ok_167 (by decide +kernel)
theorem dL_peek_12 : decode cL_peek 12 = .ok (.astore_n 3, 1) := dz0 ok_78 (by decide +kernel)
theorem dL_peek_13 : decode cL_peek 13 = .ok (.iconst 1, 1) := dz0 ok_4 (by decide +kernel)
theorem dL_peek_14 : decode cL_peek 14 = .ok (.ireturn, 1) := dz0 ok_172 (by decide +kernel)
theorem dL_peek_15 : decode cL_peek 15 = .ok (.iconst 0, 1) := dz0 ok_3 (by decide +kernel)
theorem dL_peek_16 : decode cL_peek 16 = .ok (.ireturn, 1) := dz0 ok_172 (by decide +kernel)
set_option maxRecDepth 20000 in
theorem ggL_read_X2_read : GoodIn wsL_read wsX2_read := goodIn_ca (goodIn_r _ [6, 7, 8, 9, 10, 11, 5, 12, 13, 14, 15, 16, 17, 18, 19, 20, 21, 22, 23, 24, 25, 26, 27, 28, 29, 30, 31, 32, 33, 34, 35, 36, 37, 38, 39, 40, 41, 42, 43, 44, 45, 46, 47, 48, 49, 50, 51, 52, 53, 54, 55, 56, 57, 58, 59, 60, 61, 62, 63, 64, 65, 66, 67, 68, 69, 70, 71, 72, 73, 74, 75, 76, 77, 78, 79, 80, 81, 82, 83, 84, 85, 86, 87, 88, 89, 90, 91, 92, 93, 94, 95, 96, 97, 98, 99, 100, 101, 102, 103, 104, 105, 106, 107, 108, 109, 110, 111, 112, 113, 114, 115, 116] (by first | exact rfl | decide +kernel) (by decide +kernel)) (goodIn_sub (fun _ h => List.mem_cons_of_mem _ (List.mem_append_right _ h)) (by decide +kernel))
set_option maxRecDepth 20000 in
theorem gL_read_X2_read : GoodIn wsL_read (wsV RL 19 RX2 yX2_read wsX2_read) := goodIn_app (goodIn_of _ (by decide +kernel)) ggL_read_X2_read
theorem dL_read_0 : decode cL_read 0 = .ok (.aload_n 3, 1) := dz0 ok_45 (by decide +kernel)
theorem dL_read_1 : decode cL_read 1 = .ok (.iconst 0, 1) := dz0 ok_3 (by decide +kernel)
theorem dL_read_2 : decode cL_read 2 = .ok (.aload_n 0, 1) := dz0 ok_42 (by decide +kernel)
theorem dL_read_3 : decode cL_read 3 = .ok (.iload_n 1, 1) := dz0 ok_27 (by decide +kernel)
theorem dL_read_4 : decode cL_read 4 = .ok (.iload_n 2, 1) := dz0 ok_28 (by decide +kernel)
theorem dL_read_5 : decode cL_read 5 = .ok (.invokevirtual 19, 3) := dzu2 ok_182 (by decide +kernel)
theorem dL_read_8 : decode cL_read 8 = .ok (.i2l, 1) := dz0 ok_133 (by decide +kernel)
theorem dL_read_9 : decode cL_read 9 = .ok (.lastore, 1) := dz0 ok_80 (by decide +kernel)
theorem dL_read_10 : decode cL_read 10 = .ok (.goto 7, 3) := dzs2 ok_167 (by decide +kernel)
theorem dL_read_13 : decode cL_read 13 = .ok (.astore 4, 2) := dzu1 ok_58 (by decide +kernel)
theorem dL_read_15 : decode cL_read 15 = .ok (.iconst 1, 1) := dz0 ok_4 (by decide +kernel)
theorem dL_read_16 : decode cL_read 16 = .ok (.ireturn, 1) := dz0 ok_172 (by decide +kernel)
theorem dL_read_17 : decode cL_read 17 = .ok (.iconst 0, 1) := dz0 ok_3 (by decide +kernel)
theorem dL_read_18 : decode cL_read 18 = .ok (.ireturn, 1) := dz0 ok_172 (by decide +kernel)
set_option maxRecDepth 20000 in
theorem ggL_law_X2_init : GoodIn wsL_law wsX2_init := goodIn_l _ [(0, 9), (0, 10), (0, 11), (0, 12), (0, 13), (0, 14), (0, 15), (0, 16), (0, 17), (0, 18), (0, 19), (0, 20), (0, 21), (0, 22), (0, 23), (1, 0), (1, 1), (1, 2), (1, 3), (1, 4), (1, 5), (1, 6), (1, 7), (1, 8), (1, 9), (1, 10), (1, 11), (1, 12), (1, 13), (1, 14), (1, 15), (1, 16), (1, 17), (1, 18), (1, 19), (1, 20), (1, 21), (1, 22), (1, 23), (2, 0), (2, 1), (2, 2), (2, 3), (2, 4), (2, 5), (19, 0), (19, 1), (19, 2), (19, 3), (19, 4), (19, 5), (19, 6), (19, 7), (19, 8), (19, 9), (19, 10), (21, 0), (21, 1), (21, 2), (21, 3), (22, 0), (22, 1), (22, 2), (22, 3), (22, 4), (22, 5), (22, 6), (22, 7), (22, 8), (22, 9), (22, 10), (22, 11)] (by first | exact rfl | decide +kernel) (by decide +kernel)
set_option maxRecDepth 20000 in
theorem gL_law_X2_init : GoodIn wsL_law (wsX2_init) := ggL_law_X2_init
set_option maxRecDepth 20000 in
theorem ggL_law_X3_init : GoodIn wsL_law wsX3_init := goodIn_l _ [(2, 8), (2, 9), (0, 11), (0, 12), (0, 13), (2, 10), (2, 11), (2, 12), (2, 13), (2, 14), (2, 15), (20, 0), (20, 1), (20, 2), (20, 3), (20, 4), (20, 5), (20, 6), (20, 7), (20, 8), (20, 9), (20, 10), (20, 11), (20, 12), (20, 13), (20, 14), (20, 15), (20, 16)] (by first | exact rfl | decide +kernel) (by decide +kernel)
set_option maxRecDepth 20000 in
theorem gL_law_X3_init : GoodIn wsL_law (wsX3_init) := ggL_law_X3_init
set_option maxRecDepth 20000 in
theorem ggL_law_L_poke : GoodIn wsL_law wsL_poke := goodIn_ca (goodIn_l _ [(2, 19), (2, 20), (2, 21), (2, 22), (2, 23), (0, 2), (3, 0), (3, 1), (3, 2), (0, 14), (3, 3), (3, 4), (3, 5), (19, 0), (19, 1), (19, 2), (19, 3), (19, 4), (19, 5), (19, 6), (19, 7), (19, 8), (19, 9), (19, 10)] (by first | exact rfl | decide +kernel) (by decide +kernel)) (goodIn_sub (fun _ h => List.mem_append_right _ h) (by decide +kernel))
set_option maxRecDepth 20000 in
theorem gL_law_L_poke : GoodIn wsL_law (va_wsS RL 26 yL_poke wsL_poke) := goodIn_app (goodIn_of _ (by decide +kernel)) ggL_law_L_poke
set_option maxRecDepth 20000 in
theorem ggL_law_X3_poke : GoodIn wsL_law wsX3_poke := goodIn_l _ [(3, 9), (3, 10), (2, 10), (3, 11), (3, 12), (0, 5), (3, 13), (20, 0), (20, 1), (20, 2), (20, 3), (20, 4), (20, 5), (20, 6), (20, 7), (20, 8), (20, 9), (20, 10), (20, 11), (20, 12), (20, 13), (20, 14), (20, 15), (20, 16)] (by first | exact rfl | decide +kernel) (by decide +kernel)
set_option maxRecDepth 20000 in
theorem gL_law_X3_poke : GoodIn wsL_law (wsV RL 31 RX3 yX3_poke wsX3_poke) := goodIn_app (goodIn_of _ (by decide +kernel)) ggL_law_X3_poke
set_option maxRecDepth 20000 in
theorem ggL_law_L_peek : GoodIn wsL_law wsL_peek := goodIn_ca (goodIn_l _ [(3, 16), (2, 20), (3, 17), (3, 18), (3, 19), (0, 2), (3, 20), (3, 1), (3, 2), (0, 14), (3, 3), (3, 4), (3, 5), (19, 0), (19, 1), (19, 2), (19, 3), (19, 4), (19, 5), (19, 6), (19, 7), (19, 8), (19, 9), (19, 10)] (by first | exact rfl | decide +kernel) (by decide +kernel)) (goodIn_sub (fun _ h => List.mem_append_right _ h) (by decide +kernel))
set_option maxRecDepth 20000 in
theorem gL_law_L_peek : GoodIn wsL_law (va_wsS RL 32 yL_peek wsL_peek) := goodIn_app (goodIn_of _ (by decide +kernel)) ggL_law_L_peek
set_option maxRecDepth 20000 in
theorem ggL_law_X3_peek : GoodIn wsL_law wsX3_peek := goodIn_l _ [(4, 0), (3, 10), (2, 10), (3, 11), (3, 12), (0, 5), (3, 13), (20, 0), (20, 1), (20, 2), (20, 3), (20, 4), (20, 5), (20, 6), (20, 7), (20, 8), (20, 9), (20, 10), (20, 11), (20, 12), (20, 13), (20, 14), (20, 15), (20, 16)] (by first | exact rfl | decide +kernel) (by decide +kernel)
set_option maxRecDepth 20000 in
theorem gL_law_X3_peek : GoodIn wsL_law (wsV RL 35 RX3 yX3_peek wsX3_peek) := goodIn_app (goodIn_of _ (by decide +kernel)) ggL_law_X3_peek
set_option maxRecDepth 20000 in
theorem ggL_law_X2_fill : GoodIn wsL_law wsX2_fill := goodIn_l _ [(4, 4), (4, 5), (4, 6), (4, 7), (0, 2), (4, 8), (0, 14), (3, 3), (3, 4), (3, 5), (19, 0), (19, 1), (19, 2), (19, 3), (19, 4), (19, 5), (19, 6), (19, 7), (19, 8), (19, 9), (19, 10)] (by first | exact rfl | decide +kernel) (by decide +kernel)
set_option maxRecDepth 20000 in
theorem gL_law_X2_fill : GoodIn wsL_law (wsV RL 36 RX2 yX2_fill wsX2_fill) := goodIn_app (goodIn_of _ (by decide +kernel)) ggL_law_X2_fill
set_option maxRecDepth 20000 in
theorem ggL_law_X3_fill : GoodIn wsL_law wsX3_fill := goodIn_l _ [(4, 12), (3, 10), (2, 10), (20, 0), (20, 1), (20, 2), (20, 3), (20, 4), (20, 5), (20, 6), (20, 7), (20, 8), (20, 9), (20, 10), (20, 11), (20, 12), (20, 13), (20, 14), (20, 15), (20, 16)] (by first | exact rfl | decide +kernel) (by decide +kernel)
set_option maxRecDepth 20000 in
theorem gL_law_X3_fill : GoodIn wsL_law (wsV RL 40 RX3 yX3_fill wsX3_fill) := goodIn_app (goodIn_of _ (by decide +kernel)) ggL_law_X3_fill
set_option maxRecDepth 20000 in
theorem ggL_law_X2_table : GoodIn wsL_law wsX2_table := goodIn_l _ [(4, 16), (1, 0), (19, 0), (19, 1), (19, 2), (19, 3), (19, 4), (19, 5), (19, 6), (19, 7), (19, 8), (19, 9), (19, 10)] (by first | exact rfl | decide +kernel) (by decide +kernel)
set_option maxRecDepth 20000 in
theorem gL_law_X2_table : GoodIn wsL_law (wsV RL 41 RX2 yX2_table wsX2_table) := goodIn_app (goodIn_of _ (by decide +kernel)) ggL_law_X2_table
set_option maxRecDepth 20000 in
theorem ggL_law_X3_table : GoodIn wsL_law wsX3_table := goodIn_l _ [(4, 20), (3, 10), (4, 21), (20, 0), (20, 1), (20, 2), (20, 3), (20, 4), (20, 5), (20, 6), (20, 7), (20, 8), (20, 9), (20, 10), (20, 11), (20, 12), (20, 13), (20, 14), (20, 15), (20, 16)] (by first | exact rfl | decide +kernel) (by decide +kernel)
set_option maxRecDepth 20000 in
theorem gL_law_X3_table : GoodIn wsL_law (wsV RL 45 RX3 yX3_table wsX3_table) := goodIn_app (goodIn_of _ (by decide +kernel)) ggL_law_X3_table
set_option maxRecDepth 20000 in
theorem ggL_law_X2_context : GoodIn wsL_law wsX2_context := goodIn_l _ [(5, 1), (3, 3), (3, 4), (0, 2), (3, 5), (5, 2), (5, 3), (5, 4), (5, 5), (1, 0), (4, 5), (4, 6), (4, 7), (4, 8), (0, 14), (19, 0), (19, 1), (19, 2), (19, 3), (19, 4), (19, 5), (19, 6), (19, 7), (19, 8), (19, 9), (19, 10)] (by first | exact rfl | decide +kernel) (by decide +kernel)
set_option maxRecDepth 20000 in
theorem gL_law_X2_context : GoodIn wsL_law (wsV RL 46 RX2 yX2_context wsX2_context) := goodIn_app (goodIn_of _ (by decide +kernel)) ggL_law_X2_context
set_option maxRecDepth 20000 in
theorem ggL_law_X3_context : GoodIn wsL_law wsX3_context := goodIn_l _ [(5, 9), (3, 10), (2, 10), (4, 21), (5, 10), (5, 11), (0, 5), (5, 12), (20, 0), (20, 1), (20, 2), (20, 3), (20, 4), (20, 5), (20, 6), (20, 7), (20, 8), (20, 9), (20, 10), (20, 11), (20, 12), (20, 13), (20, 14), (20, 15), (20, 16)] (by first | exact rfl | decide +kernel) (by decide +kernel)
set_option maxRecDepth 20000 in
theorem gL_law_X3_context : GoodIn wsL_law (wsV RL 50 RX3 yX3_context wsX3_context) := goodIn_app (goodIn_of _ (by decide +kernel)) ggL_law_X3_context
set_option maxRecDepth 20000 in
theorem ggL_law_X2_enter : GoodIn wsL_law wsX2_enter := goodIn_l _ [(5, 16), (3, 3), (3, 4), (0, 2), (3, 5), (5, 17), (5, 18), (5, 19), (4, 5), (4, 6), (4, 7), (4, 8), (0, 14), (19, 0), (19, 1), (19, 2), (19, 3), (19, 4), (19, 5), (19, 6), (19, 7), (19, 8), (19, 9), (19, 10)] (by first | exact rfl | decide +kernel) (by decide +kernel)
set_option maxRecDepth 20000 in
theorem gL_law_X2_enter : GoodIn wsL_law (wsV RL 51 RX2 yX2_enter wsX2_enter) := goodIn_app (goodIn_of _ (by decide +kernel)) ggL_law_X2_enter
set_option maxRecDepth 20000 in
theorem ggL_law_X3_enter : GoodIn wsL_law wsX3_enter := goodIn_l _ [(5, 23), (3, 10), (2, 10), (20, 0), (20, 1), (20, 2), (20, 3), (20, 4), (20, 5), (20, 6), (20, 7), (20, 8), (20, 9), (20, 10), (20, 11), (20, 12), (20, 13), (20, 14), (20, 15), (20, 16)] (by first | exact rfl | decide +kernel) (by decide +kernel)
set_option maxRecDepth 20000 in
theorem gL_law_X3_enter : GoodIn wsL_law (wsV RL 55 RX3 yX3_enter wsX3_enter) := goodIn_app (goodIn_of _ (by decide +kernel)) ggL_law_X3_enter
set_option maxRecDepth 20000 in
theorem ggL_law_L_read : GoodIn wsL_law wsL_read := goodIn_ca (goodIn_l _ [(6, 2), (2, 20), (6, 3), (6, 4), (6, 5), (0, 2), (6, 6), (3, 1), (3, 2), (1, 1), (3, 3), (3, 4), (3, 5), (6, 7), (6, 8), (6, 9), (6, 10), (6, 11), (6, 12), (6, 13), (6, 14), (6, 15), (0, 18), (0, 19), (6, 16), (6, 17), (6, 18), (6, 19), (1, 2), (6, 20), (6, 21), (6, 22), (0, 17), (6, 23), (1, 14), (1, 13), (7, 0), (7, 1), (7, 2), (7, 3), (1, 11), (5, 2), (5, 3), (5, 4), (5, 5), (1, 0), (7, 4), (7, 5), (7, 6), (7, 7), (0, 14), (7, 8), (7, 9), (7, 10), (7, 11), (7, 12), (7, 13), (7, 14), (7, 15), (1, 12), (7, 16), (7, 17), (7, 18), (7, 19), (7, 20), (7, 21), (7, 22), (7, 23), (8, 0), (8, 1), (8, 2), (8, 3), (8, 4), (8, 5), (8, 6), (1, 3), (8, 7), (8, 8), (8, 9), (8, 10), (8, 11), (8, 12), (8, 13), (8, 14), (5, 17), (5, 18), (5, 19), (8, 15), (8, 16), (8, 17), (8, 18), (8, 19), (8, 20), (8, 21), (8, 22), (8, 23), (9, 0), (9, 1), (9, 2), (0, 20), (1, 4), (9, 3), (19, 0), (19, 1), (19, 2), (19, 3), (19, 4), (19, 5), (19, 6), (19, 7), (19, 8), (19, 9), (19, 10), (21, 0), (21, 1), (21, 2), (21, 3)] (by first | exact rfl | decide +kernel) (by decide +kernel)) (goodIn_sub (fun _ h => List.mem_append_right _ h) (by decide +kernel))
set_option maxRecDepth 20000 in
theorem gL_law_L_read : GoodIn wsL_law (va_wsS RL 56 yL_read wsL_read) := goodIn_app (goodIn_of _ (by decide +kernel)) ggL_law_L_read
set_option maxRecDepth 20000 in
theorem ggL_law_X3_read : GoodIn wsL_law wsX3_read := goodIn_l _ [(9, 7), (3, 10), (2, 10), (9, 8), (5, 10), (5, 11), (0, 5), (5, 12), (9, 9), (9, 10), (9, 11), (9, 12), (9, 13), (9, 14), (9, 15), (2, 13), (9, 16), (9, 17), (9, 18), (9, 19), (9, 20), (4, 21), (9, 21), (9, 22), (2, 11), (9, 23), (2, 12), (10, 0), (10, 1), (10, 2), (10, 3), (10, 4), (10, 5), (10, 6), (10, 7), (10, 8), (10, 9), (10, 10), (10, 11), (10, 12), (10, 13), (10, 14), (10, 15), (10, 16), (10, 17), (10, 18), (10, 19), (20, 0), (20, 1), (20, 2), (20, 3), (20, 4), (20, 5), (20, 6), (20, 7), (20, 8), (20, 9), (20, 10), (20, 11), (20, 12), (20, 13), (20, 14), (20, 15), (20, 16)] (by first | exact rfl | decide +kernel) (by decide +kernel)
set_option maxRecDepth 20000 in
theorem gL_law_X3_read : GoodIn wsL_law (wsV RL 58 RX3 yX3_read wsX3_read) := goodIn_app (goodIn_of _ (by decide +kernel)) ggL_law_X3_read
set_option maxRecDepth 20000 in
theorem ggL_law_X2_write : GoodIn wsL_law wsX2_write := goodIn_l _ [(10, 23), (1, 1), (3, 3), (3, 4), (0, 2), (3, 5), (6, 7), (6, 8), (6, 9), (6, 10), (6, 11), (6, 12), (6, 13), (6, 14), (6, 15), (0, 18), (0, 19), (6, 16), (6, 17), (6, 18), (6, 19), (1, 2), (6, 20), (6, 21), (6, 22), (0, 17), (6, 23), (1, 14), (1, 13), (7, 0), (7, 1), (7, 2), (7, 3), (1, 11), (5, 2), (5, 3), (5, 4), (5, 5), (1, 0), (7, 4), (7, 5), (7, 6), (7, 7), (0, 14), (7, 8), (7, 9), (7, 10), (7, 11), (7, 12), (7, 13), (7, 14), (7, 15), (1, 12), (7, 16), (7, 17), (7, 18), (7, 19), (7, 20), (7, 21), (7, 22), (7, 23), (8, 0), (8, 1), (8, 2), (8, 3), (8, 4), (8, 5), (8, 6), (1, 3), (8, 7), (8, 8), (8, 9), (8, 10), (8, 11), (8, 12), (8, 13), (8, 14), (5, 17), (5, 18), (5, 19), (8, 15), (8, 16), (8, 17), (8, 18), (8, 19), (8, 20), (8, 21), (8, 22), (8, 23), (9, 0), (9, 1), (9, 2), (0, 20), (1, 4), (9, 3), (4, 5), (4, 6), (4, 7), (4, 8), (19, 0), (19, 1), (19, 2), (19, 3), (19, 4), (19, 5), (19, 6), (19, 7), (19, 8), (19, 9), (19, 10), (21, 0), (21, 1), (21, 2), (21, 3)] (by first | exact rfl | decide +kernel) (by decide +kernel)
set_option maxRecDepth 20000 in
theorem gL_law_X2_write : GoodIn wsL_law (wsV RL 59 RX2 yX2_write wsX2_write) := goodIn_app (goodIn_of _ (by decide +kernel)) ggL_law_X2_write
set_option maxRecDepth 20000 in
theorem ggL_law_X3_write : GoodIn wsL_law wsX3_write := goodIn_l _ [(11, 3), (3, 10), (9, 13), (2, 10), (9, 8), (5, 10), (5, 11), (0, 5), (5, 12), (9, 9), (9, 10), (9, 11), (9, 12), (9, 14), (9, 15), (2, 13), (9, 16), (9, 17), (9, 18), (9, 19), (9, 20), (4, 21), (9, 21), (9, 22), (2, 11), (9, 23), (2, 12), (10, 0), (10, 1), (10, 2), (10, 3), (10, 4), (10, 5), (10, 6), (10, 7), (10, 8), (10, 9), (10, 10), (10, 11), (10, 12), (10, 13), (10, 14), (10, 15), (10, 16), (10, 17), (10, 18), (10, 19), (20, 0), (20, 1), (20, 2), (20, 3), (20, 4), (20, 5), (20, 6), (20, 7), (20, 8), (20, 9), (20, 10), (20, 11), (20, 12), (20, 13), (20, 14), (20, 15), (20, 16)] (by first | exact rfl | decide +kernel) (by decide +kernel)
set_option maxRecDepth 20000 in
theorem gL_law_X3_write : GoodIn wsL_law (wsV RL 63 RX3 yX3_write wsX3_write) := goodIn_app (goodIn_of _ (by decide +kernel)) ggL_law_X3_write
set_option maxRecDepth 20000 in
theorem ggL_law_X2_fault : GoodIn wsL_law wsX2_fault := goodIn_l _ [(11, 7), (1, 1), (19, 0), (19, 1), (19, 2), (19, 3), (19, 4), (19, 5), (19, 6), (19, 7), (19, 8), (19, 9), (19, 10)] (by first | exact rfl | decide +kernel) (by decide +kernel)
set_option maxRecDepth 20000 in
theorem gL_law_X2_fault : GoodIn wsL_law (wsV RL 64 RX2 yX2_fault wsX2_fault) := goodIn_app (goodIn_of _ (by decide +kernel)) ggL_law_X2_fault
set_option maxRecDepth 20000 in
theorem ggL_law_X3_fault : GoodIn wsL_law wsX3_fault := goodIn_l _ [(11, 11), (3, 10), (9, 13), (20, 0), (20, 1), (20, 2), (20, 3), (20, 4), (20, 5), (20, 6), (20, 7), (20, 8), (20, 9), (20, 10), (20, 11), (20, 12), (20, 13), (20, 14), (20, 15), (20, 16)] (by first | exact rfl | decide +kernel) (by decide +kernel)
set_option maxRecDepth 20000 in
theorem gL_law_X3_fault : GoodIn wsL_law (wsV RL 68 RX3 yX3_fault wsX3_fault) := goodIn_app (goodIn_of _ (by decide +kernel)) ggL_law_X3_fault
set_option maxRecDepth 20000 in
theorem ggL_law_X2_ring : GoodIn wsL_law wsX2_ring := goodIn_l _ [(11, 15), (6, 15), (0, 23), (3, 3), (3, 4), (0, 2), (3, 5), (11, 16), (11, 17), (11, 18), (1, 6), (11, 19), (1, 18), (1, 19), (1, 20), (1, 21), (1, 22), (2, 0), (19, 0), (19, 1), (19, 2), (19, 3), (19, 4), (19, 5), (19, 6), (19, 7), (19, 8), (19, 9), (19, 10), (22, 0), (22, 1), (22, 2), (22, 3), (22, 4), (22, 5), (22, 6), (22, 7), (22, 8), (22, 9), (22, 10), (22, 11)] (by first | exact rfl | decide +kernel) (by decide +kernel)
set_option maxRecDepth 20000 in
theorem gL_law_X2_ring : GoodIn wsL_law (wsV RL 69 RX2 yX2_ring wsX2_ring) := goodIn_app (goodIn_of _ (by decide +kernel)) ggL_law_X2_ring
set_option maxRecDepth 20000 in
theorem ggL_law_X3_ring : GoodIn wsL_law wsX3_ring := goodIn_l _ [(11, 23), (3, 10), (12, 0), (2, 15), (5, 10), (5, 11), (0, 5), (5, 12), (20, 0), (20, 1), (20, 2), (20, 3), (20, 4), (20, 5), (20, 6), (20, 7), (20, 8), (20, 9), (20, 10), (20, 11), (20, 12), (20, 13), (20, 14), (20, 15), (20, 16)] (by first | exact rfl | decide +kernel) (by decide +kernel)
set_option maxRecDepth 20000 in
theorem gL_law_X3_ring : GoodIn wsL_law (wsV RL 72 RX3 yX3_ring wsX3_ring) := goodIn_app (goodIn_of _ (by decide +kernel)) ggL_law_X3_ring
set_option maxRecDepth 20000 in
theorem ggL_law_X2_tail : GoodIn wsL_law wsX2_tail := goodIn_l _ [(12, 4), (0, 23), (3, 3), (3, 4), (0, 2), (3, 5), (19, 0), (19, 1), (19, 2), (19, 3), (19, 4), (19, 5), (19, 6), (19, 7), (19, 8), (19, 9), (19, 10), (22, 0), (22, 1), (22, 2), (22, 3), (22, 4), (22, 5), (22, 6), (22, 7), (22, 8), (22, 9), (22, 10), (22, 11)] (by first | exact rfl | decide +kernel) (by decide +kernel)
set_option maxRecDepth 20000 in
theorem gL_law_X2_tail : GoodIn wsL_law (wsV RL 73 RX2 yX2_tail wsX2_tail) := goodIn_app (goodIn_of _ (by decide +kernel)) ggL_law_X2_tail
set_option maxRecDepth 20000 in
theorem ggL_law_X3_tail : GoodIn wsL_law wsX3_tail := goodIn_l _ [(12, 8), (3, 10), (2, 15), (5, 10), (5, 11), (0, 5), (5, 12), (20, 0), (20, 1), (20, 2), (20, 3), (20, 4), (20, 5), (20, 6), (20, 7), (20, 8), (20, 9), (20, 10), (20, 11), (20, 12), (20, 13), (20, 14), (20, 15), (20, 16)] (by first | exact rfl | decide +kernel) (by decide +kernel)
set_option maxRecDepth 20000 in
theorem gL_law_X3_tail : GoodIn wsL_law (wsV RL 76 RX3 yX3_tail wsX3_tail) := goodIn_app (goodIn_of _ (by decide +kernel)) ggL_law_X3_tail
set_option maxRecDepth 20000 in
theorem ggL_law_X2_step : GoodIn wsL_law wsX2_step := goodIn_l _ [(12, 12), (0, 23), (3, 3), (3, 4), (0, 2), (3, 5), (12, 13), (12, 14), (12, 15), (12, 16), (12, 17), (12, 18), (12, 19), (1, 6), (12, 20), (1, 18), (1, 20), (6, 7), (6, 8), (6, 9), (6, 10), (1, 1), (6, 11), (6, 12), (6, 13), (6, 14), (6, 15), (0, 18), (0, 19), (6, 16), (6, 17), (6, 18), (6, 19), (1, 2), (6, 20), (6, 21), (6, 22), (0, 17), (6, 23), (1, 14), (1, 13), (7, 0), (7, 1), (7, 2), (7, 3), (1, 11), (5, 2), (5, 3), (5, 4), (5, 5), (1, 0), (7, 4), (7, 5), (7, 6), (7, 7), (0, 14), (7, 8), (7, 9), (7, 10), (7, 11), (7, 12), (7, 13), (7, 14), (7, 15), (1, 12), (7, 16), (7, 17), (7, 18), (7, 19), (7, 20), (7, 21), (7, 22), (7, 23), (8, 0), (8, 1), (8, 2), (8, 3), (8, 4), (8, 5), (8, 6), (1, 3), (8, 7), (8, 8), (8, 9), (8, 10), (8, 11), (8, 12), (8, 13), (8, 14), (5, 17), (5, 18), (5, 19), (8, 15), (8, 16), (8, 17), (8, 18), (8, 19), (8, 20), (8, 21), (8, 22), (8, 23), (9, 0), (9, 1), (9, 2), (0, 20), (1, 4), (9, 3), (12, 21), (12, 22), (12, 23), (13, 0), (2, 1), (2, 2), (2, 3), (2, 4), (13, 1), (13, 2), (13, 3), (13, 4), (4, 5), (4, 6), (4, 7), (4, 8), (13, 5), (13, 6), (13, 7), (13, 8), (13, 9), (13, 10), (13, 11), (13, 12), (1, 19), (2, 0), (1, 23), (1, 21), (1, 22), (19, 0), (19, 1), (19, 2), (19, 3), (19, 4), (19, 5), (19, 6), (19, 7), (19, 8), (19, 9), (19, 10), (22, 0), (22, 1), (22, 2), (22, 3), (22, 4), (22, 5), (22, 6), (22, 7), (22, 8), (22, 9), (22, 10), (22, 11), (21, 0), (21, 1), (21, 2), (21, 3)] (by first | exact rfl | decide +kernel) (by decide +kernel)
set_option maxRecDepth 20000 in
theorem gL_law_X2_step : GoodIn wsL_law (wsV RL 77 RX2 yX2_step wsX2_step) := goodIn_app (goodIn_of _ (by decide +kernel)) ggL_law_X2_step
set_option maxRecDepth 20000 in
theorem ggL_law_X3_step : GoodIn wsL_law wsX3_step := goodIn_l _ [(13, 16), (3, 10), (2, 15), (5, 10), (5, 11), (0, 5), (5, 12), (13, 17), (13, 18), (13, 19), (13, 20), (2, 10), (9, 8), (9, 9), (9, 10), (9, 11), (9, 12), (9, 13), (9, 14), (9, 15), (2, 13), (9, 16), (9, 17), (9, 18), (9, 19), (9, 20), (4, 21), (9, 21), (9, 22), (2, 11), (9, 23), (2, 12), (10, 0), (10, 1), (10, 2), (10, 3), (10, 4), (10, 5), (10, 6), (10, 7), (10, 8), (10, 9), (10, 10), (10, 11), (10, 12), (10, 13), (10, 14), (10, 15), (10, 16), (10, 17), (10, 18), (10, 19), (20, 0), (20, 1), (20, 2), (20, 3), (20, 4), (20, 5), (20, 6), (20, 7), (20, 8), (20, 9), (20, 10), (20, 11), (20, 12), (20, 13), (20, 14), (20, 15), (20, 16)] (by first | exact rfl | decide +kernel) (by decide +kernel)
set_option maxRecDepth 20000 in
theorem gL_law_X3_step : GoodIn wsL_law (wsV RL 80 RX3 yX3_step wsX3_step) := goodIn_app (goodIn_of _ (by decide +kernel)) ggL_law_X3_step
set_option maxRecDepth 20000 in
theorem ggL_law_X2_resume : GoodIn wsL_law wsX2_resume := goodIn_l _ [(14, 0), (0, 23), (3, 3), (3, 4), (0, 2), (3, 5), (19, 0), (19, 1), (19, 2), (19, 3), (19, 4), (19, 5), (19, 6), (19, 7), (19, 8), (19, 9), (19, 10), (22, 0), (22, 1), (22, 2), (22, 3), (22, 4), (22, 5), (22, 6), (22, 7), (22, 8), (22, 9), (22, 10), (22, 11)] (by first | exact rfl | decide +kernel) (by decide +kernel)
set_option maxRecDepth 20000 in
theorem gL_law_X2_resume : GoodIn wsL_law (wsV RL 81 RX2 yX2_resume wsX2_resume) := goodIn_app (goodIn_of _ (by decide +kernel)) ggL_law_X2_resume
set_option maxRecDepth 20000 in
theorem ggL_law_X3_resume : GoodIn wsL_law wsX3_resume := goodIn_l _ [(14, 4), (3, 10), (2, 15), (5, 10), (5, 11), (0, 5), (5, 12), (20, 0), (20, 1), (20, 2), (20, 3), (20, 4), (20, 5), (20, 6), (20, 7), (20, 8), (20, 9), (20, 10), (20, 11), (20, 12), (20, 13), (20, 14), (20, 15), (20, 16)] (by first | exact rfl | decide +kernel) (by decide +kernel)
set_option maxRecDepth 20000 in
theorem gL_law_X3_resume : GoodIn wsL_law (wsV RL 84 RX3 yX3_resume wsX3_resume) := goodIn_app (goodIn_of _ (by decide +kernel)) ggL_law_X3_resume
set_option maxRecDepth 20000 in
theorem ggL_law_X2_engine : GoodIn wsL_law wsX2_engine := goodIn_l _ [(14, 8), (0, 23), (3, 3), (3, 4), (0, 2), (3, 5), (19, 0), (19, 1), (19, 2), (19, 3), (19, 4), (19, 5), (19, 6), (19, 7), (19, 8), (19, 9), (19, 10), (22, 0), (22, 1), (22, 2), (22, 3), (22, 4), (22, 5), (22, 6), (22, 7), (22, 8), (22, 9), (22, 10), (22, 11)] (by first | exact rfl | decide +kernel) (by decide +kernel)
set_option maxRecDepth 20000 in
theorem gL_law_X2_engine : GoodIn wsL_law (wsV RL 85 RX2 yX2_engine wsX2_engine) := goodIn_app (goodIn_of _ (by decide +kernel)) ggL_law_X2_engine
set_option maxRecDepth 20000 in
theorem ggL_law_X3_engine : GoodIn wsL_law wsX3_engine := goodIn_l _ [(14, 12), (3, 10), (2, 15), (5, 10), (5, 11), (0, 5), (5, 12), (20, 0), (20, 1), (20, 2), (20, 3), (20, 4), (20, 5), (20, 6), (20, 7), (20, 8), (20, 9), (20, 10), (20, 11), (20, 12), (20, 13), (20, 14), (20, 15), (20, 16)] (by first | exact rfl | decide +kernel) (by decide +kernel)
set_option maxRecDepth 20000 in
theorem gL_law_X3_engine : GoodIn wsL_law (wsV RL 88 RX3 yX3_engine wsX3_engine) := goodIn_app (goodIn_of _ (by decide +kernel)) ggL_law_X3_engine
set_option maxRecDepth 20000 in
theorem ggL_law_X2_command : GoodIn wsL_law wsX2_command := goodIn_l _ [(14, 16), (0, 21), (9, 3), (7, 13), (7, 14), (0, 17), (7, 15), (1, 11), (1, 12), (7, 8), (7, 9), (7, 10), (7, 11), (7, 12), (7, 16), (7, 17), (7, 18), (7, 19), (1, 13), (1, 14), (7, 20), (7, 21), (7, 22), (7, 23), (7, 0), (7, 1), (7, 2), (7, 3), (19, 0), (19, 1), (19, 2), (19, 3), (19, 4), (19, 5), (19, 6), (19, 7), (19, 8), (19, 9), (19, 10), (21, 0), (21, 1), (21, 2), (21, 3)] (by first | exact rfl | decide +kernel) (by decide +kernel)
set_option maxRecDepth 20000 in
theorem gL_law_X2_command : GoodIn wsL_law (wsV RL 89 RX2 yX2_command wsX2_command) := goodIn_app (goodIn_of _ (by decide +kernel)) ggL_law_X2_command
set_option maxRecDepth 20000 in
theorem ggL_law_X3_command : GoodIn wsL_law wsX3_command := goodIn_l _ [(14, 20), (3, 10), (14, 21), (2, 14), (20, 0), (20, 1), (20, 2), (20, 3), (20, 4), (20, 5), (20, 6), (20, 7), (20, 8), (20, 9), (20, 10), (20, 11), (20, 12), (20, 13), (20, 14), (20, 15), (20, 16)] (by first | exact rfl | decide +kernel) (by decide +kernel)
set_option maxRecDepth 20000 in
theorem gL_law_X3_command : GoodIn wsL_law (wsV RL 93 RX3 yX3_command wsX3_command) := goodIn_app (goodIn_of _ (by decide +kernel)) ggL_law_X3_command
set_option maxRecDepth 20000 in
theorem ggL_law_X2_obey : GoodIn wsL_law wsX2_obey := goodIn_l _ [(15, 1), (0, 21), (6, 20), (6, 21), (6, 22), (0, 17), (6, 23), (1, 14), (1, 13), (7, 0), (7, 1), (7, 2), (7, 3), (1, 11), (15, 2), (15, 3), (15, 4), (0, 2), (15, 5), (0, 19), (0, 18), (15, 6), (15, 7), (15, 8), (15, 9), (15, 10), (15, 11), (15, 12), (15, 13), (15, 14), (7, 17), (7, 18), (7, 19), (15, 15), (15, 16), (15, 17), (15, 18), (8, 7), (8, 8), (8, 9), (8, 10), (15, 19), (15, 20), (15, 21), (15, 22), (4, 5), (4, 6), (4, 7), (4, 8), (0, 14), (3, 3), (3, 4), (3, 5), (19, 0), (19, 1), (19, 2), (19, 3), (19, 4), (19, 5), (19, 6), (19, 7), (19, 8), (19, 9), (19, 10), (21, 0), (21, 1), (21, 2), (21, 3)] (by first | exact rfl | decide +kernel) (by decide +kernel)
set_option maxRecDepth 20000 in
theorem gL_law_X2_obey : GoodIn wsL_law (wsV RL 94 RX2 yX2_obey wsX2_obey) := goodIn_app (goodIn_of _ (by decide +kernel)) ggL_law_X2_obey
set_option maxRecDepth 20000 in
theorem ggL_law_X3_obey : GoodIn wsL_law wsX3_obey := goodIn_l _ [(16, 2), (3, 10), (14, 21), (2, 14), (10, 8), (10, 9), (0, 5), (10, 10), (16, 3), (16, 4), (16, 5), (16, 6), (2, 10), (16, 7), (16, 8), (16, 9), (16, 10), (10, 15), (2, 12), (16, 11), (16, 12), (16, 13), (16, 14), (9, 22), (2, 11), (3, 11), (3, 12), (3, 13), (20, 0), (20, 1), (20, 2), (20, 3), (20, 4), (20, 5), (20, 6), (20, 7), (20, 8), (20, 9), (20, 10), (20, 11), (20, 12), (20, 13), (20, 14), (20, 15), (20, 16)] (by first | exact rfl | decide +kernel) (by decide +kernel)
set_option maxRecDepth 20000 in
theorem gL_law_X3_obey : GoodIn wsL_law (wsV RL 97 RX3 yX3_obey wsX3_obey) := goodIn_app (goodIn_of _ (by decide +kernel)) ggL_law_X3_obey
set_option maxRecDepth 20000 in
theorem ggL_law_X2_count : GoodIn wsL_law wsX2_count := goodIn_l _ [(16, 18), (0, 21), (0, 20), (1, 4), (0, 18), (0, 19), (1, 2), (1, 3), (1, 0), (19, 0), (19, 1), (19, 2), (19, 3), (19, 4), (19, 5), (19, 6), (19, 7), (19, 8), (19, 9), (19, 10), (21, 0), (21, 1), (21, 2), (21, 3)] (by first | exact rfl | decide +kernel) (by decide +kernel)
set_option maxRecDepth 20000 in
theorem gL_law_X2_count : GoodIn wsL_law (wsV RL 98 RX2 yX2_count wsX2_count) := goodIn_app (goodIn_of _ (by decide +kernel)) ggL_law_X2_count

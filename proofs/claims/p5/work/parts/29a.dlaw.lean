/-- the words of a list, by the gaps between them -/
def pickG : List Nat → List Cond → List Cond
  | [], _ => []
  | g :: gs, l => match l.drop g with
    | [] => []
    | x :: t => x :: pickG gs t
theorem pickG_in : ∀ (gs : List Nat) (l : List Cond), ∀ w ∈ pickG gs l, w ∈ l := by
  intro gs
  induction gs with
  | nil => intro l w h; exact absurd h List.not_mem_nil
  | cons g gs ih =>
    intro l w h
    unfold pickG at h
    split at h
    · exact absurd h List.not_mem_nil
    · rename_i x t e
      have hsub : ∀ w ∈ x :: t, w ∈ l := fun w hw => List.mem_of_mem_drop (i := g) (by rw [e]; exact hw)
      rcases List.mem_cons.mp h with rfl | h
      · exact hsub _ (List.mem_cons_self ..)
      · exact hsub _ (List.mem_cons_of_mem _ (ih t w h))
theorem in_pk {ws t : List Cond} (gs : List Nat) (hp : ws = pickG gs t) : ∀ w ∈ ws, w ∈ t := by
  intro w hw
  rw [hp] at hw
  exact pickG_in gs t w hw
noncomputable def blkL : List (List Cond) := [wsL_law0_r1, wsL_law0_r2, wsL_law0_r3, wsL_law0_r4, wsL_law0_r5, wsL_law0_r6, wsL_law0_r7, wsL_law0_r8, wsL_law0_r9, wsL_law0_r10, wsL_law0_r11, wsL_law0_r12, wsL_law0_r13, wsL_law0_r14, wsL_law0_r15, wsL_law0_r16, wsL_law0_r17, wsL_law0_r18, wsL_law0_r19, wsX20, wsX30, wsX10, wsX00, (vx_at0 RX2 61 "java/util/NoSuchElementException" ["java/lang/RuntimeException", "java/lang/Exception"]).filter goodWord]
theorem blkL_eq : blkL.flatten = wsL_law := by simp only [blkL, wsL_law, wsL_law0, List.flatten_cons, List.flatten_nil, List.append_assoc, List.append_nil, List.nil_append]
theorem goodIn_l (ws : List Cond) (ps : List (Nat × Nat)) (hp : ws = ps.filterMap (fun q => (blkL[q.1]?).bind (fun b => b[q.2]?))) (h : ws.all goodWord = true) : GoodIn wsL_law ws := by
  intro w hw
  have h1 := List.all_eq_true.mp h w hw
  rw [hp] at hw
  obtain ⟨q, -, hq⟩ := List.mem_filterMap.mp hw
  obtain ⟨b, hb, hw⟩ := Option.bind_eq_some_iff.mp hq
  have hm : w ∈ blkL.flatten := List.mem_flatten.mpr ⟨b, List.mem_of_getElem? hb, List.mem_of_getElem? hw⟩
  rw [blkL_eq] at hm
  exact ⟨hm, good_of_word h1⟩
theorem jall {a b c : List Cond} (ha : ∀ w ∈ a, w ∈ c) (hb : ∀ w ∈ b, w ∈ c) : ∀ w ∈ a ++ b, w ∈ c := fun w h => (List.mem_append.mp h).elim (ha w) (hb w)
set_option maxRecDepth 100000 in
theorem in_wsL_law0_r1 : ∀ w ∈ wsL_law0_r1, w ∈ lw_tbl := in_pk [0, 0, 0, 0, 0, 0, 0, 0, 0, 0, 0, 0, 0, 0, 0, 0, 0, 0, 0, 0, 1, 0, 0, 0] (by first | exact rfl | decide +kernel)
set_option maxRecDepth 100000 in
theorem in_wsL_law0_r2 : ∀ w ∈ wsL_law0_r2, w ∈ lw_tbl := in_pk [25, 0, 0, 0, 0, 0, 0, 0, 0, 0, 0, 3, 0, 0, 0, 0, 0, 0, 0, 0, 0, 0, 0, 0] (by first | exact rfl | decide +kernel)
set_option maxRecDepth 100000 in
theorem in_wsL_law0_r3 : ∀ w ∈ wsL_law0_r3, w ∈ lw_tbl := in_pk [52, 0, 0, 0, 0, 0, 10, 0, 1, 1, 0, 0, 0, 0, 1, 1, 1, 1, 1, 1, 1, 1, 1, 1] (by first | exact rfl | decide +kernel)
set_option maxRecDepth 100000 in
theorem in_wsL_law0_r4 : ∀ w ∈ wsL_law0_r4, w ∈ lw_tbl := in_pk [124, 0, 0, 0, 0, 0, 0, 0, 0, 0, 0, 23, 0, 0, 0, 0, 1, 0, 0, 0, 0, 0, 0, 0] (by first | exact rfl | decide +kernel)
set_option maxRecDepth 100000 in
theorem in_wsL_law0_r5 : ∀ w ∈ wsL_law0_r5, w ∈ lw_tbl := in_pk [172, 0, 0, 0, 0, 0, 1, 0, 0, 0, 0, 0, 0, 0, 0, 0, 0, 0, 0, 0, 1, 0, 0, 1] (by first | exact rfl | decide +kernel)
set_option maxRecDepth 100000 in
theorem in_wsL_law0_r6 : ∀ w ∈ wsL_law0_r6, w ∈ lw_tbl := in_pk [199, 0, 0, 1, 0, 0, 0, 0, 0, 0, 1, 0, 0, 1, 0, 0, 0, 0, 0, 0, 0, 0, 0, 0] (by first | exact rfl | decide +kernel)
set_option maxRecDepth 100000 in
theorem in_wsL_law0_r7 : ∀ w ∈ wsL_law0_r7, w ∈ lw_tbl := in_pk [226, 0, 0, 0, 0, 0, 0, 0, 0, 0, 0, 1, 0, 0, 1, 0, 0, 1, 0, 0, 1, 0, 0, 1] (by first | exact rfl | decide +kernel)
set_option maxRecDepth 100000 in
theorem in_wsL_law0_r8 : ∀ w ∈ wsL_law0_r8, w ∈ lw_tbl := in_pk [255, 0, 1, 0, 0, 0, 0, 0, 0, 0, 0, 0, 0, 0, 0, 0, 0, 0, 0, 0, 0, 0, 0, 0] (by first | exact rfl | decide +kernel)
set_option maxRecDepth 100000 in
theorem in_wsL_law0_r9 : ∀ w ∈ wsL_law0_r9, w ∈ lw_tbl := in_pk [280, 0, 1, 0, 0, 0, 0, 0, 0, 0, 0, 0, 0, 1, 0, 0, 1, 0, 0, 0, 0, 0, 0, 0] (by first | exact rfl | decide +kernel)
set_option maxRecDepth 100000 in
theorem in_wsL_law0_r10 : ∀ w ∈ wsL_law0_r10, w ∈ lw_tbl := in_pk [307, 0, 0, 0, 0, 0, 0, 0, 0, 0, 0, 0, 0, 0, 0, 1, 0, 0, 0, 0, 0, 0, 1, 0] (by first | exact rfl | decide +kernel)
set_option maxRecDepth 100000 in
theorem in_wsL_law0_r11 : ∀ w ∈ wsL_law0_r11, w ∈ lw_tbl := in_pk [333, 0, 1, 0, 0, 1, 0, 0, 0, 0, 0, 0, 0, 0, 0, 0, 0, 0, 0, 0, 0, 0, 0, 0] (by first | exact rfl | decide +kernel)
set_option maxRecDepth 100000 in
theorem in_wsL_law0_r12 : ∀ w ∈ wsL_law0_r12, w ∈ lw_tbl := in_pk [359, 0, 0, 0, 0, 0, 0, 0, 0, 0, 0, 0, 60, 0, 0, 0, 0, 0, 0, 0, 0, 0, 0, 0] (by first | exact rfl | decide +kernel)
set_option maxRecDepth 100000 in
theorem in_wsL_law0_r13 : ∀ w ∈ wsL_law0_r13, w ∈ lw_tbl := in_pk [443, 0, 0, 0, 0, 0, 0, 0, 0, 0, 0, 0, 0, 0, 0, 0, 0, 0, 0, 0, 0, 0, 0, 0] (by first | exact rfl | decide +kernel)
set_option maxRecDepth 100000 in
theorem in_wsL_law0_r14 : ∀ w ∈ wsL_law0_r14, w ∈ lw_tbl := in_pk [467, 35, 0, 0, 0, 0, 0, 0, 0, 0, 0, 0, 0, 0, 0, 0, 0, 0, 0, 0, 0, 0, 0, 0] (by first | exact rfl | decide +kernel)
set_option maxRecDepth 100000 in
theorem in_wsL_law0_r15 : ∀ w ∈ wsL_law0_r15, w ∈ lw_tbl := in_pk [526, 0, 0, 0, 0, 0, 0, 0, 0, 0, 0, 0, 1, 0, 0, 1, 0, 0, 0, 1, 0, 0, 1, 0] (by first | exact rfl | decide +kernel)
set_option maxRecDepth 100000 in
theorem in_wsL_law0_r16 : ∀ w ∈ wsL_law0_r16, w ∈ lw_tbl := in_pk [554, 0, 0, 0, 1, 0, 0, 1, 0, 0, 0, 0, 0, 0, 0, 0, 0, 0, 0, 0, 0, 0, 0, 0] (by first | exact rfl | decide +kernel)
set_option maxRecDepth 100000 in
theorem in_wsL_law0_r17 : ∀ w ∈ wsL_law0_r17, w ∈ lw_tbl := in_pk [580, 0, 0, 0, 0, 0, 0, 1, 0, 0, 0, 0, 0, 0, 0, 0, 0, 0, 0, 0, 0, 0, 0, 0] (by first | exact rfl | decide +kernel)
set_option maxRecDepth 100000 in
theorem in_wsL_law0_r18 : ∀ w ∈ wsL_law0_r18, w ∈ lw_tbl := in_pk [605, 0, 1, 0, 0, 1, 0, 0, 1, 0, 0, 0, 0, 0, 0, 0, 0, 0, 0, 0, 0, 0, 0, 0] (by first | exact rfl | decide +kernel)
set_option maxRecDepth 100000 in
theorem in_wsL_law0_r19 : ∀ w ∈ wsL_law0_r19, w ∈ lw_tbl := in_pk [632, 0, 0, 0, 0, 0, 0] (by first | exact rfl | decide +kernel)
theorem in_wsX20 : ∀ w ∈ wsX20, w ∈ lw_tbl := by decide +kernel
theorem in_wsX30 : ∀ w ∈ wsX30, w ∈ lw_tbl := by decide +kernel
theorem in_wsX10 : ∀ w ∈ wsX10, w ∈ lw_tbl := by decide +kernel
theorem in_wsX00 : ∀ w ∈ wsX00, w ∈ lw_tbl := by decide +kernel
theorem wsL_law_in0 : ∀ w ∈ wsL_law0, w ∈ lw_tbl := (jall (jall (jall (jall (jall (jall in_wsL_law0_r1 (jall in_wsL_law0_r2 (jall in_wsL_law0_r3 (jall in_wsL_law0_r4 (jall in_wsL_law0_r5 (jall in_wsL_law0_r6 (jall in_wsL_law0_r7 (jall in_wsL_law0_r8 (jall in_wsL_law0_r9 (jall in_wsL_law0_r10 (jall in_wsL_law0_r11 (jall in_wsL_law0_r12 (jall in_wsL_law0_r13 (jall in_wsL_law0_r14 (jall in_wsL_law0_r15 (jall in_wsL_law0_r16 (jall in_wsL_law0_r17 (jall in_wsL_law0_r18 in_wsL_law0_r19)))))))))))))))))) in_wsX20) in_wsX30) in_wsX10) in_wsX00) (fun _ h => absurd h List.not_mem_nil))
theorem wsL_law_x0 : ∀ w ∈ (vx_at0 RX2 61 "java/util/NoSuchElementException" ["java/lang/RuntimeException", "java/lang/Exception"]).filter goodWord, w ∈ lw_tbl := by decide +kernel
theorem wsL_law_in : ∀ w ∈ wsL_law, w ∈ lw_tbl := fun w h => (List.mem_append.mp h).elim (fun h => wsL_law_in0 w h) (fun h => wsL_law_x0 w h)
theorem inlX0 : ∀ w ∈ wsX00, w ∈ wsL_law := fun _ h => List.mem_append_left _ (List.mem_append_left _ (List.mem_append_right _ h))
theorem inX0 : ∀ w ∈ wsX00, w ∈ lw_tbl := fun w h => wsL_law_in w (inlX0 w h)
theorem inlX1 : ∀ w ∈ wsX10, w ∈ wsL_law := fun _ h => List.mem_append_left _ (List.mem_append_left _ (List.mem_append_left _ (List.mem_append_right _ h)))
theorem inX1 : ∀ w ∈ wsX10, w ∈ lw_tbl := fun w h => wsL_law_in w (inlX1 w h)
theorem inlX2 : ∀ w ∈ wsX20, w ∈ wsL_law := fun _ h => List.mem_append_left _ (List.mem_append_left _ (List.mem_append_left _ (List.mem_append_left _ (List.mem_append_left _ (List.mem_append_right _ h)))))
theorem inX2 : ∀ w ∈ wsX20, w ∈ lw_tbl := fun w h => wsL_law_in w (inlX2 w h)
theorem inlX3 : ∀ w ∈ wsX30, w ∈ wsL_law := fun _ h => List.mem_append_left _ (List.mem_append_left _ (List.mem_append_left _ (List.mem_append_left _ (List.mem_append_right _ h))))
theorem inX3 : ∀ w ∈ wsX30, w ∈ lw_tbl := fun w h => wsL_law_in w (inlX3 w h)
set_option maxRecDepth 20000 in
theorem ggL_poke_X2_poke : GoodIn wsL_poke wsX2_poke := goodIn_ca (goodIn_r _ [6, 7, 8, 9, 10, 11, 5, 12, 13, 14, 15, 16, 17, 18, 19, 20, 21, 22, 23] (by first | exact rfl | decide +kernel) (by decide +kernel)) (goodIn_sub (fun _ h => List.mem_cons_of_mem _ (List.mem_append_right _ h)) (by decide +kernel))
set_option maxRecDepth 20000 in
theorem gL_poke_X2_poke : GoodIn wsL_poke (wsV RL 7 RX2 yX2_poke wsX2_poke) := goodIn_app (goodIn_of _ (by decide +kernel)) ggL_poke_X2_poke
theorem dL_poke_0 : decode cL_poke 0 = .ok (.aload_n 3, 1) := dz0 ok_45 (by decide +kernel)
theorem dL_poke_1 : decode cL_poke 1 = .ok (.iconst 0, 1) := dz0 ok_3 (by decide +kernel)
theorem dL_poke_2 : decode cL_poke 2 = .ok (.aload_n 0, 1) := dz0 ok_42 (by decide +kernel)
theorem dL_poke_3 : decode cL_poke 3 = .ok (.iload_n 1, 1) := dz0 ok_27 (by decide +kernel)
theorem dL_poke_4 : decode cL_poke 4 = .ok (.iload_n 2, 1) := dz0 ok_28 (by decide +kernel)
theorem dL_poke_5 : decode cL_poke 5 = .ok (.invokevirtual 7, 3) := dzu2 ok_182 (by decide +kernel)
theorem dL_poke_8 : decode cL_poke 8 = .ok (.i2l, 1) := dz0 ok_133 (by decide +kernel)
theorem dL_poke_9 : decode cL_poke 9 = .ok (.lastore, 1) := dz0 ok_80 (by decide +kernel)
theorem dL_poke_10 : decode cL_poke 10 = .ok (.goto 7, 3) := dzs2 ok_167 (by decide +kernel)
theorem dL_poke_13 : decode cL_poke 13 = .ok (.astore 4, 2) := dzu1 ok_58 (by decide +kernel)
theorem dL_poke_15 : decode cL_poke 15 = .ok (.iconst 1, 1) := dz0 ok_4 (by decide +kernel)
theorem dL_poke_16 : decode cL_poke 16 = .ok (.ireturn, 1) := dz0 ok_172 (by decide +kernel)
theorem dL_poke_17 : decode cL_poke 17 = .ok (.iconst 0, 1) := dz0 ok_3 (by decide +kernel)
theorem dL_poke_18 : decode cL_poke 18 = .ok (.ireturn, 1) := dz0 ok_172 (by decide +kernel)
set_option maxRecDepth 20000 in
theorem ggL_peek_X2_peek : GoodIn wsL_peek wsX2_peek := goodIn_ca (goodIn_r _ [6, 7, 8, 9, 10, 11, 5, 12, 13, 14, 15, 16, 17, 18, 19, 20, 21, 22, 23] (by first | exact rfl | decide +kernel) (by decide +kernel)) (goodIn_sub (fun _ h => List.mem_cons_of_mem _ (List.mem_append_right _ h)) (by decide +kernel))
set_option maxRecDepth 20000 in
theorem gL_peek_X2_peek : GoodIn wsL_peek (wsV RL 15 RX2 yX2_peek wsX2_peek) := goodIn_app (goodIn_of _ (by decide +kernel)) ggL_peek_X2_peek
theorem dL_peek_0 : decode cL_peek 0 = .ok (.aload_n 2, 1) := dz0 ok_44 (by decide +kernel)
theorem dL_peek_1 : decode cL_peek 1 = .ok (.iconst 0, 1) := dz0 ok_3 (by decide +kernel)
theorem dL_peek_2 : decode cL_peek 2 = .ok (.aload_n 0, 1) := dz0 ok_42 (by decide +kernel)
theorem dL_peek_3 : decode cL_peek 3 = .ok (.iload_n 1, 1) := dz0 ok_27 (by decide +kernel)
theorem dL_peek_4 : decode cL_peek 4 = .ok (.invokevirtual 15, 3) := dzu2 ok_182 (by decide +kernel)
theorem dL_peek_7 : decode cL_peek 7 = .ok (.i2l, 1) := dz0 ok_133 (by decide +kernel)
theorem dL_peek_8 : decode cL_peek 8 = .ok (.lastore, 1) := dz0 ok_80 (by decide +kernel)
theorem dL_peek_9 : decode cL_peek 9 = .ok (.goto 6, 3) := dzs2 ok_167 (by decide +kernel)
theorem dL_peek_12 : decode cL_peek 12 = .ok (.astore_n 3, 1) := dz0 ok_78 (by decide +kernel)
theorem dL_peek_13 : decode cL_peek 13 = .ok (.iconst 1, 1) := dz0 ok_4 (by decide +kernel)
theorem dL_peek_14 : decode cL_peek 14 = .ok (.ireturn, 1) := dz0 ok_172 (by decide +kernel)
theorem dL_peek_15 : decode cL_peek 15 = .ok (.iconst 0, 1) := dz0 ok_3 (by decide +kernel)
theorem dL_peek_16 : decode cL_peek 16 = .ok (.ireturn, 1) := dz0 ok_172 (by decide +kernel)
set_option maxRecDepth 20000 in
theorem ggL_read_X2_read : GoodIn wsL_read wsX2_read := goodIn_ca (goodIn_r _ [6, 7, 8, 9, 10, 11, 5, 12, 13, 14, 15, 16, 17, 18, 19, 20, 21, 22, 23, 24, 25, 26, 27, 28, 29, 30, 31, 32, 33, 34, 35, 36, 37, 38, 39, 40, 41, 42, 43, 44, 45, 46, 47, 48, 49, 50, 51, 52, 53, 54, 55, 56, 57, 58, 59, 60, 61, 62, 63, 64, 65, 66, 67, 68, 69, 70, 71, 72, 73, 74, 75, 76, 77, 78, 79, 80, 81, 82, 83, 84, 85, 86, 87, 88, 89, 90, 91, 92, 93, 94, 95, 96, 97, 98, 99, 100, 101, 102, 103, 104, 105, 106, 107, 108, 109, 110, 111, 112, 113, 114, 115, 116] (by first | exact rfl | decide +kernel) (by decide +kernel)) (goodIn_sub (fun _ h => List.mem_cons_of_mem _ (List.mem_append_right _ h)) (by decide +kernel))
set_option maxRecDepth 20000 in
theorem gL_read_X2_read : GoodIn wsL_read (wsV RL 19 RX2 yX2_read wsX2_read) := goodIn_app (goodIn_of _ (by decide +kernel)) ggL_read_X2_read
theorem dL_read_0 : decode cL_read 0 = .ok (.aload_n 3, 1) := dz0 ok_45 (by decide +kernel)
theorem dL_read_1 : decode cL_read 1 = .ok (.iconst 0, 1) := dz0 ok_3 (by decide +kernel)
theorem dL_read_2 : decode cL_read 2 = .ok (.aload_n 0, 1) := dz0 ok_42 (by decide +kernel)
theorem dL_read_3 : decode cL_read 3 = .ok (.iload_n 1, 1) := dz0 ok_27 (by decide +kernel)
theorem dL_read_4 : decode cL_read 4 = .ok (.iload_n 2, 1) := dz0 ok_28 (by decide +kernel)
theorem dL_read_5 : decode cL_read 5 = .ok (.invokevirtual 19, 3) := dzu2 ok_182 (by decide +kernel)
theorem dL_read_8 : decode cL_read 8 = .ok (.i2l, 1) := dz0 ok_133 (by decide +kernel)
theorem dL_read_9 : decode cL_read 9 = .ok (.lastore, 1) := dz0 ok_80 (by decide +kernel)
theorem dL_read_10 : decode cL_read 10 = .ok (.goto 7, 3) := dzs2 ok_167 (by decide +kernel)
theorem dL_read_13 : decode cL_read 13 = .ok (.astore 4, 2) := dzu1 ok_58 (by decide +kernel)
theorem dL_read_15 : decode cL_read 15 = .ok (.iconst 1, 1) := dz0 ok_4 (by decide +kernel)
theorem dL_read_16 : decode cL_read 16 = .ok (.ireturn, 1) := dz0 ok_172 (by decide +kernel)
theorem dL_read_17 : decode cL_read 17 = .ok (.iconst 0, 1) := dz0 ok_3 (by decide +kernel)
theorem dL_read_18 : decode cL_read 18 = .ok (.ireturn, 1) := dz0 ok_172 (by decide +kernel)
set_option maxRecDepth 20000 in
theorem ggL_law_X2_init : GoodIn wsL_law wsX2_init := goodIn_l _ [(1, 16), (1, 17), (1, 18), (1, 19), (2, 6), (3, 0), (1, 20), (1, 21), (1, 8), (3, 1), (3, 2), (3, 3), (3, 4), (2, 7), (3, 5), (3, 6), (3, 7), (3, 8), (3, 9), (3, 10), (2, 8), (1, 9), (1, 22), (1, 23), (2, 0), (2, 1), (2, 5), (2, 2), (2, 3), (2, 4), (2, 9), (2, 10), (2, 11), (2, 12), (2, 13), (2, 14), (2, 15), (2, 16), (2, 17), (2, 18), (2, 19), (2, 20), (2, 21), (2, 22), (2, 23), (19, 0), (19, 1), (19, 2), (19, 3), (19, 4), (19, 5), (19, 6), (19, 7), (19, 8), (19, 9), (19, 10), (21, 0), (21, 1), (21, 2), (21, 3), (22, 0), (22, 1), (22, 2), (22, 3), (22, 4), (22, 5), (22, 6), (22, 7), (22, 8), (22, 9), (22, 10), (22, 11)] (by first | exact rfl | decide +kernel) (by decide +kernel)
set_option maxRecDepth 20000 in
theorem gL_law_X2_init : GoodIn wsL_law (wsX2_init) := ggL_law_X2_init
set_option maxRecDepth 20000 in
theorem ggL_law_X3_init : GoodIn wsL_law wsX3_init := goodIn_l _ [(12, 6), (12, 7), (1, 18), (1, 19), (2, 6), (12, 8), (12, 10), (12, 12), (12, 14), (12, 17), (12, 23), (20, 0), (20, 1), (20, 2), (20, 3), (20, 4), (20, 5), (20, 6), (20, 7), (20, 8), (20, 9), (20, 10), (20, 11), (20, 12), (20, 13), (20, 14), (20, 15), (20, 16)] (by first | exact rfl | decide +kernel) (by decide +kernel)
set_option maxRecDepth 20000 in
theorem gL_law_X3_init : GoodIn wsL_law (wsX3_init) := ggL_law_X3_init
set_option maxRecDepth 20000 in
theorem ggL_law_L_poke : GoodIn wsL_law wsL_poke := goodIn_ca (goodIn_l _ [(11, 5), (11, 6), (11, 7), (11, 8), (11, 9), (1, 7), (11, 10), (11, 11), (1, 11), (3, 0), (3, 18), (3, 19), (3, 20), (19, 0), (19, 1), (19, 2), (19, 3), (19, 4), (19, 5), (19, 6), (19, 7), (19, 8), (19, 9), (19, 10)] (by first | exact rfl | decide +kernel) (by decide +kernel)) (goodIn_sub (fun _ h => List.mem_append_right _ h) (by decide +kernel))
set_option maxRecDepth 20000 in
theorem gL_law_L_poke : GoodIn wsL_law (va_wsS RL 26 yL_poke wsL_poke) := goodIn_app (goodIn_of _ (by decide +kernel)) ggL_law_L_poke
set_option maxRecDepth 20000 in
theorem ggL_law_X3_poke : GoodIn wsL_law wsX3_poke := goodIn_l _ [(13, 4), (12, 22), (12, 8), (13, 5), (13, 6), (1, 10), (13, 7), (20, 0), (20, 1), (20, 2), (20, 3), (20, 4), (20, 5), (20, 6), (20, 7), (20, 8), (20, 9), (20, 10), (20, 11), (20, 12), (20, 13), (20, 14), (20, 15), (20, 16)] (by first | exact rfl | decide +kernel) (by decide +kernel)
set_option maxRecDepth 20000 in
theorem gL_law_X3_poke : GoodIn wsL_law (wsV RL 31 RX3 yX3_poke wsX3_poke) := goodIn_app (goodIn_of _ (by decide +kernel)) ggL_law_X3_poke
set_option maxRecDepth 20000 in
theorem ggL_law_L_peek : GoodIn wsL_law wsL_peek := goodIn_ca (goodIn_l _ [(11, 14), (11, 6), (11, 15), (11, 16), (11, 17), (1, 7), (11, 18), (11, 11), (1, 11), (3, 0), (3, 18), (3, 19), (3, 20), (19, 0), (19, 1), (19, 2), (19, 3), (19, 4), (19, 5), (19, 6), (19, 7), (19, 8), (19, 9), (19, 10)] (by first | exact rfl | decide +kernel) (by decide +kernel)) (goodIn_sub (fun _ h => List.mem_append_right _ h) (by decide +kernel))
set_option maxRecDepth 20000 in
theorem gL_law_L_peek : GoodIn wsL_law (va_wsS RL 32 yL_peek wsL_peek) := goodIn_app (goodIn_of _ (by decide +kernel)) ggL_law_L_peek
set_option maxRecDepth 20000 in
theorem ggL_law_X3_peek : GoodIn wsL_law wsX3_peek := goodIn_l _ [(13, 11), (12, 22), (12, 8), (13, 5), (13, 6), (1, 10), (13, 7), (20, 0), (20, 1), (20, 2), (20, 3), (20, 4), (20, 5), (20, 6), (20, 7), (20, 8), (20, 9), (20, 10), (20, 11), (20, 12), (20, 13), (20, 14), (20, 15), (20, 16)] (by first | exact rfl | decide +kernel) (by decide +kernel)
set_option maxRecDepth 20000 in
theorem gL_law_X3_peek : GoodIn wsL_law (wsV RL 35 RX3 yX3_peek wsX3_peek) := goodIn_app (goodIn_of _ (by decide +kernel)) ggL_law_X3_peek
set_option maxRecDepth 20000 in
theorem ggL_law_X2_fill : GoodIn wsL_law wsX2_fill := goodIn_l _ [(3, 14), (3, 15), (3, 16), (0, 0), (1, 7), (3, 17), (3, 0), (3, 18), (3, 19), (3, 20), (19, 0), (19, 1), (19, 2), (19, 3), (19, 4), (19, 5), (19, 6), (19, 7), (19, 8), (19, 9), (19, 10)] (by first | exact rfl | decide +kernel) (by decide +kernel)
set_option maxRecDepth 20000 in
theorem gL_law_X2_fill : GoodIn wsL_law (wsV RL 36 RX2 yX2_fill wsX2_fill) := goodIn_app (goodIn_of _ (by decide +kernel)) ggL_law_X2_fill
set_option maxRecDepth 20000 in
theorem ggL_law_X3_fill : GoodIn wsL_law wsX3_fill := goodIn_l _ [(13, 15), (12, 22), (12, 8), (20, 0), (20, 1), (20, 2), (20, 3), (20, 4), (20, 5), (20, 6), (20, 7), (20, 8), (20, 9), (20, 10), (20, 11), (20, 12), (20, 13), (20, 14), (20, 15), (20, 16)] (by first | exact rfl | decide +kernel) (by decide +kernel)
set_option maxRecDepth 20000 in
theorem gL_law_X3_fill : GoodIn wsL_law (wsV RL 40 RX3 yX3_fill wsX3_fill) := goodIn_app (goodIn_of _ (by decide +kernel)) ggL_law_X3_fill
set_option maxRecDepth 20000 in
theorem ggL_law_X2_table : GoodIn wsL_law wsX2_table := goodIn_l _ [(4, 0), (3, 6), (19, 0), (19, 1), (19, 2), (19, 3), (19, 4), (19, 5), (19, 6), (19, 7), (19, 8), (19, 9), (19, 10)] (by first | exact rfl | decide +kernel) (by decide +kernel)
set_option maxRecDepth 20000 in
theorem gL_law_X2_table : GoodIn wsL_law (wsV RL 41 RX2 yX2_table wsX2_table) := goodIn_app (goodIn_of _ (by decide +kernel)) ggL_law_X2_table
set_option maxRecDepth 20000 in
theorem ggL_law_X3_table : GoodIn wsL_law wsX3_table := goodIn_l _ [(13, 19), (12, 22), (12, 9), (20, 0), (20, 1), (20, 2), (20, 3), (20, 4), (20, 5), (20, 6), (20, 7), (20, 8), (20, 9), (20, 10), (20, 11), (20, 12), (20, 13), (20, 14), (20, 15), (20, 16)] (by first | exact rfl | decide +kernel) (by decide +kernel)
set_option maxRecDepth 20000 in
theorem gL_law_X3_table : GoodIn wsL_law (wsV RL 45 RX3 yX3_table wsX3_table) := goodIn_app (goodIn_of _ (by decide +kernel)) ggL_law_X3_table
set_option maxRecDepth 20000 in
theorem ggL_law_X2_context : GoodIn wsL_law wsX2_context := goodIn_l _ [(4, 4), (3, 18), (3, 19), (1, 7), (3, 20), (4, 5), (4, 6), (0, 1), (4, 7), (3, 6), (3, 15), (3, 16), (0, 0), (3, 17), (3, 0), (19, 0), (19, 1), (19, 2), (19, 3), (19, 4), (19, 5), (19, 6), (19, 7), (19, 8), (19, 9), (19, 10)] (by first | exact rfl | decide +kernel) (by decide +kernel)
set_option maxRecDepth 20000 in
theorem gL_law_X2_context : GoodIn wsL_law (wsV RL 46 RX2 yX2_context wsX2_context) := goodIn_app (goodIn_of _ (by decide +kernel)) ggL_law_X2_context
set_option maxRecDepth 20000 in
theorem ggL_law_X3_context : GoodIn wsL_law wsX3_context := goodIn_l _ [(13, 23), (12, 22), (12, 8), (12, 9), (14, 0), (14, 1), (1, 10), (14, 2), (20, 0), (20, 1), (20, 2), (20, 3), (20, 4), (20, 5), (20, 6), (20, 7), (20, 8), (20, 9), (20, 10), (20, 11), (20, 12), (20, 13), (20, 14), (20, 15), (20, 16)] (by first | exact rfl | decide +kernel) (by decide +kernel)
set_option maxRecDepth 20000 in
theorem gL_law_X3_context : GoodIn wsL_law (wsV RL 50 RX3 yX3_context wsX3_context) := goodIn_app (goodIn_of _ (by decide +kernel)) ggL_law_X3_context
set_option maxRecDepth 20000 in
theorem ggL_law_X2_enter : GoodIn wsL_law wsX2_enter := goodIn_l _ [(4, 11), (3, 18), (3, 19), (1, 7), (3, 20), (4, 12), (4, 13), (4, 14), (3, 15), (3, 16), (0, 0), (3, 17), (3, 0), (19, 0), (19, 1), (19, 2), (19, 3), (19, 4), (19, 5), (19, 6), (19, 7), (19, 8), (19, 9), (19, 10)] (by first | exact rfl | decide +kernel) (by decide +kernel)
set_option maxRecDepth 20000 in
theorem gL_law_X2_enter : GoodIn wsL_law (wsV RL 51 RX2 yX2_enter wsX2_enter) := goodIn_app (goodIn_of _ (by decide +kernel)) ggL_law_X2_enter
set_option maxRecDepth 20000 in
theorem ggL_law_X3_enter : GoodIn wsL_law wsX3_enter := goodIn_l _ [(14, 6), (12, 22), (12, 8), (20, 0), (20, 1), (20, 2), (20, 3), (20, 4), (20, 5), (20, 6), (20, 7), (20, 8), (20, 9), (20, 10), (20, 11), (20, 12), (20, 13), (20, 14), (20, 15), (20, 16)] (by first | exact rfl | decide +kernel) (by decide +kernel)
set_option maxRecDepth 20000 in
theorem gL_law_X3_enter : GoodIn wsL_law (wsV RL 55 RX3 yX3_enter wsX3_enter) := goodIn_app (goodIn_of _ (by decide +kernel)) ggL_law_X3_enter
set_option maxRecDepth 20000 in
theorem ggL_law_L_read : GoodIn wsL_law wsL_read := goodIn_ca (goodIn_l _ [(11, 21), (11, 6), (11, 22), (11, 23), (12, 0), (1, 7), (12, 1), (11, 11), (1, 11), (3, 7), (3, 18), (3, 19), (3, 20), (4, 19), (4, 20), (0, 2), (4, 21), (4, 22), (4, 23), (0, 3), (5, 0), (5, 1), (3, 1), (3, 2), (5, 2), (5, 3), (0, 4), (5, 4), (3, 8), (5, 5), (5, 6), (5, 7), (1, 8), (5, 8), (2, 4), (2, 3), (5, 9), (5, 10), (0, 5), (5, 11), (2, 5), (4, 5), (4, 6), (0, 1), (4, 7), (3, 6), (5, 12), (5, 13), (0, 6), (5, 14), (3, 0), (5, 15), (5, 16), (5, 17), (5, 18), (5, 19), (5, 20), (5, 21), (5, 22), (2, 2), (5, 23), (6, 0), (6, 1), (6, 2), (6, 3), (6, 4), (6, 5), (6, 6), (6, 7), (6, 8), (6, 9), (6, 10), (6, 11), (0, 7), (6, 12), (3, 9), (6, 13), (6, 14), (0, 8), (6, 15), (6, 16), (6, 17), (0, 9), (6, 18), (4, 12), (4, 13), (4, 14), (6, 19), (6, 20), (0, 10), (6, 21), (6, 22), (6, 23), (0, 11), (7, 0), (7, 1), (7, 2), (0, 12), (7, 3), (3, 3), (3, 10), (7, 4), (19, 0), (19, 1), (19, 2), (19, 3), (19, 4), (19, 5), (19, 6), (19, 7), (19, 8), (19, 9), (19, 10), (21, 0), (21, 1), (21, 2), (21, 3)] (by first | exact rfl | decide +kernel) (by decide +kernel)) (goodIn_sub (fun _ h => List.mem_append_right _ h) (by decide +kernel))
set_option maxRecDepth 20000 in
theorem gL_law_L_read : GoodIn wsL_law (va_wsS RL 56 yL_read wsL_read) := goodIn_app (goodIn_of _ (by decide +kernel)) ggL_law_L_read
set_option maxRecDepth 20000 in
theorem ggL_law_X3_read : GoodIn wsL_law wsX3_read := goodIn_l _ [(14, 10), (12, 22), (12, 8), (13, 0), (14, 0), (14, 1), (1, 10), (14, 2), (14, 11), (14, 12), (0, 20), (14, 13), (12, 21), (12, 15), (12, 16), (12, 14), (14, 14), (14, 15), (0, 21), (14, 16), (14, 17), (12, 9), (12, 19), (12, 11), (12, 10), (12, 20), (12, 12), (14, 18), (14, 19), (0, 22), (14, 20), (14, 21), (14, 22), (0, 23), (14, 23), (15, 0), (15, 1), (15, 2), (15, 3), (15, 4), (1, 0), (15, 5), (12, 13), (15, 6), (15, 7), (1, 1), (15, 8), (20, 0), (20, 1), (20, 2), (20, 3), (20, 4), (20, 5), (20, 6), (20, 7), (20, 8), (20, 9), (20, 10), (20, 11), (20, 12), (20, 13), (20, 14), (20, 15), (20, 16)] (by first | exact rfl | decide +kernel) (by decide +kernel)
set_option maxRecDepth 20000 in
theorem gL_law_X3_read : GoodIn wsL_law (wsV RL 58 RX3 yX3_read wsX3_read) := goodIn_app (goodIn_of _ (by decide +kernel)) ggL_law_X3_read
set_option maxRecDepth 20000 in
theorem ggL_law_X2_write : GoodIn wsL_law wsX2_write := goodIn_l _ [(4, 18), (3, 7), (3, 18), (3, 19), (1, 7), (3, 20), (4, 19), (4, 20), (0, 2), (4, 21), (4, 22), (4, 23), (0, 3), (5, 0), (5, 1), (3, 1), (3, 2), (5, 2), (5, 3), (0, 4), (5, 4), (3, 8), (5, 5), (5, 6), (5, 7), (1, 8), (5, 8), (2, 4), (2, 3), (5, 9), (5, 10), (0, 5), (5, 11), (2, 5), (4, 5), (4, 6), (0, 1), (4, 7), (3, 6), (5, 12), (5, 13), (0, 6), (5, 14), (3, 0), (5, 15), (5, 16), (5, 17), (5, 18), (5, 19), (5, 20), (5, 21), (5, 22), (2, 2), (5, 23), (6, 0), (6, 1), (6, 2), (6, 3), (6, 4), (6, 5), (6, 6), (6, 7), (6, 8), (6, 9), (6, 10), (6, 11), (0, 7), (6, 12), (3, 9), (6, 13), (6, 14), (0, 8), (6, 15), (6, 16), (6, 17), (0, 9), (6, 18), (4, 12), (4, 13), (4, 14), (6, 19), (6, 20), (0, 10), (6, 21), (6, 22), (6, 23), (0, 11), (7, 0), (7, 1), (7, 2), (0, 12), (7, 3), (3, 3), (3, 10), (7, 4), (3, 15), (3, 16), (0, 0), (3, 17), (19, 0), (19, 1), (19, 2), (19, 3), (19, 4), (19, 5), (19, 6), (19, 7), (19, 8), (19, 9), (19, 10), (21, 0), (21, 1), (21, 2), (21, 3)] (by first | exact rfl | decide +kernel) (by decide +kernel)
set_option maxRecDepth 20000 in
theorem gL_law_X2_write : GoodIn wsL_law (wsV RL 59 RX2 yX2_write wsX2_write) := goodIn_app (goodIn_of _ (by decide +kernel)) ggL_law_X2_write
set_option maxRecDepth 20000 in
theorem ggL_law_X3_write : GoodIn wsL_law wsX3_write := goodIn_l _ [(15, 12), (12, 22), (12, 21), (12, 8), (13, 0), (14, 0), (14, 1), (1, 10), (14, 2), (14, 11), (14, 12), (0, 20), (14, 13), (12, 15), (12, 16), (12, 14), (14, 14), (14, 15), (0, 21), (14, 16), (14, 17), (12, 9), (12, 19), (12, 11), (12, 10), (12, 20), (12, 12), (14, 18), (14, 19), (0, 22), (14, 20), (14, 21), (14, 22), (0, 23), (14, 23), (15, 0), (15, 1), (15, 2), (15, 3), (15, 4), (1, 0), (15, 5), (12, 13), (15, 6), (15, 7), (1, 1), (15, 8), (20, 0), (20, 1), (20, 2), (20, 3), (20, 4), (20, 5), (20, 6), (20, 7), (20, 8), (20, 9), (20, 10), (20, 11), (20, 12), (20, 13), (20, 14), (20, 15), (20, 16)] (by first | exact rfl | decide +kernel) (by decide +kernel)
set_option maxRecDepth 20000 in
theorem gL_law_X3_write : GoodIn wsL_law (wsV RL 63 RX3 yX3_write wsX3_write) := goodIn_app (goodIn_of _ (by decide +kernel)) ggL_law_X3_write
set_option maxRecDepth 20000 in
theorem ggL_law_X2_fault : GoodIn wsL_law wsX2_fault := goodIn_l _ [(7, 8), (3, 7), (19, 0), (19, 1), (19, 2), (19, 3), (19, 4), (19, 5), (19, 6), (19, 7), (19, 8), (19, 9), (19, 10)] (by first | exact rfl | decide +kernel) (by decide +kernel)
set_option maxRecDepth 20000 in
theorem gL_law_X2_fault : GoodIn wsL_law (wsV RL 64 RX2 yX2_fault wsX2_fault) := goodIn_app (goodIn_of _ (by decide +kernel)) ggL_law_X2_fault
set_option maxRecDepth 20000 in
theorem ggL_law_X3_fault : GoodIn wsL_law wsX3_fault := goodIn_l _ [(15, 16), (12, 22), (12, 21), (20, 0), (20, 1), (20, 2), (20, 3), (20, 4), (20, 5), (20, 6), (20, 7), (20, 8), (20, 9), (20, 10), (20, 11), (20, 12), (20, 13), (20, 14), (20, 15), (20, 16)] (by first | exact rfl | decide +kernel) (by decide +kernel)
set_option maxRecDepth 20000 in
theorem gL_law_X3_fault : GoodIn wsL_law (wsV RL 68 RX3 yX3_fault wsX3_fault) := goodIn_app (goodIn_of _ (by decide +kernel)) ggL_law_X3_fault
set_option maxRecDepth 20000 in
theorem ggL_law_X2_ring : GoodIn wsL_law wsX2_ring := goodIn_l _ [(7, 12), (5, 1), (3, 5), (3, 18), (3, 19), (1, 7), (3, 20), (7, 13), (7, 14), (7, 15), (1, 9), (7, 16), (2, 12), (2, 13), (2, 14), (2, 15), (2, 16), (2, 18), (19, 0), (19, 1), (19, 2), (19, 3), (19, 4), (19, 5), (19, 6), (19, 7), (19, 8), (19, 9), (19, 10), (22, 0), (22, 1), (22, 2), (22, 3), (22, 4), (22, 5), (22, 6), (22, 7), (22, 8), (22, 9), (22, 10), (22, 11)] (by first | exact rfl | decide +kernel) (by decide +kernel)
set_option maxRecDepth 20000 in
theorem gL_law_X2_ring : GoodIn wsL_law (wsV RL 69 RX2 yX2_ring wsX2_ring) := goodIn_app (goodIn_of _ (by decide +kernel)) ggL_law_X2_ring
set_option maxRecDepth 20000 in
theorem ggL_law_X3_ring : GoodIn wsL_law wsX3_ring := goodIn_l _ [(15, 20), (12, 22), (15, 21), (12, 23), (14, 0), (14, 1), (1, 10), (14, 2), (20, 0), (20, 1), (20, 2), (20, 3), (20, 4), (20, 5), (20, 6), (20, 7), (20, 8), (20, 9), (20, 10), (20, 11), (20, 12), (20, 13), (20, 14), (20, 15), (20, 16)] (by first | exact rfl | decide +kernel) (by decide +kernel)
set_option maxRecDepth 20000 in
theorem gL_law_X3_ring : GoodIn wsL_law (wsV RL 72 RX3 yX3_ring wsX3_ring) := goodIn_app (goodIn_of _ (by decide +kernel)) ggL_law_X3_ring
set_option maxRecDepth 20000 in
theorem ggL_law_X2_tail : GoodIn wsL_law wsX2_tail := goodIn_l _ [(7, 20), (3, 5), (3, 18), (3, 19), (1, 7), (3, 20), (19, 0), (19, 1), (19, 2), (19, 3), (19, 4), (19, 5), (19, 6), (19, 7), (19, 8), (19, 9), (19, 10), (22, 0), (22, 1), (22, 2), (22, 3), (22, 4), (22, 5), (22, 6), (22, 7), (22, 8), (22, 9), (22, 10), (22, 11)] (by first | exact rfl | decide +kernel) (by decide +kernel)
set_option maxRecDepth 20000 in
theorem gL_law_X2_tail : GoodIn wsL_law (wsV RL 73 RX2 yX2_tail wsX2_tail) := goodIn_app (goodIn_of _ (by decide +kernel)) ggL_law_X2_tail
set_option maxRecDepth 20000 in
theorem ggL_law_X3_tail : GoodIn wsL_law wsX3_tail := goodIn_l _ [(16, 1), (12, 22), (12, 23), (14, 0), (14, 1), (1, 10), (14, 2), (20, 0), (20, 1), (20, 2), (20, 3), (20, 4), (20, 5), (20, 6), (20, 7), (20, 8), (20, 9), (20, 10), (20, 11), (20, 12), (20, 13), (20, 14), (20, 15), (20, 16)] (by first | exact rfl | decide +kernel) (by decide +kernel)
set_option maxRecDepth 20000 in
theorem gL_law_X3_tail : GoodIn wsL_law (wsV RL 76 RX3 yX3_tail wsX3_tail) := goodIn_app (goodIn_of _ (by decide +kernel)) ggL_law_X3_tail
set_option maxRecDepth 20000 in
theorem ggL_law_X2_step : GoodIn wsL_law wsX2_step := goodIn_l _ [(8, 0), (3, 5), (3, 18), (3, 19), (1, 7), (3, 20), (8, 1), (8, 2), (0, 13), (8, 3), (8, 4), (8, 5), (8, 6), (1, 9), (8, 7), (2, 12), (2, 14), (4, 19), (4, 20), (0, 2), (4, 21), (3, 7), (4, 22), (4, 23), (0, 3), (5, 0), (5, 1), (3, 1), (3, 2), (5, 2), (5, 3), (0, 4), (5, 4), (3, 8), (5, 5), (5, 6), (5, 7), (1, 8), (5, 8), (2, 4), (2, 3), (5, 9), (5, 10), (0, 5), (5, 11), (2, 5), (4, 5), (4, 6), (0, 1), (4, 7), (3, 6), (5, 12), (5, 13), (0, 6), (5, 14), (3, 0), (5, 15), (5, 16), (5, 17), (5, 18), (5, 19), (5, 20), (5, 21), (5, 22), (2, 2), (5, 23), (6, 0), (6, 1), (6, 2), (6, 3), (6, 4), (6, 5), (6, 6), (6, 7), (6, 8), (6, 9), (6, 10), (6, 11), (0, 7), (6, 12), (3, 9), (6, 13), (6, 14), (0, 8), (6, 15), (6, 16), (6, 17), (0, 9), (6, 18), (4, 12), (4, 13), (4, 14), (6, 19), (6, 20), (0, 10), (6, 21), (6, 22), (6, 23), (0, 11), (7, 0), (7, 1), (7, 2), (0, 12), (7, 3), (3, 3), (3, 10), (7, 4), (8, 8), (8, 9), (8, 10), (8, 11), (2, 19), (2, 20), (2, 21), (2, 22), (8, 12), (8, 13), (0, 14), (8, 14), (3, 15), (3, 16), (0, 0), (3, 17), (8, 15), (8, 16), (0, 15), (8, 17), (8, 18), (8, 19), (8, 20), (8, 21), (2, 13), (2, 18), (2, 17), (2, 15), (2, 16), (19, 0), (19, 1), (19, 2), (19, 3), (19, 4), (19, 5), (19, 6), (19, 7), (19, 8), (19, 9), (19, 10), (22, 0), (22, 1), (22, 2), (22, 3), (22, 4), (22, 5), (22, 6), (22, 7), (22, 8), (22, 9), (22, 10), (22, 11), (21, 0), (21, 1), (21, 2), (21, 3)] (by first | exact rfl | decide +kernel) (by decide +kernel)
set_option maxRecDepth 20000 in
theorem gL_law_X2_step : GoodIn wsL_law (wsV RL 77 RX2 yX2_step wsX2_step) := goodIn_app (goodIn_of _ (by decide +kernel)) ggL_law_X2_step
set_option maxRecDepth 20000 in
theorem ggL_law_X3_step : GoodIn wsL_law wsX3_step := goodIn_l _ [(16, 5), (12, 22), (12, 23), (14, 0), (14, 1), (1, 10), (14, 2), (16, 6), (16, 7), (1, 2), (16, 8), (12, 8), (13, 0), (14, 11), (14, 12), (0, 20), (14, 13), (12, 21), (12, 15), (12, 16), (12, 14), (14, 14), (14, 15), (0, 21), (14, 16), (14, 17), (12, 9), (12, 19), (12, 11), (12, 10), (12, 20), (12, 12), (14, 18), (14, 19), (0, 22), (14, 20), (14, 21), (14, 22), (0, 23), (14, 23), (15, 0), (15, 1), (15, 2), (15, 3), (15, 4), (1, 0), (15, 5), (12, 13), (15, 6), (15, 7), (1, 1), (15, 8), (20, 0), (20, 1), (20, 2), (20, 3), (20, 4), (20, 5), (20, 6), (20, 7), (20, 8), (20, 9), (20, 10), (20, 11), (20, 12), (20, 13), (20, 14), (20, 15), (20, 16)] (by first | exact rfl | decide +kernel) (by decide +kernel)
set_option maxRecDepth 20000 in
theorem gL_law_X3_step : GoodIn wsL_law (wsV RL 80 RX3 yX3_step wsX3_step) := goodIn_app (goodIn_of _ (by decide +kernel)) ggL_law_X3_step
set_option maxRecDepth 20000 in
theorem ggL_law_X2_resume : GoodIn wsL_law wsX2_resume := goodIn_l _ [(9, 1), (3, 5), (3, 18), (3, 19), (1, 7), (3, 20), (19, 0), (19, 1), (19, 2), (19, 3), (19, 4), (19, 5), (19, 6), (19, 7), (19, 8), (19, 9), (19, 10), (22, 0), (22, 1), (22, 2), (22, 3), (22, 4), (22, 5), (22, 6), (22, 7), (22, 8), (22, 9), (22, 10), (22, 11)] (by first | exact rfl | decide +kernel) (by decide +kernel)
set_option maxRecDepth 20000 in
theorem gL_law_X2_resume : GoodIn wsL_law (wsV RL 81 RX2 yX2_resume wsX2_resume) := goodIn_app (goodIn_of _ (by decide +kernel)) ggL_law_X2_resume
set_option maxRecDepth 20000 in
theorem ggL_law_X3_resume : GoodIn wsL_law wsX3_resume := goodIn_l _ [(16, 12), (12, 22), (12, 23), (14, 0), (14, 1), (1, 10), (14, 2), (20, 0), (20, 1), (20, 2), (20, 3), (20, 4), (20, 5), (20, 6), (20, 7), (20, 8), (20, 9), (20, 10), (20, 11), (20, 12), (20, 13), (20, 14), (20, 15), (20, 16)] (by first | exact rfl | decide +kernel) (by decide +kernel)
set_option maxRecDepth 20000 in
theorem gL_law_X3_resume : GoodIn wsL_law (wsV RL 84 RX3 yX3_resume wsX3_resume) := goodIn_app (goodIn_of _ (by decide +kernel)) ggL_law_X3_resume
set_option maxRecDepth 20000 in
theorem ggL_law_X2_engine : GoodIn wsL_law wsX2_engine := goodIn_l _ [(9, 5), (3, 5), (3, 18), (3, 19), (1, 7), (3, 20), (19, 0), (19, 1), (19, 2), (19, 3), (19, 4), (19, 5), (19, 6), (19, 7), (19, 8), (19, 9), (19, 10), (22, 0), (22, 1), (22, 2), (22, 3), (22, 4), (22, 5), (22, 6), (22, 7), (22, 8), (22, 9), (22, 10), (22, 11)] (by first | exact rfl | decide +kernel) (by decide +kernel)
set_option maxRecDepth 20000 in
theorem gL_law_X2_engine : GoodIn wsL_law (wsV RL 85 RX2 yX2_engine wsX2_engine) := goodIn_app (goodIn_of _ (by decide +kernel)) ggL_law_X2_engine
set_option maxRecDepth 20000 in
theorem ggL_law_X3_engine : GoodIn wsL_law wsX3_engine := goodIn_l _ [(16, 16), (12, 22), (12, 23), (14, 0), (14, 1), (1, 10), (14, 2), (20, 0), (20, 1), (20, 2), (20, 3), (20, 4), (20, 5), (20, 6), (20, 7), (20, 8), (20, 9), (20, 10), (20, 11), (20, 12), (20, 13), (20, 14), (20, 15), (20, 16)] (by first | exact rfl | decide +kernel) (by decide +kernel)
set_option maxRecDepth 20000 in
theorem gL_law_X3_engine : GoodIn wsL_law (wsV RL 88 RX3 yX3_engine wsX3_engine) := goodIn_app (goodIn_of _ (by decide +kernel)) ggL_law_X3_engine
set_option maxRecDepth 20000 in
theorem ggL_law_X2_command : GoodIn wsL_law wsX2_command := goodIn_l _ [(9, 9), (3, 4), (7, 4), (5, 20), (5, 21), (1, 8), (5, 22), (2, 5), (2, 2), (5, 15), (5, 16), (5, 17), (5, 18), (5, 19), (5, 23), (6, 0), (6, 1), (6, 2), (2, 3), (2, 4), (6, 3), (6, 4), (6, 5), (6, 6), (5, 9), (5, 10), (0, 5), (5, 11), (19, 0), (19, 1), (19, 2), (19, 3), (19, 4), (19, 5), (19, 6), (19, 7), (19, 8), (19, 9), (19, 10), (21, 0), (21, 1), (21, 2), (21, 3)] (by first | exact rfl | decide +kernel) (by decide +kernel)
set_option maxRecDepth 20000 in
theorem gL_law_X2_command : GoodIn wsL_law (wsV RL 89 RX2 yX2_command wsX2_command) := goodIn_app (goodIn_of _ (by decide +kernel)) ggL_law_X2_command
set_option maxRecDepth 20000 in
theorem ggL_law_X3_command : GoodIn wsL_law wsX3_command := goodIn_l _ [(16, 20), (12, 22), (12, 18), (12, 17), (20, 0), (20, 1), (20, 2), (20, 3), (20, 4), (20, 5), (20, 6), (20, 7), (20, 8), (20, 9), (20, 10), (20, 11), (20, 12), (20, 13), (20, 14), (20, 15), (20, 16)] (by first | exact rfl | decide +kernel) (by decide +kernel)
set_option maxRecDepth 20000 in
theorem gL_law_X3_command : GoodIn wsL_law (wsV RL 93 RX3 yX3_command wsX3_command) := goodIn_app (goodIn_of _ (by decide +kernel)) ggL_law_X3_command
set_option maxRecDepth 20000 in
theorem ggL_law_X2_obey : GoodIn wsL_law wsX2_obey := goodIn_l _ [(9, 13), (3, 4), (5, 5), (5, 6), (5, 7), (1, 8), (5, 8), (2, 4), (2, 3), (5, 9), (5, 10), (0, 5), (5, 11), (2, 5), (9, 14), (9, 15), (0, 16), (1, 7), (9, 16), (3, 2), (3, 1), (9, 17), (9, 18), (9, 19), (9, 20), (9, 21), (9, 22), (0, 17), (9, 23), (10, 0), (6, 0), (6, 1), (6, 2), (10, 1), (10, 2), (0, 18), (10, 3), (6, 13), (6, 14), (0, 8), (6, 15), (10, 4), (10, 5), (0, 19), (10, 6), (3, 15), (3, 16), (0, 0), (3, 17), (3, 0), (3, 18), (3, 19), (3, 20), (19, 0), (19, 1), (19, 2), (19, 3), (19, 4), (19, 5), (19, 6), (19, 7), (19, 8), (19, 9), (19, 10), (21, 0), (21, 1), (21, 2), (21, 3)] (by first | exact rfl | decide +kernel) (by decide +kernel)
set_option maxRecDepth 20000 in
theorem gL_law_X2_obey : GoodIn wsL_law (wsV RL 94 RX2 yX2_obey wsX2_obey) := goodIn_app (goodIn_of _ (by decide +kernel)) ggL_law_X2_obey
set_option maxRecDepth 20000 in
theorem ggL_law_X3_obey : GoodIn wsL_law wsX3_obey := goodIn_l _ [(17, 0), (12, 22), (12, 18), (12, 17), (15, 0), (15, 1), (1, 10), (15, 2), (17, 1), (17, 2), (1, 3), (17, 3), (12, 8), (17, 4), (17, 5), (1, 4), (17, 6), (12, 13), (12, 12), (17, 7), (17, 8), (1, 5), (17, 9), (12, 11), (12, 10), (13, 5), (13, 6), (13, 7), (20, 0), (20, 1), (20, 2), (20, 3), (20, 4), (20, 5), (20, 6), (20, 7), (20, 8), (20, 9), (20, 10), (20, 11), (20, 12), (20, 13), (20, 14), (20, 15), (20, 16)] (by first | exact rfl | decide +kernel) (by decide +kernel)
set_option maxRecDepth 20000 in
theorem gL_law_X3_obey : GoodIn wsL_law (wsV RL 97 RX3 yX3_obey wsX3_obey) := goodIn_app (goodIn_of _ (by decide +kernel)) ggL_law_X3_obey
set_option maxRecDepth 20000 in
theorem ggL_law_X2_count : GoodIn wsL_law wsX2_count := goodIn_l _ [(10, 10), (3, 4), (3, 3), (3, 10), (3, 1), (3, 2), (3, 8), (3, 9), (3, 6), (19, 0), (19, 1), (19, 2), (19, 3), (19, 4), (19, 5), (19, 6), (19, 7), (19, 8), (19, 9), (19, 10), (21, 0), (21, 1), (21, 2), (21, 3)] (by first | exact rfl | decide +kernel) (by decide +kernel)
set_option maxRecDepth 20000 in
theorem gL_law_X2_count : GoodIn wsL_law (wsV RL 98 RX2 yX2_count wsX2_count) := goodIn_app (goodIn_of _ (by decide +kernel)) ggL_law_X2_count
set_option maxRecDepth 20000 in
theorem ggL_law_X3_count : GoodIn wsL_law wsX3_count := goodIn_l _ [(17, 13), (12, 22), (12, 18), (12, 15), (12, 16), (12, 11), (12, 13), (12, 19), (12, 20), (12, 9), (20, 0), (20, 1), (20, 2), (20, 3), (20, 4), (20, 5), (20, 6), (20, 7), (20, 8), (20, 9), (20, 10), (20, 11), (20, 12), (20, 13), (20, 14), (20, 15), (20, 16)] (by first | exact rfl | decide +kernel) (by decide +kernel)
set_option maxRecDepth 20000 in
theorem gL_law_X3_count : GoodIn wsL_law (wsV RL 101 RX3 yX3_count wsX3_count) := goodIn_app (goodIn_of _ (by decide +kernel)) ggL_law_X3_count
set_option maxRecDepth 20000 in
theorem ggL_law_X2_record : GoodIn wsL_law wsX2_record := goodIn_l _ [(10, 14), (3, 3), (5, 5), (5, 6), (5, 7), (1, 8), (5, 8), (2, 4), (2, 3), (5, 9), (5, 10), (0, 5), (5, 11), (2, 5), (19, 0), (19, 1), (19, 2), (19, 3), (19, 4), (19, 5), (19, 6), (19, 7), (19, 8), (19, 9), (19, 10), (21, 0), (21, 1), (21, 2), (21, 3)] (by first | exact rfl | decide +kernel) (by decide +kernel)
set_option maxRecDepth 20000 in
theorem gL_law_X2_record : GoodIn wsL_law (wsV RL 102 RX2 yX2_record wsX2_record) := goodIn_app (goodIn_of _ (by decide +kernel)) ggL_law_X2_record
set_option maxRecDepth 20000 in
theorem ggL_law_X3_record : GoodIn wsL_law wsX3_record := goodIn_l _ [(17, 17), (12, 22), (12, 15), (12, 14), (20, 0), (20, 1), (20, 2), (20, 3), (20, 4), (20, 5), (20, 6), (20, 7), (20, 8), (20, 9), (20, 10), (20, 11), (20, 12), (20, 13), (20, 14), (20, 15), (20, 16)] (by first | exact rfl | decide +kernel) (by decide +kernel)
set_option maxRecDepth 20000 in
theorem gL_law_X3_record : GoodIn wsL_law (wsV RL 105 RX3 yX3_record wsX3_record) := goodIn_app (goodIn_of _ (by decide +kernel)) ggL_law_X3_record
set_option maxRecDepth 20000 in
theorem ggL_law_X2_drop : GoodIn wsL_law wsX2_drop := goodIn_l _ [(10, 18), (3, 3), (10, 0), (6, 0), (6, 1), (1, 8), (6, 2), (2, 5), (2, 3), (2, 4), (19, 0), (19, 1), (19, 2), (19, 3), (19, 4), (19, 5), (19, 6), (19, 7), (19, 8), (19, 9), (19, 10), (21, 0), (21, 1), (21, 2), (21, 3)] (by first | exact rfl | decide +kernel) (by decide +kernel)
set_option maxRecDepth 20000 in
theorem gL_law_X2_drop : GoodIn wsL_law (wsV RL 106 RX2 yX2_drop wsX2_drop) := goodIn_app (goodIn_of _ (by decide +kernel)) ggL_law_X2_drop
set_option maxRecDepth 20000 in
theorem ggL_law_X3_drop : GoodIn wsL_law wsX3_drop := goodIn_l _ [(17, 21), (12, 22), (12, 15), (12, 14), (15, 0), (15, 1), (1, 10), (15, 2), (20, 0), (20, 1), (20, 2), (20, 3), (20, 4), (20, 5), (20, 6), (20, 7), (20, 8), (20, 9), (20, 10), (20, 11), (20, 12), (20, 13), (20, 14), (20, 15), (20, 16)] (by first | exact rfl | decide +kernel) (by decide +kernel)
set_option maxRecDepth 20000 in
theorem gL_law_X3_drop : GoodIn wsL_law (wsV RL 109 RX3 yX3_drop wsX3_drop) := goodIn_app (goodIn_of _ (by decide +kernel)) ggL_law_X3_drop
set_option maxRecDepth 20000 in
theorem ggL_law_X2_clear : GoodIn wsL_law wsX2_clear := goodIn_l _ [(10, 22), (3, 3), (3, 10), (9, 17), (9, 18), (9, 19), (1, 8), (9, 20), (2, 5), (19, 0), (19, 1), (19, 2), (19, 3), (19, 4), (19, 5), (19, 6), (19, 7), (19, 8), (19, 9), (19, 10), (21, 0), (21, 1), (21, 2), (21, 3)] (by first | exact rfl | decide +kernel) (by decide +kernel)
set_option maxRecDepth 20000 in
theorem gL_law_X2_clear : GoodIn wsL_law (wsV RL 110 RX2 yX2_clear wsX2_clear) := goodIn_app (goodIn_of _ (by decide +kernel)) ggL_law_X2_clear
set_option maxRecDepth 20000 in
theorem ggL_law_X3_clear : GoodIn wsL_law wsX3_clear := goodIn_l _ [(18, 1), (12, 22), (12, 15), (12, 16), (20, 0), (20, 1), (20, 2), (20, 3), (20, 4), (20, 5), (20, 6), (20, 7), (20, 8), (20, 9), (20, 10), (20, 11), (20, 12), (20, 13), (20, 14), (20, 15), (20, 16)] (by first | exact rfl | decide +kernel) (by decide +kernel)
set_option maxRecDepth 20000 in
theorem gL_law_X3_clear : GoodIn wsL_law (wsV RL 113 RX3 yX3_clear wsX3_clear) := goodIn_app (goodIn_of _ (by decide +kernel)) ggL_law_X3_clear
set_option maxRecDepth 20000 in
theorem ggL_law_X2_leaf : GoodIn wsL_law wsX2_leaf := goodIn_l _ [(11, 2), (3, 2), (5, 5), (5, 6), (5, 7), (1, 8), (5, 8), (2, 4), (2, 3), (5, 9), (5, 10), (0, 5), (5, 11), (2, 5), (19, 0), (19, 1), (19, 2), (19, 3), (19, 4), (19, 5), (19, 6), (19, 7), (19, 8), (19, 9), (19, 10), (21, 0), (21, 1), (21, 2), (21, 3)] (by first | exact rfl | decide +kernel) (by decide +kernel)
set_option maxRecDepth 20000 in
theorem gL_law_X2_leaf : GoodIn wsL_law (wsV RL 114 RX2 yX2_leaf wsX2_leaf) := goodIn_app (goodIn_of _ (by decide +kernel)) ggL_law_X2_leaf
set_option maxRecDepth 20000 in
theorem ggL_law_X3_leaf : GoodIn wsL_law wsX3_leaf := goodIn_l _ [(18, 5), (12, 22), (12, 13), (12, 12), (20, 0), (20, 1), (20, 2), (20, 3), (20, 4), (20, 5), (20, 6), (20, 7), (20, 8), (20, 9), (20, 10), (20, 11), (20, 12), (20, 13), (20, 14), (20, 15), (20, 16)] (by first | exact rfl | decide +kernel) (by decide +kernel)
set_option maxRecDepth 20000 in
theorem gL_law_X3_leaf : GoodIn wsL_law (wsV RL 117 RX3 yX3_leaf wsX3_leaf) := goodIn_app (goodIn_of _ (by decide +kernel)) ggL_law_X3_leaf
theorem dL_law_0 : decode cL_law 0 = .ok (.new 8, 3) := dzu2 ok_187 (by decide +kernel)
theorem dL_law_3 : decode cL_law 3 = .ok (.dup, 1) := dz0 ok_89 (by decide +kernel)
theorem dL_law_4 : decode cL_law 4 = .ok (.invokespecial 22, 3) := dzu2 ok_183 (by decide +kernel)
theorem dL_law_7 : decode cL_law 7 = .ok (.astore_n 1, 1) := dz0 ok_76 (by decide +kernel)
theorem dL_law_8 : decode cL_law 8 = .ok (.new 23, 3) := dzu2 ok_187 (by decide +kernel)
theorem dL_law_11 : decode cL_law 11 = .ok (.dup, 1) := dz0 ok_89 (by decide +kernel)
theorem dL_law_12 : decode cL_law 12 = .ok (.invokespecial 25, 3) := dzu2 ok_183 (by decide +kernel)
theorem dL_law_15 : decode cL_law 15 = .ok (.astore_n 2, 1) := dz0 ok_77 (by decide +kernel)
theorem dL_law_16 : decode cL_law 16 = .ok (.iconst 1, 1) := dz0 ok_4 (by decide +kernel)
theorem dL_law_17 : decode cL_law 17 = .ok (.newarray .long, 2) := by decide +kernel
theorem dL_law_19 : decode cL_law 19 = .ok (.astore_n 3, 1) := dz0 ok_78 (by decide +kernel)
theorem dL_law_20 : decode cL_law 20 = .ok (.iconst 0, 1) := dz0 ok_3 (by decide +kernel)
theorem dL_law_21 : decode cL_law 21 = .ok (.istore 4, 2) := dzu1 ok_54 (by decide +kernel)
theorem dL_law_23 : decode cL_law 23 = .ok (.iload 4, 2) := dzu1 ok_21 (by decide +kernel)
theorem dL_law_25 : decode cL_law 25 = .ok (.aload_n 0, 1) := dz0 ok_42 (by decide +kernel)
theorem dL_law_26 : decode cL_law 26 = .ok (.arraylength, 1) := dz0 ok_190 (by decide +kernel)
theorem dL_law_27 : decode cL_law 27 = .ok (.bipush 6, 2) := dzs1 ok_16 (by decide +kernel)
theorem dL_law_29 : decode cL_law 29 = .ok (.isub, 1) := dz0 ok_100 (by decide +kernel)
theorem dL_law_30 : decode cL_law 30 = .ok (.if_icmp .gt 922, 3) := dzs2 ok_163 (by decide +kernel)
theorem dL_law_33 : decode cL_law 33 = .ok (.aload_n 0, 1) := dz0 ok_42 (by decide +kernel)
theorem dL_law_34 : decode cL_law 34 = .ok (.iload 4, 2) := dzu1 ok_21 (by decide +kernel)
theorem dL_law_36 : decode cL_law 36 = .ok (.iaload, 1) := dz0 ok_46 (by decide +kernel)
theorem dL_law_37 : decode cL_law 37 = .ok (.bipush 31, 2) := dzs1 ok_16 (by decide +kernel)
theorem dL_law_39 : decode cL_law 39 = .ok (.iand, 1) := dz0 ok_126 (by decide +kernel)
theorem dL_law_40 : decode cL_law 40 = .ok (.tableswitch 906 0 20 #[100, 140, 168, 229, 254, 331, 420, 460, 509, 522, 571, 608, 645, 670, 707, 756, 781, 806, 843, 856, 869], 100) := by decide +kernel
theorem dL_law_140 : decode cL_law 140 = .ok (.aload_n 1, 1) := dz0 ok_43 (by decide +kernel)
theorem dL_law_141 : decode cL_law 141 = .ok (.aload_n 0, 1) := dz0 ok_42 (by decide +kernel)
theorem dL_law_142 : decode cL_law 142 = .ok (.iload 4, 2) := dzu1 ok_21 (by decide +kernel)
theorem dL_law_144 : decode cL_law 144 = .ok (.iconst 1, 1) := dz0 ok_4 (by decide +kernel)
theorem dL_law_145 : decode cL_law 145 = .ok (.iadd, 1) := dz0 ok_96 (by decide +kernel)
theorem dL_law_146 : decode cL_law 146 = .ok (.iaload, 1) := dz0 ok_46 (by decide +kernel)
theorem dL_law_147 : decode cL_law 147 = .ok (.aload_n 0, 1) := dz0 ok_42 (by decide +kernel)
theorem dL_law_148 : decode cL_law 148 = .ok (.iload 4, 2) := dzu1 ok_21 (by decide +kernel)
theorem dL_law_150 : decode cL_law 150 = .ok (.iconst 2, 1) := dz0 ok_5 (by decide +kernel)
theorem dL_law_151 : decode cL_law 151 = .ok (.iadd, 1) := dz0 ok_96 (by decide +kernel)
theorem dL_law_152 : decode cL_law 152 = .ok (.iaload, 1) := dz0 ok_46 (by decide +kernel)
theorem dL_law_153 : decode cL_law 153 = .ok (.aload_n 3, 1) := dz0 ok_45 (by decide +kernel)
theorem dL_law_154 : decode cL_law 154 = .ok (.invokestatic 26, 3) := dzu2 ok_184 (by decide +kernel)
theorem dL_law_157 : decode cL_law 157 = .ok (.istore 5, 2) := dzu1 ok_54 (by decide +kernel)
theorem dL_law_159 : decode cL_law 159 = .ok (.aload_n 2, 1) := dz0 ok_44 (by decide +kernel)
theorem dL_law_160 : decode cL_law 160 = .ok (.aload_n 0, 1) := dz0 ok_42 (by decide +kernel)
theorem dL_law_161 : decode cL_law 161 = .ok (.iload 4, 2) := dzu1 ok_21 (by decide +kernel)
theorem dL_law_163 : decode cL_law 163 = .ok (.iconst 1, 1) := dz0 ok_4 (by decide +kernel)
theorem dL_law_164 : decode cL_law 164 = .ok (.iadd, 1) := dz0 ok_96 (by decide +kernel)
theorem dL_law_165 : decode cL_law 165 = .ok (.iaload, 1) := dz0 ok_46 (by decide +kernel)
theorem dL_law_166 : decode cL_law 166 = .ok (.aload_n 0, 1) := dz0 ok_42 (by decide +kernel)
theorem dL_law_167 : decode cL_law 167 = .ok (.iload 4, 2) := dzu1 ok_21 (by decide +kernel)
theorem dL_law_169 : decode cL_law 169 = .ok (.iconst 2, 1) := dz0 ok_5 (by decide +kernel)
theorem dL_law_170 : decode cL_law 170 = .ok (.iadd, 1) := dz0 ok_96 (by decide +kernel)
theorem dL_law_171 : decode cL_law 171 = .ok (.iaload, 1) := dz0 ok_46 (by decide +kernel)
theorem dL_law_172 : decode cL_law 172 = .ok (.invokevirtual 31, 3) := dzu2 ok_182 (by decide +kernel)
theorem dL_law_175 : decode cL_law 175 = .ok (.istore 6, 2) := dzu1 ok_54 (by decide +kernel)
theorem dL_law_177 : decode cL_law 177 = .ok (.goto 769, 3) := dzs2 ok_167 (by decide +kernel)
theorem dL_law_180 : decode cL_law 180 = .ok (.aload_n 1, 1) := dz0 ok_43 (by decide +kernel)
theorem dL_law_181 : decode cL_law 181 = .ok (.aload_n 0, 1) := dz0 ok_42 (by decide +kernel)
theorem dL_law_182 : decode cL_law 182 = .ok (.iload 4, 2) := dzu1 ok_21 (by decide +kernel)
theorem dL_law_184 : decode cL_law 184 = .ok (.iconst 1, 1) := dz0 ok_4 (by decide +kernel)
theorem dL_law_185 : decode cL_law 185 = .ok (.iadd, 1) := dz0 ok_96 (by decide +kernel)
theorem dL_law_186 : decode cL_law 186 = .ok (.iaload, 1) := dz0 ok_46 (by decide +kernel)
theorem dL_law_187 : decode cL_law 187 = .ok (.aload_n 3, 1) := dz0 ok_45 (by decide +kernel)
theorem dL_law_188 : decode cL_law 188 = .ok (.invokestatic 32, 3) := dzu2 ok_184 (by decide +kernel)
theorem dL_law_191 : decode cL_law 191 = .ok (.istore 5, 2) := dzu1 ok_54 (by decide +kernel)
theorem dL_law_193 : decode cL_law 193 = .ok (.aload_n 2, 1) := dz0 ok_44 (by decide +kernel)
theorem dL_law_194 : decode cL_law 194 = .ok (.aload_n 0, 1) := dz0 ok_42 (by decide +kernel)
theorem dL_law_195 : decode cL_law 195 = .ok (.iload 4, 2) := dzu1 ok_21 (by decide +kernel)
theorem dL_law_197 : decode cL_law 197 = .ok (.iconst 1, 1) := dz0 ok_4 (by decide +kernel)
theorem dL_law_198 : decode cL_law 198 = .ok (.iadd, 1) := dz0 ok_96 (by decide +kernel)
theorem dL_law_199 : decode cL_law 199 = .ok (.iaload, 1) := dz0 ok_46 (by decide +kernel)
theorem dL_law_200 : decode cL_law 200 = .ok (.invokevirtual 35, 3) := dzu2 ok_182 (by decide +kernel)
theorem dL_law_203 : decode cL_law 203 = .ok (.istore 6, 2) := dzu1 ok_54 (by decide +kernel)
theorem dL_law_205 : decode cL_law 205 = .ok (.goto 741, 3) := dzs2 ok_167 (by decide +kernel)
theorem dL_law_208 : decode cL_law 208 = .ok (.aload_n 1, 1) := dz0 ok_43 (by decide +kernel)
theorem dL_law_209 : decode cL_law 209 = .ok (.aload_n 0, 1) := dz0 ok_42 (by decide +kernel)
theorem dL_law_210 : decode cL_law 210 = .ok (.iload 4, 2) := dzu1 ok_21 (by decide +kernel)
theorem dL_law_212 : decode cL_law 212 = .ok (.iconst 1, 1) := dz0 ok_4 (by decide +kernel)
theorem dL_law_213 : decode cL_law 213 = .ok (.iadd, 1) := dz0 ok_96 (by decide +kernel)
theorem dL_law_214 : decode cL_law 214 = .ok (.iaload, 1) := dz0 ok_46 (by decide +kernel)
theorem dL_law_215 : decode cL_law 215 = .ok (.aload_n 0, 1) := dz0 ok_42 (by decide +kernel)
theorem dL_law_216 : decode cL_law 216 = .ok (.iload 4, 2) := dzu1 ok_21 (by decide +kernel)
theorem dL_law_218 : decode cL_law 218 = .ok (.iconst 2, 1) := dz0 ok_5 (by decide +kernel)
theorem dL_law_219 : decode cL_law 219 = .ok (.iadd, 1) := dz0 ok_96 (by decide +kernel)
theorem dL_law_220 : decode cL_law 220 = .ok (.iaload, 1) := dz0 ok_46 (by decide +kernel)
theorem dL_law_221 : decode cL_law 221 = .ok (.aload_n 0, 1) := dz0 ok_42 (by decide +kernel)
theorem dL_law_222 : decode cL_law 222 = .ok (.iload 4, 2) := dzu1 ok_21 (by decide +kernel)
theorem dL_law_224 : decode cL_law 224 = .ok (.iconst 3, 1) := dz0 ok_6 (by decide +kernel)
theorem dL_law_225 : decode cL_law 225 = .ok (.iadd, 1) := dz0 ok_96 (by decide +kernel)
theorem dL_law_226 : decode cL_law 226 = .ok (.iaload, 1) := dz0 ok_46 (by decide +kernel)
theorem dL_law_227 : decode cL_law 227 = .ok (.aload_n 0, 1) := dz0 ok_42 (by decide +kernel)
theorem dL_law_228 : decode cL_law 228 = .ok (.iload 4, 2) := dzu1 ok_21 (by decide +kernel)
theorem dL_law_230 : decode cL_law 230 = .ok (.iconst 4, 1) := dz0 ok_7 (by decide +kernel)
theorem dL_law_231 : decode cL_law 231 = .ok (.iadd, 1) := dz0 ok_96 (by decide +kernel)
theorem dL_law_232 : decode cL_law 232 = .ok (.iaload, 1) := dz0 ok_46 (by decide +kernel)
theorem dL_law_233 : decode cL_law 233 = .ok (.invokevirtual 36, 3) := dzu2 ok_182 (by decide +kernel)
theorem dL_law_236 : decode cL_law 236 = .ok (.pop, 1) := dz0 ok_87 (by decide +kernel)
theorem dL_law_237 : decode cL_law 237 = .ok (.aload_n 2, 1) := dz0 ok_44 (by decide +kernel)
theorem dL_law_238 : decode cL_law 238 = .ok (.aload_n 0, 1) := dz0 ok_42 (by decide +kernel)
theorem dL_law_239 : decode cL_law 239 = .ok (.iload 4, 2) := dzu1 ok_21 (by decide +kernel)
theorem dL_law_241 : decode cL_law 241 = .ok (.iconst 1, 1) := dz0 ok_4 (by decide +kernel)
theorem dL_law_242 : decode cL_law 242 = .ok (.iadd, 1) := dz0 ok_96 (by decide +kernel)
theorem dL_law_243 : decode cL_law 243 = .ok (.iaload, 1) := dz0 ok_46 (by decide +kernel)
theorem dL_law_244 : decode cL_law 244 = .ok (.aload_n 0, 1) := dz0 ok_42 (by decide +kernel)
theorem dL_law_245 : decode cL_law 245 = .ok (.iload 4, 2) := dzu1 ok_21 (by decide +kernel)
theorem dL_law_247 : decode cL_law 247 = .ok (.iconst 2, 1) := dz0 ok_5 (by decide +kernel)
theorem dL_law_248 : decode cL_law 248 = .ok (.iadd, 1) := dz0 ok_96 (by decide +kernel)
theorem dL_law_249 : decode cL_law 249 = .ok (.iaload, 1) := dz0 ok_46 (by decide +kernel)
theorem dL_law_250 : decode cL_law 250 = .ok (.aload_n 0, 1) := dz0 ok_42 (by decide +kernel)
theorem dL_law_251 : decode cL_law 251 = .ok (.iload 4, 2) := dzu1 ok_21 (by decide +kernel)
theorem dL_law_253 : decode cL_law 253 = .ok (.iconst 3, 1) := dz0 ok_6 (by decide +kernel)
theorem dL_law_254 : decode cL_law 254 = .ok (.iadd, 1) := dz0 ok_96 (by decide +kernel)
theorem dL_law_255 : decode cL_law 255 = .ok (.iaload, 1) := dz0 ok_46 (by decide +kernel)
theorem dL_law_256 : decode cL_law 256 = .ok (.aload_n 0, 1) := dz0 ok_42 (by decide +kernel)
theorem dL_law_257 : decode cL_law 257 = .ok (.iload 4, 2) := dzu1 ok_21 (by decide +kernel)
theorem dL_law_259 : decode cL_law 259 = .ok (.iconst 4, 1) := dz0 ok_7 (by decide +kernel)
theorem dL_law_260 : decode cL_law 260 = .ok (.iadd, 1) := dz0 ok_96 (by decide +kernel)
theorem dL_law_261 : decode cL_law 261 = .ok (.iaload, 1) := dz0 ok_46 (by decide +kernel)
theorem dL_law_262 : decode cL_law 262 = .ok (.invokevirtual 40, 3) := dzu2 ok_182 (by decide +kernel)
theorem dL_law_265 : decode cL_law 265 = .ok (.pop, 1) := dz0 ok_87 (by decide +kernel)
theorem dL_law_266 : decode cL_law 266 = .ok (.goto 680, 3) := dzs2 ok_167 (by decide +kernel)
theorem dL_law_269 : decode cL_law 269 = .ok (.aload_n 1, 1) := dz0 ok_43 (by decide +kernel)
theorem dL_law_270 : decode cL_law 270 = .ok (.aload_n 0, 1) := dz0 ok_42 (by decide +kernel)
theorem dL_law_271 : decode cL_law 271 = .ok (.iload 4, 2) := dzu1 ok_21 (by decide +kernel)
theorem dL_law_273 : decode cL_law 273 = .ok (.iconst 1, 1) := dz0 ok_4 (by decide +kernel)
theorem dL_law_274 : decode cL_law 274 = .ok (.iadd, 1) := dz0 ok_96 (by decide +kernel)
theorem dL_law_275 : decode cL_law 275 = .ok (.iaload, 1) := dz0 ok_46 (by decide +kernel)
theorem dL_law_276 : decode cL_law 276 = .ok (.invokevirtual 41, 3) := dzu2 ok_182 (by decide +kernel)
theorem dL_law_279 : decode cL_law 279 = .ok (.aload_n 2, 1) := dz0 ok_44 (by decide +kernel)
theorem dL_law_280 : decode cL_law 280 = .ok (.aload_n 0, 1) := dz0 ok_42 (by decide +kernel)
theorem dL_law_281 : decode cL_law 281 = .ok (.iload 4, 2) := dzu1 ok_21 (by decide +kernel)
theorem dL_law_283 : decode cL_law 283 = .ok (.iconst 1, 1) := dz0 ok_4 (by decide +kernel)
theorem dL_law_284 : decode cL_law 284 = .ok (.iadd, 1) := dz0 ok_96 (by decide +kernel)
theorem dL_law_285 : decode cL_law 285 = .ok (.iaload, 1) := dz0 ok_46 (by decide +kernel)
theorem dL_law_286 : decode cL_law 286 = .ok (.invokevirtual 45, 3) := dzu2 ok_182 (by decide +kernel)
theorem dL_law_289 : decode cL_law 289 = .ok (.if_icmp .eq 657, 3) := dzs2 ok_159 (by decide +kernel)
theorem dL_law_292 : decode cL_law 292 = .ok (.iconst 0, 1) := dz0 ok_3 (by decide +kernel)
theorem dL_law_293 : decode cL_law 293 = .ok (.ireturn, 1) := dz0 ok_172 (by decide +kernel)
theorem dL_law_294 : decode cL_law 294 = .ok (.aload_n 1, 1) := dz0 ok_43 (by decide +kernel)
theorem dL_law_295 : decode cL_law 295 = .ok (.aload_n 0, 1) := dz0 ok_42 (by decide +kernel)
theorem dL_law_296 : decode cL_law 296 = .ok (.iload 4, 2) := dzu1 ok_21 (by decide +kernel)
theorem dL_law_298 : decode cL_law 298 = .ok (.iconst 1, 1) := dz0 ok_4 (by decide +kernel)
theorem dL_law_299 : decode cL_law 299 = .ok (.iadd, 1) := dz0 ok_96 (by decide +kernel)
theorem dL_law_300 : decode cL_law 300 = .ok (.iaload, 1) := dz0 ok_46 (by decide +kernel)
theorem dL_law_301 : decode cL_law 301 = .ok (.aload_n 0, 1) := dz0 ok_42 (by decide +kernel)
theorem dL_law_302 : decode cL_law 302 = .ok (.iload 4, 2) := dzu1 ok_21 (by decide +kernel)
theorem dL_law_304 : decode cL_law 304 = .ok (.iconst 2, 1) := dz0 ok_5 (by decide +kernel)
theorem dL_law_305 : decode cL_law 305 = .ok (.iadd, 1) := dz0 ok_96 (by decide +kernel)
theorem dL_law_306 : decode cL_law 306 = .ok (.iaload, 1) := dz0 ok_46 (by decide +kernel)
theorem dL_law_307 : decode cL_law 307 = .ok (.ifCond .eq 7, 3) := dzs2 ok_153 (by decide +kernel)
theorem dL_law_310 : decode cL_law 310 = .ok (.iconst 1, 1) := dz0 ok_4 (by decide +kernel)
theorem dL_law_311 : decode cL_law 311 = .ok (.goto 4, 3) := dzs2 ok_167 (by decide +kernel)
theorem dL_law_314 : decode cL_law 314 = .ok (.iconst 0, 1) := dz0 ok_3 (by decide +kernel)
theorem dL_law_315 : decode cL_law 315 = .ok (.aload_n 0, 1) := dz0 ok_42 (by decide +kernel)
theorem dL_law_316 : decode cL_law 316 = .ok (.iload 4, 2) := dzu1 ok_21 (by decide +kernel)
theorem dL_law_318 : decode cL_law 318 = .ok (.iconst 3, 1) := dz0 ok_6 (by decide +kernel)
theorem dL_law_319 : decode cL_law 319 = .ok (.iadd, 1) := dz0 ok_96 (by decide +kernel)
theorem dL_law_320 : decode cL_law 320 = .ok (.iaload, 1) := dz0 ok_46 (by decide +kernel)
theorem dL_law_321 : decode cL_law 321 = .ok (.aload_n 0, 1) := dz0 ok_42 (by decide +kernel)
theorem dL_law_322 : decode cL_law 322 = .ok (.iload 4, 2) := dzu1 ok_21 (by decide +kernel)
theorem dL_law_324 : decode cL_law 324 = .ok (.iconst 4, 1) := dz0 ok_7 (by decide +kernel)
theorem dL_law_325 : decode cL_law 325 = .ok (.iadd, 1) := dz0 ok_96 (by decide +kernel)
theorem dL_law_326 : decode cL_law 326 = .ok (.iaload, 1) := dz0 ok_46 (by decide +kernel)
theorem dL_law_327 : decode cL_law 327 = .ok (.invokevirtual 46, 3) := dzu2 ok_182 (by decide +kernel)
theorem dL_law_330 : decode cL_law 330 = .ok (.pop, 1) := dz0 ok_87 (by decide +kernel)
theorem dL_law_331 : decode cL_law 331 = .ok (.aload_n 2, 1) := dz0 ok_44 (by decide +kernel)
theorem dL_law_332 : decode cL_law 332 = .ok (.aload_n 0, 1) := dz0 ok_42 (by decide +kernel)
theorem dL_law_333 : decode cL_law 333 = .ok (.iload 4, 2) := dzu1 ok_21 (by decide +kernel)
theorem dL_law_335 : decode cL_law 335 = .ok (.iconst 1, 1) := dz0 ok_4 (by decide +kernel)
theorem dL_law_336 : decode cL_law 336 = .ok (.iadd, 1) := dz0 ok_96 (by decide +kernel)
theorem dL_law_337 : decode cL_law 337 = .ok (.iaload, 1) := dz0 ok_46 (by decide +kernel)
theorem dL_law_338 : decode cL_law 338 = .ok (.aload_n 0, 1) := dz0 ok_42 (by decide +kernel)
theorem dL_law_339 : decode cL_law 339 = .ok (.iload 4, 2) := dzu1 ok_21 (by decide +kernel)
theorem dL_law_341 : decode cL_law 341 = .ok (.iconst 2, 1) := dz0 ok_5 (by decide +kernel)
theorem dL_law_342 : decode cL_law 342 = .ok (.iadd, 1) := dz0 ok_96 (by decide +kernel)
theorem dL_law_343 : decode cL_law 343 = .ok (.iaload, 1) := dz0 ok_46 (by decide +kernel)
theorem dL_law_344 : decode cL_law 344 = .ok (.ifCond .eq 7, 3) := dzs2 ok_153 (by decide +kernel)
theorem dL_law_347 : decode cL_law 347 = .ok (.iconst 1, 1) := dz0 ok_4 (by decide +kernel)
theorem dL_law_348 : decode cL_law 348 = .ok (.goto 4, 3) := dzs2 ok_167 (by decide +kernel)
theorem dL_law_351 : decode cL_law 351 = .ok (.iconst 0, 1) := dz0 ok_3 (by decide +kernel)
theorem dL_law_352 : decode cL_law 352 = .ok (.aload_n 0, 1) := dz0 ok_42 (by decide +kernel)
theorem dL_law_353 : decode cL_law 353 = .ok (.iload 4, 2) := dzu1 ok_21 (by decide +kernel)
theorem dL_law_355 : decode cL_law 355 = .ok (.iconst 3, 1) := dz0 ok_6 (by decide +kernel)
theorem dL_law_356 : decode cL_law 356 = .ok (.iadd, 1) := dz0 ok_96 (by decide +kernel)
theorem dL_law_357 : decode cL_law 357 = .ok (.iaload, 1) := dz0 ok_46 (by decide +kernel)
theorem dL_law_358 : decode cL_law 358 = .ok (.aload_n 0, 1) := dz0 ok_42 (by decide +kernel)
theorem dL_law_359 : decode cL_law 359 = .ok (.iload 4, 2) := dzu1 ok_21 (by decide +kernel)
theorem dL_law_361 : decode cL_law 361 = .ok (.iconst 4, 1) := dz0 ok_7 (by decide +kernel)
theorem dL_law_362 : decode cL_law 362 = .ok (.iadd, 1) := dz0 ok_96 (by decide +kernel)
theorem dL_law_363 : decode cL_law 363 = .ok (.iaload, 1) := dz0 ok_46 (by decide +kernel)
theorem dL_law_364 : decode cL_law 364 = .ok (.invokevirtual 50, 3) := dzu2 ok_182 (by decide +kernel)
theorem dL_law_367 : decode cL_law 367 = .ok (.pop, 1) := dz0 ok_87 (by decide +kernel)
theorem dL_law_368 : decode cL_law 368 = .ok (.goto 578, 3) := dzs2 ok_167 (by decide +kernel)
theorem dL_law_371 : decode cL_law 371 = .ok (.aload_n 1, 1) := dz0 ok_43 (by decide +kernel)
theorem dL_law_372 : decode cL_law 372 = .ok (.aload_n 0, 1) := dz0 ok_42 (by decide +kernel)
theorem dL_law_373 : decode cL_law 373 = .ok (.iload 4, 2) := dzu1 ok_21 (by decide +kernel)
theorem dL_law_375 : decode cL_law 375 = .ok (.iconst 1, 1) := dz0 ok_4 (by decide +kernel)
theorem dL_law_376 : decode cL_law 376 = .ok (.iadd, 1) := dz0 ok_96 (by decide +kernel)
theorem dL_law_377 : decode cL_law 377 = .ok (.iaload, 1) := dz0 ok_46 (by decide +kernel)
theorem dL_law_378 : decode cL_law 378 = .ok (.aload_n 0, 1) := dz0 ok_42 (by decide +kernel)
theorem dL_law_379 : decode cL_law 379 = .ok (.iload 4, 2) := dzu1 ok_21 (by decide +kernel)
theorem dL_law_381 : decode cL_law 381 = .ok (.iconst 2, 1) := dz0 ok_5 (by decide +kernel)
theorem dL_law_382 : decode cL_law 382 = .ok (.iadd, 1) := dz0 ok_96 (by decide +kernel)
theorem dL_law_383 : decode cL_law 383 = .ok (.iaload, 1) := dz0 ok_46 (by decide +kernel)
theorem dL_law_384 : decode cL_law 384 = .ok (.aload_n 0, 1) := dz0 ok_42 (by decide +kernel)
theorem dL_law_385 : decode cL_law 385 = .ok (.iload 4, 2) := dzu1 ok_21 (by decide +kernel)
theorem dL_law_387 : decode cL_law 387 = .ok (.iconst 3, 1) := dz0 ok_6 (by decide +kernel)
theorem dL_law_388 : decode cL_law 388 = .ok (.iadd, 1) := dz0 ok_96 (by decide +kernel)
theorem dL_law_389 : decode cL_law 389 = .ok (.iaload, 1) := dz0 ok_46 (by decide +kernel)
theorem dL_law_390 : decode cL_law 390 = .ok (.aload_n 0, 1) := dz0 ok_42 (by decide +kernel)
theorem dL_law_391 : decode cL_law 391 = .ok (.iload 4, 2) := dzu1 ok_21 (by decide +kernel)
theorem dL_law_393 : decode cL_law 393 = .ok (.iconst 4, 1) := dz0 ok_7 (by decide +kernel)
theorem dL_law_394 : decode cL_law 394 = .ok (.iadd, 1) := dz0 ok_96 (by decide +kernel)
theorem dL_law_395 : decode cL_law 395 = .ok (.iaload, 1) := dz0 ok_46 (by decide +kernel)
theorem dL_law_396 : decode cL_law 396 = .ok (.ifCond .eq 7, 3) := dzs2 ok_153 (by decide +kernel)
theorem dL_law_399 : decode cL_law 399 = .ok (.iconst 1, 1) := dz0 ok_4 (by decide +kernel)
theorem dL_law_400 : decode cL_law 400 = .ok (.goto 4, 3) := dzs2 ok_167 (by decide +kernel)

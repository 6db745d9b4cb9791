/-- the words of a list, by the gaps between them -/
def pickG : List Nat → List Cond → List Cond
  | [], _ => []
  | g :: gs, l => match l.drop g with
    | [] => []
    | x :: t => x :: pickG gs t
theorem pickG_in : ∀ (gs : List Nat) (l : List Cond), ∀ w ∈ pickG gs l, w ∈ l := by
  intro gs
  induction gs with
  | nil => intro l w h; exact absurd h List.not_mem_nil
  | cons g gs ih =>
    intro l w h
    unfold pickG at h
    split at h
    · exact absurd h List.not_mem_nil
    · rename_i x t e
      have hsub : ∀ w ∈ x :: t, w ∈ l := fun w hw => List.mem_of_mem_drop (i := g) (by rw [e]; exact hw)
      rcases List.mem_cons.mp h with rfl | h
      · exact hsub _ (List.mem_cons_self ..)
      · exact hsub _ (List.mem_cons_of_mem _ (ih t w h))
theorem in_pk {ws t : List Cond} (gs : List Nat) (hp : ws = pickG gs t) : ∀ w ∈ ws, w ∈ t := by
  intro w hw
  rw [hp] at hw
  exact pickG_in gs t w hw
noncomputable def blkL : List (List Cond) := [wsL_law0_r1, wsL_law0_r2, wsL_law0_r3, wsL_law0_r4, wsL_law0_r5, wsL_law0_r6, wsL_law0_r7, wsL_law0_r8, wsL_law0_r9, wsL_law0_r10, wsL_law0_r11, wsL_law0_r12, wsL_law0_r13, wsL_law0_r14, wsL_law0_r15, wsL_law0_r16, wsL_law0_r17, wsL_law0_r18, wsL_law0_r19, wsX20, wsX30, wsX10, wsX00, (vx_at0 RX2 61 "java/util/NoSuchElementException" ["java/lang/RuntimeException", "java/lang/Exception"]).filter goodWord]
theorem blkL_eq : blkL.flatten = wsL_law := by simp only [blkL, wsL_law, wsL_law0, List.flatten_cons, List.flatten_nil, List.append_assoc, List.append_nil, List.nil_append]
theorem goodIn_l (ws : List Cond) (ps : List (Nat × Nat)) (hp : ws = ps.filterMap (fun q => (blkL[q.1]?).bind (fun b => b[q.2]?))) (h : ws.all goodWord = true) : GoodIn wsL_law ws := by
  intro w hw
  have h1 := List.all_eq_true.mp h w hw
  rw [hp] at hw
  obtain ⟨q, -, hq⟩ := List.mem_filterMap.mp hw
  obtain ⟨b, hb, hw⟩ := Option.bind_eq_some_iff.mp hq
  have hm : w ∈ blkL.flatten := List.mem_flatten.mpr ⟨b, List.mem_of_getElem? hb, List.mem_of_getElem? hw⟩
  rw [blkL_eq] at hm
  exact ⟨hm, good_of_word h1⟩
theorem jall {a b c : List Cond} (ha : ∀ w ∈ a, w ∈ c) (hb : ∀ w ∈ b, w ∈ c) : ∀ w ∈ a ++ b, w ∈ c := fun w h => (List.mem_append.mp h).elim (ha w) (hb w)
set_option maxRecDepth 100000 in
theorem in_wsL_law0_r1 : ∀ w ∈ wsL_law0_r1, w ∈ lw_tbl := in_pk [0, 0, 0, 0, 0, 0, 0, 0, 0, 0, 0, 0, 0, 0, 0, 0, 0, 0, 0, 0, 1, 0, 0, 0] (by first | exact rfl | decide +kernel)
set_option maxRecDepth 100000 in
theorem in_wsL_law0_r2 : ∀ w ∈ wsL_law0_r2, w ∈ lw_tbl := in_pk [25, 0, 0, 0, 0, 0, 0, 0, 0, 0, 0, 3, 0, 0, 0, 0, 0, 0, 0, 0, 0, 0, 0, 0] (by first | exact rfl | decide +kernel)
set_option maxRecDepth 100000 in
theorem in_wsL_law0_r3 : ∀ w ∈ wsL_law0_r3, w ∈ lw_tbl := in_pk [52, 0, 0, 0, 0, 0, 10, 0, 1, 1, 0, 0, 0, 0, 1, 1, 1, 1, 1, 1, 1, 1, 1, 1] (by first | exact rfl | decide +kernel)
set_option maxRecDepth 100000 in
theorem in_wsL_law0_r4 : ∀ w ∈ wsL_law0_r4, w ∈ lw_tbl := in_pk [124, 0, 0, 0, 0, 0, 0, 0, 0, 0, 0, 23, 0, 0, 0, 0, 1, 0, 0, 0, 0, 0, 0, 0] (by first | exact rfl | decide +kernel)
set_option maxRecDepth 100000 in
theorem in_wsL_law0_r5 : ∀ w ∈ wsL_law0_r5, w ∈ lw_tbl := in_pk [172, 0, 0, 0, 0, 0, 1, 0, 0, 0, 0, 0, 0, 0, 0, 0, 0, 0, 0, 0, 1, 0, 0, 1] (by first | exact rfl | decide +kernel)
set_option maxRecDepth 100000 in
theorem in_wsL_law0_r6 : ∀ w ∈ wsL_law0_r6, w ∈ lw_tbl := in_pk [199, 0, 0, 1, 0, 0, 0, 0, 0, 0, 1, 0, 0, 1, 0, 0, 0, 0, 0, 0, 0, 0, 0, 0] (by first | exact rfl | decide +kernel)
set_option maxRecDepth 100000 in
theorem in_wsL_law0_r7 : ∀ w ∈ wsL_law0_r7, w ∈ lw_tbl := in_pk [226, 0, 0, 0, 0, 0, 0, 0, 0, 0, 0, 1, 0, 0, 1, 0, 0, 1, 0, 0, 1, 0, 0, 1] (by first | exact rfl | decide +kernel)
set_option maxRecDepth 100000 in
theorem in_wsL_law0_r8 : ∀ w ∈ wsL_law0_r8, w ∈ lw_tbl := in_pk [255, 0, 1, 0, 0, 0, 0, 0, 0, 0, 0, 0, 0, 0, 0, 0, 0, 0, 0, 0, 0, 0, 0, 0] (by first | exact rfl | decide +kernel)
set_option maxRecDepth 100000 in
theorem in_wsL_law0_r9 : ∀ w ∈ wsL_law0_r9, w ∈ lw_tbl := in_pk [280, 0, 1, 0, 0, 0, 0, 0, 0, 0, 0, 0, 0, 1, 0, 0, 1, 0, 0, 0, 0, 0, 0, 0] (by first | exact rfl | decide +kernel)
set_option maxRecDepth 100000 in
theorem in_wsL_law0_r10 : ∀ w ∈ wsL_law0_r10, w ∈ lw_tbl := in_pk [307, 0, 0, 0, 0, 0, 0, 0, 0, 0, 0, 0, 0, 0, 0, 1, 0, 0, 0, 0, 0, 0, 1, 0] (by first | exact rfl | decide +kernel)
set_option maxRecDepth 100000 in
theorem in_wsL_law0_r11 : ∀ w ∈ wsL_law0_r11, w ∈ lw_tbl := in_pk [333, 0, 1, 0, 0, 1, 0, 0, 0, 0, 0, 0, 0, 0, 0, 0, 0, 0, 0, 0, 0, 0, 0, 0] (by first | exact rfl | decide +kernel)
set_option maxRecDepth 100000 in
theorem in_wsL_law0_r12 : ∀ w ∈ wsL_law0_r12, w ∈ lw_tbl := in_pk [359, 0, 0, 0, 0, 0, 0, 0, 0, 0, 0, 0, 60, 0, 0, 0, 0, 0, 0, 0, 0, 0, 0, 0] (by first | exact rfl | decide +kernel)
set_option maxRecDepth 100000 in
theorem in_wsL_law0_r13 : ∀ w ∈ wsL_law0_r13, w ∈ lw_tbl := in_pk [443, 0, 0, 0, 0, 0, 0, 0, 0, 0, 0, 0, 0, 0, 0, 0, 0, 0, 0, 0, 0, 0, 0, 0] (by first | exact rfl | decide +kernel)
set_option maxRecDepth 100000 in
theorem in_wsL_law0_r14 : ∀ w ∈ wsL_law0_r14, w ∈ lw_tbl := in_pk [467, 35, 0, 0, 0, 0, 0, 0, 0, 0, 0, 0, 0, 0, 0, 0, 0, 0, 0, 0, 0, 0, 0, 0] (by first | exact rfl | decide +kernel)
set_option maxRecDepth 100000 in
theorem in_wsL_law0_r15 : ∀ w ∈ wsL_law0_r15, w ∈ lw_tbl := in_pk [526, 0, 0, 0, 0, 0, 0, 0, 0, 0, 0, 0, 1, 0, 0, 1, 0, 0, 0, 1, 0, 0, 1, 0] (by first | exact rfl | decide +kernel)
set_option maxRecDepth 100000 in
theorem in_wsL_law0_r16 : ∀ w ∈ wsL_law0_r16, w ∈ lw_tbl := in_pk [554, 0, 0, 0, 1, 0, 0, 1, 0, 0, 0, 0, 0, 0, 0, 0, 0, 0, 0, 0, 0, 0, 0, 0] (by first | exact rfl | decide +kernel)
set_option maxRecDepth 100000 in
theorem in_wsL_law0_r17 : ∀ w ∈ wsL_law0_r17, w ∈ lw_tbl := in_pk [580, 0, 0, 0, 0, 0, 0, 1, 0, 0, 0, 0, 0, 0, 0, 0, 0, 0, 0, 0, 0, 0, 0, 0] (by first | exact rfl | decide +kernel)
set_option maxRecDepth 100000 in
theorem in_wsL_law0_r18 : ∀ w ∈ wsL_law0_r18, w ∈ lw_tbl := in_pk [605, 0, 1, 0, 0, 1, 0, 0, 1, 0, 0, 0, 0, 0, 0, 0, 0, 0, 0, 0, 0, 0, 0, 0] (by first | exact rfl | decide +kernel)
set_option maxRecDepth 100000 in
theorem in_wsL_law0_r19 : ∀ w ∈ wsL_law0_r19, w ∈ lw_tbl := in_pk [632, 0, 0, 0, 0, 0, 0] (by first | exact rfl | decide +kernel)
theorem in_wsX20 : ∀ w ∈ wsX20, w ∈ lw_tbl := by decide +kernel
theorem in_wsX30 : ∀ w ∈ wsX30, w ∈ lw_tbl := by decide +kernel
theorem in_wsX10 : ∀ w ∈ wsX10, w ∈ lw_tbl := by decide +kernel
theorem in_wsX00 : ∀ w ∈ wsX00, w ∈ lw_tbl := by decide +kernel
theorem wsL_law_in0 : ∀ w ∈ wsL_law0, w ∈ lw_tbl := (jall (jall (jall (jall (jall (jall in_wsL_law0_r1 (jall in_wsL_law0_r2 (jall in_wsL_law0_r3 (jall in_wsL_law0_r4 (jall in_wsL_law0_r5 (jall in_wsL_law0_r6 (jall in_wsL_law0_r7 (jall in_wsL_law0_r8 (jall in_wsL_law0_r9 (jall in_wsL_law0_r10 (jall in_wsL_law0_r11 (jall in_wsL_law0_r12 (jall in_wsL_law0_r13 (jall in_wsL_law0_r14 (jall in_wsL_law0_r15 (jall in_wsL_law0_r16 (jall in_wsL_law0_r17 (jall in_wsL_law0_r18 in_wsL_law0_r19)))))))))))))))))) in_wsX20) in_wsX30) in_wsX10) in_wsX00) (fun _ h => absurd h List.not_mem_nil))
theorem wsL_law_x0 : ∀ w ∈ (vx_at0 RX2 61 "java/util/NoSuchElementException" ["java/lang/RuntimeException", "java/lang/Exception"]).filter goodWord, w ∈ lw_tbl := by decide +kernel
theorem wsL_law_in : ∀ w ∈ wsL_law, w ∈ lw_tbl := fun w h => (List.mem_append.mp h).elim (fun h => wsL_law_in0 w h) (fun h => wsL_law_x0 w h)
theorem inlX0 : ∀ w ∈ wsX00, w ∈ wsL_law := fun _ h => List.mem_append_left _ (List.mem_append_left _ (List.mem_append_right _ h))
theorem inX0 : ∀ w ∈ wsX00, w ∈ lw_tbl := fun w h => wsL_law_in w (inlX0 w h)
theorem inlX1 : ∀ w ∈ wsX10, w ∈ wsL_law := fun _ h => List.mem_append_left _ (List.mem_append_left _ (List.mem_append_left _ (List.mem_append_right _ h)))
theorem inX1 : ∀ w ∈ wsX10, w ∈ lw_tbl := fun w h => wsL_law_in w (inlX1 w h)
theorem inlX2 : ∀ w ∈ wsX20, w ∈ wsL_law := fun _ h => List.mem_append_left _ (List.mem_append_left _ (List.mem_append_left _ (List.mem_append_left _ (List.mem_append_left _ (List.mem_append_right _ h)))))
theorem inX2 : ∀ w ∈ wsX20, w ∈ lw_tbl := fun w h => wsL_law_in w (inlX2 w h)
theorem inlX3 : ∀ w ∈ wsX30, w ∈ wsL_law := fun _ h => List.mem_append_left _ (List.mem_append_left _ (List.mem_append_left _ (List.mem_append_left _ (List.mem_append_right _ h))))
theorem inX3 : ∀ w ∈ wsX30, w ∈ lw_tbl := fun w h => wsL_law_in w (inlX3 w h)

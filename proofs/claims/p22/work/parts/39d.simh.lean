/-! The pure side in general, 8: tail, resume, engine; the log, the commands' row, counts -/
theorem rE3 {x m : Nat → Int32} {p : Nat} (h : rE x m p) (v : Int32) : rE (upd x 3 v) (upd m (p + 3) v) p := by
  obtain ⟨h0, h1, h2, h3, h4, h5, ⟨s, q, hs, hq, e1, e2⟩, h6⟩ := h
  refine ⟨by simp [upd, h0], by simp [upd, h1], by simp [upd, h2], by simp [upd], by simp [upd, h4], by simp [upd, h5], ⟨s, q, hs, hq, by simp [upd, e1], by simp [upd, e2]⟩, ?_⟩
  rcases h6 with ⟨a, b⟩ | ⟨a, n, c, a1, a2, a3, a4, a5, a6, a7, a8, a9⟩
  · exact Or.inl ⟨by simp [upd, a], by simp [upd, b]⟩
  · exact Or.inr ⟨by simp [upd, a], n, c, a1, a2, by simp [upd, a3], by simp [upd, a4], by simp [upd, a5], by simp [upd, a6], by simp [upd, a7], by simp [upd, a8], by simp [upd, a9]⟩
theorem rE4 {x m : Nat → Int32} {p : Nat} (h : rE x m p) (v : Int32) : rE (upd x 4 v) (upd m (p + 4) v) p := by
  obtain ⟨h0, h1, h2, h3, h4, h5, ⟨s, q, hs, hq, e1, e2⟩, h6⟩ := h
  refine ⟨by simp [upd, h0], by simp [upd, h1], by simp [upd, h2], by simp [upd, h3], by simp [upd], by simp [upd, h5], ⟨s, q, hs, hq, by simp [upd, e1], by simp [upd, e2]⟩, ?_⟩
  rcases h6 with ⟨a, b⟩ | ⟨a, n, c, a1, a2, a3, a4, a5, a6, a7, a8, a9⟩
  · exact Or.inl ⟨by simp [upd, a], by simp [upd, b]⟩
  · exact Or.inr ⟨by simp [upd, a], n, c, a1, a2, by simp [upd, a3], by simp [upd, a4], by simp [upd, a5], by simp [upd, a6], by simp [upd, a7], by simp [upd, a8], by simp [upd, a9]⟩
theorem rE6 {x m : Nat → Int32} {p : Nat} (h : rE x m p) : rE (upd x 6 0) (upd m (p + 6) (-1)) p := by
  obtain ⟨h0, h1, h2, h3, h4, h5, ⟨s, q, hs, hq, e1, e2⟩, h6⟩ := h
  exact ⟨by simp [upd, h0], by simp [upd, h1], by simp [upd, h2], by simp [upd, h3], by simp [upd, h4], by simp [upd, h5], ⟨s, q, hs, hq, by simp [upd, e1], by simp [upd, e2]⟩, Or.inl ⟨by simp [upd], by simp [upd]⟩⟩
theorem updo {m : Nat → Int32} {p k : Nat} {v : Int32} (hk : k < 11) : ∀ q, (q < p ∨ p + 11 ≤ q) → upd m (p + k) v q = m q := fun q hq => upd_n _ _ (by omega)
theorem upd23 (y : Nat → Int32) (v : Int32) : upd y 3 v 2 = y 2 := by simp [upd]
theorem upd33 (y : Nat → Int32) (v : Int32) : upd y 3 v 3 = v := by simp [upd]
theorem upd43 (y : Nat → Int32) (v : Int32) : upd y 3 v 4 = y 4 := by simp [upd]
theorem upd44 (y : Nat → Int32) (v : Int32) : upd y 4 v 4 = v := by simp [upd]
theorem upd26 (y : Nat → Int32) (v : Int32) : upd y 6 v 2 = y 2 := by simp [upd]
theorem upd36 (y : Nat → Int32) (v : Int32) : upd y 6 v 3 = y 3 := by simp [upd]
/-- tail, on both sides -/
theorem tail_sim (x1 x2 : Int32) {E : Nat → Nat → Int32} {m : Nat → Int32} (th : Int32) (h : rEs E m) : ∃ (r : Int32) (E2 : Nat → Nat → Int32) (m2 : Nat → Int32), FX2_tail x1 x2 E = some (r, E2) ∧ FX3_tail x1 x2 m th = some (r, m2, 0) ∧ rEs E2 m2 := by
  by_cases h0 : x1 < 0 ∨ 8 ≤ x1
  · exact ⟨-1, E, m, by unfold FX2_tail; rw [ib0 h0]; rfl, by unfold FX3_tail; rw [id0 h0]; rfl, h⟩
  rw [not_or] at h0
  unfold FX2_tail FX3_tail
  have hi := inbo (x := x1) (n := 8) (N := 8) rfl (by decide) h0.1 h0.2
  rw [ib1 h0.1 h0.2, id1 h0.1 h0.2, bd1_e, bd1_e, if_neg n10, if_neg n10, gd_t hi]
  obtain ⟨d, hd, rfl⟩ := dev_of h0.1 h0.2
  have hE := h d hd
  obtain ⟨q0, q1, q2, q3, q4, q5, ⟨s, hh, hs, hhs, es, eh⟩, q6⟩ := id hE
  rw [nI_cl (i := d) (by omega), e11, e11k d (k := 1) (j := 1) rfl, e11k d (k := 2) (j := 2) rfl, e11k d (k := 3) (j := 3) rfl, e11k d (k := 4) (j := 4) rfl, cl11 hd (by omega), cl11 hd (by omega), cl11 hd (by omega), cl11 hd (by omega), q1]
  simp only [va_up_self, upd23, upd33, upd43, upd44]
  by_cases a0 : x2 < 0
  · exact ⟨-1, E, m, by rw [ib0 (Or.inl a0)]; rfl, by rw [if_pos a0], h⟩
  rw [if_neg a0, gd_t (inb11 hd (by omega))]
  by_cases a1 : E d 1 ≤ x2
  · refine ⟨-1, E, m, by rw [ib0 (Or.inr a1)]; rfl, ?_, h⟩
    rw [if_neg (fun q => by rw [Int32.lt_iff_toInt_lt] at q; rw [Int32.le_iff_toInt_le] at a1; omega)]
  rw [ib1 a0 a1, bd1_e, if_neg n10, gd_t hi, if_pos (show x2 < E d 1 by rw [Int32.lt_iff_toInt_lt]; rw [Int32.le_iff_toInt_le] at a1; omega), gd_t (inb11 hd (by omega)), gd_t (inb11 hd (by omega)), gd_t (inb11 hd (by omega)), gd_t (inb11 hd (by omega)), gd_t (inb11 hd (by omega))]
  have w4 : upd m (11 * d + 3) x2 (11 * d + 4) = E d 4 := by rw [upd_n _ _ (by omega), q4]
  have w2 : upd m (11 * d + 3) x2 (11 * d + 2) = E d 2 := by rw [upd_n _ _ (by omega), q2]
  rw [w4, w2]
  have hR := rEs_set h (rE3 hE x2) (updo (by omega))
  by_cases b0 : E d 4 = 0
  · rw [if_pos b0, if_pos b0]
    by_cases b1 : x2 = E d 2
    · rw [if_pos b1, if_pos b1.symm]
      exact ⟨_, _, _, rfl, rfl, hR⟩
    · rw [if_neg b1, if_neg (fun q => b1 q.symm), upd_s, gd_t (inb11 hd (by omega))]
      refine ⟨_, _, _, rfl, rfl, ?_⟩
      exact rEs_set (d := d) hR (rE4 (rE3 hE x2) 1) (updo (k := 4) (v := 1) (by omega))
  · rw [if_neg b0, if_neg b0]
    exact ⟨_, _, _, rfl, rfl, hR⟩
/-- resume, on both sides -/
theorem resume_sim (x1 : Int32) {E : Nat → Nat → Int32} {m : Nat → Int32} (th : Int32) (h : rEs E m) : ∃ (r : Int32) (E2 : Nat → Nat → Int32) (m2 : Nat → Int32), FX2_resume x1 E = some (r, E2) ∧ FX3_resume x1 m th = some (r, m2, 0) ∧ rEs E2 m2 := by
  by_cases h0 : x1 < 0 ∨ 8 ≤ x1
  · exact ⟨-1, E, m, by unfold FX2_resume; rw [ib0 h0]; rfl, by unfold FX3_resume; rw [id0 h0]; rfl, h⟩
  rw [not_or] at h0
  unfold FX2_resume FX3_resume
  have hi := inbo (x := x1) (n := 8) (N := 8) rfl (by decide) h0.1 h0.2
  rw [ib1 h0.1 h0.2, id1 h0.1 h0.2, bd1_e, bd1_e, if_neg n10, if_neg n10, gd_t hi]
  obtain ⟨d, hd, rfl⟩ := dev_of h0.1 h0.2
  have hE := h d hd
  obtain ⟨q0, q1, q2, q3, q4, q5, ⟨s, hh, hs, hhs, es, eh⟩, q6⟩ := id hE
  rw [nI_cl (i := d) (by omega), e11, e11k d (k := 2) (j := 2) rfl, e11k d (k := 3) (j := 3) rfl, e11k d (k := 4) (j := 4) rfl, e11k d (k := 6) (j := 6) rfl, cl11 hd (by omega), cl11 hd (by omega), cl11 hd (by omega), cl11 hd (by omega), q4]
  simp only [va_up_self, upd26, upd36, upd44]
  rw [gd_t (inb11 hd (by omega))]
  by_cases b0 : E d 4 = 2
  · have w2 : upd m (11 * d + 6) (-1) (11 * d + 2) = E d 2 := by rw [upd_n _ _ (by omega), q2]
    have w3 : upd m (11 * d + 6) (-1) (11 * d + 3) = E d 3 := by rw [upd_n _ _ (by omega), q3]
    have hR := rEs_set h (rE6 hE) (updo (by omega))
    rw [if_pos b0, if_pos b0, gd_t hi, gd_t (inb11 hd (by omega)), gd_t (inb11 hd (by omega)), gd_t (inb11 hd (by omega)), gd_t (inb11 hd (by omega)), gd_t (inb11 hd (by omega)), gd_t (inb11 hd (by omega)), gd_t (inb11 hd (by omega)), w2, w3]
    by_cases b1 : E d 2 = E d 3
    · rw [if_pos b1, if_pos b1, upd_s]
      refine ⟨_, _, _, rfl, rfl, ?_⟩
      exact rEs_set (d := d) hR (rE4 (rE6 hE) 0) (updo (k := 4) (v := 0) (by omega))
    · rw [if_neg b1, if_neg b1, upd_s]
      refine ⟨_, _, _, rfl, rfl, ?_⟩
      exact rEs_set (d := d) hR (rE4 (rE6 hE) 1) (updo (k := 4) (v := 1) (by omega))
  · rw [if_neg b0, if_neg b0]
    exact ⟨_, _, _, rfl, rfl, h⟩
/-- engine, on both sides -/
theorem engine_sim (x1 x2 : Int32) {E : Nat → Nat → Int32} {m : Nat → Int32} (th : Int32) (h : rEs E m) : ∃ (r : Int32), FX2_engine x1 x2 E = some r ∧ FX3_engine x1 x2 m th = some (r, 0) := by
  by_cases h0 : x1 < 0 ∨ 8 ≤ x1
  · exact ⟨-1, by unfold FX2_engine; rw [ib0 h0]; rfl, by unfold FX3_engine; rw [id0 h0]; rfl⟩
  rw [not_or] at h0
  unfold FX2_engine FX3_engine
  have hi := inbo (x := x1) (n := 8) (N := 8) rfl (by decide) h0.1 h0.2
  rw [ib1 h0.1 h0.2, id1 h0.1 h0.2, bd1_e, bd1_e, if_neg n10, if_neg n10, gd_t hi]
  obtain ⟨d, hd, rfl⟩ := dev_of h0.1 h0.2
  obtain ⟨q0, q1, q2, q3, q4, q5, -, q6⟩ := h d hd
  rw [nI_cl (i := d) (by omega), e11, e11k d (k := 2) (j := 2) rfl, e11k d (k := 3) (j := 3) rfl, e11k d (k := 4) (j := 4) rfl, e11k d (k := 5) (j := 5) rfl, e11k d (k := 6) (j := 6) rfl, gd_t (inb11 hd (by omega)), gd_t (inb11 hd (by omega)), gd_t (inb11 hd (by omega)), gd_t (inb11 hd (by omega)), gd_t (inb11 hd (by omega)), cl11 hd (by omega), cl11 hd (by omega), cl11 hd (by omega), cl11 hd (by omega), cl11 hd (by omega), q2, q3, q4, q5]
  by_cases k0 : x2 = 0
  · exact ⟨_, by rw [if_pos k0], by rw [if_pos k0]⟩
  rw [if_neg k0, if_neg k0]
  by_cases k1 : x2 = 1
  · exact ⟨_, by rw [if_pos k1], by rw [if_pos k1]⟩
  rw [if_neg k1, if_neg k1]
  by_cases k2 : x2 = 2
  · exact ⟨_, by rw [if_pos k2], by rw [if_pos k2]⟩
  rw [if_neg k2, if_neg k2]
  by_cases k3 : x2 = 3
  · exact ⟨_, by rw [if_pos k3], by rw [if_pos k3]⟩
  rw [if_neg k3, if_neg k3]
  by_cases k4 : x2 = 4
  · rw [if_pos k4, if_pos k4]
    rcases q6 with ⟨a, b⟩ | ⟨a, n, c, a1, a2, a3, a4, -⟩
    · rw [if_pos a, b]; exact ⟨_, rfl, rfl⟩
    · rw [if_neg (by rw [a]; decide), a3, a4]; exact ⟨_, rfl, rfl⟩
  rw [if_neg k4, if_neg k4]
  exact ⟨_, rfl, rfl⟩

/-! The pure side in general, 12: step, on both sides -/
theorem step_loop {e : Nat} (he : e < 8) {N : Nat} (hN : N ≤ 1000) {t : Nat} (ht : t ≤ 16368) (th : Int32) : ∀ (n k : Nat) (M : Nat → Int32) (lf tr lh ov ft mpl : Int32) (c l f : Nat) (B mB BL mL BF mR : Nat → Int32) (E : Nat → Nat → Int32) (mE : Nat → Int32), rC c B mB → rL l BL mL → rF f BF mR → rEs E mE → k ≤ N → N - k < n →
    ∃ (r : Int32) (M2 : Nat → Int32) (c2 l2 f2 : Nat) (B2 mB2 BL2 mL2 BF2 mR2 : Nat → Int32) (E2 : Nat → Nat → Int32) (mE2 : Nat → Int32) (t2 lh2 ov2 lf2 ft2 pl : Int32), rC c2 B2 mB2 ∧ rL l2 BL2 mL2 ∧ rF f2 BF2 mR2 ∧ rEs E2 mE2 ∧ FX2_step_32 (nI e) (nI N) n M (nI c) B (nI l) BL (nI f) BF E (nI t) lf tr lh ov (nI k) = some (r, M2, nI c2, B2, nI l2, BL2, nI f2, BF2, E2, lf2, t2, lh2, ov2) ∧ FX3_step_27 (nI e) (nI N) n M mB mL mR mE (nI t) (nI c) (nI l) (nI f) ov tr lh ft th mpl (nI k) = some (r, M2, mB2, mL2, mR2, mE2, nI c2, nI l2, nI f2, ov2, t2, lh2, ft2, th, pl) := by
  intro n
  induction n with
  | zero => intro k M lf tr lh ov ft mpl c l f B mB BL mL BF mR E mE hC hL hF hE hk h; omega
  | succ n ih =>
    intro k M lf tr lh ov ft mpl c l f B mB BL mL BF mR E mE hC hL hF hE hk hn
    rw [FX2_step_32, FX3_step_27]
    by_cases h : N ≤ k
    · rw [if_pos (nI_le h (by omega)), if_pos (nI_le h (by omega))]
      exact ⟨_, M, c, l, f, B, mB, BL, mL, BF, mR, E, mE, tr, lh, ov, lf, ft, mpl, hC, hL, hF, hE, rfl, rfl⟩
    have h2 : ¬ nI N ≤ nI k := by rw [nI_leI (by omega) (by omega)]; exact h
    obtain ⟨q0, q1, q2, q3, q4, q5, -, q6⟩ := hE e he
    have i4 : inb (nI (11 * e + 4)) 88 = true := nI_inb (by omega) (by omega)
    have c4 : (nI (11 * e + 4)).toNatClampNeg = 11 * e + 4 := nI_cl (by omega)
    have ce : (nI e).toNatClampNeg = e := nI_cl (by omega)
    rw [if_neg h2, if_neg h2]
    simp only [e11, ea4, i4, c4, ce, gdt, q4, nI_1]
    by_cases h4 : E e 4 = 1
    · rw [if_pos h4, if_pos h4, go_eq he]
      by_cases h6 : E e 6 = 0
      · have m6 : mE (11 * e + 6) = -1 := by
          rcases q6 with ⟨a, b⟩ | ⟨a, b⟩
          · exact b
          · rw [h6] at a
            exact absurd a (by decide)
        rw [if_pos h6, if_pos m6]
        obtain ⟨w, c2, l2, f2, B2, mB2, BL2, mL2, BF2, mR2, E2, mE2, t2, lh2, ov2, lf2, pl, hw, hC2, hL2, hF2, hE2, g, m⟩ := take_sim he ht M lf tr lh ov ft mpl hC hL hF hE h6
        rw [g, m, bd12_e, bd14_e]
        rcases hw with rfl | rfl
        · rw [if_pos rfl, if_pos rfl]
          exact ih (k + 1) M lf2 t2 lh2 ov2 lf2 pl c2 l2 f2 B2 mB2 BL2 mL2 BF2 mR2 _ _ hC2 hL2 hF2 (rEs_set hE2 (rE4 (hE2 e he) 2) (updo (k := 4) (by omega))) (by omega) (by omega)
        · rw [if_neg n10, if_neg n10]
          exact ih (k + 1) M lf2 t2 lh2 ov2 lf2 pl c2 l2 f2 B2 mB2 BL2 mL2 BF2 mR2 E2 mE2 hC2 hL2 hF2 hE2 (by omega) (by omega)
      · have m6 : ¬ mE (11 * e + 6) = -1 ∧ (E e 9 ≤ E e 11 ↔ mE (11 * e + 9) ≤ mE (11 * e + 6)) := by
          rcases q6 with ⟨a, b⟩ | ⟨a, n, i, hn, hi, a1, a2, a3, a4, a5, a6, a7⟩
          · exact absurd a h6
          · rw [a1, a2, a3, a4]
            exact ⟨fun q => nI_pos (n := i) (by omega) (by rw [q]; decide), Iff.rfl⟩
        rw [if_neg h6, if_neg m6.1]
        by_cases h9 : E e 9 ≤ E e 11
        · rw [if_pos h9, if_pos (m6.2.mp h9)]
          obtain ⟨w, M2, c2, l2, f2, B2, mB2, BL2, mL2, BF2, mR2, E2, mE2, t2, lh2, ov2, lf2, pl, hw, hC2, hL2, hF2, hE2, g, m⟩ := finish_sim he ht M lf tr lh ov ft mpl hC hL hF hE h6
          rw [g, m, bd13_e, bd14_e]
          rcases hw with rfl | rfl
          · rw [if_pos rfl, if_pos rfl]
            exact ih (k + 1) M2 lf2 t2 lh2 ov2 lf2 pl c2 l2 f2 B2 mB2 BL2 mL2 BF2 mR2 _ _ hC2 hL2 hF2 (rEs_set hE2 (rE4 (hE2 e he) 2) (updo (k := 4) (by omega))) (by omega) (by omega)
          · rw [if_neg n10, if_neg n10]
            exact ih (k + 1) M2 lf2 t2 lh2 ov2 lf2 pl c2 l2 f2 B2 mB2 BL2 mL2 BF2 mR2 E2 mE2 hC2 hL2 hF2 hE2 (by omega) (by omega)
        · rw [if_neg h9, if_neg (fun q => h9 (m6.2.mpr q))]
          obtain ⟨w, M2, c2, l2, f2, B2, mB2, BL2, mL2, BF2, mR2, E2, mE2, t2, lh2, ov2, lf2, pl, hw, hC2, hL2, hF2, hE2, g, m⟩ := copy_sim he ht M lf tr lh ov ft mpl hC hL hF hE h6 h9
          rw [g, m, bd13_e, bd14_e]
          rcases hw with rfl | rfl
          · rw [if_pos rfl, if_pos rfl]
            exact ih (k + 1) M2 lf2 t2 lh2 ov2 lf2 pl c2 l2 f2 B2 mB2 BL2 mL2 BF2 mR2 _ _ hC2 hL2 hF2 (rEs_set hE2 (rE4 (hE2 e he) 2) (updo (k := 4) (by omega))) (by omega) (by omega)
          · rw [if_neg n10, if_neg n10]
            exact ih (k + 1) M2 lf2 t2 lh2 ov2 lf2 pl c2 l2 f2 B2 mB2 BL2 mL2 BF2 mR2 E2 mE2 hC2 hL2 hF2 hE2 (by omega) (by omega)
    · rw [if_neg h4, if_neg h4]
      exact ⟨_, M, c, l, f, B, mB, BL, mL, BF, mR, E, mE, tr, lh, ov, lf, ft, mpl, hC, hL, hF, hE, rfl, rfl⟩
/-- step, on both sides -/
theorem step_sim (x1 x2 : Int32) {t : Nat} (ht : t ≤ 16368) (M : Nat → Int32) (lf tr lh ov ft th mpl : Int32) {c l f : Nat} {B mB BL mL BF mR : Nat → Int32} {E : Nat → Nat → Int32} {mE : Nat → Int32} (hC : rC c B mB) (hL : rL l BL mL) (hF : rF f BF mR) (hE : rEs E mE) :
    ∃ (r : Int32) (M2 : Nat → Int32) (c2 l2 f2 : Nat) (B2 mB2 BL2 mL2 BF2 mR2 : Nat → Int32) (E2 : Nat → Nat → Int32) (mE2 : Nat → Int32) (t2 lh2 ov2 lf2 ft2 pl : Int32), rC c2 B2 mB2 ∧ rL l2 BL2 mL2 ∧ rF f2 BF2 mR2 ∧ rEs E2 mE2 ∧ FX2_step x1 x2 M (nI c) B (nI l) BL (nI f) BF E (nI t) lf tr lh ov = some (r, M2, nI c2, B2, nI l2, BL2, nI f2, BF2, E2, lf2, t2, lh2, ov2) ∧ FX3_step x1 x2 M mB mL mR mE (nI t) (nI c) (nI l) (nI f) ov tr lh ft th mpl = some (r, M2, mB2, mL2, mR2, mE2, nI c2, nI l2, nI f2, ov2, t2, lh2, ft2, 0, pl) := by
  by_cases h0 : x1 < 0 ∨ 8 ≤ x1
  · exact ⟨-1, M, c, l, f, B, mB, BL, mL, BF, mR, E, mE, tr, lh, ov, lf, ft, mpl, hC, hL, hF, hE, by unfold FX2_step; rw [ib0 h0]; rfl, by unfold FX3_step; rw [id0 h0]; rfl⟩
  rw [not_or] at h0
  unfold FX2_step FX3_step
  rw [ib1 h0.1 h0.2, id1 h0.1 h0.2, bd1_e, bd1_e, if_neg n10, if_neg n10]
  by_cases a0 : x2 < 0
  · rw [if_pos a0, if_pos a0]
    exact ⟨-1, M, c, l, f, B, mB, BL, mL, BF, mR, E, mE, tr, lh, ov, lf, ft, mpl, hC, hL, hF, hE, rfl, rfl⟩
  rw [if_neg a0, if_neg a0]
  by_cases a1 : x2 ≤ 1000
  · rw [if_pos a1, if_pos a1, gd_t (inbo (n := 8) rfl (by decide) h0.1 h0.2)]
    obtain ⟨e, he, rfl⟩ := dev_of h0.1 h0.2
    obtain ⟨N, hN, rfl⟩ := nI_of a0
    rw [show (1000 : Int32) = nI 1000 from rfl, nI_leI hN (by omega)] at a1
    exact step_loop he a1 ht 0 fuel 0 M lf tr lh ov ft mpl c l f B mB BL mL BF mR E mE hC hL hF hE (by omega) (by unfold fuel; omega)
  · rw [if_neg a1, if_neg a1]
    exact ⟨-1, M, c, l, f, B, mB, BL, mL, BF, mR, E, mE, tr, lh, ov, lf, ft, mpl, hC, hL, hF, hE, rfl, rfl⟩

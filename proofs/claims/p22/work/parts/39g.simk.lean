/-! The pure side in general, 11: the three kinds of a step, on both sides -/
theorem bd13_e {α1 α2 α3 α4 α5 α6 α7 α8 α9 α10 α11 α12 α13 γ : Type} (x1 : α1) (x2 : α2) (x3 : α3) (x4 : α4) (x5 : α5) (x6 : α6) (x7 : α7) (x8 : α8) (x9 : α9) (x10 : α10) (x11 : α11) (x12 : α12) (x13 : α13) (f : α1 → α2 → α3 → α4 → α5 → α6 → α7 → α8 → α9 → α10 → α11 → α12 → α13 → Option γ) : bd13 (some (x1, x2, x3, x4, x5, x6, x7, x8, x9, x10, x11, x12, x13)) f = f x1 x2 x3 x4 x5 x6 x7 x8 x9 x10 x11 x12 x13 := rfl
theorem bd14_e {α1 α2 α3 α4 α5 α6 α7 α8 α9 α10 α11 α12 α13 α14 γ : Type} (x1 : α1) (x2 : α2) (x3 : α3) (x4 : α4) (x5 : α5) (x6 : α6) (x7 : α7) (x8 : α8) (x9 : α9) (x10 : α10) (x11 : α11) (x12 : α12) (x13 : α13) (x14 : α14) (f : α1 → α2 → α3 → α4 → α5 → α6 → α7 → α8 → α9 → α10 → α11 → α12 → α13 → α14 → Option γ) : bd14 (some (x1, x2, x3, x4, x5, x6, x7, x8, x9, x10, x11, x12, x13, x14)) f = f x1 x2 x3 x4 x5 x6 x7 x8 x9 x10 x11 x12 x13 x14 := rfl
theorem va_up_up {α : Type} (E : Nat → α) (j : Nat) (x y : α) : va_up (va_up E j x) j y = va_up E j y := by
  funext k
  by_cases h : k = j
  · subst h
    rw [va_up_self, va_up_self]
  · rw [va_up_ne _ _ h, va_up_ne _ _ h, va_up_ne _ _ h]
theorem take0 (w : Int32) (x : Nat → Int32) : FX0_take 0 w x = some (upd x 7 w) := rfl
theorem take1 (w : Int32) (x : Nat → Int32) : FX0_take 1 w x = some (upd x 8 w) := rfl
theorem take2 (w : Int32) (x : Nat → Int32) : FX0_take 2 w x = some (upd x 9 (w &&& (255 : Int32))) := rfl
theorem take3 (w : Int32) (x : Nat → Int32) : FX0_take 3 w x = some (upd x 10 w) := rfl
/-- no descriptor at hand: what is beyond doesn't count -/
theorem rE_free {x m x2 m2 : Nat → Int32} {p : Nat} (h : rE x m p) (h6 : x 6 = 0) (hx : ∀ k, k < 7 → x2 k = x k) (hm : ∀ q, q < p + 7 → m2 q = m q) : rE x2 m2 p := by
  obtain ⟨h0, h1, h2, h3, h4, h5, ⟨s, q, hs, hq, e1, e2⟩, h7⟩ := h
  have h8 : m (p + 6) = -1 := by
    rcases h7 with ⟨a, b⟩ | ⟨a, b⟩
    · exact b
    · rw [h6] at a
      exact absurd a (by decide)
  unfold rE
  rw [hm p (by omega), hm (p + 1) (by omega), hm (p + 2) (by omega), hm (p + 3) (by omega), hm (p + 4) (by omega), hm (p + 5) (by omega), hm (p + 6) (by omega), hx 0 (by omega), hx 1 (by omega), hx 2 (by omega), hx 3 (by omega), hx 4 (by omega), hx 5 (by omega), hx 6 (by omega)]
  exact ⟨h0, h1, h2, h3, h4, h5, ⟨s, q, hs, hq, e1, e2⟩, Or.inl ⟨h6, h8⟩⟩
/-- a descriptor is taken, on both sides -/
theorem take_sim {e : Nat} (he : e < 8) {t : Nat} (ht : t ≤ 16368) (M : Nat → Int32) (lf tr lh ov ft mpl : Int32) {c l f : Nat} {B mB BL mL BF mR : Nat → Int32} (hC : rC c B mB) (hL : rL l BL mL) (hF : rF f BF mR) {E : Nat → Nat → Int32} {mE : Nat → Int32} (hE : rEs E mE) (h6 : E e 6 = 0) :
    ∃ (w : Int32) (c2 l2 f2 : Nat) (B2 mB2 BL2 mL2 BF2 mR2 : Nat → Int32) (E2 : Nat → Nat → Int32) (mE2 : Nat → Int32) (t2 lh2 ov2 lf2 pl : Int32), (w = 0 ∨ w = 1) ∧ rC c2 B2 mB2 ∧ rL l2 BL2 mL2 ∧ rF f2 BF2 mR2 ∧ rEs E2 mE2 ∧ FX2_takeDescriptor e (nI e) M (nI c) B (nI l) BL (nI f) BF E (nI t) lf tr lh ov = some (w, nI c2, B2, nI l2, BL2, nI f2, BF2, E2, lf2, t2, lh2, ov2) ∧ goT e M mB mL mR mE (nI t) (nI c) (nI l) (nI f) ov tr lh ft mpl = some (w, M, mB2, mL2, mR2, mE2, nI c2, nI l2, nI f2, ov2, t2, lh2, lf2, pl) := by
  have hx := hE e he
  obtain ⟨q0, q1, q2, q3, q4, q5, ⟨s, hh, hs, hhs, es, eh⟩, q6⟩ := id hx
  unfold FX2_takeDescriptor goT FX0_descriptorAddress
  simp only [va_up_self, va_up_up, q0, q2, bd1_e]
  obtain ⟨c1, l1, f1, B1, mB1, BL1, mL1, BF1, mR1, t1, lh1, ov1, lf1, r1, b1, pl1, hC1, hL1, hF1, k1, g1, m1⟩ := acc_sim he (E e 0 + 4 * E e 2 + 0) 0 (Or.inl rfl) ht M lf tr lh ov ft mpl hC hL hF
  rw [g1, m1, bd11_e, bd12_e]
  rcases k1 with ⟨n1, rfl⟩ | ⟨p1, hp1, rfl, rfl, rfl⟩
  · rw [if_neg n1, if_pos rfl]
    exact ⟨0, c1, l1, f1, B1, mB1, BL1, mL1, BF1, mR1, E, mE, t1, lh1, ov1, lf1, _, Or.inl rfl, hC1, hL1, hF1, hE, rfl, rfl⟩
  rw [if_pos (nI_pos' (n := p1) (by omega)), if_neg n10, gd_t (nI_inb hp1 (by omega)), wordAt_in hp1, bd1_e, take0, bd1_e, nI_cl (i := p1) (by omega)]
  rw [show (upd (E e) 7 (M p1)) 0 = E e 0 by simp [upd], show (upd (E e) 7 (M p1)) 2 = E e 2 by simp [upd]]
  obtain ⟨c2, l2, f2, B2, mB2, BL2, mL2, BF2, mR2, t2, lh2, ov2, lf2, r2, b2, pl2, hC2, hL2, hF2, k2, g2, m2⟩ := acc_sim he (E e 0 + 4 * E e 2 + 1) 0 (Or.inl rfl) ht M lf1 t1 lh1 ov1 lf1 _ hC1 hL1 hF1
  rw [g2, m2, bd11_e, bd12_e]
  rcases k2 with ⟨n2, rfl⟩ | ⟨p2, hp2, rfl, rfl, rfl⟩
  · rw [if_neg n2, if_pos rfl]
    refine ⟨0, c2, l2, f2, B2, mB2, BL2, mL2, BF2, mR2, _, _, t2, lh2, ov2, lf2, _, Or.inl rfl, hC2, hL2, hF2, rEs_set hE (rE_free hx h6 ?_ ?_) ?_, rfl, rfl⟩
    · intro k hk
      rw [upd_n _ _ (by omega)]
    · intro q hq
      rw [upd_n _ _ (by omega)]
    · intro q hq
      rw [upd_n _ _ (by omega)]
  rw [if_pos (nI_pos' (n := p2) (by omega)), if_neg n10, gd_t (nI_inb hp2 (by omega)), wordAt_in hp2, bd1_e, take1, bd1_e, nI_cl (i := p2) (by omega)]
  rw [show (upd (upd (E e) 7 (M p1)) 8 (M p2)) 0 = E e 0 by simp [upd], show (upd (upd (E e) 7 (M p1)) 8 (M p2)) 2 = E e 2 by simp [upd]]
  obtain ⟨c3, l3, f3, B3, mB3, BL3, mL3, BF3, mR3, t3, lh3, ov3, lf3, r3, b3, pl3, hC3, hL3, hF3, k3, g3, m3⟩ := acc_sim he (E e 0 + 4 * E e 2 + 2) 0 (Or.inl rfl) ht M lf2 t2 lh2 ov2 lf2 _ hC2 hL2 hF2
  rw [g3, m3, bd11_e, bd12_e]
  rcases k3 with ⟨n3, rfl⟩ | ⟨p3, hp3, rfl, rfl, rfl⟩
  · rw [if_neg n3, if_pos rfl]
    refine ⟨0, c3, l3, f3, B3, mB3, BL3, mL3, BF3, mR3, _, _, t3, lh3, ov3, lf3, _, Or.inl rfl, hC3, hL3, hF3, rEs_set hE (rE_free hx h6 ?_ ?_) ?_, rfl, rfl⟩
    · intro k hk
      rw [upd_n _ _ (by omega), upd_n _ _ (by omega)]
    · intro q hq
      rw [upd_n _ _ (by omega), upd_n _ _ (by omega)]
    · intro q hq
      rw [upd_n _ _ (by omega), upd_n _ _ (by omega)]
  rw [if_pos (nI_pos' (n := p3) (by omega)), if_neg n10, gd_t (nI_inb hp3 (by omega)), wordAt_in hp3, bd1_e, take2, bd1_e, nI_cl (i := p3) (by omega)]
  rw [show (upd (upd (upd (E e) 7 (M p1)) 8 (M p2)) 9 (M p3 &&& (255 : Int32))) 0 = E e 0 by simp [upd], show (upd (upd (upd (E e) 7 (M p1)) 8 (M p2)) 9 (M p3 &&& (255 : Int32))) 2 = E e 2 by simp [upd]]
  obtain ⟨c4, l4, f4, B4, mB4, BL4, mL4, BF4, mR4, t4, lh4, ov4, lf4, r4, b4, pl4, hC4, hL4, hF4, k4, g4, m4⟩ := acc_sim he (E e 0 + 4 * E e 2 + 3) 0 (Or.inl rfl) ht M lf3 t3 lh3 ov3 lf3 _ hC3 hL3 hF3
  rw [g4, m4, bd11_e, bd12_e]
  rcases k4 with ⟨n4, rfl⟩ | ⟨p4, hp4, rfl, rfl, rfl⟩
  · rw [if_neg n4, if_pos rfl]
    refine ⟨0, c4, l4, f4, B4, mB4, BL4, mL4, BF4, mR4, _, _, t4, lh4, ov4, lf4, _, Or.inl rfl, hC4, hL4, hF4, rEs_set hE (rE_free hx h6 ?_ ?_) ?_, rfl, rfl⟩
    · intro k hk
      rw [upd_n _ _ (by omega), upd_n _ _ (by omega), upd_n _ _ (by omega)]
    · intro q hq
      rw [upd_n _ _ (by omega), upd_n _ _ (by omega), upd_n _ _ (by omega)]
    · intro q hq
      rw [upd_n _ _ (by omega), upd_n _ _ (by omega), upd_n _ _ (by omega)]
  rw [if_pos (nI_pos' (n := p4) (by omega)), if_neg n10, gd_t (nI_inb hp4 (by omega)), wordAt_in hp4, bd1_e, take3, bd1_e, nI_cl (i := p4) (by omega)]
  obtain ⟨n, hn, en⟩ := and_E (M p3) (m := 255) 8 rfl
  refine ⟨1, c4, l4, f4, B4, mB4, BL4, mL4, BF4, mR4, _, _, t4, lh4, ov4, lf4, _, Or.inr rfl, hC4, hL4, hF4, rEs_set hE ?_ ?_, rfl, rfl⟩
  · refine ⟨by simp [upd, q0], by simp [upd, q1], by simp [upd, q2], by simp [upd, q3], by simp [upd, q4], by simp [upd, q5], ⟨s, hh, hs, hhs, by simp [upd, es], by simp [upd, eh]⟩, Or.inr ⟨by simp [upd], n, 0, by omega, by omega, by simp [upd]; rfl, by simp [upd]; rfl, by simp [upd, en], by simp [upd, en], by simp [upd], by simp [upd], by simp [upd]⟩⟩
  · intro q hq
    rw [upd_n _ _ (by omega), upd_n _ _ (by omega), upd_n _ _ (by omega), upd_n _ _ (by omega), upd_n _ _ (by omega), upd_n _ _ (by omega)]
/-- a word is copied, on both sides -/
theorem copy_sim {e : Nat} (he : e < 8) {t : Nat} (ht : t ≤ 16368) (M : Nat → Int32) (lf tr lh ov ft mpl : Int32) {c l f : Nat} {B mB BL mL BF mR : Nat → Int32} (hC : rC c B mB) (hL : rL l BL mL) (hF : rF f BF mR) {E : Nat → Nat → Int32} {mE : Nat → Int32} (hE : rEs E mE) (h6 : ¬ E e 6 = 0) (h9 : ¬ E e 9 ≤ E e 11) :
    ∃ (w : Int32) (M2 : Nat → Int32) (c2 l2 f2 : Nat) (B2 mB2 BL2 mL2 BF2 mR2 : Nat → Int32) (E2 : Nat → Nat → Int32) (mE2 : Nat → Int32) (t2 lh2 ov2 lf2 pl : Int32), (w = 0 ∨ w = 1) ∧ rC c2 B2 mB2 ∧ rL l2 BL2 mL2 ∧ rF f2 BF2 mR2 ∧ rEs E2 mE2 ∧ FX2_copyWord e (nI e) M (nI c) B (nI l) BL (nI f) BF E (nI t) lf tr lh ov = some (w, M2, nI c2, B2, nI l2, BL2, nI f2, BF2, E2, lf2, t2, lh2, ov2) ∧ goC e M mB mL mR mE (nI t) (nI c) (nI l) (nI f) ov tr lh ft mpl = some (w, M2, mB2, mL2, mR2, mE2, nI c2, nI l2, nI f2, ov2, t2, lh2, lf2, pl) := by
  have hx := hE e he
  obtain ⟨q0, q1, q2, q3, q4, q5, ⟨s, hh, hs, hhs, es, eh⟩, q6⟩ := id hx
  rcases q6 with ⟨a, -⟩ | ⟨a, n, i, hn, hi, a1, a2, a3, a4, a5, a6, a7⟩
  · exact absurd a h6
  rw [a1, a3, nI_leI (by omega) (by omega)] at h9
  unfold FX2_copyWord goC
  simp only [a1, a2, a5, a6]
  obtain ⟨c1, l1, f1, B1, mB1, BL1, mL1, BF1, mR1, t1, lh1, ov1, lf1, r1, b1, pl1, hC1, hL1, hF1, k1, g1, m1⟩ := acc_sim he (E e 7 + nI i) 0 (Or.inl rfl) ht M lf tr lh ov ft mpl hC hL hF
  rw [g1, m1, bd11_e, bd12_e]
  rcases k1 with ⟨n1, rfl⟩ | ⟨p1, hp1, rfl, rfl, rfl⟩
  · rw [if_neg n1, if_pos rfl]
    exact ⟨0, M, c1, l1, f1, B1, mB1, BL1, mL1, BF1, mR1, E, mE, t1, lh1, ov1, lf1, _, Or.inl rfl, hC1, hL1, hF1, hE, rfl, rfl⟩
  rw [if_pos (nI_pos' (n := p1) (by omega)), if_neg n10, gd_t (nI_inb hp1 (by omega)), wordAt_in hp1, bd1_e, nI_cl (i := p1) (by omega)]
  obtain ⟨c2, l2, f2, B2, mB2, BL2, mL2, BF2, mR2, t2, lh2, ov2, lf2, r2, b2, pl2, hC2, hL2, hF2, k2, g2, m2⟩ := acc_sim he (E e 8 + nI i) 1 (Or.inr rfl) ht M lf1 t1 lh1 ov1 lf1 _ hC1 hL1 hF1
  rw [g2, m2, bd11_e, bd12_e]
  rcases k2 with ⟨n2, rfl⟩ | ⟨p2, hp2, rfl, rfl, rfl⟩
  · rw [if_neg n2, if_pos rfl]
    exact ⟨0, M, c2, l2, f2, B2, mB2, BL2, mL2, BF2, mR2, E, mE, t2, lh2, ov2, lf2, _, Or.inl rfl, hC2, hL2, hF2, hE, rfl, rfl⟩
  have w0 : ¬ nI p2 < 0 := nI_pos (by omega)
  have w1 : ¬ 16384 ≤ nI p2 := by rw [show (16384 : Int32) = nI 16384 from rfl, nI_leI (by omega) (by omega)]; omega
  rw [if_pos (nI_pos' (n := p2) (by omega)), if_neg n10, gd_t (nI_inb hp2 (by omega)), setWord_in w0 w1, bd2_e, nI_1]
  refine ⟨1, _, c2, l2, f2, B2, mB2, BL2, mL2, BF2, mR2, _, _, t2, lh2, ov2, lf2, _, Or.inr rfl, hC2, hL2, hF2, rEs_set hE ?_ (updo (k := 6) (by omega)), rfl, rfl⟩
  exact ⟨by simp [upd, q0], by simp [upd, q1], by simp [upd, q2], by simp [upd, q3], by simp [upd, q4], by simp [upd, q5], ⟨s, hh, hs, hhs, by simp [upd, es], by simp [upd, eh]⟩, Or.inr ⟨by simp [upd, a], n, i + 1, by omega, by omega, by simp [upd], by simp [upd], by simp [upd, a3], by simp [upd, a4], by simp [upd, a5], by simp [upd, a6], by simp [upd, a7]⟩⟩
/-- the next slot of the ring -/
theorem goOn_eq {x : Nat → Int32} {s h : Nat} (hs : s ≤ 64) (hh : h < s) (e1 : x 1 = nI s) (e2 : x 2 = nI h) : FX0_goOn x = if nI ((h + 1) % s) = x 3 then some (upd (upd (upd (upd x 2 (nI ((h + 1) % s))) 6 0) 5 (x 5 + 1)) 4 0) else some (upd (upd (upd x 2 (nI ((h + 1) % s))) 6 0) 5 (x 5 + 1)) := by
  have u5 : ∀ a : Int32, upd (upd x 2 a) 6 0 5 = x 5 := fun a => by simp [upd]
  have u2 : ∀ a : Int32, upd (upd (upd x 2 a) 6 0) 5 (x 5 + 1) 2 = a := fun a => by simp [upd]
  have u3 : ∀ a : Int32, upd (upd (upd x 2 a) 6 0) 5 (x 5 + 1) 3 = x 3 := fun a => by simp [upd]
  unfold FX0_goOn
  simp only [u5, u2, u3]
  rw [e1, e2, nI_1]
  by_cases k : s ≤ h + 1
  · rw [if_pos (nI_le k (by omega)), show (h + 1) % s = 0 by rw [show h + 1 = s by omega, Nat.mod_self], show nI 0 = 0 from rfl]
  · rw [if_neg (by rw [nI_leI (by omega) (by omega)]; exact k), Nat.mod_eq_of_lt (by omega)]
/-- a descriptor is finished, on both sides -/
theorem finish_sim {e : Nat} (he : e < 8) {t : Nat} (ht : t ≤ 16368) (M : Nat → Int32) (lf tr lh ov ft mpl : Int32) {c l f : Nat} {B mB BL mL BF mR : Nat → Int32} (hC : rC c B mB) (hL : rL l BL mL) (hF : rF f BF mR) {E : Nat → Nat → Int32} {mE : Nat → Int32} (hE : rEs E mE) (h6 : ¬ E e 6 = 0) :
    ∃ (w : Int32) (M2 : Nat → Int32) (c2 l2 f2 : Nat) (B2 mB2 BL2 mL2 BF2 mR2 : Nat → Int32) (E2 : Nat → Nat → Int32) (mE2 : Nat → Int32) (t2 lh2 ov2 lf2 pl : Int32), (w = 0 ∨ w = 1) ∧ rC c2 B2 mB2 ∧ rL l2 BL2 mL2 ∧ rF f2 BF2 mR2 ∧ rEs E2 mE2 ∧ FX2_finishDescriptor e (nI e) M (nI c) B (nI l) BL (nI f) BF E (nI t) lf tr lh ov = some (w, M2, nI c2, B2, nI l2, BL2, nI f2, BF2, E2, lf2, t2, lh2, ov2) ∧ goF e M mB mL mR mE (nI t) (nI c) (nI l) (nI f) ov tr lh ft mpl = some (w, M2, mB2, mL2, mR2, mE2, nI c2, nI l2, nI f2, ov2, t2, lh2, lf2, pl) := by
  have hx := hE e he
  obtain ⟨q0, q1, q2, q3, q4, q5, ⟨s, hh, hs, hhs, es, eh⟩, q6⟩ := id hx
  rcases q6 with ⟨a, -⟩ | ⟨a, n, i, hn, hi, a1, a2, a3, a4, a5, a6, a7⟩
  · exact absurd a h6
  have er : nI hh + 1 - (nI hh + 1) / nI s * nI s = nI ((hh + 1) % s) := by rw [nI_1, pk_rem (by omega) (by omega) (by omega)]
  have ns : nz (nI s) = true := by
    unfold nz
    rw [decide_eq_true_iff]
    exact nI_ne0 (by omega) (by omega)
  have v5 : ∀ z : Int32, upd (upd mE (11 * e + 2) z) (11 * e + 6) (-1) (11 * e + 5) = E e 5 := fun z => by simp [upd, q5]
  have v2 : ∀ z y : Int32, upd (upd (upd mE (11 * e + 2) z) (11 * e + 6) (-1)) (11 * e + 5) y (11 * e + 2) = z := fun z y => by simp [upd]
  have v3 : ∀ z y : Int32, upd (upd (upd mE (11 * e + 2) z) (11 * e + 6) (-1)) (11 * e + 5) y (11 * e + 3) = E e 3 := fun z y => by simp [upd, q3]
  unfold FX2_finishDescriptor goF FX0_descriptorAddress
  simp only [bd1_e, q0, q1, q2, a7, v5, v2, v3, es, eh, er, ns, gdt]
  obtain ⟨c1, l1, f1, B1, mB1, BL1, mL1, BF1, mR1, t1, lh1, ov1, lf1, r1, b1, pl1, hC1, hL1, hF1, k1, g1, m1⟩ := acc_sim he (E e 0 + 4 * nI hh + 3) 1 (Or.inr rfl) ht M lf tr lh ov ft mpl hC hL hF
  rw [g1, m1, bd11_e, bd12_e]
  rcases k1 with ⟨n1, rfl⟩ | ⟨p1, hp1, rfl, rfl, rfl⟩
  · rw [if_neg n1, if_pos rfl]
    exact ⟨0, M, c1, l1, f1, B1, mB1, BL1, mL1, BF1, mR1, E, mE, t1, lh1, ov1, lf1, _, Or.inl rfl, hC1, hL1, hF1, hE, rfl, rfl⟩
  have w0 : ¬ nI p1 < 0 := nI_pos (by omega)
  have w1 : ¬ 16384 ≤ nI p1 := by rw [show (16384 : Int32) = nI 16384 from rfl, nI_leI (by omega) (by omega)]; omega
  rw [if_pos (nI_pos' (n := p1) (by omega)), if_neg n10, gd_t (nI_inb hp1 (by omega)), setWord_in w0 w1, bd2_e, goOn_eq hs hhs es eh]
  have hm : (hh + 1) % s < s := Nat.mod_lt _ (by omega)
  have hr : rE (upd (upd (upd (E e) 2 (nI ((hh + 1) % s))) 6 0) 5 (E e 5 + 1)) (upd (upd (upd mE (11 * e + 2) (nI ((hh + 1) % s))) (11 * e + 6) (-1)) (11 * e + 5) (E e 5 + 1)) (11 * e) := by
    refine ⟨by simp [upd, q0], by simp [upd, q1], by simp [upd], by simp [upd, q3], by simp [upd, q4], by simp [upd], ⟨s, _, hs, hm, by simp [upd, es], by simp [upd]⟩, Or.inl ⟨by simp [upd], by simp [upd]⟩⟩
  by_cases k : nI ((hh + 1) % s) = E e 3
  · rw [if_pos k, if_pos k, bd1_e]
    refine ⟨1, _, c1, l1, f1, B1, mB1, BL1, mL1, BF1, mR1, _, _, t1, lh1, ov1, lf1, _, Or.inr rfl, hC1, hL1, hF1, rEs_set hE (rE4 hr 0) ?_, rfl, rfl⟩
    intro q hq
    rw [upd_n _ _ (by omega), upd_n _ _ (by omega), upd_n _ _ (by omega), upd_n _ _ (by omega)]
  · rw [if_neg k, if_neg k, bd1_e]
    refine ⟨1, _, c1, l1, f1, B1, mB1, BL1, mL1, BF1, mR1, _, _, t1, lh1, ov1, lf1, _, Or.inr rfl, hC1, hL1, hF1, rEs_set hE hr ?_, rfl, rfl⟩
    intro q hq
    rw [upd_n _ _ (by omega), upd_n _ _ (by omega), upd_n _ _ (by omega)]

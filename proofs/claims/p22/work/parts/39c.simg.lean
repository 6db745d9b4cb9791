/-! The pure side in general, 7: engines -/
theorem bd11_e {α1 α2 α3 α4 α5 α6 α7 α8 α9 α10 α11 γ : Type} (x1 : α1) (x2 : α2) (x3 : α3) (x4 : α4) (x5 : α5) (x6 : α6) (x7 : α7) (x8 : α8) (x9 : α9) (x10 : α10) (x11 : α11) (f : α1 → α2 → α3 → α4 → α5 → α6 → α7 → α8 → α9 → α10 → α11 → Option γ) : bd11 (some (x1, x2, x3, x4, x5, x6, x7, x8, x9, x10, x11)) f = f x1 x2 x3 x4 x5 x6 x7 x8 x9 x10 x11 := rfl
theorem bd12_e {α1 α2 α3 α4 α5 α6 α7 α8 α9 α10 α11 α12 γ : Type} (x1 : α1) (x2 : α2) (x3 : α3) (x4 : α4) (x5 : α5) (x6 : α6) (x7 : α7) (x8 : α8) (x9 : α9) (x10 : α10) (x11 : α11) (x12 : α12) (f : α1 → α2 → α3 → α4 → α5 → α6 → α7 → α8 → α9 → α10 → α11 → α12 → Option γ) : bd12 (some (x1, x2, x3, x4, x5, x6, x7, x8, x9, x10, x11, x12)) f = f x1 x2 x3 x4 x5 x6 x7 x8 x9 x10 x11 x12 := rfl
theorem n10 : ¬ ((1 : Int32) = 0) := by decide
theorem nz4 : nz 4 = true := by decide
/-- an engine's fields x, and what the reference has of it at p -/
def rE (x m : Nat → Int32) (p : Nat) : Prop := m p = x 0 ∧ m (p + 1) = x 1 ∧ m (p + 2) = x 2 ∧ m (p + 3) = x 3 ∧ m (p + 4) = x 4 ∧ m (p + 5) = x 5 ∧ (∃ s h : Nat, s ≤ 64 ∧ h < s ∧ x 1 = nI s ∧ x 2 = nI h) ∧
  ((x 6 = 0 ∧ m (p + 6) = -1) ∨ (x 6 = 1 ∧ ∃ n c : Nat, n ≤ 255 ∧ c ≤ n ∧ x 11 = nI c ∧ m (p + 6) = nI c ∧ x 9 = nI n ∧ m (p + 9) = nI n ∧ m (p + 7) = x 7 ∧ m (p + 8) = x 8 ∧ m (p + 10) = x 10))
def rEs (E : Nat → Nat → Int32) (m : Nat → Int32) : Prop := ∀ d, d < 8 → rE (E d) m (11 * d)
/-- the other engines' cells are apart -/
theorem rEs_set {E : Nat → Nat → Int32} {m m2 : Nat → Int32} {d : Nat} {x : Nat → Int32} (h : rEs E m) (hx : rE x m2 (11 * d)) (ho : ∀ q, (q < 11 * d ∨ 11 * d + 11 ≤ q) → m2 q = m q) : rEs (va_up E d x) m2 := by
  intro k hk
  by_cases e : k = d
  · subst e
    rw [va_up_self]
    exact hx
  · rw [va_up_ne _ _ e]
    have hq := h k hk
    unfold rE at hq ⊢
    rw [ho (11 * k) (by omega), ho (11 * k + 1) (by omega), ho (11 * k + 2) (by omega), ho (11 * k + 3) (by omega), ho (11 * k + 4) (by omega), ho (11 * k + 5) (by omega), ho (11 * k + 6) (by omega), ho (11 * k + 7) (by omega), ho (11 * k + 8) (by omega), ho (11 * k + 9) (by omega), ho (11 * k + 10) (by omega)]
    exact hq
theorem e11 (d : Nat) : (11 : Int32) * nI d = nI (11 * d) := nI_mul 11 d
theorem e11k (d : Nat) {k : Int32} {j : Nat} (hk : k = nI j) : nI (11 * d) + k = nI (11 * d + j) := by rw [hk, nI_add]
theorem dev_of {x : Int32} (h0 : ¬ x < 0) (h1 : ¬ 8 ≤ x) : ∃ d : Nat, d < 8 ∧ x = nI d := by
  obtain ⟨d, hd, rfl⟩ := nI_of h0
  rw [show (8 : Int32) = nI 8 from rfl, nI_leI (by omega) hd] at h1
  exact ⟨d, by omega, rfl⟩
theorem inb11 {d j : Nat} (hd : d < 8) (hj : j < 11) : inb (nI (11 * d + j)) 88 = true := nI_inb (by omega) (by omega)
theorem cl11 {d j : Nat} (hd : d < 8) (hj : j < 11) : (nI (11 * d + j)).toNatClampNeg = 11 * d + j := nI_cl (by omega)
/-- ring, on both sides -/
theorem ring_sim (x1 x2 x3 : Int32) {E : Nat → Nat → Int32} {m : Nat → Int32} (th : Int32) (h : rEs E m) : ∃ (r : Int32) (E2 : Nat → Nat → Int32) (m2 : Nat → Int32), FX2_ring x1 x2 x3 E = some (r, E2) ∧ FX3_ring x1 x2 x3 m th = some (r, m2, 0) ∧ rEs E2 m2 := by
  by_cases h0 : x1 < 0 ∨ 8 ≤ x1
  · exact ⟨0, E, m, by unfold FX2_ring; rw [ib0 h0]; rfl, by unfold FX3_ring; rw [id0 h0]; rfl, h⟩
  rw [not_or] at h0
  unfold FX2_ring FX3_ring
  rw [ib1 h0.1 h0.2, id1 h0.1 h0.2, bd1_e, bd1_e, if_neg n10, if_neg n10]
  by_cases a0 : x2 < 0
  · exact ⟨0, E, m, by rw [ib0 (Or.inl a0)]; rfl, by rw [if_pos a0], h⟩
  rw [if_neg a0]
  by_cases a1 : 1048576 ≤ x2
  · have a2 : 1048572 < x2 := by rw [Int32.le_iff_toInt_le] at a1; rw [Int32.lt_iff_toInt_lt]; have e1 : (1048576 : Int32).toInt = 1048576 := rfl; have e2 : (1048572 : Int32).toInt = 1048572 := rfl; omega
    exact ⟨0, E, m, by rw [ib0 (Or.inr a1)]; rfl, by rw [if_pos a2], h⟩
  rw [ib1 a0 a1, bd1_e, if_neg n10]
  by_cases c : (x2 &&& (3 : Int32)) = 0
  · have a2 : ¬ 1048572 < x2 := by
      obtain ⟨n, hn, rfl⟩ := nI_of a0
      rw [pk_andN (by omega) (m := 3) 2 rfl, show (0 : Int32) = nI 0 from rfl, nI_eq (by omega) (by omega)] at c
      rw [show (1048576 : Int32) = nI 1048576 from rfl, nI_leI (by omega) hn] at a1
      rw [show (1048572 : Int32) = nI 1048572 from rfl, nI_ltI (by omega) hn]
      omega
    have c2 : x2 - x2 / 4 * 4 = 0 := by rw [← and3 a0]; exact c
    rw [if_pos c, if_neg a2, gd_t nz4, if_pos c2]
    by_cases b0 : x3 < 1
    · exact ⟨0, E, m, by rw [if_pos b0], by rw [if_pos b0], h⟩
    rw [if_neg b0, if_neg b0]
    by_cases b1 : x3 ≤ 64
    · rw [if_pos b1, if_pos b1, gd_t (inbo (n := 8) rfl (by decide) h0.1 h0.2)]
      obtain ⟨d, hd, rfl⟩ := dev_of h0.1 h0.2
      have hs : ∃ s : Nat, 0 < s ∧ s ≤ 64 ∧ x3 = nI s := by
        obtain ⟨s, hs, rfl⟩ := nI_of (x := x3) (fun q => b0 (by rw [Int32.lt_iff_toInt_lt] at *; have e0 : (0 : Int32).toInt = 0 := rfl; have e1 : (1 : Int32).toInt = 1 := rfl; omega))
        rw [show (64 : Int32) = nI 64 from rfl, nI_leI hs (by omega)] at b1
        rw [show (1 : Int32) = nI 1 from rfl, nI_ltI hs (by omega)] at b0
        exact ⟨s, by omega, b1, rfl⟩
      obtain ⟨s, hs0, hs1, rfl⟩ := hs
      unfold FX0_begin
      rw [e11, e11k d (k := 1) (j := 1) rfl, e11k d (k := 2) (j := 2) rfl, e11k d (k := 3) (j := 3) rfl, e11k d (k := 4) (j := 4) rfl, e11k d (k := 6) (j := 6) rfl, gd_t (nI_inb (i := 11 * d) (by omega) (by omega)), gd_t (inb11 hd (by omega)), gd_t (inb11 hd (by omega)), gd_t (inb11 hd (by omega)), gd_t (inb11 hd (by omega)), gd_t (inb11 hd (by omega)), cl11 hd (by omega), cl11 hd (by omega), cl11 hd (by omega), cl11 hd (by omega), cl11 hd (by omega), nI_cl (i := 11 * d) (by omega), nI_cl (i := d) (by omega), bd1_e]
      refine ⟨_, _, _, rfl, rfl, rEs_set h ?_ ?_⟩
      · refine ⟨by simp [upd], by simp [upd], by simp [upd], by simp [upd], by simp [upd], ?_, ⟨s, 0, hs1, hs0, by simp [upd], by simp [upd]; rfl⟩, Or.inl ⟨by simp [upd], by simp [upd]⟩⟩
        have := (h d hd).2.2.2.2.2.1
        simp [upd, this]
      · intro q hq
        rw [upd_n _ _ (by omega), upd_n _ _ (by omega), upd_n _ _ (by omega), upd_n _ _ (by omega), upd_n _ _ (by omega), upd_n _ _ (by omega)]
    · exact ⟨0, E, m, by rw [if_neg b1], by rw [if_neg b1], h⟩
  · have c2 : ¬ x2 - x2 / 4 * 4 = 0 := by rw [← and3 a0]; exact c
    rw [if_neg c]
    by_cases a2 : 1048572 < x2
    · exact ⟨0, E, m, rfl, by rw [if_pos a2], h⟩
    · exact ⟨0, E, m, rfl, by rw [if_neg a2, gd_t nz4, if_neg c2], h⟩

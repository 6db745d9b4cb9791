theorem ib1 {x n : Int32} (h0 : ¬ x < 0) (h1 : ¬ n ≤ x) : FX2_isBelow x n = some 1 := by unfold FX2_isBelow; rw [if_neg h0, if_neg h1]
theorem ib0 {x n : Int32} (h : x < 0 ∨ n ≤ x) : FX2_isBelow x n = some 0 := by
  unfold FX2_isBelow
  by_cases h0 : x < 0
  · rw [if_pos h0]
  · rw [if_neg h0, if_pos (h.resolve_left h0)]
theorem id1 {x : Int32} (h0 : ¬ x < 0) (h1 : ¬ 8 ≤ x) : FX3_isDevice x = some 1 := by unfold FX3_isDevice; rw [if_neg h0, if_neg h1]
theorem id0 {x : Int32} (h : x < 0 ∨ 8 ≤ x) : FX3_isDevice x = some 0 := by
  unfold FX3_isDevice
  by_cases h0 : x < 0
  · rw [if_pos h0]
  · rw [if_neg h0, if_pos (h.resolve_left h0)]
theorem ip1 {x : Int32} (h0 : ¬ x < 0) (h1 : ¬ 16384 ≤ x) : FX3_isPlace x = some 1 := by unfold FX3_isPlace; rw [if_neg h0, if_neg h1]
theorem ip0 {x : Int32} (h : x < 0 ∨ 16384 ≤ x) : FX3_isPlace x = some 0 := by
  unfold FX3_isPlace
  by_cases h0 : x < 0
  · rw [if_pos h0]
  · rw [if_neg h0, if_pos (h.resolve_left h0)]
theorem inbo {x : Int32} {N : Nat} {n : Int32} (hn : n = nI N) (hN : N < 2 ^ 31) (h0 : ¬ x < 0) (h1 : ¬ n ≤ x) : inb x N = true := by
  rw [Int32.lt_iff_toInt_lt] at h0
  rw [Int32.le_iff_toInt_le, hn, nI_toInt hN] at h1
  have e0 : (0 : Int32).toInt = 0 := rfl
  unfold inb
  rw [decide_eq_true_iff]
  omega
theorem dev8 {P : Int32 → Prop} (p0 : P 0) (p1 : P 1) (p2 : P 2) (p3 : P 3) (p4 : P 4) (p5 : P 5) (p6 : P 6) (p7 : P 7) {x : Int32} (h0 : ¬ x < 0) (h1 : ¬ 8 ≤ x) : P x := by
  obtain ⟨n, hn, rfl⟩ := nI_of h0
  rw [show (8 : Int32) = nI 8 from rfl, nI_leI (by omega) hn] at h1
  rcases (show n = 0 ∨ n = 1 ∨ n = 2 ∨ n = 3 ∨ n = 4 ∨ n = 5 ∨ n = 6 ∨ n = 7 by omega) with h | h | h | h | h | h | h | h <;> subst h <;> assumption
theorem bd1_e {α γ : Type} (x : α) (f : α → Option γ) : bd1 (some x) f = f x := rfl
theorem gd_t {α : Type} {b : Bool} {x : Option α} (h : b = true) : gd b x = x := by unfold gd; rw [if_pos h]
-- poke, peek
theorem FX2_poke_in {x1 x2 : Int32} {gM : Nat → Int32} (h0 : ¬ x1 < 0) (h1 : ¬ 16384 ≤ x1) : FX2_poke x1 x2 gM = some (gM x1.toNatClampNeg, upd gM x1.toNatClampNeg x2) := by
  unfold FX2_poke
  rw [ib1 h0 h1]
  have hi : inb x1 16384 = true := inbo (n := 16384) rfl (by decide) h0 h1
  rw [bd1_e, if_neg (by decide), gd_t hi, gd_t hi]
theorem FX2_peek_in {x1 : Int32} {gM : Nat → Int32} (h0 : ¬ x1 < 0) (h1 : ¬ 16384 ≤ x1) : FX2_peek x1 gM = some (gM x1.toNatClampNeg) := by
  unfold FX2_peek
  rw [ib1 h0 h1]
  have hi : inb x1 16384 = true := inbo (n := 16384) rfl (by decide) h0 h1
  rw [bd1_e, if_neg (by decide), gd_t hi]
theorem FX3_poke_in {x1 x2 : Int32} {mW : Nat → Int32} {mth : Int32} (h0 : ¬ x1 < 0) (h1 : ¬ 16384 ≤ x1) : FX3_poke x1 x2 mW mth = some (mW x1.toNatClampNeg, upd mW x1.toNatClampNeg x2, 0) := by
  unfold FX3_poke
  rw [ip1 h0 h1]
  have hi : inb x1 16384 = true := inbo (n := 16384) rfl (by decide) h0 h1
  rw [bd1_e, if_neg (by decide), gd_t hi, gd_t hi]
theorem FX3_poke_out {x1 x2 : Int32} {mW : Nat → Int32} {mth : Int32} (h : x1 < 0 ∨ 16384 ≤ x1) : FX3_poke x1 x2 mW mth = some (0, mW, 1) := by
  unfold FX3_poke
  rw [ip0 h]
  rfl
theorem FX3_peek_in {x1 : Int32} {mW : Nat → Int32} {mth : Int32} (h0 : ¬ x1 < 0) (h1 : ¬ 16384 ≤ x1) : FX3_peek x1 mW mth = some (mW x1.toNatClampNeg, 0) := by
  unfold FX3_peek
  rw [ip1 h0 h1]
  have hi : inb x1 16384 = true := inbo (n := 16384) rfl (by decide) h0 h1
  rw [bd1_e, if_neg (by decide), gd_t hi]
theorem FX3_peek_out {x1 : Int32} {mW : Nat → Int32} {mth : Int32} (h : x1 < 0 ∨ 16384 ≤ x1) : FX3_peek x1 mW mth = some (0, 1) := by
  unfold FX3_peek
  rw [ip0 h]
  rfl
-- masks
theorem and15 {x : Int32} (h : ¬ x < 0) : (x &&& (15 : Int32)) = x - x / 16 * 16 := by
  obtain ⟨n, hn, rfl⟩ := nI_of h
  rw [pk_andN (by omega) (m := 15) 4 rfl, show (16 : Int32) = nI 16 from rfl, pk_rem hn (by decide) (by decide)]
theorem and3 {x : Int32} (h : ¬ x < 0) : (x &&& (3 : Int32)) = x - x / 4 * 4 := by
  obtain ⟨n, hn, rfl⟩ := nI_of h
  rw [pk_andN (by omega) (m := 3) 2 rfl, show (4 : Int32) = nI 4 from rfl, pk_rem hn (by decide) (by decide)]
-- fill
/-- what a filling leaves: n words from place i + k on -/
def fl (i s : Int32) : Nat → (Nat → Int32) → Int32 → Int32 → (Nat → Int32)
  | 0, M, _, _ => M
  | n + 1, M, k, v => fl i s n (upd M (i + k).toNatClampNeg v) (k + 1) (v + s)
theorem setWord_in {x v : Int32} {gM : Nat → Int32} (h0 : ¬ x < 0) (h1 : ¬ 16384 ≤ x) : FX2_setWord x v gM = some (1, upd gM x.toNatClampNeg v) := by
  unfold FX2_setWord
  rw [ib1 h0 h1]
  have hi : inb x 16384 = true := inbo (n := 16384) rfl (by decide) h0 h1
  rw [bd1_e, if_neg (by decide), gd_t hi]
theorem setWord_out {x v : Int32} {gM : Nat → Int32} (h : x < 0 ∨ 16384 ≤ x) : FX2_setWord x v gM = some (0, gM) := by
  unfold FX2_setWord
  rw [ib0 h]
  rfl
theorem fill_gate (i f : Nat) (hf : i + f ≤ 16384 ∨ f = 0) (hf2 : f ≤ 256) (hi : i < 2 ^ 30) (x2 x3 x4 : Int32) : ∀ (n k : Nat) (gM : Nat → Int32) (v : Int32), k ≤ f → f - k < n → FX2_fill_55 (nI i) x2 x3 x4 n gM (nI f) v (nI k) = some (nI f, fl (nI i) x4 (f - k) gM (nI k) v) := by
  intro n
  induction n with
  | zero => intro k gM v _ h; omega
  | succ n ih =>
    intro k gM v hk hn
    rw [FX2_fill_55]
    by_cases h : f ≤ k
    · rw [if_pos (nI_le h (by omega))]
      rw [show f - k = 0 by omega]
      rfl
    · rw [if_neg (by rw [nI_leI (by omega) (by omega)]; omega)]
      rw [setWord_in (by rw [nI_add]; exact nI_pos (by omega)) (by rw [nI_add, show (16384 : Int32) = nI 16384 from rfl, nI_leI (by omega) (by omega)]; omega)]
      show FX2_fill_55 (nI i) x2 x3 x4 n _ (nI f) (v + x4) (nI k + 1) = _
      rw [nI_1, ih (k + 1) _ _ (by omega) (by omega)]
      rw [show f - k = (f - (k + 1)) + 1 by omega, fl, nI_1]
theorem fill_ref (i w f : Nat) (hw : w ≤ 256) (hf : f = min w (16384 - i)) (hi : i < 2 ^ 30) (x3 x4 mth : Int32) : ∀ (n k : Nat) (mW : Nat → Int32) (v : Int32), k ≤ f → f - k < n → FX3_fill_28 (nI i) (nI w) x3 x4 n mW mth (nI k) v = some (nI f, fl (nI i) x4 (f - k) mW (nI k) v, mth) := by
  intro n
  induction n with
  | zero => intro k gM v _ h; omega
  | succ n ih =>
    intro k mW v hk hn
    rw [FX3_fill_28]
    by_cases h : w ≤ k
    · rw [if_pos (nI_le h (by omega))]
      rw [show f - k = 0 by omega, show k = f by omega]
      rfl
    · rw [if_neg (by rw [nI_leI (by omega) (by omega)]; omega)]
      have e1 : (16384 : Int32) - nI k = nI (16384 - k) := by rw [show (16384 : Int32) = nI 16384 from rfl, pk_sub (by omega)]
      rw [e1]
      by_cases h2 : 16384 - k ≤ i
      · rw [if_pos (nI_le h2 (by omega))]
        rw [show f - k = 0 by omega, show k = f by omega]
        rfl
      · rw [if_neg (by rw [nI_leI (by omega) (by omega)]; omega)]
        rw [gd_t (inbo (n := 16384) rfl (by decide) (by rw [nI_add]; exact nI_pos (by omega)) (by rw [nI_add, show (16384 : Int32) = nI 16384 from rfl, nI_leI (by omega) (by omega)]; omega))]
        rw [nI_1, ih (k + 1) _ _ (by omega) (by omega)]
        rw [show f - k = (f - (k + 1)) + 1 by omega, fl, nI_1]
/-- fill, on both sides -/
theorem fill_both (x1 x2 x3 x4 : Int32) (M : Nat → Int32) (mth : Int32) : ∃ (r : Int32) (M2 : Nat → Int32), FX2_fill x1 x2 x3 x4 M = some (r, M2) ∧ FX3_fill x1 x2 x3 x4 M mth = some (r, M2, 0) := by
  unfold FX2_fill FX3_fill
  by_cases h0 : x1 < 0
  · exact ⟨_, _, by rw [if_pos h0], by rw [if_pos h0]⟩
  rw [if_neg h0, if_neg h0]
  by_cases h1 : x2 < 0
  · exact ⟨_, _, by rw [if_pos h1], by rw [if_pos h1]⟩
  rw [if_neg h1, if_neg h1]
  by_cases h2 : x2 ≤ 256
  · rw [if_pos h2, if_pos h2]
    obtain ⟨i, hi, rfl⟩ := nI_of h0
    obtain ⟨w, hw, rfl⟩ := nI_of h1
    rw [show (256 : Int32) = nI 256 from rfl, nI_leI hw (by omega)] at h2
    by_cases h3 : (16384 : Int32) ≤ nI i
    · rw [if_pos h3]
      rw [show (16384 : Int32) = nI 16384 from rfl, nI_leI (by omega) hi] at h3
      have ex : FX3_fill_28 (nI i) (nI w) x3 x4 fuel M 0 0 x3 = some (0, M, 0) := by
        rw [show fuel = 1999 + 1 from rfl, FX3_fill_28]
        by_cases h4 : nI w ≤ 0
        · rw [if_pos h4]
        · rw [if_neg h4, if_pos (show (16384 : Int32) - 0 ≤ nI i by rw [show (16384 : Int32) - 0 = nI 16384 from by decide]; exact nI_le h3 hi)]
      refine ⟨0, M, ?_, ex⟩
      unfold FX2_fill_33
      by_cases h4 : (0 : Int32) ≤ nI w
      · rw [if_pos h4, show fuel = 1999 + 1 from rfl, FX2_fill_55, if_pos (by decide)]
      · exact absurd (nI_pos' hw) h4
    · rw [if_neg h3]
      rw [show (16384 : Int32) = nI 16384 from rfl, nI_leI (by omega) hi] at h3
      have e1 : (16384 : Int32) - nI i = nI (16384 - i) := by rw [show (16384 : Int32) = nI 16384 from rfl, pk_sub (by omega)]
      refine ⟨nI (min w (16384 - i)), fl (nI i) x4 (min w (16384 - i)) M 0 x3, ?_, ?_⟩
      · rw [e1]
        unfold FX2_fill_33
        by_cases h4 : 16384 - i ≤ w
        · rw [if_pos (nI_le h4 hw)]
          have := fill_gate i (16384 - i) (by omega) (by omega) (by omega) (nI w) x3 x4 fuel 0 M x3 (by omega) (by unfold fuel; omega)
          rw [show min w (16384 - i) = 16384 - i by omega]
          exact this
        · rw [if_neg (by rw [nI_leI (by omega) hw]; omega)]
          have := fill_gate i w (by omega) (by omega) (by omega) (nI w) x3 x4 fuel 0 M x3 (by omega) (by unfold fuel; omega)
          rw [show min w (16384 - i) = w by omega]
          exact this
      · exact fill_ref i w (min w (16384 - i)) (by omega) rfl (by omega) x3 x4 0 fuel 0 M x3 (by omega) (by unfold fuel; omega)
  · rw [if_neg h2, if_neg h2]
    exact ⟨_, _, rfl, rfl⟩
-- table
theorem table_both (x1 t mth : Int32) : ∃ (r t2 : Int32), FX2_table x1 t = some (r, t2) ∧ FX3_table x1 t mth = some (r, t2, 0) ∧ (t2 = t ∨ (¬ x1 < 0 ∧ ¬ 16368 < x1 ∧ t2 = x1)) := by
  unfold FX2_table FX3_table
  by_cases h0 : x1 < 0
  · exact ⟨_, _, by rw [if_pos h0], by rw [if_pos h0], Or.inl rfl⟩
  rw [if_neg h0, if_neg h0]
  by_cases h1 : 16368 < x1
  · exact ⟨_, _, by rw [if_pos h1], by rw [if_pos h1], Or.inl rfl⟩
  rw [if_neg h1, if_neg h1, gd_t (by decide), and15 h0]
  by_cases h2 : x1 - x1 / 16 * 16 = 0
  · exact ⟨_, _, by rw [if_pos h2], by rw [if_pos h2], Or.inr ⟨h0, h1, rfl⟩⟩
  · exact ⟨_, _, by rw [if_neg h2], by rw [if_neg h2], Or.inl rfl⟩
/-- one call on fresh objects -/
def thI (j : Nat) (G : GS) (M : MS) : Prop := j = 0 → G = G0 ∧ M = M0
theorem th_0 : thI 0 G0 M0 := fun _ => ⟨rfl, rfl⟩
theorem th_idle : sm_idle thI 1 := fun j G M hj hI h => absurd h (by omega)
theorem th_n {j : Nat} {G : GS} {M : MS} : thI (j + 1) G M := fun h => absurd h (by omega)
theorem th_poke : sm_poke thI 1 := by
  intro j gM gnC gbC gnL gbL gnF gbF gnQ gbQ gE gtp glf gtr glh gov mW mC mL mR mQ mE mtb mnC mnL mnR mov mnQ mwr mwl mft mth mpl x1 x2 hj hI
  obtain ⟨e1, e2⟩ := hI (by omega)
  simp only [G0, M0, Prod.mk.injEq] at e1 e2
  obtain ⟨rfl, rfl, rfl, rfl, rfl, rfl, rfl, rfl, rfl, rfl, rfl, rfl, rfl, rfl, rfl⟩ := e1
  obtain ⟨rfl, rfl, rfl, rfl, rfl, rfl, rfl, rfl, rfl, rfl, rfl, rfl, rfl, rfl, rfl, rfl, rfl⟩ := e2
  by_cases h0 : x1 < 0
  · exact Or.inr ⟨_, _, _, ib0 (Or.inl h0), FX3_poke_out (Or.inl h0), rfl, th_n⟩
  by_cases h1 : 16384 ≤ x1
  · exact Or.inr ⟨_, _, _, ib0 (Or.inr h1), FX3_poke_out (Or.inr h1), rfl, th_n⟩
  exact Or.inl ⟨_, _, _, _, _, FX2_poke_in h0 h1, FX3_poke_in h0 h1, rfl, rfl, th_n⟩
theorem th_peek : sm_peek thI 1 := by
  intro j gM gnC gbC gnL gbL gnF gbF gnQ gbQ gE gtp glf gtr glh gov mW mC mL mR mQ mE mtb mnC mnL mnR mov mnQ mwr mwl mft mth mpl x1 hj hI
  obtain ⟨e1, e2⟩ := hI (by omega)
  simp only [G0, M0, Prod.mk.injEq] at e1 e2
  obtain ⟨rfl, rfl, rfl, rfl, rfl, rfl, rfl, rfl, rfl, rfl, rfl, rfl, rfl, rfl, rfl⟩ := e1
  obtain ⟨rfl, rfl, rfl, rfl, rfl, rfl, rfl, rfl, rfl, rfl, rfl, rfl, rfl, rfl, rfl, rfl, rfl⟩ := e2
  by_cases h0 : x1 < 0
  · exact Or.inr ⟨_, _, ib0 (Or.inl h0), FX3_peek_out (Or.inl h0), rfl, th_n⟩
  by_cases h1 : 16384 ≤ x1
  · exact Or.inr ⟨_, _, ib0 (Or.inr h1), FX3_peek_out (Or.inr h1), rfl, th_n⟩
  exact Or.inl ⟨_, _, _, FX2_peek_in h0 h1, FX3_peek_in h0 h1, rfl, rfl, th_n⟩
theorem th_fill : sm_fill thI 1 := by
  intro j gM gnC gbC gnL gbL gnF gbF gnQ gbQ gE gtp glf gtr glh gov mW mC mL mR mQ mE mtb mnC mnL mnR mov mnQ mwr mwl mft mth mpl x1 x2 x3 x4 hj hI
  obtain ⟨e1, e2⟩ := hI (by omega)
  simp only [G0, M0, Prod.mk.injEq] at e1 e2
  obtain ⟨rfl, rfl, rfl, rfl, rfl, rfl, rfl, rfl, rfl, rfl, rfl, rfl, rfl, rfl, rfl⟩ := e1
  obtain ⟨rfl, rfl, rfl, rfl, rfl, rfl, rfl, rfl, rfl, rfl, rfl, rfl, rfl, rfl, rfl, rfl, rfl⟩ := e2
  obtain ⟨r, M2, h1, h2⟩ := fill_both x1 x2 x3 x4 (fun _ => 0) 0
  exact ⟨_, _, _, _, _, h1, h2, rfl, th_n⟩
theorem th_table : sm_table thI 1 := by
  intro j gM gnC gbC gnL gbL gnF gbF gnQ gbQ gE gtp glf gtr glh gov mW mC mL mR mQ mE mtb mnC mnL mnR mov mnQ mwr mwl mft mth mpl x1 hj hI
  obtain ⟨e1, e2⟩ := hI (by omega)
  simp only [G0, M0, Prod.mk.injEq] at e1 e2
  obtain ⟨rfl, rfl, rfl, rfl, rfl, rfl, rfl, rfl, rfl, rfl, rfl, rfl, rfl, rfl, rfl⟩ := e1
  obtain ⟨rfl, rfl, rfl, rfl, rfl, rfl, rfl, rfl, rfl, rfl, rfl, rfl, rfl, rfl, rfl, rfl, rfl⟩ := e2
  obtain ⟨r, t2, h1, h2, -⟩ := table_both x1 0 0
  exact ⟨_, _, _, _, _, h1, h2, rfl, th_n⟩
theorem th_fault : sm_fault thI 1 := by
  intro j gM gnC gbC gnL gbL gnF gbF gnQ gbQ gE gtp glf gtr glh gov mW mC mL mR mQ mE mtb mnC mnL mnR mov mnQ mwr mwl mft mth mpl  hj hI
  obtain ⟨e1, e2⟩ := hI (by omega)
  simp only [G0, M0, Prod.mk.injEq] at e1 e2
  obtain ⟨rfl, rfl, rfl, rfl, rfl, rfl, rfl, rfl, rfl, rfl, rfl, rfl, rfl, rfl, rfl⟩ := e1
  obtain ⟨rfl, rfl, rfl, rfl, rfl, rfl, rfl, rfl, rfl, rfl, rfl, rfl, rfl, rfl, rfl, rfl, rfl⟩ := e2
  exact ⟨_, _, _, rfl, rfl, rfl, th_n⟩
theorem th_clear : sm_clear thI 1 := by
  intro j gM gnC gbC gnL gbL gnF gbF gnQ gbQ gE gtp glf gtr glh gov mW mC mL mR mQ mE mtb mnC mnL mnR mov mnQ mwr mwl mft mth mpl  hj hI
  obtain ⟨e1, e2⟩ := hI (by omega)
  simp only [G0, M0, Prod.mk.injEq] at e1 e2
  obtain ⟨rfl, rfl, rfl, rfl, rfl, rfl, rfl, rfl, rfl, rfl, rfl, rfl, rfl, rfl, rfl⟩ := e1
  obtain ⟨rfl, rfl, rfl, rfl, rfl, rfl, rfl, rfl, rfl, rfl, rfl, rfl, rfl, rfl, rfl, rfl, rfl⟩ := e2
  exact ⟨_, _, _, _, _, _, _, rfl, rfl, rfl, th_n⟩
theorem th_drop : sm_drop thI 1 := by
  intro j gM gnC gbC gnL gbL gnF gbF gnQ gbQ gE gtp glf gtr glh gov mW mC mL mR mQ mE mtb mnC mnL mnR mov mnQ mwr mwl mft mth mpl  hj hI
  obtain ⟨e1, e2⟩ := hI (by omega)
  simp only [G0, M0, Prod.mk.injEq] at e1 e2
  obtain ⟨rfl, rfl, rfl, rfl, rfl, rfl, rfl, rfl, rfl, rfl, rfl, rfl, rfl, rfl, rfl⟩ := e1
  obtain ⟨rfl, rfl, rfl, rfl, rfl, rfl, rfl, rfl, rfl, rfl, rfl, rfl, rfl, rfl, rfl, rfl, rfl⟩ := e2
  exact ⟨_, _, _, _, _, _, _, rfl, rfl, rfl, th_n⟩
theorem bd2_e {α β γ : Type} (x : α) (y : β) (f : α → β → Option γ) : bd2 (some (x, y)) f = f x y := rfl
theorem FX1_has_0 (w x1 x2 : Int32) : FX1_has w x1 x2 0 = some 0 := by
  unfold FX1_has
  by_cases h : x1 < 0
  · rw [if_pos h]
  · rw [if_neg h, if_pos (by rw [Int32.le_iff_toInt_le]; rw [Int32.lt_iff_toInt_lt] at h; omega)]
theorem n0le {x : Int32} (h : ¬ x < 0) : 0 ≤ x := by rw [Int32.le_iff_toInt_le]; rw [Int32.lt_iff_toInt_lt] at h; omega
theorem th_record : sm_record thI 1 := by
  intro j gM gnC gbC gnL gbL gnF gbF gnQ gbQ gE gtp glf gtr glh gov mW mC mL mR mQ mE mtb mnC mnL mnR mov mnQ mwr mwl mft mth mpl x1 x2 hj hI
  obtain ⟨e1, e2⟩ := hI (by omega)
  simp only [G0, M0, Prod.mk.injEq] at e1 e2
  obtain ⟨rfl, rfl, rfl, rfl, rfl, rfl, rfl, rfl, rfl, rfl, rfl, rfl, rfl, rfl, rfl⟩ := e1
  obtain ⟨rfl, rfl, rfl, rfl, rfl, rfl, rfl, rfl, rfl, rfl, rfl, rfl, rfl, rfl, rfl, rfl, rfl⟩ := e2
  have e1 : FX2_record x1 x2 0 (fun _ => 0) = some (-1) := by unfold FX2_record FX1_cell; rw [FX1_has_0]; rfl
  have e2 : FX3_record x1 x2 (fun _ => 0) 0 0 = some (-1, 0) := by
    unfold FX3_record
    by_cases h : x1 < 0
    · rw [if_pos h]
    · rw [if_neg h, if_pos (n0le h)]
  exact ⟨_, _, _, e1, e2, rfl, th_n⟩
theorem th_leaf : sm_leaf thI 1 := by
  intro j gM gnC gbC gnL gbL gnF gbF gnQ gbQ gE gtp glf gtr glh gov mW mC mL mR mQ mE mtb mnC mnL mnR mov mnQ mwr mwl mft mth mpl x1 x2 hj hI
  obtain ⟨e1, e2⟩ := hI (by omega)
  simp only [G0, M0, Prod.mk.injEq] at e1 e2
  obtain ⟨rfl, rfl, rfl, rfl, rfl, rfl, rfl, rfl, rfl, rfl, rfl, rfl, rfl, rfl, rfl⟩ := e1
  obtain ⟨rfl, rfl, rfl, rfl, rfl, rfl, rfl, rfl, rfl, rfl, rfl, rfl, rfl, rfl, rfl, rfl, rfl⟩ := e2
  have e1 : FX2_leaf x1 x2 0 (fun _ => 0) = some (-1) := by unfold FX2_leaf FX1_cell; rw [FX1_has_0]; rfl
  have e2 : FX3_leaf x1 x2 (fun _ => 0) 0 0 = some (-1, 0) := by
    unfold FX3_leaf
    by_cases h : x1 < 0
    · rw [if_pos h]
    · rw [if_neg h, if_pos (n0le h)]
  exact ⟨_, _, _, e1, e2, rfl, th_n⟩
theorem th_count : sm_count thI 1 := by
  intro j gM gnC gbC gnL gbL gnF gbF gnQ gbQ gE gtp glf gtr glh gov mW mC mL mR mQ mE mtb mnC mnL mnR mov mnQ mwr mwl mft mth mpl x1 hj hI
  obtain ⟨e1, e2⟩ := hI (by omega)
  simp only [G0, M0, Prod.mk.injEq] at e1 e2
  obtain ⟨rfl, rfl, rfl, rfl, rfl, rfl, rfl, rfl, rfl, rfl, rfl, rfl, rfl, rfl, rfl⟩ := e1
  obtain ⟨rfl, rfl, rfl, rfl, rfl, rfl, rfl, rfl, rfl, rfl, rfl, rfl, rfl, rfl, rfl, rfl, rfl⟩ := e2
  by_cases k0 : x1 = 0
  · subst k0; exact ⟨_, _, _, rfl, rfl, rfl, th_n⟩
  by_cases k1 : x1 = 1
  · subst k1; exact ⟨_, _, _, rfl, rfl, rfl, th_n⟩
  by_cases k2 : x1 = 2
  · subst k2; exact ⟨_, _, _, rfl, rfl, rfl, th_n⟩
  by_cases k3 : x1 = 3
  · subst k3; exact ⟨_, _, _, rfl, rfl, rfl, th_n⟩
  by_cases k4 : x1 = 4
  · subst k4; exact ⟨_, _, _, rfl, rfl, rfl, th_n⟩
  by_cases k5 : x1 = 5
  · subst k5; exact ⟨_, _, _, rfl, rfl, rfl, th_n⟩
  by_cases k6 : x1 = 6
  · subst k6; exact ⟨_, _, _, rfl, rfl, rfl, th_n⟩
  by_cases k7 : x1 = 7
  · subst k7; exact ⟨_, _, _, rfl, rfl, rfl, th_n⟩
  have e1 : FX2_count x1 0 0 0 0 0 0 0 0 = some (-1) := by unfold FX2_count; rw [if_neg k0, if_neg k1, if_neg k2, if_neg k3, if_neg k4, if_neg k5, if_neg k6, if_neg k7]
  have e2 : FX3_count x1 0 0 0 0 0 0 0 0 0 = some (-1, 0) := by unfold FX3_count; rw [if_neg k0, if_neg k1, if_neg k2, if_neg k3, if_neg k4, if_neg k5, if_neg k6, if_neg k7]
  exact ⟨_, _, _, e1, e2, rfl, th_n⟩
theorem th_obey : sm_obey thI 1 := by
  intro j gM gnC gbC gnL gbL gnF gbF gnQ gbQ gE gtp glf gtr glh gov mW mC mL mR mQ mE mtb mnC mnL mnR mov mnQ mwr mwl mft mth mpl x1 hj hI
  obtain ⟨e1, e2⟩ := hI (by omega)
  simp only [G0, M0, Prod.mk.injEq] at e1 e2
  obtain ⟨rfl, rfl, rfl, rfl, rfl, rfl, rfl, rfl, rfl, rfl, rfl, rfl, rfl, rfl, rfl⟩ := e1
  obtain ⟨rfl, rfl, rfl, rfl, rfl, rfl, rfl, rfl, rfl, rfl, rfl, rfl, rfl, rfl, rfl, rfl, rfl⟩ := e2
  by_cases h : 0 ≤ x1
  · have e1 : FX2_obey x1 (fun _ => 0) 0 (fun _ => 0) 0 (fun _ => 0) 0 (fun _ => 0) = some (0, (fun _ => 0), 0, (fun _ => 0), 0, (fun _ => 0), 0, (fun _ => 0)) := by
      unfold FX2_obey
      rw [if_pos h, if_pos h]
      unfold FX2_obey_28
      rw [show fuel = 1999 + 1 from rfl, FX2_obey_31, if_pos (by decide)]
    have e2 : FX3_obey x1 (fun _ => 0) (fun _ => 0) (fun _ => 0) (fun _ => 0) 0 0 0 0 = some (0, (fun _ => 0), (fun _ => 0), (fun _ => 0), (fun _ => 0), 0, 0, 0, 0) := by
      unfold FX3_obey
      rw [if_pos h, show fuel = 1999 + 1 from rfl, FX3_obey_13]
      by_cases h2 : x1 ≤ 0
      · rw [if_pos h2]
      · rw [if_neg h2, if_pos (by decide)]
    exact ⟨_, _, _, _, _, _, _, _, _, _, _, _, _, _, _, _, _, e1, e2, rfl, th_n⟩
  · have e1 : FX2_obey x1 (fun _ => 0) 0 (fun _ => 0) 0 (fun _ => 0) 0 (fun _ => 0) = some (-1, (fun _ => 0), 0, (fun _ => 0), 0, (fun _ => 0), 0, (fun _ => 0)) := by
      unfold FX2_obey
      rw [if_neg h]
    have e2 : FX3_obey x1 (fun _ => 0) (fun _ => 0) (fun _ => 0) (fun _ => 0) 0 0 0 0 = some (-1, (fun _ => 0), (fun _ => 0), (fun _ => 0), (fun _ => 0), 0, 0, 0, 0) := by
      unfold FX3_obey
      rw [if_neg h]
    exact ⟨_, _, _, _, _, _, _, _, _, _, _, _, _, _, _, _, _, e1, e2, rfl, th_n⟩
theorem th_command : sm_command thI 1 := by
  intro j gM gnC gbC gnL gbL gnF gbF gnQ gbQ gE gtp glf gtr glh gov mW mC mL mR mQ mE mtb mnC mnL mnR mov mnQ mwr mwl mft mth mpl x1 x2 x3 hj hI
  obtain ⟨e1, e2⟩ := hI (by omega)
  simp only [G0, M0, Prod.mk.injEq] at e1 e2
  obtain ⟨rfl, rfl, rfl, rfl, rfl, rfl, rfl, rfl, rfl, rfl, rfl, rfl, rfl, rfl, rfl⟩ := e1
  obtain ⟨rfl, rfl, rfl, rfl, rfl, rfl, rfl, rfl, rfl, rfl, rfl, rfl, rfl, rfl, rfl, rfl, rfl⟩ := e2
  by_cases h0 : x1 < 0
  · exact ⟨_, _, _, _, _, _, _, by unfold FX2_command; rw [if_pos h0], by unfold FX3_command; rw [if_pos h0], rfl, th_n⟩
  by_cases h1 : 5 < x1
  · exact ⟨_, _, _, _, _, _, _, by unfold FX2_command; rw [if_neg h0, if_pos h1], by unfold FX3_command; rw [if_neg h0, if_pos h1], rfl, th_n⟩
  have e1 : ∃ g, FX2_command x1 x2 x3 0 (fun _ => 0) = some (1, g) := by
    unfold FX2_command
    rw [if_neg h0, if_neg h1]
    exact ⟨_, rfl⟩
  have e2 : ∃ g, FX3_command x1 x2 x3 (fun _ => 0) 0 0 = some (1, g) := by
    unfold FX3_command
    rw [if_neg h0, if_neg h1]
    exact ⟨_, rfl⟩
  obtain ⟨⟨o1, o2⟩, e1⟩ := e1
  obtain ⟨⟨p1, p2, p3⟩, e2⟩ := e2
  exact ⟨_, _, _, _, _, _, _, e1, e2, rfl, th_n⟩
theorem th_resume : sm_resume thI 1 := by
  intro j gM gnC gbC gnL gbL gnF gbF gnQ gbQ gE gtp glf gtr glh gov mW mC mL mR mQ mE mtb mnC mnL mnR mov mnQ mwr mwl mft mth mpl x1 hj hI
  obtain ⟨e1, e2⟩ := hI (by omega)
  simp only [G0, M0, Prod.mk.injEq] at e1 e2
  obtain ⟨rfl, rfl, rfl, rfl, rfl, rfl, rfl, rfl, rfl, rfl, rfl, rfl, rfl, rfl, rfl⟩ := e1
  obtain ⟨rfl, rfl, rfl, rfl, rfl, rfl, rfl, rfl, rfl, rfl, rfl, rfl, rfl, rfl, rfl, rfl, rfl⟩ := e2
  by_cases h0 : x1 < 0
  · exact ⟨_, _, _, _, _, by unfold FX2_resume; rw [ib0 (Or.inl h0)]; rfl, by unfold FX3_resume; rw [id0 (Or.inl h0)]; rfl, rfl, th_n⟩
  by_cases h1 : 8 ≤ x1
  · exact ⟨_, _, _, _, _, by unfold FX2_resume; rw [ib0 (Or.inr h1)]; rfl, by unfold FX3_resume; rw [id0 (Or.inr h1)]; rfl, rfl, th_n⟩
  have e1 : FX2_resume x1 (fun _ => e00) = some (-1, fun _ => e00) := dev8 (P := fun x1 => FX2_resume x1 (fun _ => e00) = some (-1, fun _ => e00)) rfl rfl rfl rfl rfl rfl rfl rfl h0 h1
  have e2 : FX3_resume x1 me00 0 = some (-1, me00, 0) := dev8 (P := fun x1 => FX3_resume x1 me00 0 = some (-1, me00, 0)) rfl rfl rfl rfl rfl rfl rfl rfl h0 h1
  exact ⟨_, _, _, _, _, e1, e2, rfl, th_n⟩
theorem fa_or (a b : Nat) : nI a ||| nI b = nI (a ||| b) := by
  apply Int32.toBitVec_inj.1
  show BitVec.ofNat 32 a ||| BitVec.ofNat 32 b = BitVec.ofNat 32 (a ||| b)
  apply BitVec.eq_of_getLsbD_eq
  intro i hi
  simp [hi]
theorem fa_or_sum {a k : Nat} (b : Nat) (h : a < 2 ^ k) : nI (2 ^ k * b) ||| nI a = nI (2 ^ k * b + a) := by rw [fa_or, Nat.two_pow_add_eq_or_of_lt h]
theorem lelt {x n m : Int32} (hm : n.toInt = m.toInt + 1) : n ≤ x ↔ m < x := by rw [Int32.le_iff_toInt_le, Int32.lt_iff_toInt_lt]; omega
theorem nlt_le {x m : Int32} : ¬ m < x ↔ x ≤ m := by rw [Int32.le_iff_toInt_le, Int32.lt_iff_toInt_lt]; omega
theorem placeIn_eq {x1 x2 : Int32} (h0 : ¬ x1 < 0) (h1 : ¬ 64 ≤ x1) (h2 : ¬ x2 < 0) (h3 : ¬ 16 ≤ x2) : ∃ a b : Nat, a < 64 ∧ b < 16 ∧ x1 = nI a ∧ x2 = nI b ∧ FX2_placeIn x1 x2 = some (nI (256 * a + b)) ∧ (256 : Int32) * x1 + x2 = nI (256 * a + b) := by
  obtain ⟨a, ha, rfl⟩ := nI_of h0
  obtain ⟨b, hb, rfl⟩ := nI_of h2
  rw [show (64 : Int32) = nI 64 from rfl, nI_leI (by omega) ha] at h1
  rw [show (16 : Int32) = nI 16 from rfl, nI_leI (by omega) hb] at h3
  refine ⟨a, b, by omega, by omega, rfl, rfl, ?_, ?_⟩
  · unfold FX2_placeIn
    rw [pk_shlN (n := a) ((8 : Int32) &&& 31) 8 (by decide) (by omega), Nat.mul_comm, fa_or_sum (k := 8) a (by omega)]
  · rw [show (256 : Int32) = nI 256 from rfl, pk_mul, nI_add]
theorem ctxG_bad {x1 x2 x3 x4 tp : Int32} {M : Nat → Int32} (h : (x1 < 0 ∨ 8 ≤ x1) ∨ (x3 < 0 ∨ 64 ≤ x3) ∨ (x4 < 0 ∨ 16 ≤ x4)) : FX2_context x1 x2 x3 x4 M tp = some (0, M) := by
  unfold FX2_context
  by_cases h0 : x1 < 0 ∨ 8 ≤ x1
  · rw [ib0 h0]; rfl
  rw [not_or] at h0
  rw [ib1 h0.1 h0.2, bd1_e, if_neg (by decide)]
  by_cases c : x3 < 0 ∨ 64 ≤ x3
  · rw [ib0 c]; rfl
  rw [not_or] at c
  rw [ib1 c.1 c.2, bd1_e, if_neg (by decide)]
  by_cases d : x4 < 0 ∨ 16 ≤ x4
  · rw [ib0 d]; rfl
  rw [not_or] at d
  simp [h0.1, h0.2, c.1, c.2, d.1, d.2] at h
theorem ctxG_ok {x1 x2 x3 x4 tp : Int32} {M : Nat → Int32} (h0 : ¬ x1 < 0 ∧ ¬ 8 ≤ x1) (c : ¬ x3 < 0 ∧ ¬ 64 ≤ x3) (d : ¬ x4 < 0 ∧ ¬ 16 ≤ x4) (q0 : ¬ (tp + 2 * x1) < 0) (q1 : ¬ 16384 ≤ tp + 2 * x1) (q2 : ¬ (tp + 2 * x1 + 1) < 0) (q3 : ¬ 16384 ≤ tp + 2 * x1 + 1) : FX2_context x1 x2 x3 x4 M tp = some (1, upd (upd M (tp + 2 * x1).toNatClampNeg (if x2 = 0 then (((1 : Int32) ||| (0 : Int32)) ||| (x3 <<< ((8 : Int32) &&& 31))) else (((1 : Int32) ||| (2 : Int32)) ||| (x3 <<< ((8 : Int32) &&& 31))))) (tp + 2 * x1 + 1).toNatClampNeg x4) := by
  unfold FX2_context FX2_contextPlace
  rw [ib1 h0.1 h0.2, bd1_e, if_neg (by decide), ib1 c.1 c.2, bd1_e, if_neg (by decide), ib1 d.1 d.2, bd1_e, if_neg (by decide), bd1_e]
  by_cases t : x2 = 0
  · rw [if_pos t, if_pos t, setWord_in q0 q1, bd2_e, setWord_in q2 q3, bd2_e]
  · rw [if_neg t, if_neg t, setWord_in q0 q1, bd2_e, setWord_in q2 q3, bd2_e]
theorem ctxM_bad {x1 x2 x3 x4 tb th : Int32} {M : Nat → Int32} (h : (x1 < 0 ∨ 8 ≤ x1) ∨ (x3 < 0 ∨ 64 ≤ x3) ∨ (x4 < 0 ∨ 16 ≤ x4)) : FX3_context x1 x2 x3 x4 M tb th = some (0, M, 0) := by
  unfold FX3_context
  by_cases h0 : x1 < 0 ∨ 8 ≤ x1
  · rw [id0 h0]; rfl
  rw [not_or] at h0
  rw [id1 h0.1 h0.2, bd1_e, if_neg (by decide)]
  by_cases c0 : x3 < 0
  · rw [if_pos c0]
  rw [if_neg c0]
  by_cases c1 : 64 ≤ x3
  · rw [if_pos ((lelt (m := 63) rfl).mp c1)]
  rw [if_neg (fun h => c1 ((lelt (m := 63) rfl).mpr h))]
  by_cases d0 : x4 < 0
  · rw [if_pos d0]
  rw [if_neg d0]
  by_cases d1 : 16 ≤ x4
  · rw [if_neg (fun h => nlt_le.mpr h ((lelt (m := 15) rfl).mp d1))]
  simp [h0.1, h0.2, c0, c1, d0, d1] at h
theorem ctxM_ok {x1 x2 x3 x4 tb th : Int32} {M : Nat → Int32} (h0 : ¬ x1 < 0 ∧ ¬ 8 ≤ x1) (c : ¬ x3 < 0 ∧ ¬ 64 ≤ x3) (d : ¬ x4 < 0 ∧ ¬ 16 ≤ x4) (i0 : inb (tb + 2 * x1) 16384 = true) (i1 : inb (tb + 2 * x1 + 1) 16384 = true) : FX3_context x1 x2 x3 x4 M tb th = some (1, upd (upd M (tb + 2 * x1).toNatClampNeg (if x2 = 0 then (((1 : Int32) + 0) + ((256 : Int32) * x3)) else (((1 : Int32) + 2) + ((256 : Int32) * x3)))) (tb + 2 * x1 + 1).toNatClampNeg x4, 0) := by
  unfold FX3_context
  rw [id1 h0.1 h0.2, bd1_e, if_neg (by decide), if_neg c.1, if_neg (fun h => c.2 ((lelt (m := 63) rfl).mpr h)), if_neg d.1, if_pos (nlt_le.mp (fun h => d.2 ((lelt (m := 15) rfl).mpr h)))]
  by_cases t : x2 = 0
  · rw [if_pos t, if_pos t, gd_t i0, gd_t i1]
  · rw [if_neg t, if_neg t, gd_t i0, gd_t i1]
theorem entG_bad {x1 x2 x3 x4 x5 : Int32} {M : Nat → Int32} (h : (x1 < 0 ∨ 64 ≤ x1) ∨ (x2 < 0 ∨ 16 ≤ x2) ∨ (x3 < 0 ∨ 4 ≤ x3) ∨ (x5 < 0 ∨ 64 ≤ x5)) : FX2_enter x1 x2 x3 x4 x5 M = some (0, M) := by
  unfold FX2_enter
  by_cases h0 : x1 < 0 ∨ 64 ≤ x1
  · rw [ib0 h0]; rfl
  rw [not_or] at h0
  rw [ib1 h0.1 h0.2, bd1_e, if_neg (by decide)]
  by_cases c : x2 < 0 ∨ 16 ≤ x2
  · rw [ib0 c]; rfl
  rw [not_or] at c
  rw [ib1 c.1 c.2, bd1_e, if_neg (by decide)]
  by_cases d : x3 < 0 ∨ 4 ≤ x3
  · rw [ib0 d]; rfl
  rw [not_or] at d
  rw [ib1 d.1 d.2, bd1_e, if_neg (by decide)]
  by_cases e : x5 < 0 ∨ 64 ≤ x5
  · rw [ib0 e]; rfl
  rw [not_or] at e
  simp [h0.1, h0.2, c.1, c.2, d.1, d.2, e.1, e.2] at h
theorem entG_ok {x1 x2 x3 x4 x5 : Int32} {M : Nat → Int32} {a b : Nat} (h0 : ¬ x1 < 0 ∧ ¬ 64 ≤ x1) (c : ¬ x2 < 0 ∧ ¬ 16 ≤ x2) (d : ¬ x3 < 0 ∧ ¬ 4 ≤ x3) (e : ¬ x5 < 0 ∧ ¬ 64 ≤ x5) (ha : a < 64) (hb : b < 16) (hp : FX2_placeIn x1 x2 = some (nI (256 * a + b))) : FX2_enter x1 x2 x3 x4 x5 M = some (1, upd M (nI (256 * a + b)).toNatClampNeg (if x4 = 0 then ((((1 : Int32) ||| (x3 <<< ((1 : Int32) &&& 31))) ||| (0 : Int32)) ||| (x5 <<< ((8 : Int32) &&& 31))) else ((((1 : Int32) ||| (x3 <<< ((1 : Int32) &&& 31))) ||| (8 : Int32)) ||| (x5 <<< ((8 : Int32) &&& 31))))) := by
  have q0 : ¬ nI (256 * a + b) < 0 := nI_pos (by omega)
  have q1 : ¬ 16384 ≤ nI (256 * a + b) := by rw [show (16384 : Int32) = nI 16384 from rfl, nI_leI (by omega) (by omega)]; omega
  unfold FX2_enter
  rw [ib1 h0.1 h0.2, bd1_e, if_neg (by decide), ib1 c.1 c.2, bd1_e, if_neg (by decide), ib1 d.1 d.2, bd1_e, if_neg (by decide), ib1 e.1 e.2, bd1_e, if_neg (by decide), hp, bd1_e]
  by_cases t : x4 = 0
  · rw [if_pos t, if_pos t, setWord_in q0 q1, bd2_e]
  · rw [if_neg t, if_neg t, setWord_in q0 q1, bd2_e]
theorem entM_bad {x1 x2 x3 x4 x5 th : Int32} {M : Nat → Int32} (h : (x1 < 0 ∨ 64 ≤ x1) ∨ (x2 < 0 ∨ 16 ≤ x2) ∨ (x3 < 0 ∨ 4 ≤ x3) ∨ (x5 < 0 ∨ 64 ≤ x5)) : FX3_enter x1 x2 x3 x4 x5 M th = some (0, M, 0) := by
  unfold FX3_enter
  by_cases a0 : x1 < 0
  · rw [if_pos a0]
  rw [if_neg a0]
  by_cases a1 : 64 ≤ x1
  · rw [if_pos ((lelt (m := 63) rfl).mp a1)]
  rw [if_neg (fun h => a1 ((lelt (m := 63) rfl).mpr h))]
  by_cases b0 : x2 < 0
  · rw [if_pos b0]
  rw [if_neg b0]
  by_cases b1 : 16 ≤ x2
  · rw [if_pos ((lelt (m := 15) rfl).mp b1)]
  rw [if_neg (fun h => b1 ((lelt (m := 15) rfl).mpr h))]
  by_cases c0 : x3 < 0
  · rw [if_pos c0]
  rw [if_neg c0]
  by_cases c1 : 4 ≤ x3
  · rw [if_pos ((lelt (m := 3) rfl).mp c1)]
  rw [if_neg (fun h => c1 ((lelt (m := 3) rfl).mpr h))]
  by_cases d0 : x5 < 0
  · rw [if_pos d0]
  rw [if_neg d0]
  by_cases d1 : 64 ≤ x5
  · rw [if_neg (fun h => nlt_le.mpr h ((lelt (m := 63) rfl).mp d1))]
  simp [a0, a1, b0, b1, c0, c1, d0, d1] at h
theorem entM_ok {x1 x2 x3 x4 x5 th : Int32} {M : Nat → Int32} {a b : Nat} (h0 : ¬ x1 < 0 ∧ ¬ 64 ≤ x1) (c : ¬ x2 < 0 ∧ ¬ 16 ≤ x2) (d : ¬ x3 < 0 ∧ ¬ 4 ≤ x3) (e : ¬ x5 < 0 ∧ ¬ 64 ≤ x5) (ha : a < 64) (hb : b < 16) (hp : (256 : Int32) * x1 + x2 = nI (256 * a + b)) : FX3_enter x1 x2 x3 x4 x5 M th = some (1, upd M (nI (256 * a + b)).toNatClampNeg (if x4 = 0 then ((((1 : Int32) + ((2 : Int32) * x3)) + 0) + ((256 : Int32) * x5)) else ((((1 : Int32) + ((2 : Int32) * x3)) + 8) + ((256 : Int32) * x5))), 0) := by
  have hi : inb (nI (256 * a + b)) 16384 = true := inbo (n := 16384) rfl (by decide) (nI_pos (by omega)) (by rw [show (16384 : Int32) = nI 16384 from rfl, nI_leI (by omega) (by omega)]; omega)
  unfold FX3_enter
  rw [if_neg h0.1, if_neg (fun h => h0.2 ((lelt (m := 63) rfl).mpr h)), if_neg c.1, if_neg (fun h => c.2 ((lelt (m := 15) rfl).mpr h)), if_neg d.1, if_neg (fun h => d.2 ((lelt (m := 3) rfl).mpr h)), if_neg e.1, if_pos (nlt_le.mp (fun h => e.2 ((lelt (m := 63) rfl).mpr h))), hp]
  by_cases t : x4 = 0
  · rw [if_pos t, if_pos t, gd_t hi]
  · rw [if_neg t, if_neg t, gd_t hi]
theorem th_context : sm_context thI 1 := by
  intro j gM gnC gbC gnL gbL gnF gbF gnQ gbQ gE gtp glf gtr glh gov mW mC mL mR mQ mE mtb mnC mnL mnR mov mnQ mwr mwl mft mth mpl x1 x2 x3 x4 hj hI
  obtain ⟨e1, e2⟩ := hI (by omega)
  simp only [G0, M0, Prod.mk.injEq] at e1 e2
  obtain ⟨rfl, rfl, rfl, rfl, rfl, rfl, rfl, rfl, rfl, rfl, rfl, rfl, rfl, rfl, rfl⟩ := e1
  obtain ⟨rfl, rfl, rfl, rfl, rfl, rfl, rfl, rfl, rfl, rfl, rfl, rfl, rfl, rfl, rfl, rfl, rfl⟩ := e2
  by_cases hb : (x1 < 0 ∨ 8 ≤ x1) ∨ (x3 < 0 ∨ 64 ≤ x3) ∨ (x4 < 0 ∨ 16 ≤ x4)
  · exact ⟨_, _, _, _, _, ctxG_bad hb, ctxM_bad hb, rfl, th_n⟩
  have h0 : ¬ x1 < 0 ∧ ¬ 8 ≤ x1 := ⟨fun h => hb (Or.inl (Or.inl h)), fun h => hb (Or.inl (Or.inr h))⟩
  have c : ¬ x3 < 0 ∧ ¬ 64 ≤ x3 := ⟨fun h => hb (Or.inr (Or.inl (Or.inl h))), fun h => hb (Or.inr (Or.inl (Or.inr h)))⟩
  have d : ¬ x4 < 0 ∧ ¬ 16 ≤ x4 := ⟨fun h => hb (Or.inr (Or.inr (Or.inl h))), fun h => hb (Or.inr (Or.inr (Or.inr h)))⟩
  have q0 : ¬ (0 + 2 * x1 : Int32) < 0 := dev8 (P := fun x1 => ¬ (0 + 2 * x1 : Int32) < 0) (by decide) (by decide) (by decide) (by decide) (by decide) (by decide) (by decide) (by decide) h0.1 h0.2
  have q1 : ¬ (16384 : Int32) ≤ 0 + 2 * x1 := dev8 (P := fun x1 => ¬ (16384 : Int32) ≤ 0 + 2 * x1) (by decide) (by decide) (by decide) (by decide) (by decide) (by decide) (by decide) (by decide) h0.1 h0.2
  have q2 : ¬ (0 + 2 * x1 + 1 : Int32) < 0 := dev8 (P := fun x1 => ¬ (0 + 2 * x1 + 1 : Int32) < 0) (by decide) (by decide) (by decide) (by decide) (by decide) (by decide) (by decide) (by decide) h0.1 h0.2
  have q3 : ¬ (16384 : Int32) ≤ 0 + 2 * x1 + 1 := dev8 (P := fun x1 => ¬ (16384 : Int32) ≤ 0 + 2 * x1 + 1) (by decide) (by decide) (by decide) (by decide) (by decide) (by decide) (by decide) (by decide) h0.1 h0.2
  exact ⟨_, _, _, _, _, ctxG_ok h0 c d q0 q1 q2 q3, ctxM_ok h0 c d (inbo (n := 16384) rfl (by decide) q0 q1) (inbo (n := 16384) rfl (by decide) q2 q3), rfl, th_n⟩
theorem th_enter : sm_enter thI 1 := by
  intro j gM gnC gbC gnL gbL gnF gbF gnQ gbQ gE gtp glf gtr glh gov mW mC mL mR mQ mE mtb mnC mnL mnR mov mnQ mwr mwl mft mth mpl x1 x2 x3 x4 x5 hj hI
  obtain ⟨e1, e2⟩ := hI (by omega)
  simp only [G0, M0, Prod.mk.injEq] at e1 e2
  obtain ⟨rfl, rfl, rfl, rfl, rfl, rfl, rfl, rfl, rfl, rfl, rfl, rfl, rfl, rfl, rfl⟩ := e1
  obtain ⟨rfl, rfl, rfl, rfl, rfl, rfl, rfl, rfl, rfl, rfl, rfl, rfl, rfl, rfl, rfl, rfl, rfl⟩ := e2
  by_cases hb : (x1 < 0 ∨ 64 ≤ x1) ∨ (x2 < 0 ∨ 16 ≤ x2) ∨ (x3 < 0 ∨ 4 ≤ x3) ∨ (x5 < 0 ∨ 64 ≤ x5)
  · exact ⟨_, _, _, _, _, entG_bad hb, entM_bad hb, rfl, th_n⟩
  rw [not_or, not_or, not_or, not_or, not_or, not_or, not_or] at hb
  obtain ⟨h0, c, d, e⟩ := hb
  obtain ⟨a, b, ha, hb, -, -, hp1, hp2⟩ := placeIn_eq h0.1 h0.2 c.1 c.2
  exact ⟨_, _, _, _, _, entG_ok h0 c d e ha hb hp1, entM_ok h0 c d e ha hb hp2, rfl, th_n⟩
theorem th_engine : sm_engine thI 1 := by
  intro j gM gnC gbC gnL gbL gnF gbF gnQ gbQ gE gtp glf gtr glh gov mW mC mL mR mQ mE mtb mnC mnL mnR mov mnQ mwr mwl mft mth mpl x1 x2 hj hI
  obtain ⟨e1, e2⟩ := hI (by omega)
  simp only [G0, M0, Prod.mk.injEq] at e1 e2
  obtain ⟨rfl, rfl, rfl, rfl, rfl, rfl, rfl, rfl, rfl, rfl, rfl, rfl, rfl, rfl, rfl⟩ := e1
  obtain ⟨rfl, rfl, rfl, rfl, rfl, rfl, rfl, rfl, rfl, rfl, rfl, rfl, rfl, rfl, rfl, rfl, rfl⟩ := e2
  by_cases h0 : x1 < 0
  · exact ⟨_, _, _, by unfold FX2_engine; rw [ib0 (Or.inl h0)]; rfl, by unfold FX3_engine; rw [id0 (Or.inl h0)]; rfl, rfl, th_n⟩
  by_cases h1 : 8 ≤ x1
  · exact ⟨_, _, _, by unfold FX2_engine; rw [ib0 (Or.inr h1)]; rfl, by unfold FX3_engine; rw [id0 (Or.inr h1)]; rfl, rfl, th_n⟩
  have key : ∀ (x2 r : Int32), (∀ x1 : Int32, ¬ x1 < 0 → ¬ 8 ≤ x1 → FX2_engine x1 x2 (fun _ => e00) = some r ∧ FX3_engine x1 x2 me00 0 = some (r, 0)) → ∃ r rm omth, FX2_engine x1 x2 (fun _ => e00) = some r ∧ FX3_engine x1 x2 me00 0 = some (rm, omth) ∧ r = rm ∧ thI (j + 1) ((fun _ => 0), 0, (fun _ => 0), 0, (fun _ => 0), 0, (fun _ => 0), 0, (fun _ => 0), (fun _ => e00), 0, 0, 0, 0, 0) ((fun _ => 0), (fun _ => 0), (fun _ => 0), (fun _ => 0), (fun _ => 0), me00, 0, 0, 0, 0, 0, 0, 0, 0, 0, omth, 0) := fun x2 r h => ⟨_, _, _, (h x1 h0 h1).1, (h x1 h0 h1).2, rfl, th_n⟩
  by_cases k0 : x2 = 0
  · subst k0; exact key 0 0 (fun x1 h0 h1 => dev8 (P := fun x1 => FX2_engine x1 0 (fun _ => e00) = some 0 ∧ FX3_engine x1 0 me00 0 = some (0, 0)) ⟨rfl, rfl⟩ ⟨rfl, rfl⟩ ⟨rfl, rfl⟩ ⟨rfl, rfl⟩ ⟨rfl, rfl⟩ ⟨rfl, rfl⟩ ⟨rfl, rfl⟩ ⟨rfl, rfl⟩ h0 h1)
  by_cases k1 : x2 = 1
  · subst k1; exact key 1 0 (fun x1 h0 h1 => dev8 (P := fun x1 => FX2_engine x1 1 (fun _ => e00) = some 0 ∧ FX3_engine x1 1 me00 0 = some (0, 0)) ⟨rfl, rfl⟩ ⟨rfl, rfl⟩ ⟨rfl, rfl⟩ ⟨rfl, rfl⟩ ⟨rfl, rfl⟩ ⟨rfl, rfl⟩ ⟨rfl, rfl⟩ ⟨rfl, rfl⟩ h0 h1)
  by_cases k2 : x2 = 2
  · subst k2; exact key 2 0 (fun x1 h0 h1 => dev8 (P := fun x1 => FX2_engine x1 2 (fun _ => e00) = some 0 ∧ FX3_engine x1 2 me00 0 = some (0, 0)) ⟨rfl, rfl⟩ ⟨rfl, rfl⟩ ⟨rfl, rfl⟩ ⟨rfl, rfl⟩ ⟨rfl, rfl⟩ ⟨rfl, rfl⟩ ⟨rfl, rfl⟩ ⟨rfl, rfl⟩ h0 h1)
  by_cases k3 : x2 = 3
  · subst k3; exact key 3 0 (fun x1 h0 h1 => dev8 (P := fun x1 => FX2_engine x1 3 (fun _ => e00) = some 0 ∧ FX3_engine x1 3 me00 0 = some (0, 0)) ⟨rfl, rfl⟩ ⟨rfl, rfl⟩ ⟨rfl, rfl⟩ ⟨rfl, rfl⟩ ⟨rfl, rfl⟩ ⟨rfl, rfl⟩ ⟨rfl, rfl⟩ ⟨rfl, rfl⟩ h0 h1)
  by_cases k4 : x2 = 4
  · subst k4; exact key 4 (-1) (fun x1 h0 h1 => dev8 (P := fun x1 => FX2_engine x1 4 (fun _ => e00) = some (-1) ∧ FX3_engine x1 4 me00 0 = some (-1, 0)) ⟨rfl, rfl⟩ ⟨rfl, rfl⟩ ⟨rfl, rfl⟩ ⟨rfl, rfl⟩ ⟨rfl, rfl⟩ ⟨rfl, rfl⟩ ⟨rfl, rfl⟩ ⟨rfl, rfl⟩ h0 h1)
  refine key x2 (-1) (fun x1 h0 h1 => ⟨?_, ?_⟩)
  · unfold FX2_engine; rw [ib1 h0 h1, bd1_e, if_neg (by decide), gd_t (inbo (n := 8) rfl (by decide) h0 h1), if_neg k0, if_neg k1, if_neg k2, if_neg k3, if_neg k4]
  · unfold FX3_engine; rw [id1 h0 h1, bd1_e, if_neg (by decide), if_neg k0, if_neg k1, if_neg k2, if_neg k3, if_neg k4]
theorem gt_of_ge {x : Int32} (h : 1048576 ≤ x) : ¬ x ≤ 1048575 := by rw [Int32.le_iff_toInt_le] at *; have e1 : (1048576 : Int32).toInt = 1048576 := rfl; have e2 : (1048575 : Int32).toInt = 1048575 := rfl; omega
theorem le_of_nge {x : Int32} (h : ¬ 1048576 ≤ x) : x ≤ 1048575 := by rw [Int32.le_iff_toInt_le] at *; have e1 : (1048576 : Int32).toInt = 1048576 := rfl; have e2 : (1048575 : Int32).toInt = 1048575 := rfl; omega
/-- a fresh gate refuses every access -/
theorem lead_fr (x1 x2 x3 : Int32) (h0 : ¬ x1 < 0) (h1 : ¬ 8 ≤ x1) : ∃ (r t : Int32), (r = -4 ∨ r = -1) ∧ FX2_lead x1 x2 x3 (fun _ => 0) 0 (fun _ => 0) 0 (fun _ => 0) 0 0 0 = some (r, 0, (fun _ => 0), 0, (fun _ => 0), t, 0) := by
  by_cases a : x2 < 0 ∨ 1048576 ≤ x2
  · exact ⟨-4, 0, Or.inl rfl, by unfold FX2_lead; rw [ib0 a]; rfl⟩
  · rw [not_or] at a
    refine ⟨-1, 1, Or.inr rfl, ?_⟩
    unfold FX2_lead
    rw [ib1 a.1 a.2, bd1_e, if_neg (by decide)]
    have hc : FX2_contextOf x1 (fun _ => 0) 0 (fun _ => 0) 0 0 = some (-1, 0, (fun _ => 0), 1) := by
      unfold FX2_contextOf
      rw [show fuel = 1999 + 1 from rfl, FX2_contextOf_2, if_pos (by decide)]
      exact dev8 (P := fun x1 => bd1 (FX2_contextPlace x1 0) (fun rq2 => bd1 (FX2_wordAt rq2 (fun _ => 0)) (fun rq3 => if (rq3 &&& (1 : Int32)) = 0 then some ((-1 : Int32), (0 : Int32), (fun (_ : Nat) => (0 : Int32)), ((0 : Int32) + 1)) else bd3 (FX1_open 3 3 9 0 (fun _ => 0)) (fun rq5 q5rn q5rB => bd1 (FX1_put 3 9 rq5 0 x1 q5rn q5rB) (fun q6rB => bd1 (FX1_put 3 9 rq5 1 rq3 q5rn q6rB) (fun q7rB => bd1 (FX2_wordAt (rq2 + 1) (fun _ => 0)) (fun rq8 => bd1 (FX1_put 3 9 rq5 2 (rq8 &&& (15 : Int32)) q5rn q7rB) (fun q9rB => some (rq5, q5rn, q9rB, ((0 : Int32) + 1))))))))) = some (-1, 0, (fun _ => 0), 1)) rfl rfl rfl rfl rfl rfl rfl rfl h0 h1
    rw [hc]
    rfl
theorem access_fr (x1 x2 x3 : Int32) (h3 : x3 = 0 ∨ x3 = 1) (h0 : ¬ x1 < 0) (h1 : ¬ 8 ≤ x1) : ∃ (r : Int32), ∃ g, (r = -4 ∨ r = -1) ∧ FX2_access x1 x2 x3 (fun _ => 0) 0 (fun _ => 0) 0 (fun _ => 0) 0 (fun _ => 0) 0 0 0 0 0 = some (r, g) := by
  unfold FX2_access
  rcases h3 with rfl | rfl
  · obtain ⟨r, t, hr, e⟩ := lead_fr x1 x2 1 h0 h1
    rw [if_pos rfl, e]
    rcases hr with rfl | rfl
    · exact ⟨_, _, Or.inl rfl, rfl⟩
    · exact ⟨_, _, Or.inr rfl, rfl⟩
  · obtain ⟨r, t, hr, e⟩ := lead_fr x1 x2 2 h0 h1
    rw [if_neg (by decide), e]
    rcases hr with rfl | rfl
    · exact ⟨_, _, Or.inl rfl, rfl⟩
    · exact ⟨_, _, Or.inr rfl, rfl⟩
/-- and so does a fresh reference -/
theorem may_fr (x1 x2 x3 : Int32) (h3 : x3 = 0 ∨ x3 = 1) (h0 : ¬ x1 < 0) (h1 : ¬ 8 ≤ x1) (ft : Int32) : ∃ g, FX3_may x1 x2 x3 (fun _ => 0) (fun _ => 0) (fun _ => 0) (fun _ => 0) 0 0 0 0 0 0 0 ft 0 = some (0, g) := by
  have hl : ∃ (r t : Int32), (r = 4 ∨ r = 1) ∧ FX3_lead x1 x2 x3 (fun _ => 0) (fun _ => 0) (fun _ => 0) 0 0 0 0 0 0 = some (r, (fun _ => 0), (fun _ => 0), 0, 0, t, 0, 0) := by
    unfold FX3_lead
    by_cases a0 : x2 < 0
    · exact ⟨4, 0, Or.inl rfl, by rw [if_pos a0]⟩
    rw [if_neg a0]
    by_cases a1 : x2 ≤ 1048575
    · rw [if_pos a1]
      refine ⟨1, 1, Or.inr rfl, ?_⟩
      have hc : FX3_contextOf x1 (fun _ => 0) 0 = some (-1) := by
        unfold FX3_contextOf
        rw [show fuel = 1999 + 1 from rfl, FX3_contextOf_2, if_pos (by decide)]
      have i0 : inb (0 + 2 * x1) 16384 = true := dev8 (P := fun x1 => inb (0 + 2 * x1) 16384 = true) (by decide) (by decide) (by decide) (by decide) (by decide) (by decide) (by decide) (by decide) h0 h1
      have i1 : inb (0 + 2 * x1 + 1) 16384 = true := dev8 (P := fun x1 => inb (0 + 2 * x1 + 1) 16384 = true) (by decide) (by decide) (by decide) (by decide) (by decide) (by decide) (by decide) (by decide) h0 h1
      rw [hc, bd1_e, if_pos rfl, gd_t i0, gd_t i1]
      exact (if_pos (show ((0 : Int32) &&& 1) = 0 by decide)).trans rfl
    · exact ⟨4, 0, Or.inl rfl, by rw [if_neg a1]⟩
  obtain ⟨r, t, hr, e⟩ := hl
  unfold FX3_may
  rw [e]
  rcases hr with rfl | rfl <;> rcases h3 with rfl | rfl <;> exact ⟨_, rfl⟩
theorem th_read : sm_read thI 1 := by
  intro j gM gnC gbC gnL gbL gnF gbF gnQ gbQ gE gtp glf gtr glh gov mW mC mL mR mQ mE mtb mnC mnL mnR mov mnQ mwr mwl mft mth mpl x1 x2 hj hI
  obtain ⟨e1, e2⟩ := hI (by omega)
  simp only [G0, M0, Prod.mk.injEq] at e1 e2
  obtain ⟨rfl, rfl, rfl, rfl, rfl, rfl, rfl, rfl, rfl, rfl, rfl, rfl, rfl, rfl, rfl⟩ := e1
  obtain ⟨rfl, rfl, rfl, rfl, rfl, rfl, rfl, rfl, rfl, rfl, rfl, rfl, rfl, rfl, rfl, rfl, rfl⟩ := e2
  by_cases h0 : x1 < 0
  · have e2 : FX3_read x1 x2 (fun _ => 0) (fun _ => 0) (fun _ => 0) (fun _ => 0) 0 0 0 0 0 0 0 0 0 0 = some (0, (fun _ => 0), (fun _ => 0), (fun _ => 0), 0, 0, 0, 0, 0, 0, 0, 1, 0) := by unfold FX3_read; rw [id0 (Or.inl h0)]; rfl
    exact Or.inr ⟨_, _, _, _, _, _, _, _, _, _, _, _, _, ib0 (Or.inl h0), e2, rfl, th_n⟩
  by_cases h1 : 8 ≤ x1
  · have e2 : FX3_read x1 x2 (fun _ => 0) (fun _ => 0) (fun _ => 0) (fun _ => 0) 0 0 0 0 0 0 0 0 0 0 = some (0, (fun _ => 0), (fun _ => 0), (fun _ => 0), 0, 0, 0, 0, 0, 0, 0, 1, 0) := by unfold FX3_read; rw [id0 (Or.inr h1)]; rfl
    exact Or.inr ⟨_, _, _, _, _, _, _, _, _, _, _, _, _, ib0 (Or.inr h1), e2, rfl, th_n⟩
  obtain ⟨r, ⟨g1, g2, g3, g4, g5, g6, g7, g8, g9, g10⟩, hr, eg⟩ := access_fr x1 x2 0 (Or.inl rfl) h0 h1
  obtain ⟨⟨m1, m2, m3, m4, m5, m6, m7, m8, m9, m10, m11⟩, em⟩ := may_fr x1 x2 0 (Or.inl rfl) h0 h1 0
  have e1 : FX2_read x1 x2 (fun _ => 0) 0 (fun _ => 0) 0 (fun _ => 0) 0 (fun _ => 0) 0 0 0 0 0 = some (0, g1, g2, g3, g4, g5, g6, g7, g8, g9, g10) := by
    unfold FX2_read
    rw [ib1 h0 h1, bd1_e, if_neg (by decide), eg]
    rcases hr with rfl | rfl <;> rfl
  have e2 : FX3_read x1 x2 (fun _ => 0) (fun _ => 0) (fun _ => 0) (fun _ => 0) 0 0 0 0 0 0 0 0 0 0 = some (0, m1, m2, m3, m4, m5, m6, m7, m8, m9, m10, 0, m11) := by
    unfold FX3_read
    rw [id1 h0 h1, bd1_e, if_neg (by decide), em]
    rfl
  exact Or.inl ⟨_, _, _, _, _, _, _, _, _, _, _, _, _, _, _, _, _, _, _, _, _, _, _, _, e1, e2, rfl, rfl, th_n⟩
theorem th_write : sm_write thI 1 := by
  intro j gM gnC gbC gnL gbL gnF gbF gnQ gbQ gE gtp glf gtr glh gov mW mC mL mR mQ mE mtb mnC mnL mnR mov mnQ mwr mwl mft mth mpl x1 x2 x3 hj hI
  obtain ⟨e1, e2⟩ := hI (by omega)
  simp only [G0, M0, Prod.mk.injEq] at e1 e2
  obtain ⟨rfl, rfl, rfl, rfl, rfl, rfl, rfl, rfl, rfl, rfl, rfl, rfl, rfl, rfl, rfl⟩ := e1
  obtain ⟨rfl, rfl, rfl, rfl, rfl, rfl, rfl, rfl, rfl, rfl, rfl, rfl, rfl, rfl, rfl, rfl, rfl⟩ := e2
  by_cases h0 : x1 < 0
  · exact ⟨_, _, _, _, _, _, _, _, _, _, _, _, _, _, _, _, _, _, _, _, _, _, _, _, _, _, by unfold FX2_write; rw [ib0 (Or.inl h0)]; rfl, by unfold FX3_write; rw [id0 (Or.inl h0)]; rfl, rfl, th_n⟩
  by_cases h1 : 8 ≤ x1
  · exact ⟨_, _, _, _, _, _, _, _, _, _, _, _, _, _, _, _, _, _, _, _, _, _, _, _, _, _, by unfold FX2_write; rw [ib0 (Or.inr h1)]; rfl, by unfold FX3_write; rw [id0 (Or.inr h1)]; rfl, rfl, th_n⟩
  obtain ⟨r, ⟨g1, g2, g3, g4, g5, g6, g7, g8, g9, g10⟩, hr, eg⟩ := access_fr x1 x2 1 (Or.inr rfl) h0 h1
  obtain ⟨⟨m1, m2, m3, m4, m5, m6, m7, m8, m9, m10, m11⟩, em⟩ := may_fr x1 x2 1 (Or.inr rfl) h0 h1 0
  have e1 : FX2_write x1 x2 x3 (fun _ => 0) 0 (fun _ => 0) 0 (fun _ => 0) 0 (fun _ => 0) 0 0 0 0 0 = some (0, (fun _ => 0), g1, g2, g3, g4, g5, g6, g7, g8, g9, g10) := by
    unfold FX2_write
    rw [ib1 h0 h1, bd1_e, if_neg (by decide), eg]
    rcases hr with rfl | rfl <;> rfl
  have e2 : FX3_write x1 x2 x3 (fun _ => 0) (fun _ => 0) (fun _ => 0) (fun _ => 0) 0 0 0 0 0 0 0 0 0 0 = some (0, (fun _ => 0), m1, m2, m3, m4, m5, m6, m7, m8, m9, m10, 0, m11) := by
    unfold FX3_write
    rw [id1 h0 h1, bd1_e, if_neg (by decide), em]
    rfl
  exact ⟨_, _, _, _, _, _, _, _, _, _, _, _, _, _, _, _, _, _, _, _, _, _, _, _, _, _, e1, e2, rfl, th_n⟩
theorem th_ring : sm_ring thI 1 := by
  intro j gM gnC gbC gnL gbL gnF gbF gnQ gbQ gE gtp glf gtr glh gov mW mC mL mR mQ mE mtb mnC mnL mnR mov mnQ mwr mwl mft mth mpl x1 x2 x3 hj hI
  obtain ⟨e1, e2⟩ := hI (by omega)
  simp only [G0, M0, Prod.mk.injEq] at e1 e2
  obtain ⟨rfl, rfl, rfl, rfl, rfl, rfl, rfl, rfl, rfl, rfl, rfl, rfl, rfl, rfl, rfl⟩ := e1
  obtain ⟨rfl, rfl, rfl, rfl, rfl, rfl, rfl, rfl, rfl, rfl, rfl, rfl, rfl, rfl, rfl, rfl, rfl⟩ := e2
  by_cases h0 : x1 < 0
  · exact ⟨_, _, _, _, _, by unfold FX2_ring; rw [ib0 (Or.inl h0)]; rfl, by unfold FX3_ring; rw [id0 (Or.inl h0)]; rfl, rfl, th_n⟩
  by_cases h1 : 8 ≤ x1
  · exact ⟨_, _, _, _, _, by unfold FX2_ring; rw [ib0 (Or.inr h1)]; rfl, by unfold FX3_ring; rw [id0 (Or.inr h1)]; rfl, rfl, th_n⟩
  by_cases a0 : x2 < 0
  · exact ⟨_, _, _, _, _, by unfold FX2_ring; rw [ib1 h0 h1, bd1_e, if_neg (by decide), ib0 (Or.inl a0)]; rfl, by unfold FX3_ring; rw [id1 h0 h1, bd1_e, if_neg (by decide), if_pos a0], rfl, th_n⟩
  by_cases a1 : 1048576 ≤ x2
  · have a2 : 1048572 < x2 := by rw [Int32.le_iff_toInt_le] at a1; rw [Int32.lt_iff_toInt_lt]; have e1 : (1048576 : Int32).toInt = 1048576 := rfl; have e2 : (1048572 : Int32).toInt = 1048572 := rfl; omega
    exact ⟨_, _, _, _, _, by unfold FX2_ring; rw [ib1 h0 h1, bd1_e, if_neg (by decide), ib0 (Or.inr a1)]; rfl, by unfold FX3_ring; rw [id1 h0 h1, bd1_e, if_neg (by decide), if_neg a0, if_pos a2], rfl, th_n⟩
  have bad : ∀ P : Prop, (x2 &&& (3 : Int32)) = 0 → 1048572 < x2 → P := by
    intro P h2 h3
    obtain ⟨n, hn, rfl⟩ := nI_of a0
    rw [pk_andN (by omega) (m := 3) 2 rfl, show (0 : Int32) = nI 0 from rfl, nI_eq (by omega) (by omega)] at h2
    rw [show (1048576 : Int32) = nI 1048576 from rfl, nI_leI (by omega) hn] at a1
    rw [show (1048572 : Int32) = nI 1048572 from rfl, nI_ltI (by omega) hn] at h3
    omega
  by_cases c : (x2 &&& (3 : Int32)) = 0
  · have a2 : ¬ 1048572 < x2 := fun h => bad _ c h
    have c2 : x2 - x2 / 4 * 4 = 0 := by rw [← and3 a0]; exact c
    by_cases b0 : x3 < 1
    · exact ⟨_, _, _, _, _, by unfold FX2_ring; rw [ib1 h0 h1, bd1_e, if_neg (by decide), ib1 a0 a1, bd1_e, if_neg (by decide), if_pos c, if_pos b0], by unfold FX3_ring; rw [id1 h0 h1, bd1_e, if_neg (by decide), if_neg a0, if_neg a2, gd_t (by decide), if_pos c2, if_pos b0], rfl, th_n⟩
    by_cases b1 : x3 ≤ 64
    · have e1 : ∃ g, FX2_ring x1 x2 x3 (fun _ => e00) = some (1, g) := by
        unfold FX2_ring
        rw [ib1 h0 h1, bd1_e, if_neg (by decide), ib1 a0 a1, bd1_e, if_neg (by decide), if_pos c, if_neg b0, if_pos b1, gd_t (inbo (n := 8) rfl (by decide) h0 h1)]
        exact ⟨_, rfl⟩
      have e2 : ∃ g, FX3_ring x1 x2 x3 me00 0 = some (1, g) := by
        unfold FX3_ring
        rw [id1 h0 h1, bd1_e, if_neg (by decide), if_neg a0, if_neg a2, gd_t (by decide), if_pos c2, if_neg b0, if_pos b1]
        rw [gd_t (dev8 (P := fun x1 => inb ((11 : Int32) * x1) 88 = true) (by decide) (by decide) (by decide) (by decide) (by decide) (by decide) (by decide) (by decide) h0 h1), gd_t (dev8 (P := fun x1 => inb ((11 : Int32) * x1 + 1) 88 = true) (by decide) (by decide) (by decide) (by decide) (by decide) (by decide) (by decide) (by decide) h0 h1), gd_t (dev8 (P := fun x1 => inb ((11 : Int32) * x1 + 2) 88 = true) (by decide) (by decide) (by decide) (by decide) (by decide) (by decide) (by decide) (by decide) h0 h1), gd_t (dev8 (P := fun x1 => inb ((11 : Int32) * x1 + 3) 88 = true) (by decide) (by decide) (by decide) (by decide) (by decide) (by decide) (by decide) (by decide) h0 h1), gd_t (dev8 (P := fun x1 => inb ((11 : Int32) * x1 + 4) 88 = true) (by decide) (by decide) (by decide) (by decide) (by decide) (by decide) (by decide) (by decide) h0 h1), gd_t (dev8 (P := fun x1 => inb ((11 : Int32) * x1 + 6) 88 = true) (by decide) (by decide) (by decide) (by decide) (by decide) (by decide) (by decide) (by decide) h0 h1)]
        exact ⟨_, rfl⟩
      obtain ⟨g, e1⟩ := e1
      obtain ⟨⟨m1, m2⟩, e2⟩ := e2
      exact ⟨_, _, _, _, _, e1, e2, rfl, th_n⟩
    · exact ⟨_, _, _, _, _, by unfold FX2_ring; rw [ib1 h0 h1, bd1_e, if_neg (by decide), ib1 a0 a1, bd1_e, if_neg (by decide), if_pos c, if_neg b0, if_neg b1], by unfold FX3_ring; rw [id1 h0 h1, bd1_e, if_neg (by decide), if_neg a0, if_neg a2, gd_t (by decide), if_pos c2, if_neg b0, if_neg b1], rfl, th_n⟩
  · have c2 : ¬ x2 - x2 / 4 * 4 = 0 := by rw [← and3 a0]; exact c
    have e1 : FX2_ring x1 x2 x3 (fun _ => e00) = some (0, fun _ => e00) := by unfold FX2_ring; rw [ib1 h0 h1, bd1_e, if_neg (by decide), ib1 a0 a1, bd1_e, if_neg (by decide), if_neg c]
    have e2 : FX3_ring x1 x2 x3 me00 0 = some (0, me00, 0) := by
      unfold FX3_ring
      rw [id1 h0 h1, bd1_e, if_neg (by decide), if_neg a0]
      by_cases a2 : 1048572 < x2
      · rw [if_pos a2]
      · rw [if_neg a2, gd_t (by decide), if_neg c2]
    exact ⟨_, _, _, _, _, e1, e2, rfl, th_n⟩
theorem th_tail : sm_tail thI 1 := by
  intro j gM gnC gbC gnL gbL gnF gbF gnQ gbQ gE gtp glf gtr glh gov mW mC mL mR mQ mE mtb mnC mnL mnR mov mnQ mwr mwl mft mth mpl x1 x2 hj hI
  obtain ⟨e1, e2⟩ := hI (by omega)
  simp only [G0, M0, Prod.mk.injEq] at e1 e2
  obtain ⟨rfl, rfl, rfl, rfl, rfl, rfl, rfl, rfl, rfl, rfl, rfl, rfl, rfl, rfl, rfl⟩ := e1
  obtain ⟨rfl, rfl, rfl, rfl, rfl, rfl, rfl, rfl, rfl, rfl, rfl, rfl, rfl, rfl, rfl, rfl, rfl⟩ := e2
  by_cases h0 : x1 < 0
  · exact ⟨_, _, _, _, _, by unfold FX2_tail; rw [ib0 (Or.inl h0)]; rfl, by unfold FX3_tail; rw [id0 (Or.inl h0)]; rfl, rfl, th_n⟩
  by_cases h1 : 8 ≤ x1
  · exact ⟨_, _, _, _, _, by unfold FX2_tail; rw [ib0 (Or.inr h1)]; rfl, by unfold FX3_tail; rw [id0 (Or.inr h1)]; rfl, rfl, th_n⟩
  have fin : ∀ (r : Int32), (∃ g, FX2_tail x1 x2 (fun _ => e00) = some (r, g)) → (∃ g, FX3_tail x1 x2 me00 0 = some (r, g)) → ∃ (r rm : Int32) (ogE : Nat → Nat → Int32) (omE : Nat → Int32) (omth : Int32), FX2_tail x1 x2 (fun _ => e00) = some (r, ogE) ∧ FX3_tail x1 x2 me00 0 = some (rm, omE, omth) ∧ r = rm ∧ thI (j + 1) ((fun _ => 0), 0, (fun _ => 0), 0, (fun _ => 0), 0, (fun _ => 0), 0, (fun _ => 0), ogE, 0, 0, 0, 0, 0) ((fun _ => 0), (fun _ => 0), (fun _ => 0), (fun _ => 0), (fun _ => 0), omE, 0, 0, 0, 0, 0, 0, 0, 0, 0, omth, 0) := by
    rintro r ⟨g, e1⟩ ⟨⟨m1, m2⟩, e2⟩
    exact ⟨_, _, _, _, _, e1, e2, rfl, th_n⟩
  by_cases k : x2 = 0
  · subst k
    exact fin 0 (dev8 (P := fun x1 => ∃ g, FX2_tail x1 0 (fun _ => e00) = some (0, g)) ⟨_, rfl⟩ ⟨_, rfl⟩ ⟨_, rfl⟩ ⟨_, rfl⟩ ⟨_, rfl⟩ ⟨_, rfl⟩ ⟨_, rfl⟩ ⟨_, rfl⟩ h0 h1) (dev8 (P := fun x1 => ∃ g, FX3_tail x1 0 me00 0 = some (0, g)) ⟨_, rfl⟩ ⟨_, rfl⟩ ⟨_, rfl⟩ ⟨_, rfl⟩ ⟨_, rfl⟩ ⟨_, rfl⟩ ⟨_, rfl⟩ ⟨_, rfl⟩ h0 h1)
  have hb : x2 < 0 ∨ 1 ≤ x2 := by
    by_cases h : x2 < 0
    · exact Or.inl h
    · refine Or.inr ?_
      have := i32_ne k
      rw [Int32.le_iff_toInt_le]; rw [Int32.lt_iff_toInt_lt] at h
      have e0 : (0 : Int32).toInt = 0 := rfl
      have e1 : (1 : Int32).toInt = 1 := rfl
      omega
  refine fin (-1) ?_ ?_
  · unfold FX2_tail
    rw [ib1 h0 h1, bd1_e, if_neg (by decide), gd_t (inbo (n := 8) rfl (by decide) h0 h1)]
    have e := ib0 (n := e00 1) (x := x2) hb
    dsimp only
    rw [e]
    exact ⟨_, rfl⟩
  · unfold FX3_tail
    rw [id1 h0 h1, bd1_e, if_neg (by decide)]
    by_cases h : x2 < 0
    · rw [if_pos h]; exact ⟨_, rfl⟩
    rw [if_neg h, gd_t (dev8 (P := fun x1 => inb ((11 : Int32) * x1 + 1) 88 = true) (by decide) (by decide) (by decide) (by decide) (by decide) (by decide) (by decide) (by decide) h0 h1)]
    have e : me00 ((11 : Int32) * x1 + 1).toNatClampNeg = 1 := dev8 (P := fun x1 => me00 ((11 : Int32) * x1 + 1).toNatClampNeg = 1) rfl rfl rfl rfl rfl rfl rfl rfl h0 h1
    rw [e, if_neg (by
      rcases hb with q | q
      · exact absurd q h
      · rw [Int32.lt_iff_toInt_lt]; rw [Int32.le_iff_toInt_le] at q; omega)]
    exact ⟨_, rfl⟩
theorem th_step : sm_step thI 1 := by
  intro j gM gnC gbC gnL gbL gnF gbF gnQ gbQ gE gtp glf gtr glh gov mW mC mL mR mQ mE mtb mnC mnL mnR mov mnQ mwr mwl mft mth mpl x1 x2 hj hI
  obtain ⟨e1, e2⟩ := hI (by omega)
  simp only [G0, M0, Prod.mk.injEq] at e1 e2
  obtain ⟨rfl, rfl, rfl, rfl, rfl, rfl, rfl, rfl, rfl, rfl, rfl, rfl, rfl, rfl, rfl⟩ := e1
  obtain ⟨rfl, rfl, rfl, rfl, rfl, rfl, rfl, rfl, rfl, rfl, rfl, rfl, rfl, rfl, rfl, rfl, rfl⟩ := e2
  by_cases h0 : x1 < 0
  · exact ⟨_, _, _, _, _, _, _, _, _, _, _, _, _, _, _, _, _, _, _, _, _, _, _, _, _, _, _, _, by unfold FX2_step; rw [ib0 (Or.inl h0)]; rfl, by unfold FX3_step; rw [id0 (Or.inl h0)]; rfl, rfl, th_n⟩
  by_cases h1 : 8 ≤ x1
  · exact ⟨_, _, _, _, _, _, _, _, _, _, _, _, _, _, _, _, _, _, _, _, _, _, _, _, _, _, _, _, by unfold FX2_step; rw [ib0 (Or.inr h1)]; rfl, by unfold FX3_step; rw [id0 (Or.inr h1)]; rfl, rfl, th_n⟩
  by_cases a0 : x2 < 0
  · exact ⟨_, _, _, _, _, _, _, _, _, _, _, _, _, _, _, _, _, _, _, _, _, _, _, _, _, _, _, _, by unfold FX2_step; rw [ib1 h0 h1, bd1_e, if_neg (by decide), if_pos a0], by unfold FX3_step; rw [id1 h0 h1, bd1_e, if_neg (by decide), if_pos a0], rfl, th_n⟩
  by_cases a1 : x2 ≤ 1000
  · have e1 : ∃ g, FX2_step x1 x2 (fun _ => 0) 0 (fun _ => 0) 0 (fun _ => 0) 0 (fun _ => 0) (fun _ => e00) 0 0 0 0 0 = some (0, g) := by
      unfold FX2_step
      rw [ib1 h0 h1, bd1_e, if_neg (by decide), if_neg a0, if_pos a1, gd_t (inbo (n := 8) rfl (by decide) h0 h1), show fuel = 1999 + 1 from rfl, FX2_step_32]
      by_cases c : x2 ≤ 0
      · rw [if_pos c]; exact ⟨_, rfl⟩
      · rw [if_neg c, if_neg (show ¬ e00 4 = 1 by decide)]; exact ⟨_, rfl⟩
    have e2 : ∃ g, FX3_step x1 x2 (fun _ => 0) (fun _ => 0) (fun _ => 0) (fun _ => 0) me00 0 0 0 0 0 0 0 0 0 0 = some (0, g) := by
      unfold FX3_step
      rw [id1 h0 h1, bd1_e, if_neg (by decide), if_neg a0, if_pos a1, show fuel = 1999 + 1 from rfl, FX3_step_27]
      by_cases c : x2 ≤ 0
      · rw [if_pos c]; exact ⟨_, rfl⟩
      · have e : ¬ me00 ((11 : Int32) * x1 + 4).toNatClampNeg = 1 := dev8 (P := fun x1 => ¬ me00 ((11 : Int32) * x1 + 4).toNatClampNeg = 1) (by decide) (by decide) (by decide) (by decide) (by decide) (by decide) (by decide) (by decide) h0 h1
        rw [if_neg c, gd_t (dev8 (P := fun x1 => inb ((11 : Int32) * x1 + 4) 88 = true) (by decide) (by decide) (by decide) (by decide) (by decide) (by decide) (by decide) (by decide) h0 h1), if_neg e]; exact ⟨_, rfl⟩
    obtain ⟨⟨g1, g2, g3, g4, g5, g6, g7, g8, g9, g10, g11, g12⟩, e1⟩ := e1
    obtain ⟨⟨m1, m2, m3, m4, m5, m6, m7, m8, m9, m10, m11, m12, m13, m14⟩, e2⟩ := e2
    exact ⟨_, _, _, _, _, _, _, _, _, _, _, _, _, _, _, _, _, _, _, _, _, _, _, _, _, _, _, _, e1, e2, rfl, th_n⟩
  · exact ⟨_, _, _, _, _, _, _, _, _, _, _, _, _, _, _, _, _, _, _, _, _, _, _, _, _, _, _, _, by unfold FX2_step; rw [ib1 h0 h1, bd1_e, if_neg (by decide), if_neg a0, if_neg a1], by unfold FX3_step; rw [id1 h0 h1, bd1_e, if_neg (by decide), if_neg a0, if_neg a1], rfl, th_n⟩
theorem th_all : sm_all thI 1 := ⟨th_poke, th_peek, th_fill, th_table, th_context, th_enter, th_read, th_write, th_fault, th_ring, th_tail, th_step, th_resume, th_engine, th_command, th_obey, th_count, th_record, th_drop, th_clear, th_leaf⟩

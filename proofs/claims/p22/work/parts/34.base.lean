theorem ib1 {x n : Int32} (h0 : ¬ x < 0) (h1 : ¬ n ≤ x) : FX2_isBelow x n = some 1 := by unfold FX2_isBelow; rw [if_neg h0, if_neg h1]
theorem ib0 {x n : Int32} (h : x < 0 ∨ n ≤ x) : FX2_isBelow x n = some 0 := by
  unfold FX2_isBelow
  by_cases h0 : x < 0
  · rw [if_pos h0]
  · rw [if_neg h0, if_pos (h.resolve_left h0)]
theorem id1 {x : Int32} (h0 : ¬ x < 0) (h1 : ¬ 8 ≤ x) : FX3_isDevice x = some 1 := by unfold FX3_isDevice; rw [if_neg h0, if_neg h1]
theorem id0 {x : Int32} (h : x < 0 ∨ 8 ≤ x) : FX3_isDevice x = some 0 := by
  unfold FX3_isDevice
  by_cases h0 : x < 0
  · rw [if_pos h0]
  · rw [if_neg h0, if_pos (h.resolve_left h0)]
theorem ip1 {x : Int32} (h0 : ¬ x < 0) (h1 : ¬ 16384 ≤ x) : FX3_isPlace x = some 1 := by unfold FX3_isPlace; rw [if_neg h0, if_neg h1]
theorem ip0 {x : Int32} (h : x < 0 ∨ 16384 ≤ x) : FX3_isPlace x = some 0 := by
  unfold FX3_isPlace
  by_cases h0 : x < 0
  · rw [if_pos h0]
  · rw [if_neg h0, if_pos (h.resolve_left h0)]
theorem inbo {x : Int32} {N : Nat} {n : Int32} (hn : n = nI N) (hN : N < 2 ^ 31) (h0 : ¬ x < 0) (h1 : ¬ n ≤ x) : inb x N = true := by
  rw [Int32.lt_iff_toInt_lt] at h0
  rw [Int32.le_iff_toInt_le, hn, nI_toInt hN] at h1
  have e0 : (0 : Int32).toInt = 0 := rfl
  unfold inb
  rw [decide_eq_true_iff]
  omega
theorem dev8 {P : Int32 → Prop} (p0 : P 0) (p1 : P 1) (p2 : P 2) (p3 : P 3) (p4 : P 4) (p5 : P 5) (p6 : P 6) (p7 : P 7) {x : Int32} (h0 : ¬ x < 0) (h1 : ¬ 8 ≤ x) : P x := by
  obtain ⟨n, hn, rfl⟩ := nI_of h0
  rw [show (8 : Int32) = nI 8 from rfl, nI_leI (by omega) hn] at h1
  rcases (show n = 0 ∨ n = 1 ∨ n = 2 ∨ n = 3 ∨ n = 4 ∨ n = 5 ∨ n = 6 ∨ n = 7 by omega) with h | h | h | h | h | h | h | h <;> subst h <;> assumption
theorem bd1_e {α γ : Type} (x : α) (f : α → Option γ) : bd1 (some x) f = f x := rfl
theorem gd_t {α : Type} {b : Bool} {x : Option α} (h : b = true) : gd b x = x := by unfold gd; rw [if_pos h]
-- poke, peek
theorem FX2_poke_in {x1 x2 : Int32} {gM : Nat → Int32} (h0 : ¬ x1 < 0) (h1 : ¬ 16384 ≤ x1) : FX2_poke x1 x2 gM = some (gM x1.toNatClampNeg, upd gM x1.toNatClampNeg x2) := by
  unfold FX2_poke
  rw [ib1 h0 h1]
  have hi : inb x1 16384 = true := inbo (n := 16384) rfl (by decide) h0 h1
  rw [bd1_e, if_neg (by decide), gd_t hi, gd_t hi]
theorem FX2_peek_in {x1 : Int32} {gM : Nat → Int32} (h0 : ¬ x1 < 0) (h1 : ¬ 16384 ≤ x1) : FX2_peek x1 gM = some (gM x1.toNatClampNeg) := by
  unfold FX2_peek
  rw [ib1 h0 h1]
  have hi : inb x1 16384 = true := inbo (n := 16384) rfl (by decide) h0 h1
  rw [bd1_e, if_neg (by decide), gd_t hi]
theorem FX3_poke_in {x1 x2 : Int32} {mW : Nat → Int32} {mth : Int32} (h0 : ¬ x1 < 0) (h1 : ¬ 16384 ≤ x1) : FX3_poke x1 x2 mW mth = some (mW x1.toNatClampNeg, upd mW x1.toNatClampNeg x2, 0) := by
  unfold FX3_poke
  rw [ip1 h0 h1]
  have hi : inb x1 16384 = true := inbo (n := 16384) rfl (by decide) h0 h1
  rw [bd1_e, if_neg (by decide), gd_t hi, gd_t hi]
theorem FX3_poke_out {x1 x2 : Int32} {mW : Nat → Int32} {mth : Int32} (h : x1 < 0 ∨ 16384 ≤ x1) : FX3_poke x1 x2 mW mth = some (0, mW, 1) := by
  unfold FX3_poke
  rw [ip0 h]
  rfl
theorem FX3_peek_in {x1 : Int32} {mW : Nat → Int32} {mth : Int32} (h0 : ¬ x1 < 0) (h1 : ¬ 16384 ≤ x1) : FX3_peek x1 mW mth = some (mW x1.toNatClampNeg, 0) := by
  unfold FX3_peek
  rw [ip1 h0 h1]
  have hi : inb x1 16384 = true := inbo (n := 16384) rfl (by decide) h0 h1
  rw [bd1_e, if_neg (by decide), gd_t hi]
theorem FX3_peek_out {x1 : Int32} {mW : Nat → Int32} {mth : Int32} (h : x1 < 0 ∨ 16384 ≤ x1) : FX3_peek x1 mW mth = some (0, 1) := by
  unfold FX3_peek
  rw [ip0 h]
  rfl
-- masks
theorem and15 {x : Int32} (h : ¬ x < 0) : (x &&& (15 : Int32)) = x - x / 16 * 16 := by
  obtain ⟨n, hn, rfl⟩ := nI_of h
  rw [pk_andN (by omega) (m := 15) 4 rfl, show (16 : Int32) = nI 16 from rfl, pk_rem hn (by decide) (by decide)]
theorem and3 {x : Int32} (h : ¬ x < 0) : (x &&& (3 : Int32)) = x - x / 4 * 4 := by
  obtain ⟨n, hn, rfl⟩ := nI_of h
  rw [pk_andN (by omega) (m := 3) 2 rfl, show (4 : Int32) = nI 4 from rfl, pk_rem hn (by decide) (by decide)]
-- fill
/-- what a filling leaves: n words from place i + k on -/
def fl (i s : Int32) : Nat → (Nat → Int32) → Int32 → Int32 → (Nat → Int32)
  | 0, M, _, _ => M
  | n + 1, M, k, v => fl i s n (upd M (i + k).toNatClampNeg v) (k + 1) (v + s)
theorem setWord_in {x v : Int32} {gM : Nat → Int32} (h0 : ¬ x < 0) (h1 : ¬ 16384 ≤ x) : FX2_setWord x v gM = some (1, upd gM x.toNatClampNeg v) := by
  unfold FX2_setWord
  rw [ib1 h0 h1]
  have hi : inb x 16384 = true := inbo (n := 16384) rfl (by decide) h0 h1
  rw [bd1_e, if_neg (by decide), gd_t hi]
theorem setWord_out {x v : Int32} {gM : Nat → Int32} (h : x < 0 ∨ 16384 ≤ x) : FX2_setWord x v gM = some (0, gM) := by
  unfold FX2_setWord
  rw [ib0 h]
  rfl
theorem fill_gate (i f : Nat) (hf : i + f ≤ 16384 ∨ f = 0) (hf2 : f ≤ 256) (hi : i < 2 ^ 30) (x2 x3 x4 : Int32) : ∀ (n k : Nat) (gM : Nat → Int32) (v : Int32), k ≤ f → f - k < n → FX2_fill_55 (nI i) x2 x3 x4 n gM (nI f) v (nI k) = some (nI f, fl (nI i) x4 (f - k) gM (nI k) v) := by
  intro n
  induction n with
  | zero => intro k gM v _ h; omega
  | succ n ih =>
    intro k gM v hk hn
    rw [FX2_fill_55]
    by_cases h : f ≤ k
    · rw [if_pos (nI_le h (by omega))]
      rw [show f - k = 0 by omega]
      rfl
    · rw [if_neg (by rw [nI_leI (by omega) (by omega)]; omega)]
      rw [setWord_in (by rw [nI_add]; exact nI_pos (by omega)) (by rw [nI_add, show (16384 : Int32) = nI 16384 from rfl, nI_leI (by omega) (by omega)]; omega)]
      show FX2_fill_55 (nI i) x2 x3 x4 n _ (nI f) (v + x4) (nI k + 1) = _
      rw [nI_1, ih (k + 1) _ _ (by omega) (by omega)]
      rw [show f - k = (f - (k + 1)) + 1 by omega, fl, nI_1]
theorem fill_ref (i w f : Nat) (hw : w ≤ 256) (hf : f = min w (16384 - i)) (hi : i < 2 ^ 30) (x3 x4 mth : Int32) : ∀ (n k : Nat) (mW : Nat → Int32) (v : Int32), k ≤ f → f - k < n → FX3_fill_28 (nI i) (nI w) x3 x4 n mW mth (nI k) v = some (nI f, fl (nI i) x4 (f - k) mW (nI k) v, mth) := by
  intro n
  induction n with
  | zero => intro k gM v _ h; omega
  | succ n ih =>
    intro k mW v hk hn
    rw [FX3_fill_28]
    by_cases h : w ≤ k
    · rw [if_pos (nI_le h (by omega))]
      rw [show f - k = 0 by omega, show k = f by omega]
      rfl
    · rw [if_neg (by rw [nI_leI (by omega) (by omega)]; omega)]
      have e1 : (16384 : Int32) - nI k = nI (16384 - k) := by rw [show (16384 : Int32) = nI 16384 from rfl, pk_sub (by omega)]
      rw [e1]
      by_cases h2 : 16384 - k ≤ i
      · rw [if_pos (nI_le h2 (by omega))]
        rw [show f - k = 0 by omega, show k = f by omega]
        rfl
      · rw [if_neg (by rw [nI_leI (by omega) (by omega)]; omega)]
        rw [gd_t (inbo (n := 16384) rfl (by decide) (by rw [nI_add]; exact nI_pos (by omega)) (by rw [nI_add, show (16384 : Int32) = nI 16384 from rfl, nI_leI (by omega) (by omega)]; omega))]
        rw [nI_1, ih (k + 1) _ _ (by omega) (by omega)]
        rw [show f - k = (f - (k + 1)) + 1 by omega, fl, nI_1]
/-- fill, on both sides -/
theorem fill_both (x1 x2 x3 x4 : Int32) (M : Nat → Int32) (mth : Int32) : ∃ (r : Int32) (M2 : Nat → Int32), FX2_fill x1 x2 x3 x4 M = some (r, M2) ∧ FX3_fill x1 x2 x3 x4 M mth = some (r, M2, 0) := by
  unfold FX2_fill FX3_fill
  by_cases h0 : x1 < 0
  · exact ⟨_, _, by rw [if_pos h0], by rw [if_pos h0]⟩
  rw [if_neg h0, if_neg h0]
  by_cases h1 : x2 < 0
  · exact ⟨_, _, by rw [if_pos h1], by rw [if_pos h1]⟩
  rw [if_neg h1, if_neg h1]
  by_cases h2 : x2 ≤ 256
  · rw [if_pos h2, if_pos h2]
    obtain ⟨i, hi, rfl⟩ := nI_of h0
    obtain ⟨w, hw, rfl⟩ := nI_of h1
    rw [show (256 : Int32) = nI 256 from rfl, nI_leI hw (by omega)] at h2
    by_cases h3 : (16384 : Int32) ≤ nI i
    · rw [if_pos h3]
      rw [show (16384 : Int32) = nI 16384 from rfl, nI_leI (by omega) hi] at h3
      have ex : FX3_fill_28 (nI i) (nI w) x3 x4 fuel M 0 0 x3 = some (0, M, 0) := by
        rw [show fuel = 1999 + 1 from rfl, FX3_fill_28]
        by_cases h4 : nI w ≤ 0
        · rw [if_pos h4]
        · rw [if_neg h4, if_pos (show (16384 : Int32) - 0 ≤ nI i by rw [show (16384 : Int32) - 0 = nI 16384 from by decide]; exact nI_le h3 hi)]
      refine ⟨0, M, ?_, ex⟩
      unfold FX2_fill_33
      by_cases h4 : (0 : Int32) ≤ nI w
      · rw [if_pos h4, show fuel = 1999 + 1 from rfl, FX2_fill_55, if_pos (by decide)]
      · exact absurd (nI_pos' hw) h4
    · rw [if_neg h3]
      rw [show (16384 : Int32) = nI 16384 from rfl, nI_leI (by omega) hi] at h3
      have e1 : (16384 : Int32) - nI i = nI (16384 - i) := by rw [show (16384 : Int32) = nI 16384 from rfl, pk_sub (by omega)]
      refine ⟨nI (min w (16384 - i)), fl (nI i) x4 (min w (16384 - i)) M 0 x3, ?_, ?_⟩
      · rw [e1]
        unfold FX2_fill_33
        by_cases h4 : 16384 - i ≤ w
        · rw [if_pos (nI_le h4 hw)]
          have := fill_gate i (16384 - i) (by omega) (by omega) (by omega) (nI w) x3 x4 fuel 0 M x3 (by omega) (by unfold fuel; omega)
          rw [show min w (16384 - i) = 16384 - i by omega]
          exact this
        · rw [if_neg (by rw [nI_leI (by omega) hw]; omega)]
          have := fill_gate i w (by omega) (by omega) (by omega) (nI w) x3 x4 fuel 0 M x3 (by omega) (by unfold fuel; omega)
          rw [show min w (16384 - i) = w by omega]
          exact this
      · exact fill_ref i w (min w (16384 - i)) (by omega) rfl (by omega) x3 x4 0 fuel 0 M x3 (by omega) (by unfold fuel; omega)
  · rw [if_neg h2, if_neg h2]
    exact ⟨_, _, rfl, rfl⟩
-- table
theorem table_both (x1 t mth : Int32) : ∃ (r t2 : Int32), FX2_table x1 t = some (r, t2) ∧ FX3_table x1 t mth = some (r, t2, 0) ∧ (t2 = t ∨ (¬ x1 < 0 ∧ ¬ 16368 < x1 ∧ t2 = x1)) := by
  unfold FX2_table FX3_table
  by_cases h0 : x1 < 0
  · exact ⟨_, _, by rw [if_pos h0], by rw [if_pos h0], Or.inl rfl⟩
  rw [if_neg h0, if_neg h0]
  by_cases h1 : 16368 < x1
  · exact ⟨_, _, by rw [if_pos h1], by rw [if_pos h1], Or.inl rfl⟩
  rw [if_neg h1, if_neg h1, gd_t (by decide), and15 h0]
  by_cases h2 : x1 - x1 / 16 * 16 = 0
  · exact ⟨_, _, by rw [if_pos h2], by rw [if_pos h2], Or.inr ⟨h0, h1, rfl⟩⟩
  · exact ⟨_, _, by rw [if_neg h2], by rw [if_neg h2], Or.inl rfl⟩
theorem bd2_e {α β γ : Type} (x : α) (y : β) (f : α → β → Option γ) : bd2 (some (x, y)) f = f x y := rfl
theorem FX1_has_0 (w x1 x2 : Int32) : FX1_has w x1 x2 0 = some 0 := by
  unfold FX1_has
  by_cases h : x1 < 0
  · rw [if_pos h]
  · rw [if_neg h, if_pos (by rw [Int32.le_iff_toInt_le]; rw [Int32.lt_iff_toInt_lt] at h; omega)]
theorem n0le {x : Int32} (h : ¬ x < 0) : 0 ≤ x := by rw [Int32.le_iff_toInt_le]; rw [Int32.lt_iff_toInt_lt] at h; omega
theorem fa_or (a b : Nat) : nI a ||| nI b = nI (a ||| b) := by
  apply Int32.toBitVec_inj.1
  show BitVec.ofNat 32 a ||| BitVec.ofNat 32 b = BitVec.ofNat 32 (a ||| b)
  apply BitVec.eq_of_getLsbD_eq
  intro i hi
  simp [hi]
theorem fa_or_sum {a k : Nat} (b : Nat) (h : a < 2 ^ k) : nI (2 ^ k * b) ||| nI a = nI (2 ^ k * b + a) := by rw [fa_or, Nat.two_pow_add_eq_or_of_lt h]
theorem lelt {x n m : Int32} (hm : n.toInt = m.toInt + 1) : n ≤ x ↔ m < x := by rw [Int32.le_iff_toInt_le, Int32.lt_iff_toInt_lt]; omega
theorem nlt_le {x m : Int32} : ¬ m < x ↔ x ≤ m := by rw [Int32.le_iff_toInt_le, Int32.lt_iff_toInt_lt]; omega
theorem placeIn_eq {x1 x2 : Int32} (h0 : ¬ x1 < 0) (h1 : ¬ 64 ≤ x1) (h2 : ¬ x2 < 0) (h3 : ¬ 16 ≤ x2) : ∃ a b : Nat, a < 64 ∧ b < 16 ∧ x1 = nI a ∧ x2 = nI b ∧ FX2_placeIn x1 x2 = some (nI (256 * a + b)) ∧ (256 : Int32) * x1 + x2 = nI (256 * a + b) := by
  obtain ⟨a, ha, rfl⟩ := nI_of h0
  obtain ⟨b, hb, rfl⟩ := nI_of h2
  rw [show (64 : Int32) = nI 64 from rfl, nI_leI (by omega) ha] at h1
  rw [show (16 : Int32) = nI 16 from rfl, nI_leI (by omega) hb] at h3
  refine ⟨a, b, by omega, by omega, rfl, rfl, ?_, ?_⟩
  · unfold FX2_placeIn
    rw [pk_shlN (n := a) ((8 : Int32) &&& 31) 8 (by decide) (by omega), Nat.mul_comm, fa_or_sum (k := 8) a (by omega)]
  · rw [show (256 : Int32) = nI 256 from rfl, pk_mul, nI_add]
theorem ctxG_bad {x1 x2 x3 x4 tp : Int32} {M : Nat → Int32} (h : (x1 < 0 ∨ 8 ≤ x1) ∨ (x3 < 0 ∨ 64 ≤ x3) ∨ (x4 < 0 ∨ 16 ≤ x4)) : FX2_context x1 x2 x3 x4 M tp = some (0, M) := by
  unfold FX2_context
  by_cases h0 : x1 < 0 ∨ 8 ≤ x1
  · rw [ib0 h0]; rfl
  rw [not_or] at h0
  rw [ib1 h0.1 h0.2, bd1_e, if_neg (by decide)]
  by_cases c : x3 < 0 ∨ 64 ≤ x3
  · rw [ib0 c]; rfl
  rw [not_or] at c
  rw [ib1 c.1 c.2, bd1_e, if_neg (by decide)]
  by_cases d : x4 < 0 ∨ 16 ≤ x4
  · rw [ib0 d]; rfl
  rw [not_or] at d
  simp [h0.1, h0.2, c.1, c.2, d.1, d.2] at h
theorem ctxG_ok {x1 x2 x3 x4 tp : Int32} {M : Nat → Int32} (h0 : ¬ x1 < 0 ∧ ¬ 8 ≤ x1) (c : ¬ x3 < 0 ∧ ¬ 64 ≤ x3) (d : ¬ x4 < 0 ∧ ¬ 16 ≤ x4) (q0 : ¬ (tp + 2 * x1) < 0) (q1 : ¬ 16384 ≤ tp + 2 * x1) (q2 : ¬ (tp + 2 * x1 + 1) < 0) (q3 : ¬ 16384 ≤ tp + 2 * x1 + 1) : FX2_context x1 x2 x3 x4 M tp = some (1, upd (upd M (tp + 2 * x1).toNatClampNeg (if x2 = 0 then (((1 : Int32) ||| (0 : Int32)) ||| (x3 <<< ((8 : Int32) &&& 31))) else (((1 : Int32) ||| (2 : Int32)) ||| (x3 <<< ((8 : Int32) &&& 31))))) (tp + 2 * x1 + 1).toNatClampNeg x4) := by
  unfold FX2_context FX2_contextPlace
  rw [ib1 h0.1 h0.2, bd1_e, if_neg (by decide), ib1 c.1 c.2, bd1_e, if_neg (by decide), ib1 d.1 d.2, bd1_e, if_neg (by decide), bd1_e]
  by_cases t : x2 = 0
  · rw [if_pos t, if_pos t, setWord_in q0 q1, bd2_e, setWord_in q2 q3, bd2_e]
  · rw [if_neg t, if_neg t, setWord_in q0 q1, bd2_e, setWord_in q2 q3, bd2_e]
theorem ctxM_bad {x1 x2 x3 x4 tb th : Int32} {M : Nat → Int32} (h : (x1 < 0 ∨ 8 ≤ x1) ∨ (x3 < 0 ∨ 64 ≤ x3) ∨ (x4 < 0 ∨ 16 ≤ x4)) : FX3_context x1 x2 x3 x4 M tb th = some (0, M, 0) := by
  unfold FX3_context
  by_cases h0 : x1 < 0 ∨ 8 ≤ x1
  · rw [id0 h0]; rfl
  rw [not_or] at h0
  rw [id1 h0.1 h0.2, bd1_e, if_neg (by decide)]
  by_cases c0 : x3 < 0
  · rw [if_pos c0]
  rw [if_neg c0]
  by_cases c1 : 64 ≤ x3
  · rw [if_pos ((lelt (m := 63) rfl).mp c1)]
  rw [if_neg (fun h => c1 ((lelt (m := 63) rfl).mpr h))]
  by_cases d0 : x4 < 0
  · rw [if_pos d0]
  rw [if_neg d0]
  by_cases d1 : 16 ≤ x4
  · rw [if_neg (fun h => nlt_le.mpr h ((lelt (m := 15) rfl).mp d1))]
  simp [h0.1, h0.2, c0, c1, d0, d1] at h
theorem ctxM_ok {x1 x2 x3 x4 tb th : Int32} {M : Nat → Int32} (h0 : ¬ x1 < 0 ∧ ¬ 8 ≤ x1) (c : ¬ x3 < 0 ∧ ¬ 64 ≤ x3) (d : ¬ x4 < 0 ∧ ¬ 16 ≤ x4) (i0 : inb (tb + 2 * x1) 16384 = true) (i1 : inb (tb + 2 * x1 + 1) 16384 = true) : FX3_context x1 x2 x3 x4 M tb th = some (1, upd (upd M (tb + 2 * x1).toNatClampNeg (if x2 = 0 then (((1 : Int32) + 0) + ((256 : Int32) * x3)) else (((1 : Int32) + 2) + ((256 : Int32) * x3)))) (tb + 2 * x1 + 1).toNatClampNeg x4, 0) := by
  unfold FX3_context
  rw [id1 h0.1 h0.2, bd1_e, if_neg (by decide), if_neg c.1, if_neg (fun h => c.2 ((lelt (m := 63) rfl).mpr h)), if_neg d.1, if_pos (nlt_le.mp (fun h => d.2 ((lelt (m := 15) rfl).mpr h)))]
  by_cases t : x2 = 0
  · rw [if_pos t, if_pos t, gd_t i0, gd_t i1]
  · rw [if_neg t, if_neg t, gd_t i0, gd_t i1]
theorem entG_bad {x1 x2 x3 x4 x5 : Int32} {M : Nat → Int32} (h : (x1 < 0 ∨ 64 ≤ x1) ∨ (x2 < 0 ∨ 16 ≤ x2) ∨ (x3 < 0 ∨ 4 ≤ x3) ∨ (x5 < 0 ∨ 64 ≤ x5)) : FX2_enter x1 x2 x3 x4 x5 M = some (0, M) := by
  unfold FX2_enter
  by_cases h0 : x1 < 0 ∨ 64 ≤ x1
  · rw [ib0 h0]; rfl
  rw [not_or] at h0
  rw [ib1 h0.1 h0.2, bd1_e, if_neg (by decide)]
  by_cases c : x2 < 0 ∨ 16 ≤ x2
  · rw [ib0 c]; rfl
  rw [not_or] at c
  rw [ib1 c.1 c.2, bd1_e, if_neg (by decide)]
  by_cases d : x3 < 0 ∨ 4 ≤ x3
  · rw [ib0 d]; rfl
  rw [not_or] at d
  rw [ib1 d.1 d.2, bd1_e, if_neg (by decide)]
  by_cases e : x5 < 0 ∨ 64 ≤ x5
  · rw [ib0 e]; rfl
  rw [not_or] at e
  simp [h0.1, h0.2, c.1, c.2, d.1, d.2, e.1, e.2] at h
theorem entG_ok {x1 x2 x3 x4 x5 : Int32} {M : Nat → Int32} {a b : Nat} (h0 : ¬ x1 < 0 ∧ ¬ 64 ≤ x1) (c : ¬ x2 < 0 ∧ ¬ 16 ≤ x2) (d : ¬ x3 < 0 ∧ ¬ 4 ≤ x3) (e : ¬ x5 < 0 ∧ ¬ 64 ≤ x5) (ha : a < 64) (hb : b < 16) (hp : FX2_placeIn x1 x2 = some (nI (256 * a + b))) : FX2_enter x1 x2 x3 x4 x5 M = some (1, upd M (nI (256 * a + b)).toNatClampNeg (if x4 = 0 then ((((1 : Int32) ||| (x3 <<< ((1 : Int32) &&& 31))) ||| (0 : Int32)) ||| (x5 <<< ((8 : Int32) &&& 31))) else ((((1 : Int32) ||| (x3 <<< ((1 : Int32) &&& 31))) ||| (8 : Int32)) ||| (x5 <<< ((8 : Int32) &&& 31))))) := by
  have q0 : ¬ nI (256 * a + b) < 0 := nI_pos (by omega)
  have q1 : ¬ 16384 ≤ nI (256 * a + b) := by rw [show (16384 : Int32) = nI 16384 from rfl, nI_leI (by omega) (by omega)]; omega
  unfold FX2_enter
  rw [ib1 h0.1 h0.2, bd1_e, if_neg (by decide), ib1 c.1 c.2, bd1_e, if_neg (by decide), ib1 d.1 d.2, bd1_e, if_neg (by decide), ib1 e.1 e.2, bd1_e, if_neg (by decide), hp, bd1_e]
  by_cases t : x4 = 0
  · rw [if_pos t, if_pos t, setWord_in q0 q1, bd2_e]
  · rw [if_neg t, if_neg t, setWord_in q0 q1, bd2_e]
theorem entM_bad {x1 x2 x3 x4 x5 th : Int32} {M : Nat → Int32} (h : (x1 < 0 ∨ 64 ≤ x1) ∨ (x2 < 0 ∨ 16 ≤ x2) ∨ (x3 < 0 ∨ 4 ≤ x3) ∨ (x5 < 0 ∨ 64 ≤ x5)) : FX3_enter x1 x2 x3 x4 x5 M th = some (0, M, 0) := by
  unfold FX3_enter
  by_cases a0 : x1 < 0
  · rw [if_pos a0]
  rw [if_neg a0]
  by_cases a1 : 64 ≤ x1
  · rw [if_pos ((lelt (m := 63) rfl).mp a1)]
  rw [if_neg (fun h => a1 ((lelt (m := 63) rfl).mpr h))]
  by_cases b0 : x2 < 0
  · rw [if_pos b0]
  rw [if_neg b0]
  by_cases b1 : 16 ≤ x2
  · rw [if_pos ((lelt (m := 15) rfl).mp b1)]
  rw [if_neg (fun h => b1 ((lelt (m := 15) rfl).mpr h))]
  by_cases c0 : x3 < 0
  · rw [if_pos c0]
  rw [if_neg c0]
  by_cases c1 : 4 ≤ x3
  · rw [if_pos ((lelt (m := 3) rfl).mp c1)]
  rw [if_neg (fun h => c1 ((lelt (m := 3) rfl).mpr h))]
  by_cases d0 : x5 < 0
  · rw [if_pos d0]
  rw [if_neg d0]
  by_cases d1 : 64 ≤ x5
  · rw [if_neg (fun h => nlt_le.mpr h ((lelt (m := 63) rfl).mp d1))]
  simp [a0, a1, b0, b1, c0, c1, d0, d1] at h
theorem entM_ok {x1 x2 x3 x4 x5 th : Int32} {M : Nat → Int32} {a b : Nat} (h0 : ¬ x1 < 0 ∧ ¬ 64 ≤ x1) (c : ¬ x2 < 0 ∧ ¬ 16 ≤ x2) (d : ¬ x3 < 0 ∧ ¬ 4 ≤ x3) (e : ¬ x5 < 0 ∧ ¬ 64 ≤ x5) (ha : a < 64) (hb : b < 16) (hp : (256 : Int32) * x1 + x2 = nI (256 * a + b)) : FX3_enter x1 x2 x3 x4 x5 M th = some (1, upd M (nI (256 * a + b)).toNatClampNeg (if x4 = 0 then ((((1 : Int32) + ((2 : Int32) * x3)) + 0) + ((256 : Int32) * x5)) else ((((1 : Int32) + ((2 : Int32) * x3)) + 8) + ((256 : Int32) * x5))), 0) := by
  have hi : inb (nI (256 * a + b)) 16384 = true := inbo (n := 16384) rfl (by decide) (nI_pos (by omega)) (by rw [show (16384 : Int32) = nI 16384 from rfl, nI_leI (by omega) (by omega)]; omega)
  unfold FX3_enter
  rw [if_neg h0.1, if_neg (fun h => h0.2 ((lelt (m := 63) rfl).mpr h)), if_neg c.1, if_neg (fun h => c.2 ((lelt (m := 15) rfl).mpr h)), if_neg d.1, if_neg (fun h => d.2 ((lelt (m := 3) rfl).mpr h)), if_neg e.1, if_pos (nlt_le.mp (fun h => e.2 ((lelt (m := 63) rfl).mpr h))), hp]
  by_cases t : x4 = 0
  · rw [if_pos t, if_pos t, gd_t hi]
  · rw [if_neg t, if_neg t, gd_t hi]

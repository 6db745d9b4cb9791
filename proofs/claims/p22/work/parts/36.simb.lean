/-! The pure side in general, 2: bits, words, contexts -/
theorem nI_eqI {a b : Nat} (ha : a < 2 ^ 31) (hb : b < 2 ^ 31) (h : nI a = nI b) : a = b := (nI_eq ha hb).mp h
theorem toN_and (x y : Int32) : (x &&& y).toBitVec.toNat = x.toBitVec.toNat &&& y.toBitVec.toNat := by
  show (x.toBitVec &&& y.toBitVec).toNat = _
  exact BitVec.toNat_and _ _
theorem i32_0 {x : Int32} : x = 0 ↔ x.toBitVec.toNat = 0 := by
  constructor
  · intro h
    rw [h]
    rfl
  · intro h
    apply Int32.toBitVec_inj.1
    apply BitVec.eq_of_toNat_eq
    exact h
theorem bit_nat (n j : Nat) : n &&& 2 ^ j = 0 ↔ n.testBit j = false := by
  constructor
  · intro h
    have h1 : (n &&& 2 ^ j).testBit j = false := by rw [h]; exact Nat.zero_testBit j
    rw [Nat.testBit_and, Nat.testBit_two_pow_self, Bool.and_true] at h1
    exact h1
  · intro h
    apply Nat.eq_of_testBit_eq
    intro i
    rw [Nat.testBit_and, Nat.zero_testBit]
    by_cases hi : j = i
    · subst hi
      rw [h, Bool.false_and]
    · rw [Nat.testBit_two_pow_of_ne hi, Bool.and_false]
/-- one bit of an int -/
theorem bit_i {x m : Int32} (j : Nat) (hm : m.toBitVec.toNat = 2 ^ j) : (x &&& m) = 0 ↔ x.toBitVec.toNat.testBit j = false := by
  rw [i32_0, toN_and, hm, bit_nat]
theorem bit_shr {x s : Int32} (k : Nat) (hs : (s.toBitVec.smod 32).toNat = k) (hk : k < 32) : (x >>> s).toBitVec.toNat.testBit 0 = x.toBitVec.toNat.testBit k := by
  have e : (x >>> s).toBitVec = x.toBitVec.sshiftRight k := by
    show x.toBitVec.sshiftRight' (s.toBitVec.smod 32) = _
    rw [BitVec.sshiftRight', hs]
  rw [e, BitVec.testBit_toNat, BitVec.testBit_toNat, BitVec.getLsbD_sshiftRight]
  simp [hk]
theorem bit_1eq {y : Int32} : (y &&& (1 : Int32)) = 1 ↔ ¬ (y &&& (1 : Int32)) = 0 := by
  rw [pk_and y (m := 1) 1 rfl, show (1 : Int32) = nI 1 from rfl, show (0 : Int32) = nI 0 from rfl, nI_eq (by omega) (by omega), nI_eq (by omega) (by omega)]
  omega
/-- THROUGH: bit 1, on both sides -/
theorem bit_through (x : Int32) : ((x >>> ((1 : Int32) &&& 31)) &&& (1 : Int32)) = 1 ↔ ¬ (x &&& (2 : Int32)) = 0 := by
  rw [bit_1eq, bit_i (m := 1) 0 rfl, bit_i (m := 2) 1 rfl, bit_shr 1 (by decide) (by decide)]
theorem bit_right1 (r : Int32) : (r &&& (1 : Int32)) = 0 ↔ ((r >>> ((0 : Int32) &&& 31)) &&& (1 : Int32)) = 0 := by
  rw [bit_i (m := 1) 0 rfl, bit_i (m := 1) 0 rfl, bit_shr 0 (by decide) (by decide)]
theorem bit_right2 (r : Int32) : (r &&& (2 : Int32)) = 0 ↔ ((r >>> ((1 : Int32) &&& 31)) &&& (1 : Int32)) = 0 := by
  rw [bit_i (m := 2) 1 rfl, bit_i (m := 1) 0 rfl, bit_shr 1 (by decide) (by decide)]
/-- VALID and not LEAF -/
theorem bit_9 (x : Int32) : (x &&& (9 : Int32)) = 1 ↔ ¬ (x &&& (1 : Int32)) = 0 ∧ (x &&& (8 : Int32)) = 0 := by
  rw [bit_i (m := 1) 0 rfl, bit_i (m := 8) 3 rfl]
  have e : (x &&& (9 : Int32)) = 1 ↔ x.toBitVec.toNat &&& 9 = 1 := by
    constructor
    · intro h
      have h2 := congrArg (fun z : Int32 => z.toBitVec.toNat) h
      rw [toN_and] at h2
      exact h2
    · intro h
      apply Int32.toBitVec_inj.1
      apply BitVec.eq_of_toNat_eq
      rw [toN_and]
      exact h
  rw [e]
  generalize x.toBitVec.toNat = n
  constructor
  · intro h
    have h0 : (n &&& 9).testBit 0 = true := by rw [h]; rfl
    have h3 : (n &&& 9).testBit 3 = false := by rw [h]; rfl
    rw [Nat.testBit_and] at h0 h3
    rw [show Nat.testBit 9 0 = true from rfl, Bool.and_true] at h0
    rw [show Nat.testBit 9 3 = true from rfl, Bool.and_true] at h3
    exact ⟨by rw [h0]; decide, h3⟩
  · intro ⟨h0, h3⟩
    apply Nat.eq_of_testBit_eq
    intro i
    rw [Nat.testBit_and]
    by_cases i0 : i = 0
    · subst i0
      rw [Bool.not_eq_false] at h0
      rw [h0]
      rfl
    · by_cases i3 : i = 3
      · subst i3
        rw [h3]
        rfl
      · have e9 : Nat.testBit 9 i = false := by
          rw [show (9 : Nat) = 2 ^ 3 + 2 ^ 0 from rfl]
          match i, i0, i3 with
          | 1, _, _ => rfl
          | 2, _, _ => rfl
          | i + 4, _, _ =>
            apply Nat.testBit_lt_two_pow
            calc 2 ^ 3 + 2 ^ 0 < 2 ^ 4 := by decide
              _ ≤ 2 ^ (i + 4) := Nat.pow_le_pow_right (by decide) (by omega)
        have e1 : Nat.testBit 1 i = false := by
          apply Nat.testBit_lt_two_pow
          calc 1 < 2 ^ 1 := by decide
            _ ≤ 2 ^ i := Nat.pow_le_pow_right (by decide) (by omega)
        rw [e9, e1, Bool.and_false]
theorem and_E (x : Int32) {m : Int32} (k : Nat) (hm : m.toBitVec.toNat = 2 ^ k - 1) : ∃ j : Nat, j < 2 ^ k ∧ x &&& m = nI j := pk_andE x k hm
/-- a shift to the right keeps the sign -/
theorem shr_sign (x s : Int32) : (x >>> s) < 0 ↔ x < 0 := by
  have e : ∃ p : Int, 0 < p ∧ (x >>> s).toInt = x.toInt / p := by
    refine ⟨((2 ^ (s.toBitVec.smod 32).toNat : Nat) : Int), ?_, ?_⟩
    · have := Nat.two_pow_pos (s.toBitVec.smod 32).toNat
      omega
    · show (x.toBitVec.sshiftRight' (s.toBitVec.smod 32)).toInt = _
      rw [BitVec.sshiftRight', BitVec.toInt_sshiftRight, Int.shiftRight_eq_div_pow]
      rfl
  obtain ⟨p, hp, e⟩ := e
  rw [Int32.lt_iff_toInt_lt, Int32.lt_iff_toInt_lt, e]
  show x.toInt / p < 0 ↔ x.toInt < 0
  constructor
  · intro h
    have := Int.ediv_nonneg (a := x.toInt) (b := p)
    omega
  · intro h
    exact Int.ediv_neg_of_neg_of_pos h hp
theorem shr_nn {x : Int32} (s : Int32) (h : ¬ x < 0) : ¬ (x >>> s) < 0 := fun q => h ((shr_sign x s).mp q)
theorem and15_nn (x : Int32) : ¬ (x &&& (15 : Int32)) < 0 := by
  obtain ⟨j, hj, e⟩ := and_E x (m := 15) 4 rfl
  rw [e]
  exact nI_pos (by omega)
theorem placeIn_nI {a b : Nat} (ha : a < 64) (hb : b < 256) : FX2_placeIn (nI a) (nI b) = some (nI (256 * a + b)) := by
  unfold FX2_placeIn
  rw [pk_shlN (n := a) ((8 : Int32) &&& 31) 8 (by decide) (by omega), Nat.mul_comm, fa_or_sum (k := 8) a (by omega)]
theorem wordAt_in {q : Nat} (h : q < 16384) (M : Nat → Int32) : FX2_wordAt (nI q) M = some (M q) := by
  unfold FX2_wordAt
  rw [ib1 (nI_pos (by omega)) (by rw [show (16384 : Int32) = nI 16384 from rfl, nI_leI (by omega) (by omega)]; omega), bd1_e, if_neg (by decide), gd_t (nI_inb h (by omega)), nI_cl (by omega)]
/-- the remembered contexts agree -/
def rC (c : Nat) (gbC mC : Nat → Int32) : Prop := c ≤ 3 ∧ ∀ i, i < c → mC (4 * i) = gbC (i * 3) ∧ mC (4 * i + 1) = ((gbC (i * 3 + 1) >>> ((1 : Int32) &&& 31)) &&& (1 : Int32)) ∧ mC (4 * i + 2) = ((gbC (i * 3 + 1) >>> ((8 : Int32) &&& 31)) &&& (63 : Int32)) ∧ mC (4 * i + 3) = gbC (i * 3 + 2) ∧ ¬ gbC (i * 3 + 2) < 0
theorem upd_s (f : Nat → Int32) (k : Nat) (x : Int32) : upd f k x k = x := by simp [upd]
theorem upd_n (f : Nat → Int32) {k j : Nat} (x : Int32) (h : j ≠ k) : upd f k x j = f j := by simp [upd, h]
/-- a new last row -/
theorem rC_new {r : Nat} {B mB : Nat → Int32} (hr : r < 3) (h : rC r B mB) (d w u : Int32) (hu : ¬ u < 0) : rC (r + 1) (upd (upd (upd B (r * 3 + 0) d) (r * 3 + 1) w) (r * 3 + 2) u) (upd (upd (upd (upd mB (4 * r) d) (4 * r + 1) ((w >>> ((1 : Int32) &&& 31)) &&& (1 : Int32))) (4 * r + 2) ((w >>> ((8 : Int32) &&& 31)) &&& (63 : Int32))) (4 * r + 3) u) := by
  refine ⟨by omega, fun i hi => ?_⟩
  by_cases e : i = r
  · subst e
    refine ⟨?_, ?_, ?_, ?_, ?_⟩ <;> simp [upd]
    exact n0le hu
  · obtain ⟨h1, h2, h3, h4, h5⟩ := h.2 i (by omega)
    have n1 : ∀ k k2 : Nat, k < 4 → k2 < 4 → 4 * i + k ≠ 4 * r + k2 := by omega
    have n2 : ∀ k k2 : Nat, k < 3 → k2 < 3 → i * 3 + k ≠ r * 3 + k2 := by omega
    have m0 : ∀ k, k < 4 → upd (upd (upd (upd mB (4 * r) d) (4 * r + 1) ((w >>> ((1 : Int32) &&& 31)) &&& (1 : Int32))) (4 * r + 2) ((w >>> ((8 : Int32) &&& 31)) &&& (63 : Int32))) (4 * r + 3) u (4 * i + k) = mB (4 * i + k) := by
      intro k hk
      rw [upd_n _ _ (n1 k 3 hk (by omega)), upd_n _ _ (n1 k 2 hk (by omega)), upd_n _ _ (n1 k 1 hk (by omega)), upd_n _ _ (by omega)]
    have g0 : ∀ k, k < 3 → upd (upd (upd B (r * 3 + 0) d) (r * 3 + 1) w) (r * 3 + 2) u (i * 3 + k) = B (i * 3 + k) := by
      intro k hk
      rw [upd_n _ _ (n2 k 2 hk (by omega)), upd_n _ _ (n2 k 1 hk (by omega)), upd_n _ _ (n2 k 0 hk (by omega))]
    have m00 := m0 0 (by omega)
    have g00 := g0 0 (by omega)
    rw [Nat.add_zero (4 * i)] at m00
    rw [Nat.add_zero (i * 3)] at g00
    exact ⟨by rw [m00, g00]; exact h1, by rw [m0 1 (by omega), g0 1 (by omega)]; exact h2, by rw [m0 2 (by omega), g0 1 (by omega)]; exact h3, by rw [m0 3 (by omega), g0 2 (by omega)]; exact h4, by rw [g0 2 (by omega)]; exact h5⟩
/-- the first row goes -/
theorem rC_shift {B mB : Nat → Int32} (h : rC 3 B mB) : rC 2 (sh 3 0 6 B) (sh 4 0 8 mB) := by
  refine ⟨by omega, fun i hi => ?_⟩
  obtain ⟨h1, h2, h3, h4, h5⟩ := h.2 (i + 1) (by omega)
  rw [sh_in (by omega) (by omega), sh_in (by omega) (by omega), sh_in (by omega) (by omega), sh_in (by omega) (by omega), sh_in (by omega) (by omega), sh_in (by omega) (by omega), sh_in (by omega) (by omega)]
  rw [show 4 * i + 4 = 4 * (i + 1) by omega, show i * 3 + 3 = (i + 1) * 3 by omega, show 4 * i + 1 + 4 = 4 * (i + 1) + 1 by omega, show i * 3 + 1 + 3 = (i + 1) * 3 + 1 by omega, show 4 * i + 2 + 4 = 4 * (i + 1) + 2 by omega, show 4 * i + 3 + 4 = 4 * (i + 1) + 3 by omega, show i * 3 + 2 + 3 = (i + 1) * 3 + 2 by omega]
  exact ⟨h1, h2, h3, h4, h5⟩
/-- the search in the gate: as far as no row is found -/
theorem ctxG_miss (d : Int32) (M B : Nat → Int32) (tp tr : Int32) (c : Nat) (hc : c ≤ 3) (hno : ∀ i, i < c → ¬ B (i * 3) = d) : ∀ (n k : Nat), k ≤ c → c - k < n → FX2_contextOf_2 d n M (nI c) B tp tr (nI k) = FX2_contextOf_2 d 1 M (nI c) B tp tr (nI c) := by
  intro n
  induction n with
  | zero => intro k _ h; omega
  | succ n ih =>
    intro k hk hn
    by_cases h : c ≤ k
    · rw [show k = c by omega, FX2_contextOf_2, FX2_contextOf_2, if_pos (nI_le (Nat.le_refl c) (by omega)), if_pos (nI_le (Nat.le_refl c) (by omega))]
    · have e := cell_in (w := 3) (len := 9) (r := k) (k := 0) (n := c) (by omega) (by omega) (by omega) (by omega) (by omega) (by omega) B
      rw [FX2_contextOf_2, if_neg (by rw [nI_leI (by omega) (by omega)]; exact h)]
      rw [show (3 : Int32) = nI 3 from rfl, show (0 : Int32) = nI 0 from rfl, e, bd1_e, if_neg (by rw [Nat.add_zero]; exact hno k (by omega)), nI_1]
      exact ih (k + 1) (by omega) (by omega)
theorem ctxG_hit (d : Int32) (M B : Nat → Int32) (tp tr : Int32) (c i : Nat) (hc : c ≤ 3) (hi : i < c) (hd : B (i * 3) = d) (hno : ∀ k, k < i → ¬ B (k * 3) = d) : ∀ (n k : Nat), k ≤ i → c - k < n → FX2_contextOf_2 d n M (nI c) B tp tr (nI k) = some (nI i, nI c, B, tr) := by
  intro n
  induction n with
  | zero => intro k _ h; omega
  | succ n ih =>
    intro k hk hn
    have e := cell_in (w := 3) (len := 9) (r := k) (k := 0) (n := c) (by omega) (by omega) (by omega) (by omega) (by omega) (by omega) B
    rw [FX2_contextOf_2, if_neg (by rw [nI_leI (by omega) (by omega)]; omega)]
    rw [show (3 : Int32) = nI 3 from rfl, show (0 : Int32) = nI 0 from rfl, e, bd1_e, Nat.add_zero]
    by_cases h : k = i
    · subst h
      rw [if_pos hd]
    · rw [if_neg (hno k (by omega)), nI_1]
      exact ih (k + 1) (by omega) (by omega)
theorem ctxM_miss (d : Int32) (B : Nat → Int32) (c : Nat) (hc : c ≤ 3) (hno : ∀ i, i < c → ¬ B (4 * i) = d) : ∀ (n k : Nat), k ≤ c → c - k < n → FX3_contextOf_2 d n B (nI c) (nI k) = some (-1) := by
  intro n
  induction n with
  | zero => intro k _ h; omega
  | succ n ih =>
    intro k hk hn
    rw [FX3_contextOf_2]
    by_cases h : c ≤ k
    · rw [if_pos (nI_le h (by omega))]
    · rw [if_neg (by rw [nI_leI (by omega) (by omega)]; exact h), show (4 : Int32) = nI 4 from rfl, nI_mul, gd_t (nI_inb (by omega) (by omega)), nI_cl (by omega), if_neg (hno k (by omega)), nI_1]
      exact ih (k + 1) (by omega) (by omega)
theorem ctxM_hit (d : Int32) (B : Nat → Int32) (c i : Nat) (hc : c ≤ 3) (hi : i < c) (hd : B (4 * i) = d) (hno : ∀ k, k < i → ¬ B (4 * k) = d) : ∀ (n k : Nat), k ≤ i → c - k < n → FX3_contextOf_2 d n B (nI c) (nI k) = some (nI i) := by
  intro n
  induction n with
  | zero => intro k _ h; omega
  | succ n ih =>
    intro k hk hn
    rw [FX3_contextOf_2, if_neg (by rw [nI_leI (by omega) (by omega)]; omega), show (4 : Int32) = nI 4 from rfl, nI_mul, gd_t (nI_inb (by omega) (by omega)), nI_cl (by omega)]
    by_cases h : k = i
    · subst h
      rw [if_pos hd]
    · rw [if_neg (hno k (by omega)), nI_1]
      exact ih (k + 1) (by omega) (by omega)
/-- the first of a few, or none -/
theorem first_of (P : Nat → Prop) (hP : ∀ i, P i ∨ ¬ P i) : ∀ c : Nat, (∀ i, i < c → ¬ P i) ∨ ∃ i, i < c ∧ P i ∧ ∀ k, k < i → ¬ P k := by
  intro c
  induction c with
  | zero => exact Or.inl (fun i h => absurd h (Nat.not_lt_zero i))
  | succ c ih =>
    rcases ih with h | ⟨i, h1, h2, h3⟩
    · rcases hP c with hc | hc
      · exact Or.inr ⟨c, Nat.lt_succ_self c, hc, h⟩
      · refine Or.inl (fun i hi => ?_)
        rcases Nat.lt_succ_iff_lt_or_eq.mp hi with q | q
        · exact h i q
        · rw [q]; exact hc
    · exact Or.inr ⟨i, Nat.lt_succ_of_lt h1, h2, h3⟩

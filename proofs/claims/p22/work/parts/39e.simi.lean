/-! The pure side in general, 9: the commands' row, the log, the leaves, counts; read and write -/
def rQ (q : Nat) (B mQ : Nat → Int32) : Prop := q ≤ 12 ∧ ∀ k, k < 3 * q → mQ k = B k
def up3 (B : Nat → Int32) (p : Nat) (a b c : Int32) : Nat → Int32 := upd (upd (upd B (p + 0) a) (p + 1) b) (p + 2) c
theorem up3_old {B : Nat → Int32} {p q : Nat} {a b c : Int32} (h : q < p) : up3 B p a b c q = B q := by
  unfold up3
  rw [upd_n _ _ (by omega), upd_n _ _ (by omega), upd_n _ _ (by omega)]
theorem up3_new (B B' : Nat → Int32) {p q : Nat} {a b c : Int32} (h : p ≤ q) (h2 : q < p + 3) : up3 B p a b c q = up3 B' p a b c q := by
  unfold up3
  rcases (show q = p + 0 ∨ q = p + 1 ∨ q = p + 2 by omega) with h | h | h <;> subst h <;> simp [upd]
theorem rQ_new {r : Nat} {B mB : Nat → Int32} (hr : r < 12) (h : rQ r B mB) (a b c : Int32) : rQ (r + 1) (up3 B (r * 3) a b c) (up3 mB (3 * r) a b c) := by
  refine ⟨by omega, fun q hq => ?_⟩
  rw [Nat.mul_comm r 3]
  by_cases h1 : q < 3 * r
  · rw [up3_old h1, up3_old h1]
    exact h.2 q h1
  · exact up3_new mB B (by omega) (by omega)
/-- command, on both sides -/
theorem command_sim (x1 x2 x3 th : Int32) {q : Nat} {B mQ : Nat → Int32} (h : rQ q B mQ) : ∃ (r : Int32) (q2 : Nat) (B2 mQ2 : Nat → Int32), FX2_command x1 x2 x3 (nI q) B = some (r, nI q2, B2) ∧ FX3_command x1 x2 x3 mQ (nI q) th = some (r, mQ2, nI q2, 0) ∧ rQ q2 B2 mQ2 := by
  unfold FX2_command FX3_command
  by_cases h0 : x1 < 0
  · exact ⟨-1, q, B, mQ, by rw [if_pos h0], by rw [if_pos h0], h⟩
  rw [if_neg h0, if_neg h0]
  by_cases h1 : 5 < x1
  · exact ⟨-1, q, B, mQ, by rw [if_pos h1], by rw [if_pos h1], h⟩
  rw [if_neg h1, if_neg h1]
  by_cases hq : q < 12
  · have ef : FX1_isFull 12 (nI q) = some 0 := by unfold FX1_isFull; rw [if_pos (show nI q < 12 from nI_lt (b := 12) hq (by omega))]
    have eo : FX1_open 12 3 36 (nI q) B = some (nI q, nI (q + 1), B) := open_less (lim := 12) (w := 3) (len := 36) hq (by omega) B
    have p0 : ∀ (v : Int32) (B : Nat → Int32), FX1_put 3 36 (nI q) 0 v (nI (q + 1)) B = some (upd B (q * 3 + 0) v) := fun v B => put_in (w := 3) (len := 36) (r := q) (k := 0) (n := q + 1) (by omega) (by omega) (by omega) (by omega) (by omega) (by omega) v B
    have p1 : ∀ (v : Int32) (B : Nat → Int32), FX1_put 3 36 (nI q) 1 v (nI (q + 1)) B = some (upd B (q * 3 + 1) v) := fun v B => put_in (w := 3) (len := 36) (r := q) (k := 1) (n := q + 1) (by omega) (by omega) (by omega) (by omega) (by omega) (by omega) v B
    have p2 : ∀ (v : Int32) (B : Nat → Int32), FX1_put 3 36 (nI q) 2 v (nI (q + 1)) B = some (upd B (q * 3 + 2) v) := fun v B => put_in (w := 3) (len := 36) (r := q) (k := 2) (n := q + 1) (by omega) (by omega) (by omega) (by omega) (by omega) (by omega) v B
    have e0 : (3 : Int32) * nI q = nI (3 * q) := nI_mul 3 q
    have e1 : nI (3 * q) + (1 : Int32) = nI (3 * q + 1) := nI_add (3 * q) 1
    have e2 : nI (3 * q) + (2 : Int32) = nI (3 * q + 2) := nI_add (3 * q) 2
    have e3 : nI q + (1 : Int32) = nI (q + 1) := nI_add q 1
    refine ⟨nI (q + 1), q + 1, _, _, ?_, ?_, rQ_new hq h x1 x2 x3⟩
    · rw [ef, bd1_e, if_pos rfl, eo, bd3_e, p0, bd1_e, p1, bd1_e, p2, bd1_e]
      rfl
    · rw [if_neg (fun k => by have k2 : q = 12 := nI_eqI (by omega) (by omega) k; omega), e0, e1, e2, e3, gd_t (nI_inb (by omega) (by omega)), gd_t (nI_inb (by omega) (by omega)), gd_t (nI_inb (by omega) (by omega)), nI_cl (by omega), nI_cl (by omega), nI_cl (by omega)]
      rfl
  · have hq12 : q = 12 := by have := h.1; omega
    subst hq12
    exact ⟨-1, 12, B, mQ, rfl, rfl, h⟩
/-- what cell(row, column) tells -/
theorem cell_gen (w len : Nat) {n : Nat} (hl : n * w ≤ len) (hlen : len < 1000) (hn : n < 1000) (hw : w < 1000) (x1 x2 : Int32) (B : Nat → Int32) :
    ((x1 < 0 ∨ nI n ≤ x1 ∨ x2 < 0 ∨ nI w ≤ x2) ∧ FX1_cell (nI w) len x1 x2 (nI n) B = some (-1)) ∨ ∃ r k : Nat, r < n ∧ k < w ∧ x1 = nI r ∧ x2 = nI k ∧ FX1_cell (nI w) len x1 x2 (nI n) B = some (B (r * w + k)) := by
  by_cases h0 : x1 < 0
  · refine Or.inl ⟨Or.inl h0, ?_⟩
    unfold FX1_cell FX1_has
    rw [if_pos h0]
    rfl
  by_cases h1 : nI n ≤ x1
  · refine Or.inl ⟨Or.inr (Or.inl h1), ?_⟩
    unfold FX1_cell FX1_has
    rw [if_neg h0, if_pos h1]
    rfl
  by_cases h2 : x2 < 0
  · refine Or.inl ⟨Or.inr (Or.inr (Or.inl h2)), ?_⟩
    unfold FX1_cell FX1_has
    rw [if_neg h0, if_neg h1, if_pos h2]
    rfl
  by_cases h3 : nI w ≤ x2
  · refine Or.inl ⟨Or.inr (Or.inr (Or.inr h3)), ?_⟩
    unfold FX1_cell FX1_has
    rw [if_neg h0, if_neg h1, if_neg h2, if_pos h3]
    rfl
  obtain ⟨r, hr, rfl⟩ := nI_of h0
  obtain ⟨k, hk, rfl⟩ := nI_of h2
  rw [nI_leI (by omega) hr] at h1
  rw [nI_leI (by omega) hk] at h3
  exact Or.inr ⟨r, k, by omega, by omega, rfl, rfl, cell_in (by omega) (by omega) hl hlen hn hw B⟩
/-- record, on both sides -/
theorem record_sim (x1 x2 th : Int32) {f : Nat} {B mR : Nat → Int32} (h : rF f B mR) : ∃ r : Int32, FX2_record x1 x2 (nI f) B = some r ∧ FX3_record x1 x2 mR (nI f) th = some (r, 0) := by
  have hf := h.1
  unfold FX2_record FX3_record
  rcases cell_gen 4 24 (n := f) (by omega) (by omega) (by omega) (by omega) x1 x2 B with ⟨hc, e⟩ | ⟨r, k, hr, hk, rfl, rfl, e⟩
  · refine ⟨-1, by rw [show (4 : Int32) = nI 4 from rfl, e, bd1_e], ?_⟩
    by_cases h0 : x1 < 0
    · rw [if_pos h0]
    by_cases h1 : nI f ≤ x1
    · rw [if_neg h0, if_pos h1]
    by_cases h2 : x2 < 0
    · rw [if_neg h0, if_neg h1, if_pos h2]
    by_cases h3 : 4 ≤ x2
    · rw [if_neg h0, if_neg h1, if_neg h2, if_pos h3]
    rcases hc with q | q | q | q
    · exact absurd q h0
    · exact absurd q h1
    · exact absurd q h2
    · exact absurd q h3
  · have e0 : (4 : Int32) * nI r = nI (4 * r) := nI_mul 4 r
    refine ⟨B (r * 4 + k), by rw [show (4 : Int32) = nI 4 from rfl, e, bd1_e], ?_⟩
    rw [if_neg (nI_pos (by omega)), if_neg (by rw [nI_leI (by omega) (by omega)]; omega), if_neg (nI_pos (by omega)), if_neg (by rw [show (4 : Int32) = nI 4 from rfl, nI_leI (by omega) (by omega)]; omega), e0, nI_add, gd_t (nI_inb (by omega) (by omega)), nI_cl (by omega), h.2 _ (by omega), Nat.mul_comm]
/-- leaf, on both sides -/
theorem leaf_sim (x1 x2 th : Int32) {l : Nat} {B mL : Nat → Int32} (h : rL l B mL) : ∃ r : Int32, FX2_leaf x1 x2 (nI l) B = some r ∧ FX3_leaf x1 x2 mL (nI l) th = some (r, 0) := by
  have hf := h.1
  unfold FX2_leaf FX3_leaf
  rcases cell_gen 5 30 (n := l) (by omega) (by omega) (by omega) (by omega) x1 x2 B with ⟨hc, e⟩ | ⟨r, k, hr, hk, rfl, rfl, e⟩
  · refine ⟨-1, by rw [show (5 : Int32) = nI 5 from rfl, e, bd1_e], ?_⟩
    by_cases h0 : x1 < 0
    · rw [if_pos h0]
    by_cases h1 : nI l ≤ x1
    · rw [if_neg h0, if_pos h1]
    by_cases h2 : x2 < 0
    · rw [if_neg h0, if_neg h1, if_pos h2]
    by_cases h3 : 5 ≤ x2
    · rw [if_neg h0, if_neg h1, if_neg h2, if_pos h3]
    rcases hc with q | q | q | q
    · exact absurd q h0
    · exact absurd q h1
    · exact absurd q h2
    · exact absurd q h3
  · have e0 : (5 : Int32) * nI r = nI (5 * r) := nI_mul 5 r
    refine ⟨B (r * 5 + k), by rw [show (5 : Int32) = nI 5 from rfl, e, bd1_e], ?_⟩
    rw [if_neg (nI_pos (by omega)), if_neg (by rw [nI_leI (by omega) (by omega)]; omega), if_neg (nI_pos (by omega)), if_neg (by rw [show (5 : Int32) = nI 5 from rfl, nI_leI (by omega) (by omega)]; omega), e0, nI_add, gd_t (nI_inb (by omega) (by omega)), nI_cl (by omega), h.2.1 _ (by omega), Nat.mul_comm]
/-- drop, on both sides -/
theorem drop_sim (th : Int32) {f : Nat} {B mR : Nat → Int32} (h : rF f B mR) : ∃ (r : Int32) (f2 : Nat) (B2 mR2 : Nat → Int32), FX2_drop (nI f) B = some (r, nI f2, B2) ∧ FX3_drop mR (nI f) th = some (r, mR2, nI f2, 0) ∧ rF f2 B2 mR2 := by
  have hf := h.1
  unfold FX2_drop FX3_drop
  by_cases h0 : f = 0
  · subst h0
    exact ⟨-1, 0, B, mR, rfl, rfl, h⟩
  · have n0 : ¬ nI f = 0 := nI_ne0 (by omega) (by omega)
    have e := remove_eq (w := 4) (len := 24) (r := 0) (n := f) (by omega) (by omega) (by omega) (by omega) B
    have e2 := shift_eq (w := 4) (len := 24) (n := f) (by omega) (by omega) (by omega) (by omega) mR
    have e3 : nI f - 1 = nI (f - 1) := by rw [show (1 : Int32) = nI 1 from rfl, pk_sub (by omega)]
    refine ⟨nI (f - 1), f - 1, sh 4 (0 * 4) ((f - 1) * 4) B, sh 4 0 ((f - 1) * 4) mR, ?_, ?_, ?_⟩
    · rw [if_neg n0, show (4 : Int32) = nI 4 from rfl, show (0 : Int32) = nI 0 from rfl, e, bd2_e]
    · rw [if_neg n0, show (4 : Int32) = nI 4 from rfl, e2, bd1_e, e3]
    · refine ⟨by omega, fun q hq => ?_⟩
      rw [Nat.zero_mul, sh_in (by omega) (by omega), sh_in (by omega) (by omega)]
      exact h.2 _ (by omega)
/-- count, on both sides -/
theorem count_sim (x1 th nC nL nF nQ tp tr lh ov : Int32) : ∃ r : Int32, FX2_count x1 nC nL nF nQ tp tr lh ov = some r ∧ FX3_count x1 tp nC nL nF ov nQ tr lh th = some (r, 0) := by
  unfold FX2_count FX3_count
  by_cases k0 : x1 = 0
  · exact ⟨_, by rw [if_pos k0], by rw [if_pos k0]⟩
  rw [if_neg k0, if_neg k0]
  by_cases k1 : x1 = 1
  · exact ⟨_, by rw [if_pos k1], by rw [if_pos k1]⟩
  rw [if_neg k1, if_neg k1]
  by_cases k2 : x1 = 2
  · rw [if_pos k2, if_pos k2]
    by_cases o : ov = 0
    · exact ⟨_, by rw [if_pos o], by rw [if_pos o]⟩
    · exact ⟨_, by rw [if_neg o], by rw [if_neg o]⟩
  rw [if_neg k2, if_neg k2]
  by_cases k3 : x1 = 3
  · exact ⟨_, by rw [if_pos k3], by rw [if_pos k3]⟩
  rw [if_neg k3, if_neg k3]
  by_cases k4 : x1 = 4
  · exact ⟨_, by rw [if_pos k4], by rw [if_pos k4]⟩
  rw [if_neg k4, if_neg k4]
  by_cases k5 : x1 = 5
  · exact ⟨_, by rw [if_pos k5], by rw [if_pos k5]⟩
  rw [if_neg k5, if_neg k5]
  by_cases k6 : x1 = 6
  · exact ⟨_, by rw [if_pos k6], by rw [if_pos k6]⟩
  rw [if_neg k6, if_neg k6]
  by_cases k7 : x1 = 7
  · exact ⟨_, by rw [if_pos k7], by rw [if_pos k7]⟩
  rw [if_neg k7, if_neg k7]
  exact ⟨_, rfl, rfl⟩
theorem FX3_read_out {x1 x2 : Int32} {M mB mL mR : Nat → Int32} {tb nC nL nR ov wr wl ft th pl : Int32} (h : x1 < 0 ∨ 8 ≤ x1) : FX3_read x1 x2 M mB mL mR tb nC nL nR ov wr wl ft th pl = some (0, mB, mL, mR, nC, nL, nR, ov, wr, wl, ft, 1, pl) := by
  unfold FX3_read
  rw [id0 h]
  rfl
/-- write, on both sides -/
theorem write_sim (x1 addr v : Int32) {t : Nat} (ht : t ≤ 16368) (M : Nat → Int32) (lf tr lh ov ft th mpl : Int32) {c l f : Nat} {B mB BL mL BF mR : Nat → Int32} (hC : rC c B mB) (hL : rL l BL mL) (hF : rF f BF mR) :
    ∃ (r : Int32) (M2 : Nat → Int32) (c2 l2 f2 : Nat) (B2 mB2 BL2 mL2 BF2 mR2 : Nat → Int32) (t2 lh2 ov2 lf2 pl : Int32), FX2_write x1 addr v M (nI c) B (nI l) BL (nI f) BF (nI t) lf tr lh ov = some (r, M2, nI c2, B2, nI l2, BL2, nI f2, BF2, lf2, t2, lh2, ov2) ∧ FX3_write x1 addr v M mB mL mR (nI t) (nI c) (nI l) (nI f) ov tr lh ft th mpl = some (r, M2, mB2, mL2, mR2, nI c2, nI l2, nI f2, ov2, t2, lh2, lf2, 0, pl) ∧ rC c2 B2 mB2 ∧ rL l2 BL2 mL2 ∧ rF f2 BF2 mR2 := by
  by_cases h0 : x1 < 0 ∨ 8 ≤ x1
  · exact ⟨0, M, c, l, f, B, mB, BL, mL, BF, mR, tr, lh, ov, 0, mpl, by unfold FX2_write; rw [ib0 h0]; rfl, by unfold FX3_write; rw [id0 h0]; rfl, hC, hL, hF⟩
  rw [not_or] at h0
  unfold FX2_write FX3_write
  rw [ib1 h0.1 h0.2, id1 h0.1 h0.2, bd1_e, bd1_e, if_neg n10, if_neg n10]
  obtain ⟨e, he, rfl⟩ := dev_of h0.1 h0.2
  obtain ⟨c2, l2, f2, B2, mB2, BL2, mL2, BF2, mR2, t2, lh2, ov2, lf2, rr, bm, pl, hC2, hL2, hF2, hk, g, m⟩ := acc_sim he addr 1 (Or.inr rfl) ht M lf tr lh ov 0 mpl hC hL hF
  rw [g, m, bd11_e, bd12_e]
  rcases hk with ⟨k1, rfl⟩ | ⟨p, hp, rfl, rfl, rfl⟩
  · rw [if_pos (show rr < 0 by rw [Int32.lt_iff_toInt_lt]; rw [Int32.le_iff_toInt_le] at k1; omega), if_pos rfl]
    exact ⟨0, M, c2, l2, f2, B2, mB2, BL2, mL2, BF2, mR2, t2, lh2, ov2, lf2, pl, rfl, rfl, hC2, hL2, hF2⟩
  · have q0 : ¬ nI p < 0 := nI_pos (by omega)
    have q1 : ¬ 16384 ≤ nI p := by rw [show (16384 : Int32) = nI 16384 from rfl, nI_leI (by omega) (by omega)]; omega
    rw [if_neg q0, setWord_in q0 q1, bd2_e, if_neg n10, if_neg n10, gd_t (nI_inb hp (by omega))]
    exact ⟨1, _, c2, l2, f2, B2, mB2, BL2, mL2, BF2, mR2, t2, lh2, ov2, lf2, _, rfl, rfl, hC2, hL2, hF2⟩

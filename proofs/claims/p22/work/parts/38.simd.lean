/-! The pure side in general, 4: a leaf is looked for and remembered -/
def up5 (B : Nat → Int32) (p : Nat) (a b c d e : Int32) : Nat → Int32 := upd (upd (upd (upd (upd B (p + 0) a) (p + 1) b) (p + 2) c) (p + 3) d) (p + 4) e
theorem up5_old {B : Nat → Int32} {p q : Nat} {a b c d e : Int32} (h : q < p) : up5 B p a b c d e q = B q := by
  unfold up5
  rw [upd_n _ _ (by omega), upd_n _ _ (by omega), upd_n _ _ (by omega), upd_n _ _ (by omega), upd_n _ _ (by omega)]
theorem up5_new (B B' : Nat → Int32) {p q : Nat} {a b c d e : Int32} (h : p ≤ q) (h2 : q < p + 5) : up5 B p a b c d e q = up5 B' p a b c d e q := by
  unfold up5
  rcases (show q = p + 0 ∨ q = p + 1 ∨ q = p + 2 ∨ q = p + 3 ∨ q = p + 4 by omega) with h | h | h | h | h <;> subst h <;> simp [upd]
theorem rL_new {r : Nat} {B mB : Nat → Int32} (hr : r < 6) (h : rL r B mB) (a b c d e : Int32) (ha : ¬ a < 0) (hc : ¬ c < 0) (hb : lvl b c) : rL (r + 1) (up5 B (r * 5) a b c d e) (up5 mB (5 * r) a b c d e) := by
  refine ⟨by omega, fun q hq => ?_, fun i hi => ?_⟩
  · rw [Nat.mul_comm r 5]
    by_cases h1 : q < 5 * r
    · rw [up5_old h1, up5_old h1]
      exact h.2.1 q h1
    · exact up5_new mB B (by omega) (by omega)
  · by_cases h1 : i < r
    · rw [up5_old (by omega), up5_old (by omega), up5_old (by omega)]
      exact h.2.2 i h1
    · have e : i = r := by omega
      subst e
      unfold up5
      have u0 : upd (upd (upd (upd (upd B (i * 5 + 0) a) (i * 5 + 1) b) (i * 5 + 2) c) (i * 5 + 3) d) (i * 5 + 4) e (i * 5) = a := by
        rw [upd_n _ _ (by omega), upd_n _ _ (by omega), upd_n _ _ (by omega), upd_n _ _ (by omega), Nat.add_zero, upd_s]
      have u1 : upd (upd (upd (upd (upd B (i * 5 + 0) a) (i * 5 + 1) b) (i * 5 + 2) c) (i * 5 + 3) d) (i * 5 + 4) e (i * 5 + 1) = b := by
        rw [upd_n _ _ (by omega), upd_n _ _ (by omega), upd_n _ _ (by omega), upd_s]
      have u2 : upd (upd (upd (upd (upd B (i * 5 + 0) a) (i * 5 + 1) b) (i * 5 + 2) c) (i * 5 + 3) d) (i * 5 + 4) e (i * 5 + 2) = c := by
        rw [upd_n _ _ (by omega), upd_n _ _ (by omega), upd_s]
      rw [u0, u1, u2]
      exact ⟨ha, hc, hb⟩
theorem rL_shift {B mB : Nat → Int32} (h : rL 6 B mB) : rL 5 (sh 5 0 25 B) (sh 5 0 25 mB) := by
  refine ⟨by omega, fun q hq => ?_, fun i hi => ?_⟩
  · rw [sh_in (by omega) (by omega), sh_in (by omega) (by omega)]
    exact h.2.1 _ (by omega)
  · have q := h.2.2 (i + 1) (by omega)
    rw [sh_in (by omega) (by omega), sh_in (by omega) (by omega), sh_in (by omega) (by omega), show i * 5 + 5 = (i + 1) * 5 by omega, show i * 5 + 2 + 5 = (i + 1) * 5 + 2 by omega, show i * 5 + 1 + 5 = (i + 1) * 5 + 1 by omega]
    exact q
theorem remL_gate {l r : Nat} {B B0 : Nat → Int32} (hr : r < 6) (ho : FX1_open 6 5 30 (nI l) B = some (nI r, nI (r + 1), B0)) (dom lev v en : Int32) : FX2_rememberLeaf dom lev v en (nI l) B = some (nI r, nI (r + 1), up5 B0 (r * 5) dom lev (v >>> (((4 : Int32) * lev) &&& 31)) ((en >>> ((8 : Int32) &&& 31)) &&& (63 : Int32)) ((en >>> ((1 : Int32) &&& 31)) &&& (3 : Int32))) := by
  have p0 : ∀ (v : Int32) (B : Nat → Int32), FX1_put 5 30 (nI r) 0 v (nI (r + 1)) B = some (upd B (r * 5 + 0) v) := fun v B => put_in (w := 5) (len := 30) (r := r) (k := 0) (n := r + 1) (by omega) (by omega) (by omega) (by omega) (by omega) (by omega) v B
  have p1 : ∀ (v : Int32) (B : Nat → Int32), FX1_put 5 30 (nI r) 1 v (nI (r + 1)) B = some (upd B (r * 5 + 1) v) := fun v B => put_in (w := 5) (len := 30) (r := r) (k := 1) (n := r + 1) (by omega) (by omega) (by omega) (by omega) (by omega) (by omega) v B
  have p2 : ∀ (v : Int32) (B : Nat → Int32), FX1_put 5 30 (nI r) 2 v (nI (r + 1)) B = some (upd B (r * 5 + 2) v) := fun v B => put_in (w := 5) (len := 30) (r := r) (k := 2) (n := r + 1) (by omega) (by omega) (by omega) (by omega) (by omega) (by omega) v B
  have p3 : ∀ (v : Int32) (B : Nat → Int32), FX1_put 5 30 (nI r) 3 v (nI (r + 1)) B = some (upd B (r * 5 + 3) v) := fun v B => put_in (w := 5) (len := 30) (r := r) (k := 3) (n := r + 1) (by omega) (by omega) (by omega) (by omega) (by omega) (by omega) v B
  have p4 : ∀ (v : Int32) (B : Nat → Int32), FX1_put 5 30 (nI r) 4 v (nI (r + 1)) B = some (upd B (r * 5 + 4) v) := fun v B => put_in (w := 5) (len := 30) (r := r) (k := 4) (n := r + 1) (by omega) (by omega) (by omega) (by omega) (by omega) (by omega) v B
  unfold FX2_rememberLeaf FX2_pageOf
  rw [ho, bd3_e, p0, bd1_e, p1, bd1_e, p2, bd1_e, bd1_e, p3, bd1_e, p4, bd1_e]
  rfl
theorem remL_ref {r : Nat} (hr : r < 6) (dom lev v en : Int32) (mB : Nat → Int32) : FX3_remember__29 dom lev v en mB (nI r) = some (nI r, up5 mB (5 * r) dom lev (v >>> (((4 : Int32) * lev) &&& 31)) ((en >>> ((8 : Int32) &&& 31)) &&& (63 : Int32)) ((en >>> ((1 : Int32) &&& 31)) &&& (3 : Int32)), nI (r + 1)) := by
  have e0 : (5 : Int32) * nI r = nI (5 * r) := nI_mul 5 r
  have e1 : nI (5 * r) + (1 : Int32) = nI (5 * r + 1) := nI_add (5 * r) 1
  have e2 : nI (5 * r) + (2 : Int32) = nI (5 * r + 2) := nI_add (5 * r) 2
  have e3 : nI (5 * r) + (3 : Int32) = nI (5 * r + 3) := nI_add (5 * r) 3
  have e4 : nI (5 * r) + (4 : Int32) = nI (5 * r + 4) := nI_add (5 * r) 4
  have e5 : nI r + (1 : Int32) = nI (r + 1) := nI_add r 1
  unfold FX3_remember__29
  rw [e0, e1, e2, e3, e4, e5, nI_pred, gd_t (nI_inb (by omega) (by omega)), gd_t (nI_inb (by omega) (by omega)), gd_t (nI_inb (by omega) (by omega)), gd_t (nI_inb (by omega) (by omega)), gd_t (nI_inb (by omega) (by omega)), nI_cl (by omega), nI_cl (by omega), nI_cl (by omega), nI_cl (by omega), nI_cl (by omega)]
  rfl
/-- a leaf is remembered, on both sides -/
theorem rem_sim {l : Nat} {B mB : Nat → Int32} (h : rL l B mB) (dom lev v en : Int32) (hdom : ¬ dom < 0) (hv : ∃ z : Nat, z < 4096 ∧ v = nI z) (hlv : ∃ k : Nat, k ≤ 2 ∧ lev = nI k) : ∃ (r : Nat) (B2 mB2 : Nat → Int32), r < 6 ∧ rL (r + 1) B2 mB2 ∧ FX2_rememberLeaf dom lev v en (nI l) B = some (nI r, nI (r + 1), B2) ∧ FX3_remember_ dom lev v en mB (nI l) = some (nI r, mB2, nI (r + 1)) := by
  have hvn : ¬ v < 0 := by
    obtain ⟨z, hz, rfl⟩ := hv
    exact nI_pos (by omega)
  have hlvl : lvl lev (v >>> (((4 : Int32) * lev) &&& 31)) := by
    obtain ⟨z, hz, rfl⟩ := hv
    obtain ⟨k, hk, rfl⟩ := hlv
    exact ⟨k, z, hk, hz, rfl, rfl⟩
  by_cases hl : l < 6
  · have ho : FX1_open 6 5 30 (nI l) B = some (nI l, nI (l + 1), B) := open_less (lim := 6) (w := 5) (len := 30) hl (by omega) B
    refine ⟨l, _, _, hl, rL_new hl h _ _ _ _ _ hdom (shr_nn _ hvn) hlvl, remL_gate hl ho dom lev v en, ?_⟩
    unfold FX3_remember_
    rw [if_neg (fun q => by have q2 : l = 6 := nI_eqI (by omega) (by omega) q; omega), remL_ref hl]
  · have hl6 : l = 6 := by have := h.1; omega
    subst hl6
    have ho : FX1_open 6 5 30 (nI 6) B = some (nI 5, nI (5 + 1), sh 5 0 25 B) := open_full (lim := 6) (w := 5) (len := 30) (by omega) (by omega) (by omega) (by omega) (by omega) B
    refine ⟨5, _, _, by omega, rL_new (by omega) (rL_shift h) _ _ _ _ _ hdom (shr_nn _ hvn) hlvl, remL_gate (by omega) ho dom lev v en, ?_⟩
    have es : FX3_shift 30 5 6 mB = some (sh 5 0 25 mB) := shift_eq (w := 5) (len := 30) (n := 6) (by omega) (by omega) (by omega) (by omega) mB
    have e3 : nI 6 - (1 : Int32) = nI 5 := rfl
    unfold FX3_remember_
    rw [if_pos (show nI 6 = 6 from rfl), es, bd1_e, e3, remL_ref (by omega)]
/-- the page that an entry names -/
def pg (E : Int32) : Nat := ((E >>> ((8 : Int32) &&& 31)) &&& (63 : Int32)).toNatClampNeg
theorem pg_eq (E : Int32) : ((E >>> ((8 : Int32) &&& 31)) &&& (63 : Int32)) = nI (pg E) ∧ pg E < 64 := by
  obtain ⟨j, hj, e⟩ := and_E (E >>> ((8 : Int32) &&& 31)) (m := 63) 6 rfl
  unfold pg
  rw [e, nI_cl (by omega)]
  exact ⟨rfl, hj⟩
/-- the word of a table -/
def ent (M : Nat → Int32) (a : Nat) (lev v : Int32) : Int32 := M (256 * a + ((v >>> (((4 : Int32) * lev) &&& 31)) &&& (15 : Int32)).toNatClampNeg)
theorem entryF_eq {a : Nat} (ha : a < 64) (M : Nat → Int32) (lev v tr : Int32) : FX2_entryFor (nI a) lev v M tr = some (ent M a lev v, tr + 1) := by
  obtain ⟨j, hj, e⟩ := and_E (v >>> (((4 : Int32) * lev) &&& 31)) (m := 15) 4 rfl
  unfold FX2_entryFor ent
  rw [e, placeIn_nI ha (by omega), bd1_e, wordAt_in (by omega), bd1_e, nI_cl (by omega)]
theorem ent_ref {a : Nat} (ha : a < 64) (M : Nat → Int32) (lev v : Int32) : inb (((256 : Int32) * nI a) + ((v >>> (((4 : Int32) * lev) &&& 31)) &&& (15 : Int32))) 16384 = true ∧ M (((256 : Int32) * nI a) + ((v >>> (((4 : Int32) * lev) &&& 31)) &&& (15 : Int32))).toNatClampNeg = ent M a lev v := by
  obtain ⟨j, hj, e⟩ := and_E (v >>> (((4 : Int32) * lev) &&& 31)) (m := 15) 4 rfl
  have e2 : (256 : Int32) * nI a = nI (256 * a) := nI_mul 256 a
  unfold ent
  rw [e, e2, nI_add, nI_cl (by omega), nI_cl (by omega)]
  exact ⟨nI_inb (by omega) (by omega), rfl⟩
theorem nI_m1 (n : Nat) : nI (n + 1) + (-1) = nI n := pk_m1 n
/-- the walk through the tables, from level k on, on both sides -/
theorem walk_sim (d addr wr_ dom root v : Int32) (M mC : Nat → Int32) (mtb mnC lh mwl mpl : Int32) {l : Nat} {B mB : Nat → Int32} (hL : rL l B mB) (hdom : ¬ dom < 0) (hv : ∃ z : Nat, z < 4096 ∧ v = nI z) : ∀ (k n m a : Nat) (wr : Int32), k ≤ 2 → k < n → k + 1 < m → a < 64 →
    (∃ t : Int32, FX2_leafFor_71 dom root v n M (nI l) B (wr + 1) lh (nI k) (ent M a (nI k) v) = some (-2, nI l, B, t, lh) ∧ FX3_lead_190 d addr wr_ m M mC mB mtb mnC (nI l) wr mwl mpl dom v (-1) (nI a) (nI k) = some (2, mC, mB, mnC, nI l, t, mwl, mpl))
    ∨ (∃ t : Int32, FX2_leafFor_71 dom root v n M (nI l) B (wr + 1) lh (nI k) (ent M a (nI k) v) = some (-5, nI l, B, t, lh) ∧ FX3_lead_190 d addr wr_ m M mC mB mtb mnC (nI l) wr mwl mpl dom v (-1) (nI a) (nI k) = some (5, mC, mB, mnC, nI l, t, mwl, mpl))
    ∨ (∃ (t : Int32) (r : Nat) (B2 mB2 : Nat → Int32), r < 6 ∧ rL (r + 1) B2 mB2 ∧ FX2_leafFor_71 dom root v n M (nI l) B (wr + 1) lh (nI k) (ent M a (nI k) v) = some (nI r, nI (r + 1), B2, t, lh) ∧ FX3_lead_190 d addr wr_ m M mC mB mtb mnC (nI l) wr mwl mpl dom v (-1) (nI a) (nI k) = FX3_lead_297 d addr wr_ M mC mB2 mtb mnC (nI (r + 1)) t mwl mpl v (nI r)) := by
  intro k
  induction k with
  | zero =>
    intro n m a wr hk hn hm ha
    obtain ⟨n, rfl⟩ : ∃ z, n = z + 1 := ⟨n - 1, by omega⟩
    obtain ⟨m, rfl⟩ : ∃ z, m = z + 2 := ⟨m - 2, by omega⟩
    have z0 : nI 0 = (0 : Int32) := rfl
    obtain ⟨i1, i2⟩ := ent_ref ha M (nI 0) v
    rw [FX2_leafFor_71, FX3_lead_190, if_pos rfl, gd_t i1, i2]
    generalize ent M a (nI 0) v = E
    rw [if_pos (show nI 0 ≤ 0 from Int32.le_refl _)]
    by_cases h1 : (E &&& (1 : Int32)) = 0
    · rw [if_pos h1, if_pos h1]
      exact Or.inl ⟨_, rfl, rfl⟩
    · rw [if_neg h1, if_neg h1, if_pos (show nI 0 ≤ 0 from Int32.le_refl _), if_pos z0, if_pos (show nI 0 ≤ 0 from Int32.le_refl _)]
      obtain ⟨r, B2, mB2, hr, hR, eg, em⟩ := rem_sim hL dom (nI 0) v E hdom hv ⟨0, by omega, rfl⟩
      refine Or.inr (Or.inr ⟨wr + 1, r, B2, mB2, hr, hR, ?_, ?_⟩)
      · rw [eg, bd3_e]
      · rw [em, bd3_e, FX3_lead_190, if_neg (fun q => nI_pos (n := r) (by omega) (by rw [q]; decide))]
  | succ k ih =>
    intro n m a wr hk hn hm ha
    obtain ⟨n, rfl⟩ : ∃ z, n = z + 1 := ⟨n - 1, by omega⟩
    obtain ⟨m, rfl⟩ : ∃ z, m = z + 2 := ⟨m - 2, by omega⟩
    have nz0 : ¬ nI (k + 1) ≤ 0 := nI_nle (by omega) (by omega)
    have nz1 : ¬ nI (k + 1) = 0 := nI_ne0 (by omega) (by omega)
    obtain ⟨i1, i2⟩ := ent_ref ha M (nI (k + 1)) v
    rw [FX2_leafFor_71, FX3_lead_190, if_pos rfl, gd_t i1, i2]
    generalize ent M a (nI (k + 1)) v = E
    rw [if_neg nz0]
    by_cases h1 : (E &&& (1 : Int32)) = 0
    · rw [if_neg (fun q => ((bit_9 E).mp q).1 h1), if_pos h1, if_pos h1]
      exact Or.inl ⟨_, rfl, rfl⟩
    rw [if_neg h1]
    by_cases h8 : (E &&& (8 : Int32)) = 0
    · have e9 : (E &&& (9 : Int32)) = 1 := (bit_9 E).mpr ⟨h1, h8⟩
      have ep := pg_eq E
      unfold FX2_pageOf
      rw [if_pos e9, bd1_e, if_neg nz1, if_pos h8, ep.1, nI_m1, entryF_eq ep.2, bd2_e, if_neg h1]
      exact ih n (m + 1) (pg E) (wr + 1) (by omega) (by omega) (by omega) ep.2
    · rw [if_neg (fun q => h8 ((bit_9 E).mp q).2), if_neg h1, if_neg nz0, if_neg nz1, if_neg h8, if_neg nz0]
      unfold FX2_pageOf
      rw [bd1_e]
      by_cases h15 : (((E >>> ((8 : Int32) &&& 31)) &&& (63 : Int32)) &&& (15 : Int32)) = 0
      · rw [if_pos h15, if_pos h15]
        obtain ⟨r, B2, mB2, hr, hR, eg, em⟩ := rem_sim hL dom (nI (k + 1)) v E hdom hv ⟨k + 1, hk, rfl⟩
        refine Or.inr (Or.inr ⟨wr + 1, r, B2, mB2, hr, hR, ?_, ?_⟩)
        · rw [eg, bd3_e]
        · rw [em, bd3_e, FX3_lead_190, if_neg (fun q => nI_pos (n := r) (by omega) (by rw [q]; decide))]
      · rw [if_neg h15, if_neg h15]
        exact Or.inr (Or.inl ⟨_, rfl, rfl⟩)

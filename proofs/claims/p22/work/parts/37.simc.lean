/-! The pure side in general, 3: a device's context on both sides -/
theorem bd3_e {α β δ γ : Type} (x : α) (y : β) (z : δ) (f : α → β → δ → Option γ) : bd3 (some (x, y, z)) f = f x y z := rfl
theorem remC_eq {r : Nat} (hr : r < 3) (d w u : Int32) (mB : Nat → Int32) : FX3_remember_27 d w u mB (nI r) = some (upd (upd (upd (upd mB (4 * r) d) (4 * r + 1) ((w >>> ((1 : Int32) &&& 31)) &&& (1 : Int32))) (4 * r + 2) ((w >>> ((8 : Int32) &&& 31)) &&& (63 : Int32))) (4 * r + 3) (u &&& (15 : Int32)), nI (r + 1)) := by
  have e0 : (4 : Int32) * nI r = nI (4 * r) := nI_mul 4 r
  have e1 : nI (4 * r) + (1 : Int32) = nI (4 * r + 1) := nI_add (4 * r) 1
  have e2 : nI (4 * r) + (2 : Int32) = nI (4 * r + 2) := nI_add (4 * r) 2
  have e3 : nI (4 * r) + (3 : Int32) = nI (4 * r + 3) := nI_add (4 * r) 3
  have e4 : nI r + (1 : Int32) = nI (r + 1) := nI_add r 1
  unfold FX3_remember_27
  rw [e0, e1, e2, e3, e4, gd_t (nI_inb (by omega) (by omega)), gd_t (nI_inb (by omega) (by omega)), gd_t (nI_inb (by omega) (by omega)), gd_t (nI_inb (by omega) (by omega)), nI_cl (by omega), nI_cl (by omega), nI_cl (by omega), nI_cl (by omega)]
/-- what the gate does where no row is found -/
theorem ctxG_new {c t e : Nat} (hc : c ≤ 3) (ht : t ≤ 16368) (he : e < 8) (M B : Nat → Int32) (tr : Int32) : FX2_contextOf_2 (nI e) 1 M (nI c) B (nI t) tr (nI c) = if (M (t + 2 * e) &&& (1 : Int32)) = 0 then some (-1, nI c, B, tr + 1) else if c < 3 then some (nI c, nI (c + 1), upd (upd (upd B (c * 3 + 0) (nI e)) (c * 3 + 1) (M (t + 2 * e))) (c * 3 + 2) (M (t + 2 * e + 1) &&& (15 : Int32)), tr + 1) else some (nI 2, nI 3, upd (upd (upd (sh 3 0 6 B) (2 * 3 + 0) (nI e)) (2 * 3 + 1) (M (t + 2 * e))) (2 * 3 + 2) (M (t + 2 * e + 1) &&& (15 : Int32)), tr + 1) := by
  have ep : nI t + (2 : Int32) * nI e = nI (t + 2 * e) := by
    have e2 : (2 : Int32) * nI e = nI (2 * e) := nI_mul 2 e
    rw [e2, nI_add]
  have ep1 : nI (t + 2 * e) + (1 : Int32) = nI (t + 2 * e + 1) := nI_add _ 1
  rw [FX2_contextOf_2, if_pos (nI_le (Nat.le_refl c) (by omega))]
  unfold FX2_contextPlace
  rw [bd1_e, ep, wordAt_in (by omega), bd1_e, ep1, wordAt_in (by omega)]
  by_cases hv : (M (t + 2 * e) &&& (1 : Int32)) = 0
  · rw [if_pos hv, if_pos hv]
  rw [if_neg hv, if_neg hv]
  by_cases h : c < 3
  · have eo : FX1_open 3 3 9 (nI c) B = some (nI c, nI (c + 1), B) := open_less (lim := 3) (w := 3) (len := 9) h (by omega) B
    have p0 : ∀ (v : Int32) (B : Nat → Int32), FX1_put 3 9 (nI c) 0 v (nI (c + 1)) B = some (upd B (c * 3 + 0) v) := fun v B => put_in (w := 3) (len := 9) (r := c) (k := 0) (n := c + 1) (by omega) (by omega) (by omega) (by omega) (by omega) (by omega) v B
    have p1 : ∀ (v : Int32) (B : Nat → Int32), FX1_put 3 9 (nI c) 1 v (nI (c + 1)) B = some (upd B (c * 3 + 1) v) := fun v B => put_in (w := 3) (len := 9) (r := c) (k := 1) (n := c + 1) (by omega) (by omega) (by omega) (by omega) (by omega) (by omega) v B
    have p2 : ∀ (v : Int32) (B : Nat → Int32), FX1_put 3 9 (nI c) 2 v (nI (c + 1)) B = some (upd B (c * 3 + 2) v) := fun v B => put_in (w := 3) (len := 9) (r := c) (k := 2) (n := c + 1) (by omega) (by omega) (by omega) (by omega) (by omega) (by omega) v B
    rw [if_pos h, eo, bd3_e, p0, bd1_e, p1, bd1_e, bd1_e, p2, bd1_e]
  · have hc3 : c = 3 := by omega
    subst hc3
    have eo : FX1_open 3 3 9 (nI 3) B = some (nI 2, nI 3, sh 3 0 6 B) := open_full (lim := 3) (w := 3) (len := 9) (by omega) (by omega) (by omega) (by omega) (by omega) B
    have p0 : ∀ (v : Int32) (B : Nat → Int32), FX1_put 3 9 (nI 2) 0 v (nI 3) B = some (upd B (2 * 3 + 0) v) := fun v B => put_in (w := 3) (len := 9) (r := 2) (k := 0) (n := 3) (by omega) (by omega) (by omega) (by omega) (by omega) (by omega) v B
    have p1 : ∀ (v : Int32) (B : Nat → Int32), FX1_put 3 9 (nI 2) 1 v (nI 3) B = some (upd B (2 * 3 + 1) v) := fun v B => put_in (w := 3) (len := 9) (r := 2) (k := 1) (n := 3) (by omega) (by omega) (by omega) (by omega) (by omega) (by omega) v B
    have p2 : ∀ (v : Int32) (B : Nat → Int32), FX1_put 3 9 (nI 2) 2 v (nI 3) B = some (upd B (2 * 3 + 2) v) := fun v B => put_in (w := 3) (len := 9) (r := 2) (k := 2) (n := 3) (by omega) (by omega) (by omega) (by omega) (by omega) (by omega) v B
    rw [if_neg h, eo, bd3_e, p0, bd1_e, p1, bd1_e, bd1_e, p2, bd1_e]
/-- a device's context: on both sides refused, or new, or remembered -/
theorem ctx_sim {c t e : Nat} {B mB : Nat → Int32} (h : rC c B mB) (ht : t ≤ 16368) (he : e < 8) (M : Nat → Int32) (tr : Int32) :
    (FX2_contextOf (nI e) M (nI c) B (nI t) tr = some (-1, nI c, B, tr + 1) ∧ FX3_contextOf (nI e) mB (nI c) = some (-1) ∧ (M (t + 2 * e) &&& (1 : Int32)) = 0)
    ∨ (∃ (i : Nat) (B2 mB2 : Nat → Int32), i < 3 ∧ rC (i + 1) B2 mB2 ∧ FX2_contextOf (nI e) M (nI c) B (nI t) tr = some (nI i, nI (i + 1), B2, tr + 1) ∧ FX3_contextOf (nI e) mB (nI c) = some (-1) ∧ ¬ (M (t + 2 * e) &&& (1 : Int32)) = 0 ∧ FX3_remember (nI e) (M (t + 2 * e)) (M (t + 2 * e + 1)) mB (nI c) = some (mB2, nI (i + 1)))
    ∨ (∃ i : Nat, i < c ∧ FX2_contextOf (nI e) M (nI c) B (nI t) tr = some (nI i, nI c, B, tr) ∧ FX3_contextOf (nI e) mB (nI c) = some (nI i)) := by
  have hc := h.1
  unfold FX2_contextOf FX3_contextOf
  rcases first_of (fun i => B (i * 3) = nI e) (fun i => Classical.em _) c with hno | ⟨i, hi, hd, hno⟩
  · have g1 := ctxG_miss (nI e) M B (nI t) tr c hc hno fuel 0 (by omega) (by unfold fuel; omega)
    have m1 := ctxM_miss (nI e) mB c hc (fun i hi => by rw [(h.2 i hi).1]; exact hno i hi) fuel 0 (by omega) (by unfold fuel; omega)
    rw [ctxG_new hc ht he] at g1
    by_cases hv : (M (t + 2 * e) &&& (1 : Int32)) = 0
    · rw [if_pos hv] at g1
      exact Or.inl ⟨g1, m1, hv⟩
    rw [if_neg hv] at g1
    by_cases hc3 : c < 3
    · rw [if_pos hc3] at g1
      refine Or.inr (Or.inl ⟨c, _, _, hc3, rC_new hc3 h (nI e) (M (t + 2 * e)) (M (t + 2 * e + 1) &&& (15 : Int32)) (and15_nn _), g1, m1, hv, ?_⟩)
      unfold FX3_remember
      rw [if_neg (fun q => by have q2 : c = 3 := nI_eqI (by omega) (by omega) q; omega), remC_eq hc3]
    · rw [if_neg hc3] at g1
      have hc4 : c = 3 := by omega
      subst hc4
      refine Or.inr (Or.inl ⟨2, _, _, by omega, rC_new (by omega) (rC_shift h) (nI e) (M (t + 2 * e)) (M (t + 2 * e + 1) &&& (15 : Int32)) (and15_nn _), g1, m1, hv, ?_⟩)
      have es : FX3_shift 12 4 3 mB = some (sh 4 0 8 mB) := shift_eq (w := 4) (len := 12) (n := 3) (by omega) (by omega) (by omega) (by omega) mB
      have e3 : nI 3 - (1 : Int32) = nI 2 := rfl
      unfold FX3_remember
      rw [if_pos (show nI 3 = 3 from rfl), es, bd1_e, e3, remC_eq (by omega)]
  · have g1 := ctxG_hit (nI e) M B (nI t) tr c i hc hi hd hno fuel 0 (by omega) (by unfold fuel; omega)
    have m1 := ctxM_hit (nI e) mB c i hc hi (by rw [(h.2 i hi).1]; exact hd) (fun k hk => by rw [(h.2 k (by omega)).1]; exact hno k hk) fuel 0 (by omega) (by unfold fuel; omega)
    exact Or.inr (Or.inr ⟨i, hi, g1, m1⟩)
/-- a remembered level, and what it has above of a page -/
def lvl (b c : Int32) : Prop := ∃ lev v : Nat, lev ≤ 2 ∧ v < 4096 ∧ b = nI lev ∧ c = (nI v >>> (((4 : Int32) * nI lev) &&& 31))
theorem lvl_no {b c x : Int32} (h : lvl b c) (hx : 4096 ≤ x) : ¬ c = (x >>> (((4 : Int32) * b) &&& 31)) := by
  obtain ⟨lev, v, h1, h2, rfl, rfl⟩ := h
  obtain ⟨z, hz, rfl⟩ := nI_of (x := x) (fun q => by
    rw [Int32.lt_iff_toInt_lt] at q
    rw [Int32.le_iff_toInt_le] at hx
    have e0 : (0 : Int32).toInt = 0 := rfl
    have e1 : (4096 : Int32).toInt = 4096 := rfl
    omega)
  rw [show (4096 : Int32) = nI 4096 from rfl, nI_leI (by omega) hz] at hx
  rcases (show lev = 0 ∨ lev = 1 ∨ lev = 2 by omega) with rfl | rfl | rfl
  · rw [pk_shrN (by omega) _ 0 (by decide), pk_shrN hz _ 0 (by decide), show 2 ^ 0 = 1 from rfl, nI_eq (by omega) (by omega)]
    omega
  · rw [pk_shrN (by omega) _ 4 (by decide), pk_shrN hz _ 4 (by decide), show 2 ^ 4 = 16 from rfl, nI_eq (by omega) (by omega)]
    omega
  · rw [pk_shrN (by omega) _ 8 (by decide), pk_shrN hz _ 8 (by decide), show 2 ^ 8 = 256 from rfl, nI_eq (by omega) (by omega)]
    omega
/-- the remembered leaves agree -/
def rL (l : Nat) (gbL mL : Nat → Int32) : Prop := l ≤ 6 ∧ (∀ q, q < 5 * l → mL q = gbL q) ∧ ∀ i, i < l → ¬ gbL (i * 5) < 0 ∧ ¬ gbL (i * 5 + 2) < 0 ∧ lvl (gbL (i * 5 + 1)) (gbL (i * 5 + 2))
theorem rL_cell {l k j : Nat} {B mB : Nat → Int32} (h : rL l B mB) (hk : k < l) (hj : j < 5) : mB (5 * k + j) = B (k * 5 + j) := by
  rw [h.2.1 (5 * k + j) (by omega), Nat.mul_comm]
/-- does row k lead v in the domain? -/
def lhit (B : Nat → Int32) (dom v : Int32) (k : Nat) : Prop := B (k * 5 + 0) = dom ∧ B (k * 5 + 2) = (v >>> (((4 : Int32) * B (k * 5 + 1)) &&& 31))
theorem forPage_eq {l k : Nat} (hl : l ≤ 6) (hk : k < l) (B : Nat → Int32) (v : Int32) : FX2_isForPage (nI k) v (nI l) B = if B (k * 5 + 2) = (v >>> (((4 : Int32) * B (k * 5 + 1)) &&& 31)) then some 1 else some 0 := by
  have e2 : FX1_cell 5 30 (nI k) 2 (nI l) B = some (B (k * 5 + 2)) := cell_in (w := 5) (len := 30) (r := k) (k := 2) (n := l) hk (by omega) (by omega) (by omega) (by omega) (by omega) B
  have e1 : FX1_cell 5 30 (nI k) 1 (nI l) B = some (B (k * 5 + 1)) := cell_in (w := 5) (len := 30) (r := k) (k := 1) (n := l) hk (by omega) (by omega) (by omega) (by omega) (by omega) B
  unfold FX2_isForPage
  rw [e2, bd1_e, e1, bd1_e]
theorem leafG_step {l k : Nat} (hl : l ≤ 6) (hk : k < l) (dom root v : Int32) (n : Nat) (M B : Nat → Int32) (tr lh : Int32) : FX2_leafFor_3 dom root v (n + 1) M (nI l) B tr lh (nI k) = if B (k * 5 + 0) = dom then (if B (k * 5 + 2) = (v >>> (((4 : Int32) * B (k * 5 + 1)) &&& 31)) then some (nI k, nI l, B, tr, lh + 1) else FX2_leafFor_3 dom root v n M (nI l) B tr lh (nI (k + 1))) else FX2_leafFor_3 dom root v n M (nI l) B tr lh (nI (k + 1)) := by
  have e0 : FX1_cell 5 30 (nI k) 0 (nI l) B = some (B (k * 5 + 0)) := cell_in (w := 5) (len := 30) (r := k) (k := 0) (n := l) hk (by omega) (by omega) (by omega) (by omega) (by omega) B
  have e1 : nI k + (1 : Int32) = nI (k + 1) := nI_add k 1
  rw [FX2_leafFor_3, if_neg (by rw [nI_leI (by omega) (by omega)]; omega), e0, bd1_e, e1, forPage_eq hl hk]
  by_cases h0 : B (k * 5 + 0) = dom
  · rw [if_pos h0, if_pos h0]
    by_cases h1 : B (k * 5 + 2) = (v >>> (((4 : Int32) * B (k * 5 + 1)) &&& 31))
    · rw [if_pos h1, if_pos h1, bd1_e, if_neg (by decide)]
    · rw [if_neg h1, if_neg h1, bd1_e, if_pos rfl]
  · rw [if_neg h0, if_neg h0]
theorem leafG_miss (dom root v : Int32) (M B : Nat → Int32) (tr lh : Int32) (l : Nat) (hl : l ≤ 6) (hno : ∀ i, i < l → ¬ lhit B dom v i) : ∀ (n k : Nat), k ≤ l → l - k < n → FX2_leafFor_3 dom root v n M (nI l) B tr lh (nI k) = bd2 (FX2_entryFor root 2 v M tr) (fun rq2 q2gtr => FX2_leafFor_71 dom root v fuel M (nI l) B q2gtr lh 2 rq2) := by
  intro n
  induction n with
  | zero => intro k _ h; omega
  | succ n ih =>
    intro k hk hn
    by_cases h : l ≤ k
    · rw [FX2_leafFor_3, if_pos (nI_le h (by omega))]
    · rw [leafG_step hl (by omega)]
      by_cases h0 : B (k * 5 + 0) = dom
      · rw [if_pos h0, if_neg (fun q => hno k (by omega) ⟨h0, q⟩)]
        exact ih (k + 1) (by omega) (by omega)
      · rw [if_neg h0]
        exact ih (k + 1) (by omega) (by omega)
theorem leafG_hit (dom root v : Int32) (M B : Nat → Int32) (tr lh : Int32) (l i : Nat) (hl : l ≤ 6) (hi : i < l) (hd : lhit B dom v i) (hno : ∀ k, k < i → ¬ lhit B dom v k) : ∀ (n k : Nat), k ≤ i → l - k < n → FX2_leafFor_3 dom root v n M (nI l) B tr lh (nI k) = some (nI i, nI l, B, tr, lh + 1) := by
  intro n
  induction n with
  | zero => intro k _ h; omega
  | succ n ih =>
    intro k hk hn
    rw [leafG_step hl (by omega)]
    by_cases h : k = i
    · subst h
      rw [if_pos hd.1, if_pos hd.2]
    · by_cases h0 : B (k * 5 + 0) = dom
      · rw [if_pos h0, if_neg (fun q => hno k (by omega) ⟨h0, q⟩)]
        exact ih (k + 1) (by omega) (by omega)
      · rw [if_neg h0]
        exact ih (k + 1) (by omega) (by omega)
theorem leafM_step {l k : Nat} {B mB : Nat → Int32} (h : rL l B mB) (hk : k < l) (dom v : Int32) (n : Nat) : FX3_leafOf_2 dom v (n + 1) mB (nI l) (nI k) = if B (k * 5 + 0) = dom then (if B (k * 5 + 2) = (v >>> (((4 : Int32) * B (k * 5 + 1)) &&& 31)) then some (nI k) else FX3_leafOf_2 dom v n mB (nI l) (nI (k + 1))) else FX3_leafOf_2 dom v n mB (nI l) (nI (k + 1)) := by
  have hl := h.1
  have e0 : (5 : Int32) * nI k = nI (5 * k) := nI_mul 5 k
  have e1 : nI (5 * k) + (1 : Int32) = nI (5 * k + 1) := nI_add (5 * k) 1
  have e2 : nI (5 * k) + (2 : Int32) = nI (5 * k + 2) := nI_add (5 * k) 2
  have e3 : nI k + (1 : Int32) = nI (k + 1) := nI_add k 1
  have c0 := rL_cell h hk (j := 0) (by omega)
  rw [Nat.add_zero] at c0
  rw [FX3_leafOf_2, if_neg (by rw [nI_leI (by omega) (by omega)]; omega), e0, e1, e2, e3, gd_t (nI_inb (by omega) (by omega)), nI_cl (by omega), gd_t (nI_inb (by omega) (by omega)), gd_t (nI_inb (by omega) (by omega)), nI_cl (by omega), nI_cl (by omega), c0, rL_cell h hk (j := 1) (by omega), rL_cell h hk (j := 2) (by omega)]
theorem leafM_miss (dom v : Int32) {l : Nat} {B mB : Nat → Int32} (h : rL l B mB) (hno : ∀ i, i < l → ¬ lhit B dom v i) : ∀ (n k : Nat), k ≤ l → l - k < n → FX3_leafOf_2 dom v n mB (nI l) (nI k) = some (-1) := by
  have hl := h.1
  intro n
  induction n with
  | zero => intro k _ h; omega
  | succ n ih =>
    intro k hk hn
    by_cases hlk : l ≤ k
    · rw [FX3_leafOf_2, if_pos (nI_le hlk (by omega))]
    · rw [leafM_step h (by omega)]
      by_cases h0 : B (k * 5 + 0) = dom
      · rw [if_pos h0, if_neg (fun q => hno k (by omega) ⟨h0, q⟩)]
        exact ih (k + 1) (by omega) (by omega)
      · rw [if_neg h0]
        exact ih (k + 1) (by omega) (by omega)
theorem leafM_hit (dom v : Int32) {l i : Nat} {B mB : Nat → Int32} (h : rL l B mB) (hi : i < l) (hd : lhit B dom v i) (hno : ∀ k, k < i → ¬ lhit B dom v k) : ∀ (n k : Nat), k ≤ i → l - k < n → FX3_leafOf_2 dom v n mB (nI l) (nI k) = some (nI i) := by
  intro n
  induction n with
  | zero => intro k _ h; omega
  | succ n ih =>
    intro k hk hn
    rw [leafM_step h (by omega)]
    by_cases hki : k = i
    · subst hki
      rw [if_pos hd.1, if_pos hd.2]
    · by_cases h0 : B (k * 5 + 0) = dom
      · rw [if_pos h0, if_neg (fun q => hno k (by omega) ⟨h0, q⟩)]
        exact ih (k + 1) (by omega) (by omega)
      · rw [if_neg h0]
        exact ih (k + 1) (by omega) (by omega)

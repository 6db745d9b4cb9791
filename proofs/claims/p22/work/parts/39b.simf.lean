/-! The pure side in general, 6: an access, on both sides -/
theorem bd7_e {α1 α2 α3 α4 α5 α6 α7 γ : Type} (x1 : α1) (x2 : α2) (x3 : α3) (x4 : α4) (x5 : α5) (x6 : α6) (x7 : α7) (f : α1 → α2 → α3 → α4 → α5 → α6 → α7 → Option γ) : bd7 (some (x1, x2, x3, x4, x5, x6, x7)) f = f x1 x2 x3 x4 x5 x6 x7 := rfl
theorem bd8_e {α1 α2 α3 α4 α5 α6 α7 α8 γ : Type} (x1 : α1) (x2 : α2) (x3 : α3) (x4 : α4) (x5 : α5) (x6 : α6) (x7 : α7) (x8 : α8) (f : α1 → α2 → α3 → α4 → α5 → α6 → α7 → α8 → Option γ) : bd8 (some (x1, x2, x3, x4, x5, x6, x7, x8)) f = f x1 x2 x3 x4 x5 x6 x7 x8 := rfl
/-- the logs agree -/
def rF (f : Nat) (B mR : Nat → Int32) : Prop := f ≤ 6 ∧ ∀ q, q < 4 * f → mR q = B q
def up4 (B : Nat → Int32) (p : Nat) (a b c d : Int32) : Nat → Int32 := upd (upd (upd (upd B (p + 0) a) (p + 1) b) (p + 2) c) (p + 3) d
theorem up4_old {B : Nat → Int32} {p q : Nat} {a b c d : Int32} (h : q < p) : up4 B p a b c d q = B q := by
  unfold up4
  rw [upd_n _ _ (by omega), upd_n _ _ (by omega), upd_n _ _ (by omega), upd_n _ _ (by omega)]
theorem up4_new (B B' : Nat → Int32) {p q : Nat} {a b c d : Int32} (h : p ≤ q) (h2 : q < p + 4) : up4 B p a b c d q = up4 B' p a b c d q := by
  unfold up4
  rcases (show q = p + 0 ∨ q = p + 1 ∨ q = p + 2 ∨ q = p + 3 by omega) with h | h | h | h <;> subst h <;> simp [upd]
theorem rF_new {r : Nat} {B mB : Nat → Int32} (hr : r < 6) (h : rF r B mB) (a b c d : Int32) : rF (r + 1) (up4 B (r * 4) a b c d) (up4 mB (4 * r) a b c d) := by
  refine ⟨by omega, fun q hq => ?_⟩
  rw [Nat.mul_comm r 4]
  by_cases h1 : q < 4 * r
  · rw [up4_old h1, up4_old h1]
    exact h.2 q h1
  · exact up4_new mB B (by omega) (by omega)
theorem log_less {f : Nat} (hf : f < 6) (d addr w lf ov : Int32) (hw : w = 0 ∨ w = 1) (B : Nat → Int32) : FX2_logFault d addr w (nI f) B lf ov = some (nI (f + 1), up4 B (f * 4) lf d w addr, ov) := by
  have ef : FX1_isFull 6 (nI f) = some 0 := by unfold FX1_isFull; rw [if_pos (show nI f < 6 from nI_lt (b := 6) hf (by omega))]
  have eo : FX1_open 6 4 24 (nI f) B = some (nI f, nI (f + 1), B) := open_less (lim := 6) (w := 4) (len := 24) hf (by omega) B
  have p0 : ∀ (v : Int32) (B : Nat → Int32), FX1_put 4 24 (nI f) 0 v (nI (f + 1)) B = some (upd B (f * 4 + 0) v) := fun v B => put_in (w := 4) (len := 24) (r := f) (k := 0) (n := f + 1) (by omega) (by omega) (by omega) (by omega) (by omega) (by omega) v B
  have p1 : ∀ (v : Int32) (B : Nat → Int32), FX1_put 4 24 (nI f) 1 v (nI (f + 1)) B = some (upd B (f * 4 + 1) v) := fun v B => put_in (w := 4) (len := 24) (r := f) (k := 1) (n := f + 1) (by omega) (by omega) (by omega) (by omega) (by omega) (by omega) v B
  have p2 : ∀ (v : Int32) (B : Nat → Int32), FX1_put 4 24 (nI f) 2 v (nI (f + 1)) B = some (upd B (f * 4 + 2) v) := fun v B => put_in (w := 4) (len := 24) (r := f) (k := 2) (n := f + 1) (by omega) (by omega) (by omega) (by omega) (by omega) (by omega) v B
  have p3 : ∀ (v : Int32) (B : Nat → Int32), FX1_put 4 24 (nI f) 3 v (nI (f + 1)) B = some (upd B (f * 4 + 3) v) := fun v B => put_in (w := 4) (len := 24) (r := f) (k := 3) (n := f + 1) (by omega) (by omega) (by omega) (by omega) (by omega) (by omega) v B
  unfold FX2_logFault
  rw [ef, bd1_e, if_pos rfl, eo, bd3_e, p0, bd1_e, p1, bd1_e]
  rcases hw with rfl | rfl
  · rw [if_pos rfl, p2, bd1_e, p3, bd1_e]
    rfl
  · rw [if_neg (by decide), p2, bd1_e, p3, bd1_e]
    rfl
theorem log_full (d addr w lf ov : Int32) (B : Nat → Int32) : FX2_logFault d addr w (nI 6) B lf ov = some (nI 6, B, 1) := rfl
/-- a gate's access out of what lead gives -/
theorem access_ok (d addr w : Int32) (hw : w = 0 ∨ w = 1) {M B BL BF B2 BL2 : Nat → Int32} {nC nL nF tp lf tr lh ov rr nC2 nL2 t2 lh2 : Int32} (h : FX2_lead d addr (rgt w) M nC B nL BL tp tr lh = some (rr, nC2, B2, nL2, BL2, t2, lh2)) (hr : 0 ≤ rr) : FX2_access d addr w M nC B nL BL nF BF tp lf tr lh ov = some (rr, nC2, B2, nL2, BL2, nF, BF, 0, t2, lh2, ov) := by
  unfold FX2_access
  rcases hw with rfl | rfl
  · rw [show rgt 0 = 1 from rfl] at h
    rw [if_pos rfl, h, bd7_e, if_pos hr, if_pos hr]
  · rw [show rgt 1 = 2 from rfl] at h
    rw [if_neg (by decide), h, bd7_e, if_pos hr, if_pos hr]
theorem access_no (d addr w : Int32) (hw : w = 0 ∨ w = 1) {M B BL BF B2 BL2 BF2 : Nat → Int32} {nC nL nF tp lf tr lh ov rr nC2 nL2 t2 lh2 nF2 ov2 : Int32} (h : FX2_lead d addr (rgt w) M nC B nL BL tp tr lh = some (rr, nC2, B2, nL2, BL2, t2, lh2)) (hr : ¬ 0 ≤ rr) (hl : FX2_logFault d addr w nF BF (-rr) ov = some (nF2, BF2, ov2)) : FX2_access d addr w M nC B nL BL nF BF tp lf tr lh ov = some (rr, nC2, B2, nL2, BL2, nF2, BF2, -rr, t2, lh2, ov2) := by
  unfold FX2_access
  rcases hw with rfl | rfl
  · rw [show rgt 0 = 1 from rfl] at h
    rw [if_pos rfl, h, bd7_e, if_neg hr, if_neg hr, hl, bd3_e]
  · rw [show rgt 1 = 2 from rfl] at h
    rw [if_neg (by decide), h, bd7_e, if_neg hr, if_neg hr, hl, bd3_e]
/-- refused, or let: the gate's number, the reference's answer and place -/
def aok (r bm pl : Int32) : Prop := (¬ 0 ≤ r ∧ bm = 0) ∨ ∃ p : Nat, p < 16384 ∧ r = nI p ∧ bm = 1 ∧ pl = nI p
/-- an access, on both sides -/
theorem acc_sim {e : Nat} (he : e < 8) (addr w : Int32) (hw : w = 0 ∨ w = 1) {t : Nat} (ht : t ≤ 16368) (M : Nat → Int32) (lf tr lh ov ft mpl : Int32) {c l f : Nat} {B mB BL mL BF mR : Nat → Int32} (hC : rC c B mB) (hL : rL l BL mL) (hF : rF f BF mR) :
    ∃ (c2 l2 f2 : Nat) (B2 mB2 BL2 mL2 BF2 mR2 : Nat → Int32) (t2 lh2 ov2 lf2 rr bm pl : Int32), rC c2 B2 mB2 ∧ rL l2 BL2 mL2 ∧ rF f2 BF2 mR2 ∧ aok rr bm pl ∧ FX2_access (nI e) addr w M (nI c) B (nI l) BL (nI f) BF (nI t) lf tr lh ov = some (rr, nI c2, B2, nI l2, BL2, nI f2, BF2, lf2, t2, lh2, ov2) ∧ FX3_may (nI e) addr w M mB mL mR (nI t) (nI c) (nI l) (nI f) ov tr lh ft mpl = some (bm, mB2, mL2, mR2, nI c2, nI l2, nI f2, ov2, t2, lh2, lf2, pl) := by
  obtain ⟨c2, l2, B2, mB2, BL2, mL2, t2, lh2, rr, fm, pl, hC2, hL2, hk, g, m⟩ := lead_sim he addr w hw ht M tr lh mpl hC hL
  unfold FX3_may
  rw [m, bd8_e]
  rcases hk with ⟨k1, k2, k3⟩ | ⟨p, hp, rfl, rfl, rfl⟩
  · rw [if_neg k3]
    by_cases hf : f < 6
    · have g2 := access_no (nI e) addr w hw (nF := nI f) (BF := BF) (lf := lf) (ov := ov) g k1 (log_less hf (nI e) addr w (-rr) ov hw BF)
      have e0 : (4 : Int32) * nI f = nI (4 * f) := nI_mul 4 f
      have e1 : nI (4 * f) + (1 : Int32) = nI (4 * f + 1) := nI_add (4 * f) 1
      have e2 : nI (4 * f) + (2 : Int32) = nI (4 * f + 2) := nI_add (4 * f) 2
      have e3 : nI (4 * f) + (3 : Int32) = nI (4 * f + 3) := nI_add (4 * f) 3
      have e4 : nI f + (1 : Int32) = nI (f + 1) := nI_add f 1
      refine ⟨c2, l2, f + 1, B2, mB2, BL2, mL2, _, _, t2, lh2, ov, -rr, rr, 0, pl, hC2, hL2, rF_new hf hF (-rr) (nI e) w addr, Or.inl ⟨k1, rfl⟩, g2, ?_⟩
      rw [if_neg (fun q => by have q2 : f = 6 := nI_eqI (by omega) (by omega) q; omega), e0, e1, e2, e3, e4, gd_t (nI_inb (by omega) (by omega)), gd_t (nI_inb (by omega) (by omega)), gd_t (nI_inb (by omega) (by omega)), gd_t (nI_inb (by omega) (by omega)), nI_cl (by omega), nI_cl (by omega), nI_cl (by omega), nI_cl (by omega), ← k2]
      rcases hw with rfl | rfl
      · rw [if_pos rfl]
        rfl
      · rw [if_neg (by decide), gd_t (nI_inb (by omega) (by omega)), gd_t (nI_inb (by omega) (by omega))]
        rfl
    · have hf6 : f = 6 := by have := hF.1; omega
      subst hf6
      have g2 := access_no (nI e) addr w hw (nF := nI 6) (BF := BF) (lf := lf) (ov := ov) g k1 (log_full (nI e) addr w (-rr) ov BF)
      refine ⟨c2, l2, 6, B2, mB2, BL2, mL2, _, _, t2, lh2, 1, -rr, rr, 0, pl, hC2, hL2, hF, Or.inl ⟨k1, rfl⟩, g2, ?_⟩
      rw [if_pos (show nI 6 = 6 from rfl), ← k2]
  · have g2 := access_ok (nI e) addr w hw (nF := nI f) (BF := BF) (lf := lf) (ov := ov) g (nI_pos' (by omega))
    rw [if_pos rfl]
    exact ⟨c2, l2, f, B2, mB2, BL2, mL2, _, _, t2, lh2, ov, 0, _, 1, _, hC2, hL2, hF, Or.inr ⟨p, hp, rfl, rfl, rfl⟩, g2, rfl⟩

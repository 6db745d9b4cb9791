/-! The pure side in general, 5: an address is led, on both sides -/
theorem bd4_e {α β δ ε γ : Type} (x : α) (y : β) (z : δ) (u : ε) (f : α → β → δ → ε → Option γ) : bd4 (some (x, y, z, u)) f = f x y z u := rfl
theorem bd5_e {α β δ ε ζ γ : Type} (x : α) (y : β) (z : δ) (u : ε) (w : ζ) (f : α → β → δ → ε → ζ → Option γ) : bd5 (some (x, y, z, u, w)) f = f x y z u w := rfl
/-- refused with a fault, or led to a place: the gate's number, the reference's fault and place -/
def lok (r fm pl : Int32) : Prop := (¬ 0 ≤ r ∧ -r = fm ∧ ¬ fm = 0) ∨ ∃ p : Nat, p < 16384 ∧ r = nI p ∧ fm = 0 ∧ pl = nI p
/-- the end of the gate's lead, from the leaf's row on -/
def leadE (x2 x3 q3gnC : Int32) (q3gbC : Nat → Int32) (rq9 q9gnL : Int32) (q9gbL : Nat → Int32) (q9gtr q9glh : Int32) : Option (Int32 × Int32 × (Nat → Int32) × Int32 × (Nat → Int32) × Int32 × Int32) :=
  if 0 ≤ rq9 then bd1 (FX1_cell 5 30 rq9 4 q9gnL q9gbL) (fun rq11 => if (rq11 &&& x3) = 0 then some ((-3), q3gnC, q3gbC, q9gnL, q9gbL, q9gtr, q9glh) else bd1 (FX2_placeBy rq9 x2 q9gnL q9gbL) (fun rq13 => some (rq13, q3gnC, q3gbC, q9gnL, q9gbL, q9gtr, q9glh))) else some (rq9, q3gnC, q3gbC, q9gnL, q9gbL, q9gtr, q9glh)
/-- .. from the context's row on -/
def leadR (x2 x3 : Int32) (gM : Nat → Int32) (q3gnC : Int32) (q3gbC : Nat → Int32) (gnL : Int32) (gbL : Nat → Int32) (q3gtr glh rq3 : Int32) : Option (Int32 × Int32 × (Nat → Int32) × Int32 × (Nat → Int32) × Int32 × Int32) :=
  bd1 (FX1_cell 3 9 rq3 1 q3gnC q3gbC) (fun rq5 => if (rq5 &&& (2 : Int32)) = 0 then bd1 (FX1_cell 3 9 rq3 2 q3gnC q3gbC) (fun rq7 => bd1 (FX2_pageOf rq5) (fun rq8 => bd5 (FX2_leafFor rq7 rq8 (x2 >>> ((8 : Int32) &&& 31)) gM gnL gbL q3gtr glh) (fun rq9 q9gnL q9gbL q9gtr q9glh => leadE x2 x3 q3gnC q3gbC rq9 q9gnL q9gbL q9gtr q9glh))) else if 16384 ≤ x2 then some ((-4), q3gnC, q3gbC, gnL, gbL, q3gtr, glh) else some (x2, q3gnC, q3gbC, gnL, gbL, q3gtr, glh))
theorem lead_eq (x1 x2 x3 : Int32) (gM : Nat → Int32) (gnC : Int32) (gbC : Nat → Int32) (gnL : Int32) (gbL : Nat → Int32) (gtp gtr glh : Int32) : FX2_lead x1 x2 x3 gM gnC gbC gnL gbL gtp gtr glh = bd1 (FX2_isBelow x2 1048576) (fun rq1 => if rq1 = 0 then some ((-4), gnC, gbC, gnL, gbL, gtr, glh) else bd4 (FX2_contextOf x1 gM gnC gbC gtp gtr) (fun rq3 q3gnC q3gbC q3gtr => if rq3 = (-1) then some ((-1), q3gnC, q3gbC, gnL, gbL, q3gtr, glh) else leadR x2 x3 gM q3gnC q3gbC gnL gbL q3gtr glh rq3)) := rfl
/-- the right that an access wants, in the gate's words -/
def rgt (w : Int32) : Int32 := if w = 0 then 1 else 2
theorem end_sim (d addr w : Int32) (hw : w = 0 ∨ w = 1) (M mC : Nat → Int32) (mtb mnC t lh mpl gnC : Int32) (gbC : Nat → Int32) {l r : Nat} {B mB : Nat → Int32} (hL : rL l B mB) (hr : r < l) :
    ∃ (rr fm pl : Int32), lok rr fm pl ∧ leadE addr (rgt w) gnC gbC (nI r) (nI l) B t lh = some (rr, gnC, gbC, nI l, B, t, lh) ∧ FX3_lead_297 d addr w M mC mB mtb mnC (nI l) t lh mpl (addr >>> ((8 : Int32) &&& 31)) (nI r) = some (fm, mC, mB, mnC, nI l, t, lh, pl) := by
  have hl := hL.1
  have c1 : FX1_cell 5 30 (nI r) 1 (nI l) B = some (B (r * 5 + 1)) := cell_in (w := 5) (len := 30) (r := r) (k := 1) (n := l) hr (by omega) (by omega) (by omega) (by omega) (by omega) B
  have c3 : FX1_cell 5 30 (nI r) 3 (nI l) B = some (B (r * 5 + 3)) := cell_in (w := 5) (len := 30) (r := r) (k := 3) (n := l) hr (by omega) (by omega) (by omega) (by omega) (by omega) B
  have c4 : FX1_cell 5 30 (nI r) 4 (nI l) B = some (B (r * 5 + 4)) := cell_in (w := 5) (len := 30) (r := r) (k := 4) (n := l) hr (by omega) (by omega) (by omega) (by omega) (by omega) B
  have e0 : (5 : Int32) * nI r = nI (5 * r) := nI_mul 5 r
  have e1 : nI (5 * r) + (1 : Int32) = nI (5 * r + 1) := nI_add (5 * r) 1
  have e3 : nI (5 * r) + (3 : Int32) = nI (5 * r + 3) := nI_add (5 * r) 3
  have e4 : nI (5 * r) + (4 : Int32) = nI (5 * r + 4) := nI_add (5 * r) 4
  have m1 := rL_cell hL hr (j := 1) (by omega)
  have m3 := rL_cell hL hr (j := 3) (by omega)
  have m4 := rL_cell hL hr (j := 4) (by omega)
  obtain ⟨a, ha, ea⟩ := and_E (B (r * 5 + 3) + ((addr >>> ((8 : Int32) &&& 31)) &&& (((1 : Int32) <<< (((4 : Int32) * B (r * 5 + 1)) &&& 31)) - 1))) (m := 63) 6 rfl
  obtain ⟨b, hb, eb⟩ := and_E addr (m := 255) 8 rfl
  have pl : FX2_placeBy (nI r) addr (nI l) B = some (nI (256 * a + b)) := by
    unfold FX2_placeBy
    rw [c1, bd1_e, c3, bd1_e, ea, eb, placeIn_nI (by omega) (by omega), bd1_e]
  have p2 : (256 : Int32) * nI a + nI b = nI (256 * a + b) := by
    have q : (256 : Int32) * nI a = nI (256 * a) := nI_mul 256 a
    rw [q, nI_add]
  unfold leadE FX3_lead_297
  rw [if_pos (nI_pos' (n := r) (by omega)), c4, bd1_e, pl, e0, e4, gd_t (nI_inb (by omega) (by omega)), nI_cl (by omega), m4]
  unfold FX3_lead_321
  rw [e1, e3, gd_t (nI_inb (by omega) (by omega)), gd_t (nI_inb (by omega) (by omega)), nI_cl (by omega), nI_cl (by omega), m1, m3, ea, eb, p2]
  rcases hw with rfl | rfl
  · rw [if_pos rfl, show rgt 0 = 1 from rfl]
    by_cases h : (B (r * 5 + 4) &&& (1 : Int32)) = 0
    · rw [if_pos h, if_pos ((bit_right1 _).mp h)]
      exact ⟨-3, 3, _, Or.inl ⟨by decide, by decide, by decide⟩, rfl, rfl⟩
    · rw [if_neg h, if_neg (fun q => h ((bit_right1 _).mpr q)), bd1_e]
      exact ⟨_, _, _, Or.inr ⟨256 * a + b, by omega, rfl, rfl, rfl⟩, rfl, rfl⟩
  · rw [if_neg (show ¬ ((1 : Int32) = 0) by decide), show rgt 1 = 2 from rfl]
    by_cases h : (B (r * 5 + 4) &&& (2 : Int32)) = 0
    · rw [if_pos h, if_pos ((bit_right2 _).mp h)]
      exact ⟨-3, 3, _, Or.inl ⟨by decide, by decide, by decide⟩, rfl, rfl⟩
    · rw [if_neg h, if_neg (fun q => h ((bit_right2 _).mpr q)), bd1_e]
      exact ⟨_, _, _, Or.inr ⟨256 * a + b, by omega, rfl, rfl, rfl⟩, rfl, rfl⟩
/-- from the context's row on -/
theorem row_sim (d addr w : Int32) (hw : w = 0 ∨ w = 1) (h0 : ¬ addr < 0) (h1048 : ¬ 1048576 ≤ addr) (M : Nat → Int32) (mtb tr lh mpl : Int32) {c i l : Nat} {B mB BL mL : Nat → Int32} (hC : rC c B mB) (hi : i < c) (hL : rL l BL mL) :
    ∃ (l2 : Nat) (BL2 mL2 : Nat → Int32) (t2 lh2 rr fm pl : Int32), rL l2 BL2 mL2 ∧ lok rr fm pl ∧ leadR addr (rgt w) M (nI c) B (nI l) BL tr lh (nI i) = some (rr, nI c, B, nI l2, BL2, t2, lh2) ∧ FX3_lead_93 d addr w M mB mL mtb (nI c) (nI l) tr lh mpl (nI i) = some (fm, mB, mL2, nI c, nI l2, t2, lh2, pl) := by
  have hc := hC.1
  have hv : ∃ z : Nat, z < 4096 ∧ (addr >>> ((8 : Int32) &&& 31)) = nI z := by
    obtain ⟨z, hz, rfl⟩ := nI_of h0
    rw [show (1048576 : Int32) = nI 1048576 from rfl, nI_leI (by omega) hz] at h1048
    refine ⟨z / 2 ^ 8, ?_, pk_shrN hz _ 8 (by decide)⟩
    rw [show 2 ^ 8 = 256 from rfl]
    omega
  obtain ⟨-, q1, q2, q3, q4⟩ := hC.2 i hi
  have c1 : FX1_cell 3 9 (nI i) 1 (nI c) B = some (B (i * 3 + 1)) := cell_in (w := 3) (len := 9) (r := i) (k := 1) (n := c) hi (by omega) (by omega) (by omega) (by omega) (by omega) B
  have c2 : FX1_cell 3 9 (nI i) 2 (nI c) B = some (B (i * 3 + 2)) := cell_in (w := 3) (len := 9) (r := i) (k := 2) (n := c) hi (by omega) (by omega) (by omega) (by omega) (by omega) B
  have e0 : (4 : Int32) * nI i = nI (4 * i) := nI_mul 4 i
  have e1 : nI (4 * i) + (1 : Int32) = nI (4 * i + 1) := nI_add (4 * i) 1
  have e2 : nI (4 * i) + (2 : Int32) = nI (4 * i + 2) := nI_add (4 * i) 2
  have e3 : nI (4 * i) + (3 : Int32) = nI (4 * i + 3) := nI_add (4 * i) 3
  unfold leadR FX3_lead_93
  rw [c1, bd1_e, e0, e1, e2, e3, gd_t (nI_inb (by omega) (by omega)), nI_cl (by omega), q1]
  by_cases ht : (B (i * 3 + 1) &&& (2 : Int32)) = 0
  · have ep := pg_eq (B (i * 3 + 1))
    unfold FX2_pageOf
    rw [if_pos ht, if_neg (fun q => (bit_through _).mp q ht), c2, bd1_e, bd1_e, gd_t (nI_inb (by omega) (by omega)), nI_cl (i := 4 * i + 3) (by omega), nI_cl (i := 4 * i + 2) (by omega), q2, q3, ep.1]
    generalize B (i * 3 + 2) = dom at q4 ⊢
    unfold FX2_leafFor FX3_leafOf
    rcases first_of (lhit BL dom (addr >>> ((8 : Int32) &&& 31))) (fun i => Classical.em _) l with hno | ⟨k, hk, hd, hno⟩
    · have g1 := leafG_miss dom (nI (pg (B (i * 3 + 1)))) (addr >>> ((8 : Int32) &&& 31)) M BL tr lh l hL.1 hno fuel 0 (by omega) (by have := hL.1; unfold fuel; omega)
      have m1 := leafM_miss dom (addr >>> ((8 : Int32) &&& 31)) hL hno fuel 0 (by omega) (by have := hL.1; unfold fuel; omega)
      rw [show (0 : Int32) = nI 0 from rfl, g1, m1, bd1_e, if_pos rfl, gd_t (nI_inb (by omega) (by omega)), entryF_eq ep.2, bd2_e]
      rcases walk_sim d addr w dom (nI (pg (B (i * 3 + 1)))) (addr >>> ((8 : Int32) &&& 31)) M mB mtb (nI c) lh lh mpl hL q4 hv 2 fuel fuel (pg (B (i * 3 + 1))) tr (by omega) (by unfold fuel; omega) (by unfold fuel; omega) ep.2 with ⟨t, x, y⟩ | ⟨t, x, y⟩ | ⟨t, r, B2, mB2, hr, hR, x, y⟩
      · refine ⟨l, BL, mL, t, lh, -2, 2, mpl, hL, Or.inl ⟨by decide, by decide, by decide⟩, ?_, y⟩
        rw [show (2 : Int32) = nI 2 from rfl, x, bd5_e]
        rfl
      · refine ⟨l, BL, mL, t, lh, -5, 5, mpl, hL, Or.inl ⟨by decide, by decide, by decide⟩, ?_, y⟩
        rw [show (2 : Int32) = nI 2 from rfl, x, bd5_e]
        rfl
      · obtain ⟨rr, fm, pl, h1, h2, h3⟩ := end_sim d addr w hw M mB mtb (nI c) t lh mpl (nI c) B hR (Nat.lt_succ_self r)
        refine ⟨r + 1, B2, mB2, t, lh, rr, fm, pl, hR, h1, ?_, y.trans h3⟩
        rw [show (2 : Int32) = nI 2 from rfl, x, bd5_e]
        exact h2
    · have g1 := leafG_hit dom (nI (pg (B (i * 3 + 1)))) (addr >>> ((8 : Int32) &&& 31)) M BL tr lh l k hL.1 hk hd hno fuel 0 (by omega) (by have := hL.1; unfold fuel; omega)
      have m1 := leafM_hit dom (addr >>> ((8 : Int32) &&& 31)) hL hk hd hno fuel 0 (by omega) (by have := hL.1; unfold fuel; omega)
      obtain ⟨rr, fm, pl, h1, h2, h3⟩ := end_sim d addr w hw M mB mtb (nI c) tr (lh + 1) mpl (nI c) B hL hk
      rw [show (0 : Int32) = nI 0 from rfl, g1, m1, bd1_e, if_neg (fun q => nI_pos (n := k) (by have := hL.1; omega) (by rw [q]; decide)), bd5_e]
      exact ⟨l, BL, mL, tr, lh + 1, rr, fm, pl, hL, h1, h2, h3⟩
  · rw [if_neg ht, if_pos ((bit_through _).mpr ht)]
    obtain ⟨q, hq, rfl⟩ := nI_of h0
    by_cases h4 : (16384 : Int32) ≤ nI q
    · rw [if_pos h4, if_pos h4]
      exact ⟨l, BL, mL, tr, lh, -4, 4, _, hL, Or.inl ⟨by decide, by decide, by decide⟩, rfl, rfl⟩
    · rw [if_neg h4, if_neg h4]
      rw [show (16384 : Int32) = nI 16384 from rfl, nI_leI (by omega) hq] at h4
      exact ⟨l, BL, mL, tr, lh, nI q, 0, nI q, hL, Or.inr ⟨q, by omega, rfl, rfl, rfl⟩, rfl, rfl⟩
/-- an address is led, on both sides -/
theorem lead_sim {e : Nat} (he : e < 8) (addr w : Int32) (hw : w = 0 ∨ w = 1) {t : Nat} (ht : t ≤ 16368) (M : Nat → Int32) (tr lh mpl : Int32) {c l : Nat} {B mB BL mL : Nat → Int32} (hC : rC c B mB) (hL : rL l BL mL) :
    ∃ (c2 l2 : Nat) (B2 mB2 BL2 mL2 : Nat → Int32) (t2 lh2 rr fm pl : Int32), rC c2 B2 mB2 ∧ rL l2 BL2 mL2 ∧ lok rr fm pl ∧ FX2_lead (nI e) addr (rgt w) M (nI c) B (nI l) BL (nI t) tr lh = some (rr, nI c2, B2, nI l2, BL2, t2, lh2) ∧ FX3_lead (nI e) addr w M mB mL (nI t) (nI c) (nI l) tr lh mpl = some (fm, mB2, mL2, nI c2, nI l2, t2, lh2, pl) := by
  rw [lead_eq]
  unfold FX3_lead
  by_cases a0 : addr < 0
  · rw [ib0 (Or.inl a0), bd1_e, if_pos rfl, if_pos a0]
    exact ⟨c, l, B, mB, BL, mL, tr, lh, -4, 4, mpl, hC, hL, Or.inl ⟨by decide, by decide, by decide⟩, rfl, rfl⟩
  by_cases a1 : 1048576 ≤ addr
  · rw [ib0 (Or.inr a1), bd1_e, if_pos rfl, if_neg a0, if_neg (fun h => nlt_le.mpr h ((lelt (m := 1048575) rfl).mp a1))]
    exact ⟨c, l, B, mB, BL, mL, tr, lh, -4, 4, mpl, hC, hL, Or.inl ⟨by decide, by decide, by decide⟩, rfl, rfl⟩
  rw [ib1 a0 a1, bd1_e, if_neg (by decide), if_neg a0, if_pos (nlt_le.mp (fun h => a1 ((lelt (m := 1048575) rfl).mpr h)))]
  have e2 : (2 : Int32) * nI e = nI (2 * e) := nI_mul 2 e
  have ep1 : nI (t + 2 * e) + (1 : Int32) = nI (t + 2 * e + 1) := nI_add _ 1
  rcases ctx_sim hC ht he M tr with ⟨g, m, hv⟩ | ⟨i, B2, mB2, hi, hR, g, m, hv, hm⟩ | ⟨i, hi, g, m⟩
  · rw [g, m, bd4_e, bd1_e, if_pos rfl, if_pos rfl, e2, nI_add, ep1, gd_t (nI_inb (by omega) (by omega)), gd_t (nI_inb (by omega) (by omega)), nI_cl (by omega), if_pos hv]
    exact ⟨c, l, B, mB, BL, mL, tr + 1, lh, -1, 1, mpl, hC, hL, Or.inl ⟨by decide, by decide, by decide⟩, rfl, rfl⟩
  · obtain ⟨l2, BL2, mL2, t2, lh2, rr, fm, pl, h1, h2, h3, h4⟩ := row_sim (nI e) addr w hw a0 a1 M (nI t) (tr + 1) lh mpl hR (Nat.lt_succ_self i) hL
    have e3 : nI (i + 1) - (1 : Int32) = nI i := nI_pred i
    rw [g, m, bd4_e, bd1_e, if_neg (fun q => nI_pos (n := i) (by omega) (by rw [q]; decide)), if_pos rfl, e2, nI_add, ep1, gd_t (nI_inb (by omega) (by omega)), gd_t (nI_inb (by omega) (by omega)), nI_cl (by omega), nI_cl (by omega), if_neg hv, hm, bd2_e, e3]
    exact ⟨i + 1, l2, B2, mB2, BL2, mL2, t2, lh2, rr, fm, pl, hR, h1, h2, h3, h4⟩
  · have hc := hC.1
    obtain ⟨l2, BL2, mL2, t2, lh2, rr, fm, pl, h1, h2, h3, h4⟩ := row_sim (nI e) addr w hw a0 a1 M (nI t) tr lh mpl hC hi hL
    rw [g, m, bd4_e, bd1_e, if_neg (fun q => nI_pos (n := i) (by omega) (by rw [q]; decide)), if_neg (fun q => nI_pos (n := i) (by omega) (by rw [q]; decide))]
    exact ⟨c, l2, B, mB, BL2, mL2, t2, lh2, rr, fm, pl, hC, h1, h2, h3, h4⟩

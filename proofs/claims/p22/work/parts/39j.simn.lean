/-! The pure side in general, 14: obey, on both sides -/
theorem m5 (k : Nat) : (5 : Int32) * nI k = nI (k * 5) := by rw [show (5 : Int32) = nI 5 from rfl, nI_mul, Nat.mul_comm]
theorem m4 (k : Nat) : (4 : Int32) * nI k = nI (k * 4) := by rw [show (4 : Int32) = nI 4 from rfl, nI_mul, Nat.mul_comm]
theorem l5_0 (d : Nat) : nI (d * 5) + (0 : Int32) = nI (d * 5 + 0) := nI_add (d * 5) 0
theorem l5_1 (d : Nat) : nI (d * 5) + (1 : Int32) = nI (d * 5 + 1) := nI_add (d * 5) 1
theorem l5_2 (d : Nat) : nI (d * 5) + (2 : Int32) = nI (d * 5 + 2) := nI_add (d * 5) 2
theorem l5_3 (d : Nat) : nI (d * 5) + (3 : Int32) = nI (d * 5 + 3) := nI_add (d * 5) 3
theorem l5_4 (d : Nat) : nI (d * 5) + (4 : Int32) = nI (d * 5 + 4) := nI_add (d * 5) 4
theorem l4_0 (d : Nat) : nI (d * 4) + (0 : Int32) = nI (d * 4 + 0) := nI_add (d * 4) 0
theorem l4_1 (d : Nat) : nI (d * 4) + (1 : Int32) = nI (d * 4 + 1) := nI_add (d * 4) 1
theorem l4_2 (d : Nat) : nI (d * 4) + (2 : Int32) = nI (d * 4 + 2) := nI_add (d * 4) 2
theorem l4_3 (d : Nat) : nI (d * 4) + (3 : Int32) = nI (d * 4 + 3) := nI_add (d * 4) 3
theorem fl_step {l v k : Nat} (hl : l ≤ 6) (hk : k < l) (hv : v ≤ k) (x1 x2 x3 : Int32) (h1 : ¬ x1 = -1) (n : Nat) (X : Nat → Int32) : FX3_forgetLeaves_6 x1 x2 x3 (n + 1) X (nI l) (nI v) (nI k) = if X (k * 5) = x1 then (if x3 = 0 then FX3_forgetLeaves_6 x1 x2 x3 n X (nI l) (nI v) (nI (k + 1)) else if x2 < 0 then FX3_forgetLeaves_6 x1 x2 x3 n (cp5 X v k) (nI l) (nI (v + 1)) (nI (k + 1)) else if 4096 ≤ x2 then FX3_forgetLeaves_6 x1 x2 x3 n (cp5 X v k) (nI l) (nI (v + 1)) (nI (k + 1)) else if (x2 >>> (((4 : Int32) * X (k * 5 + 1)) &&& 31)) = X (k * 5 + 2) then FX3_forgetLeaves_6 x1 x2 x3 n X (nI l) (nI v) (nI (k + 1)) else FX3_forgetLeaves_6 x1 x2 x3 n (cp5 X v k) (nI l) (nI (v + 1)) (nI (k + 1))) else FX3_forgetLeaves_6 x1 x2 x3 n (cp5 X v k) (nI l) (nI (v + 1)) (nI (k + 1)) := by
  have iv : inb (nI (v * 5)) 30 = true := nI_inb (by omega) (by omega)
  have dv : (nI (v * 5)).toNatClampNeg = v * 5 := nI_cl (by omega)
  have iv0 : inb (nI (v * 5 + 0)) 30 = true := nI_inb (by omega) (by omega)
  have dv0 : (nI (v * 5 + 0)).toNatClampNeg = v * 5 + 0 := nI_cl (by omega)
  have iv1 : inb (nI (v * 5 + 1)) 30 = true := nI_inb (by omega) (by omega)
  have dv1 : (nI (v * 5 + 1)).toNatClampNeg = v * 5 + 1 := nI_cl (by omega)
  have iv2 : inb (nI (v * 5 + 2)) 30 = true := nI_inb (by omega) (by omega)
  have dv2 : (nI (v * 5 + 2)).toNatClampNeg = v * 5 + 2 := nI_cl (by omega)
  have iv3 : inb (nI (v * 5 + 3)) 30 = true := nI_inb (by omega) (by omega)
  have dv3 : (nI (v * 5 + 3)).toNatClampNeg = v * 5 + 3 := nI_cl (by omega)
  have iv4 : inb (nI (v * 5 + 4)) 30 = true := nI_inb (by omega) (by omega)
  have dv4 : (nI (v * 5 + 4)).toNatClampNeg = v * 5 + 4 := nI_cl (by omega)
  have ik : inb (nI (k * 5)) 30 = true := nI_inb (by omega) (by omega)
  have dk : (nI (k * 5)).toNatClampNeg = k * 5 := nI_cl (by omega)
  have ik0 : inb (nI (k * 5 + 0)) 30 = true := nI_inb (by omega) (by omega)
  have dk0 : (nI (k * 5 + 0)).toNatClampNeg = k * 5 + 0 := nI_cl (by omega)
  have ik1 : inb (nI (k * 5 + 1)) 30 = true := nI_inb (by omega) (by omega)
  have dk1 : (nI (k * 5 + 1)).toNatClampNeg = k * 5 + 1 := nI_cl (by omega)
  have ik2 : inb (nI (k * 5 + 2)) 30 = true := nI_inb (by omega) (by omega)
  have dk2 : (nI (k * 5 + 2)).toNatClampNeg = k * 5 + 2 := nI_cl (by omega)
  have ik3 : inb (nI (k * 5 + 3)) 30 = true := nI_inb (by omega) (by omega)
  have dk3 : (nI (k * 5 + 3)).toNatClampNeg = k * 5 + 3 := nI_cl (by omega)
  have ik4 : inb (nI (k * 5 + 4)) 30 = true := nI_inb (by omega) (by omega)
  have dk4 : (nI (k * 5 + 4)).toNatClampNeg = k * 5 + 4 := nI_cl (by omega)
  rw [FX3_forgetLeaves_6, if_neg (by rw [nI_leI (by omega) (by omega)]; omega), if_neg h1]
  unfold cp5
  simp only [m5, l5_0, l5_1, l5_2, l5_3, l5_4, iv, dv, iv0, dv0, iv1, dv1, iv2, dv2, iv3, dv3, iv4, dv4, ik, dk, ik0, dk0, ik1, dk1, ik2, dk2, ik3, dk3, ik4, dk4, gdt, nI_1]
theorem fc_step {l v k : Nat} (hl : l ≤ 3) (hk : k < l) (hv : v ≤ k) (x1 : Int32) (n : Nat) (X : Nat → Int32) : FX3_forgetContexts_5 x1 0 (n + 1) X (nI l) (nI v) (nI k) = if X (k * 4) = x1 then FX3_forgetContexts_5 x1 0 n X (nI l) (nI v) (nI (k + 1)) else FX3_forgetContexts_5 x1 0 n (cp4 X v k) (nI l) (nI (v + 1)) (nI (k + 1)) := by
  have iv : inb (nI (v * 4)) 12 = true := nI_inb (by omega) (by omega)
  have dv : (nI (v * 4)).toNatClampNeg = v * 4 := nI_cl (by omega)
  have iv0 : inb (nI (v * 4 + 0)) 12 = true := nI_inb (by omega) (by omega)
  have dv0 : (nI (v * 4 + 0)).toNatClampNeg = v * 4 + 0 := nI_cl (by omega)
  have iv1 : inb (nI (v * 4 + 1)) 12 = true := nI_inb (by omega) (by omega)
  have dv1 : (nI (v * 4 + 1)).toNatClampNeg = v * 4 + 1 := nI_cl (by omega)
  have iv2 : inb (nI (v * 4 + 2)) 12 = true := nI_inb (by omega) (by omega)
  have dv2 : (nI (v * 4 + 2)).toNatClampNeg = v * 4 + 2 := nI_cl (by omega)
  have iv3 : inb (nI (v * 4 + 3)) 12 = true := nI_inb (by omega) (by omega)
  have dv3 : (nI (v * 4 + 3)).toNatClampNeg = v * 4 + 3 := nI_cl (by omega)
  have ik : inb (nI (k * 4)) 12 = true := nI_inb (by omega) (by omega)
  have dk : (nI (k * 4)).toNatClampNeg = k * 4 := nI_cl (by omega)
  have ik0 : inb (nI (k * 4 + 0)) 12 = true := nI_inb (by omega) (by omega)
  have dk0 : (nI (k * 4 + 0)).toNatClampNeg = k * 4 + 0 := nI_cl (by omega)
  have ik1 : inb (nI (k * 4 + 1)) 12 = true := nI_inb (by omega) (by omega)
  have dk1 : (nI (k * 4 + 1)).toNatClampNeg = k * 4 + 1 := nI_cl (by omega)
  have ik2 : inb (nI (k * 4 + 2)) 12 = true := nI_inb (by omega) (by omega)
  have dk2 : (nI (k * 4 + 2)).toNatClampNeg = k * 4 + 2 := nI_cl (by omega)
  have ik3 : inb (nI (k * 4 + 3)) 12 = true := nI_inb (by omega) (by omega)
  have dk3 : (nI (k * 4 + 3)).toNatClampNeg = k * 4 + 3 := nI_cl (by omega)
  rw [FX3_forgetContexts_5, if_neg (by rw [nI_leI (by omega) (by omega)]; omega), if_pos rfl]
  unfold cp4
  simp only [m4, l4_0, l4_1, l4_2, l4_3, iv, dv, iv0, dv0, iv1, dv1, iv2, dv2, iv3, dv3, ik, dk, ik0, dk0, ik1, dk1, ik2, dk2, ik3, dk3, gdt, nI_1]
theorem fl_end {l v k : Nat} (hl : l ≤ 6) (hk : l ≤ k) (hk2 : k < 1000) (x1 x2 x3 : Int32) (n : Nat) (X : Nat → Int32) : FX3_forgetLeaves_6 x1 x2 x3 (n + 1) X (nI l) (nI v) (nI k) = some (X, nI v) := by
  rw [FX3_forgetLeaves_6, if_pos (nI_le hk (by omega))]
theorem fc_end {l v k : Nat} (hl : l ≤ 3) (hk : l ≤ k) (hk2 : k < 1000) (x1 x2 : Int32) (n : Nat) (X : Nat → Int32) : FX3_forgetContexts_5 x1 x2 (n + 1) X (nI l) (nI v) (nI k) = some (X, nI v) := by
  rw [FX3_forgetContexts_5, if_pos (nI_le hk (by omega))]
theorem fl_all {l : Nat} (hl : l ≤ 6) (x2 x3 : Int32) (X : Nat → Int32) : ∀ n k : Nat, k ≤ l → l - k < n → FX3_forgetLeaves_6 (-1) x2 x3 n X (nI l) 0 (nI k) = some (X, 0) := by
  intro n
  induction n with
  | zero => intro k _ h; omega
  | succ n ih =>
    intro k hk hn
    rw [FX3_forgetLeaves_6]
    by_cases h : l ≤ k
    · rw [if_pos (nI_le h (by omega))]
    · rw [if_neg (by rw [nI_leI (by omega) (by omega)]; exact h), if_pos rfl, nI_1]
      exact ih (k + 1) (by omega) (by omega)
theorem fc_all {l : Nat} (hl : l ≤ 3) (x1 : Int32) (X : Nat → Int32) : ∀ n k : Nat, k ≤ l → l - k < n → FX3_forgetContexts_5 x1 1 n X (nI l) 0 (nI k) = some (X, 0) := by
  intro n
  induction n with
  | zero => intro k _ h; omega
  | succ n ih =>
    intro k hk hn
    rw [FX3_forgetContexts_5]
    by_cases h : l ≤ k
    · rw [if_pos (nI_le h (by omega))]
    · rw [if_neg (by rw [nI_leI (by omega) (by omega)]; exact h), if_neg n10, nI_1]
      exact ih (k + 1) (by omega) (by omega)
theorem cnt_k (P : Nat → Prop) [DecidablePred P] (k : Nat) : cnt P k ≤ k := by
  have := (cnt_b P (show 0 ≤ k by omega)).2
  rw [cnt_0] at this
  omega
/-- the reference calls leaves back, where the test is P -/
theorem fl_loop {l : Nat} {B mB : Nat → Int32} (h : rL l B mB) (x1 x2 x3 : Int32) (h1 : ¬ x1 = -1) (P : Nat → Prop) [DecidablePred P] (hP : ∀ k, k < l → (P k ↔ (B (k * 5) = x1 ∧ (x3 = 0 ∨ (¬ x2 < 0 ∧ ¬ 4096 ≤ x2 ∧ (x2 >>> (((4 : Int32) * B (k * 5 + 1)) &&& 31)) = B (k * 5 + 2)))))) : ∀ (n k : Nat) (X : Nat → Int32), k ≤ l → l - k < n → mInv 5 P mB k X → ∃ X2, FX3_forgetLeaves_6 x1 x2 x3 n X (nI l) (nI (cnt P k)) (nI k) = some (X2, nI (cnt P l)) ∧ mInv 5 P mB l X2 := by
  have hl := h.1
  intro n
  induction n with
  | zero => intro k X _ h; omega
  | succ n ih =>
    intro k X hk hn hI
    by_cases hlk : l ≤ k
    · have e : k = l := by omega
      subst e
      exact ⟨X, fl_end hl (Nat.le_refl _) (by omega) x1 x2 x3 n X, hI⟩
    have ck := cnt_k P k
    have xx : ∀ q, q < 5 → X (k * 5 + q) = B (k * 5 + q) := fun q hq => by rw [hI.1 _ (by omega), h.2.1 _ (by omega)]
    have x0 : X (k * 5) = B (k * 5) := xx 0 (by omega)
    have hp := hP k (by omega)
    have skip : P k → ∃ X2, FX3_forgetLeaves_6 x1 x2 x3 n X (nI l) (nI (cnt P k)) (nI (k + 1)) = some (X2, nI (cnt P l)) ∧ mInv 5 P mB l X2 := fun q => by
      have := ih (k + 1) X (by omega) (by omega) (mInv_skip q hI)
      rw [cnt_t q] at this
      exact this
    have keep : ¬ P k → ∃ X2, FX3_forgetLeaves_6 x1 x2 x3 n (cp5 X (cnt P k) k) (nI l) (nI (cnt P k + 1)) (nI (k + 1)) = some (X2, nI (cnt P l)) ∧ mInv 5 P mB l X2 := fun q => by
      have := ih (k + 1) (cp5 X (cnt P k) k) (by omega) (by omega) (mInv_keep q hI cp5_in (fun r hr => cp5_out hr))
      rw [cnt_f q] at this
      exact this
    rw [fl_step hl (by omega) ck x1 x2 x3 h1, x0, xx 1 (by omega), xx 2 (by omega)]
    by_cases a : B (k * 5) = x1
    · rw [if_pos a]
      by_cases b : x3 = 0
      · rw [if_pos b]
        exact skip (hp.mpr ⟨a, Or.inl b⟩)
      · rw [if_neg b]
        by_cases c : x2 < 0
        · rw [if_pos c]
          exact keep (fun q => (hp.mp q).2.elim b (fun z => z.1 c))
        rw [if_neg c]
        by_cases c4 : 4096 ≤ x2
        · rw [if_pos c4]
          exact keep (fun q => (hp.mp q).2.elim b (fun z => z.2.1 c4))
        · rw [if_neg c4]
          by_cases d : (x2 >>> (((4 : Int32) * B (k * 5 + 1)) &&& 31)) = B (k * 5 + 2)
          · rw [if_pos d]
            exact skip (hp.mpr ⟨a, Or.inr ⟨c, c4, d⟩⟩)
          · rw [if_neg d]
            exact keep (fun q => (hp.mp q).2.elim b (fun z => d z.2.2))
    · rw [if_neg a]
      exact keep (fun q => a (hp.mp q).1)
theorem fc_loop {l : Nat} {B mB : Nat → Int32} (h : rC l B mB) (x1 : Int32) : ∀ (n k : Nat) (X : Nat → Int32), k ≤ l → l - k < n → mInv 4 (fun i => B (i * 3 + 0) = x1) mB k X → ∃ X2, FX3_forgetContexts_5 x1 0 n X (nI l) (nI (cnt (fun i => B (i * 3 + 0) = x1) k)) (nI k) = some (X2, nI (cnt (fun i => B (i * 3 + 0) = x1) l)) ∧ mInv 4 (fun i => B (i * 3 + 0) = x1) mB l X2 := by
  have hl := h.1
  intro n
  induction n with
  | zero => intro k X _ h; omega
  | succ n ih =>
    intro k X hk hn hI
    by_cases hlk : l ≤ k
    · have e : k = l := by omega
      subst e
      exact ⟨X, fc_end hl (Nat.le_refl _) (by omega) x1 0 n X, hI⟩
    have ck := cnt_k (fun i => B (i * 3 + 0) = x1) k
    have x0 : X (k * 4) = B (k * 3 + 0) := by rw [hI.1 _ (by omega), Nat.mul_comm, (h.2 k (by omega)).1, Nat.add_zero]
    rw [fc_step hl (by omega) ck x1, x0]
    by_cases a : B (k * 3 + 0) = x1
    · rw [if_pos a]
      have := ih (k + 1) X (by omega) (by omega) (mInv_skip a hI)
      rw [cnt_t (P := fun i => B (i * 3 + 0) = x1) a] at this
      exact this
    · rw [if_neg a]
      have := ih (k + 1) (cp4 X (cnt (fun i => B (i * 3 + 0) = x1) k) k) (by omega) (by omega) (mInv_keep (P := fun i => B (i * 3 + 0) = x1) a hI cp4_in (fun r hr => cp4_out hr))
      rw [cnt_f (P := fun i => B (i * 3 + 0) = x1) a] at this
      exact this
theorem gInv_0 {w : Nat} {P : Nat → Prop} [DecidablePred P] {l n : Nat} {B X : Nat → Int32} (h : gInv w P l B 0 n X) : ∀ i, i < l → ¬ P i → ∀ q, q < w → X (cnt P i * w + q) = B (i * w + q) := by
  intro i hi hp q hq
  have := h.2.2 i (by omega) hi hp q hq
  rw [cnt_0, Nat.zero_add, Nat.sub_zero] at this
  exact this
/-- what stays agrees -/
theorem rL_kept {l n : Nat} {B mB X Y : Nat → Int32} {P : Nat → Prop} [DecidablePred P] (h : rL l B mB) (g : gInv 5 P l B 0 n X) (m : mInv 5 P mB l Y) : rL (cnt P l) X Y := by
  have c := cnt_k P l
  have hl := h.1
  have g0 := gInv_0 g
  refine ⟨by omega, fun q hq => ?_, fun j hj => ?_⟩
  · obtain ⟨i, h1, h2, h3⟩ := cnt_onto P l (q / 5) (by omega)
    have e : q = cnt P i * 5 + q % 5 := by rw [h3]; omega
    have hr : q % 5 < 5 := Nat.mod_lt _ (by omega)
    rw [e, m.2 i h1 h2 _ hr, g0 i h1 h2 _ hr]
    exact h.2.1 _ (by omega)
  · obtain ⟨i, h1, h2, h3⟩ := cnt_onto P l j hj
    have e0 := g0 i h1 h2 0 (by omega)
    have e1 := g0 i h1 h2 1 (by omega)
    have e2 := g0 i h1 h2 2 (by omega)
    rw [h3, Nat.add_zero, Nat.add_zero] at e0
    rw [h3] at e1 e2
    rw [e0, e1, e2]
    exact h.2.2 i h1
theorem rC_kept {l n : Nat} {B mB X Y : Nat → Int32} {P : Nat → Prop} [DecidablePred P] (h : rC l B mB) (g : gInv 3 P l B 0 n X) (m : mInv 4 P mB l Y) : rC (cnt P l) X Y := by
  have c := cnt_k P l
  have hl := h.1
  have g0 := gInv_0 g
  refine ⟨by omega, fun j hj => ?_⟩
  obtain ⟨i, h1, h2, h3⟩ := cnt_onto P l j hj
  have a0 := g0 i h1 h2 0 (by omega)
  have a1 := g0 i h1 h2 1 (by omega)
  have a2 := g0 i h1 h2 2 (by omega)
  have b0 := m.2 i h1 h2 0 (by omega)
  have b1 := m.2 i h1 h2 1 (by omega)
  have b2 := m.2 i h1 h2 2 (by omega)
  have b3 := m.2 i h1 h2 3 (by omega)
  rw [h3, Nat.add_zero, Nat.add_zero] at a0 b0
  rw [h3] at a1 a2 b1 b2 b3
  obtain ⟨z0, z1, z2, z3, z4⟩ := h.2 i h1
  rw [Nat.mul_comm 4 i] at z0 z1 z2 z3
  rw [Nat.mul_comm 4 j, a0, a1, a2, b0, b1, b2, b3]
  exact ⟨z0, z1, z2, z3, z4⟩
theorem rL_0 (B mB : Nat → Int32) : rL 0 B mB := ⟨by omega, fun q h => by omega, fun i h => by omega⟩
theorem rC_0 (B mB : Nat → Int32) : rC 0 B mB := ⟨by omega, fun i h => by omega⟩
theorem mInv_all {w l : Nat} {P : Nat → Prop} [DecidablePred P] (h : ∀ i, i < l → ¬ P i) (mB : Nat → Int32) : mInv w P mB l mB := ⟨fun _ _ => rfl, fun i hi hp q hq => by rw [cnt_all h i (by omega)]⟩
/-- domain: on both sides -/
theorem dom_sim {l : Nat} {B mB : Nat → Int32} (h : rL l B mB) (x : Int32) (hx : ¬ x < 0) : ∃ (l2 : Nat) (X Y : Nat → Int32), FX2_forgetDomain x (nI l) B = some (nI l2, X) ∧ FX3_forgetLeaves x 0 0 mB (nI l) = some (Y, nI l2) ∧ rL l2 X Y := by
  have hl := h.1
  obtain ⟨X, g, gi⟩ := forgD x hl B fuel l l B (Nat.le_refl l) (by unfold fuel; omega) (gInv_start 5 _ l B)
  obtain ⟨Y, m, mi⟩ := fl_loop h x 0 0 (fun q => hx (by rw [q]; decide)) (fun i => B (i * 5 + 0) = x) (fun k hk => ⟨fun q => ⟨q, Or.inl rfl⟩, fun q => q.1⟩) fuel 0 mB (by omega) (by unfold fuel; omega) (mInv_start 5 _ mB)
  exact ⟨_, X, Y, g, m, rL_kept h gi mi⟩
theorem dom_none {l : Nat} {B mB : Nat → Int32} (h : rL l B mB) (x : Int32) (hx : x < 0) : ∃ (X : Nat → Int32), FX2_forgetDomain x (nI l) B = some (nI l, X) ∧ rL l X mB := by
  have hl := h.1
  obtain ⟨X, g, gi⟩ := forgD x hl B fuel l l B (Nat.le_refl l) (by unfold fuel; omega) (gInv_start 5 _ l B)
  have hno : ∀ i, i < l → ¬ (fun i => B (i * 5 + 0) = x) i := fun i hi q => (h.2.2 i hi).1 (by rw [show B (i * 5) = x from q]; exact hx)
  have ec := cnt_all hno l (Nat.le_refl l)
  have r := rL_kept h gi (mInv_all hno mB)
  rw [ec] at r g
  exact ⟨X, g, r⟩
/-- page: on both sides -/
theorem page_sim {l : Nat} {B mB : Nat → Int32} (h : rL l B mB) (x v : Int32) (hx : ¬ x < 0) : ∃ (l2 : Nat) (X Y : Nat → Int32), FX2_forgetPage x v (nI l) B = some (nI l2, X) ∧ FX3_forgetLeaves x v 1 mB (nI l) = some (Y, nI l2) ∧ rL l2 X Y := by
  have hl := h.1
  obtain ⟨X, g, gi⟩ := forgP x v hl B fuel l l B (Nat.le_refl l) (by unfold fuel; omega) (gInv_start 5 _ l B)
  obtain ⟨Y, m, mi⟩ := fl_loop h x v 1 (fun q => hx (by rw [q]; decide)) (fun i => B (i * 5 + 0) = x ∧ B (i * 5 + 2) = (v >>> (((4 : Int32) * B (i * 5 + 1)) &&& 31))) (fun k hk => ⟨fun q => ⟨q.1, Or.inr ⟨fun n => (h.2.2 k hk).2.1 (by rw [q.2]; exact (shr_sign _ _).mpr n), fun n => lvl_no (h.2.2 k hk).2.2 n q.2, q.2.symm⟩⟩, fun q => ⟨q.1, q.2.elim (fun z => absurd z n10) (fun z => z.2.2.symm)⟩⟩) fuel 0 mB (by omega) (by unfold fuel; omega) (mInv_start 5 _ mB)
  exact ⟨_, X, Y, g, m, rL_kept h gi mi⟩
theorem page_none {l : Nat} {B mB : Nat → Int32} (h : rL l B mB) (x v : Int32) (hx : x < 0) : ∃ (X : Nat → Int32), FX2_forgetPage x v (nI l) B = some (nI l, X) ∧ rL l X mB := by
  have hl := h.1
  obtain ⟨X, g, gi⟩ := forgP x v hl B fuel l l B (Nat.le_refl l) (by unfold fuel; omega) (gInv_start 5 _ l B)
  have hno : ∀ i, i < l → ¬ (fun i => B (i * 5 + 0) = x ∧ B (i * 5 + 2) = (v >>> (((4 : Int32) * B (i * 5 + 1)) &&& 31))) i := fun i hi q => (h.2.2 i hi).1 (by rw [show B (i * 5) = x from q.1]; exact hx)
  have ec := cnt_all hno l (Nat.le_refl l)
  have r := rL_kept h gi (mInv_all hno mB)
  rw [ec] at r g
  exact ⟨X, g, r⟩
theorem cx_sim {l : Nat} {B mB : Nat → Int32} (h : rC l B mB) (x : Int32) : ∃ (l2 : Nat) (X Y : Nat → Int32), FX2_forgetContext x (nI l) B = some (nI l2, X) ∧ FX3_forgetContexts x 0 mB (nI l) = some (Y, nI l2) ∧ rC l2 X Y := by
  have hl := h.1
  obtain ⟨X, g, gi⟩ := forgC x hl B fuel l l B (Nat.le_refl l) (by unfold fuel; omega) (gInv_start 3 _ l B)
  obtain ⟨Y, m, mi⟩ := fc_loop h x fuel 0 mB (by omega) (by unfold fuel; omega) (mInv_start 4 _ mB)
  exact ⟨_, X, Y, g, m, rC_kept h gi mi⟩
/-- a command is carried out, on both sides -/
theorem does_sim (x1 x2 x3 : Int32) (M : Nat → Int32) {c l : Nat} {B mB BL mL : Nat → Int32} (hC : rC c B mB) (hL : rL l BL mL) : ∃ (M2 : Nat → Int32) (c2 l2 : Nat) (B2 mB2 BL2 mL2 : Nat → Int32), rC c2 B2 mB2 ∧ rL l2 BL2 mL2 ∧ FX2_carryOut x1 x2 x3 M (nI c) B (nI l) BL = some (M2, nI c2, B2, nI l2, BL2) ∧ FX3_does x1 x2 x3 M mB mL (nI c) (nI l) = some (M2, mB2, mL2, nI c2, nI l2) := by
  unfold FX2_carryOut FX3_does
  by_cases k0 : x1 = 0
  · have a := fl_all hL.1 0 0 mL fuel 0 (by omega) (by have := hL.1; unfold fuel; omega)
    refine ⟨M, c, 0, B, mB, BL, mL, hC, rL_0 _ _, by rw [if_pos k0]; rfl, ?_⟩
    unfold FX3_forgetLeaves
    rw [if_pos k0, show (0 : Int32) = nI 0 from rfl] at *
    rw [a, bd2_e]
  rw [if_neg k0, if_neg k0]
  by_cases k1 : x1 = 1
  · rw [if_pos k1, if_pos k1]
    by_cases n : x2 < 0
    · obtain ⟨X, g, r⟩ := dom_none hL x2 n
      rw [if_pos n, g, bd2_e]
      exact ⟨M, c, l, B, mB, X, mL, hC, r, rfl, rfl⟩
    · obtain ⟨l2, X, Y, g, m, r⟩ := dom_sim hL x2 n
      rw [if_neg n, g, m, bd2_e, bd2_e]
      exact ⟨M, c, l2, B, mB, X, Y, hC, r, rfl, rfl⟩
  rw [if_neg k1, if_neg k1]
  by_cases k2 : x1 = 2
  · rw [if_pos k2, if_pos k2]
    by_cases n : x2 < 0
    · obtain ⟨X, g, r⟩ := page_none hL x2 x3 n
      rw [if_pos n, g, bd2_e]
      exact ⟨M, c, l, B, mB, X, mL, hC, r, rfl, rfl⟩
    · obtain ⟨l2, X, Y, g, m, r⟩ := page_sim hL x2 x3 n
      rw [if_neg n, g, m, bd2_e, bd2_e]
      exact ⟨M, c, l2, B, mB, X, Y, hC, r, rfl, rfl⟩
  rw [if_neg k2, if_neg k2]
  by_cases k3 : x1 = 3
  · obtain ⟨c2, X, Y, g, m, r⟩ := cx_sim hC x2
    rw [if_pos k3, if_pos k3, g, m, bd2_e, bd2_e]
    exact ⟨M, c2, l, X, Y, BL, mL, r, hL, rfl, rfl⟩
  rw [if_neg k3, if_neg k3]
  by_cases k4 : x1 = 4
  · have a := fc_all hC.1 0 mB fuel 0 (by omega) (by have := hC.1; unfold fuel; omega)
    refine ⟨M, 0, l, B, mB, BL, mL, rC_0 _ _, hL, by rw [if_pos k4]; rfl, ?_⟩
    unfold FX3_forgetContexts
    rw [if_pos k4]
    rw [show FX3_forgetContexts_5 0 1 fuel mB (nI c) 0 0 = some (mB, 0) from a, bd2_e]
    rfl
  rw [if_neg k4, if_neg k4]
  by_cases w : x2 < 0 ∨ 16384 ≤ x2
  · rw [setWord_out w, ip0 w, bd2_e, bd1_e, if_pos rfl]
    exact ⟨M, c, l, B, mB, BL, mL, hC, hL, rfl, rfl⟩
  · rw [not_or] at w
    rw [setWord_in w.1 w.2, ip1 w.1 w.2, bd2_e, bd1_e, if_neg n10, gd_t (inbo (n := 16384) rfl (by decide) w.1 w.2)]
    exact ⟨_, c, l, B, mB, BL, mL, hC, hL, rfl, rfl⟩
theorem z36 : inb 0 36 = true ∧ inb 1 36 = true ∧ inb 2 36 = true := by decide
theorem obey_loop {N D q0 : Nat} (hN : N < 2 ^ 31) (hD : D = min N q0) (hq0 : q0 ≤ 12) (th : Int32) : ∀ (n k : Nat) (M : Nat → Int32) (c l q : Nat) (B mB BL mL BQ mQ : Nat → Int32), rC c B mB → rL l BL mL → rQ q BQ mQ → q + k = q0 → k ≤ D → D - k < n →
    ∃ (M2 : Nat → Int32) (c2 l2 q2 : Nat) (B2 mB2 BL2 mL2 BQ2 mQ2 : Nat → Int32), rC c2 B2 mB2 ∧ rL l2 BL2 mL2 ∧ rQ q2 BQ2 mQ2 ∧ FX2_obey_31 (nI N) n M (nI c) B (nI l) BL (nI q) BQ (nI D) (nI k) = some (nI D, M2, nI c2, B2, nI l2, BL2, nI q2, BQ2) ∧ FX3_obey_13 (nI N) n M mB mL mQ (nI c) (nI l) (nI q) th (nI k) = some (nI D, M2, mB2, mL2, mQ2, nI c2, nI l2, nI q2, th) := by
  intro n
  induction n with
  | zero => intro k M c l q B mB BL mL BQ mQ hC hL hQ hq hk h; omega
  | succ n ih =>
    intro k M c l q B mB BL mL BQ mQ hC hL hQ hq hk hn
    rw [FX2_obey_31, FX3_obey_13]
    by_cases h : D ≤ k
    · have e : k = D := by omega
      subst e
      refine ⟨M, c, l, q, B, mB, BL, mL, BQ, mQ, hC, hL, hQ, ?_, ?_⟩
      · rw [if_pos (nI_le h (by omega))]
      · by_cases h2 : N ≤ k
        · rw [if_pos (nI_le h2 (by omega))]
        · have eq : q = 0 := by omega
          subst eq
          rw [if_neg (by rw [nI_leI hN (by omega)]; exact h2), if_pos (show nI 0 ≤ 0 from Int32.le_refl _)]
    · have c0 : FX1_cell 3 36 0 0 (nI q) BQ = some (BQ 0) := cell_in (w := 3) (len := 36) (r := 0) (k := 0) (n := q) (by omega) (by omega) (by omega) (by omega) (by omega) (by omega) BQ
      have c1 : FX1_cell 3 36 0 1 (nI q) BQ = some (BQ 1) := cell_in (w := 3) (len := 36) (r := 0) (k := 1) (n := q) (by omega) (by omega) (by omega) (by omega) (by omega) (by omega) BQ
      have c2 : FX1_cell 3 36 0 2 (nI q) BQ = some (BQ 2) := cell_in (w := 3) (len := 36) (r := 0) (k := 2) (n := q) (by omega) (by omega) (by omega) (by omega) (by omega) (by omega) BQ
      have rr : FX1_remove 3 36 0 (nI q) BQ = some (nI (q - 1), sh 3 (0 * 3) ((q - 1) * 3) BQ) := remove_eq (w := 3) (len := 36) (r := 0) (n := q) (by omega) (by omega) (by omega) (by omega) BQ
      have ss : FX3_shift 36 3 (nI q) mQ = some (sh 3 0 ((q - 1) * 3) mQ) := shift_eq (w := 3) (len := 36) (n := q) (by omega) (by omega) (by omega) (by omega) mQ
      have e1 : nI q - 1 = nI (q - 1) := by rw [show (1 : Int32) = nI 1 from rfl, pk_sub (by omega)]
      have y0 : mQ (0 : Int32).toNatClampNeg = BQ 0 := hQ.2 0 (by omega)
      have y1 : mQ (1 : Int32).toNatClampNeg = BQ 1 := hQ.2 1 (by omega)
      have y2 : mQ (2 : Int32).toNatClampNeg = BQ 2 := hQ.2 2 (by omega)
      obtain ⟨M2, c2', l2, B2, mB2, BL2, mL2, hC2, hL2, g, m⟩ := does_sim (BQ 0) (BQ 1) (BQ 2) M hC hL
      rw [if_neg (by rw [nI_leI (by omega) (by omega)]; exact h), c0, bd1_e, c1, bd1_e, c2, bd1_e, g, bd5_e, rr, bd2_e]
      rw [if_neg (by rw [nI_leI hN (by omega)]; omega), if_neg (nI_nle (by omega) (by omega)), gd_t z36.1, gd_t z36.2.1, gd_t z36.2.2, ss, bd1_e, y0, y1, y2, m, bd5_e, e1, nI_1]
      refine ih (k + 1) M2 c2' l2 (q - 1) B2 mB2 BL2 mL2 _ _ hC2 hL2 ⟨by have := hQ.1; omega, fun z hz => ?_⟩ (by omega) (by omega) (by omega)
      rw [Nat.zero_mul, sh_in (by omega) (by omega), sh_in (by omega) (by omega)]
      exact hQ.2 _ (by omega)
/-- obey, on both sides -/
theorem obey_sim (x1 th : Int32) (M : Nat → Int32) {c l q : Nat} {B mB BL mL BQ mQ : Nat → Int32} (hC : rC c B mB) (hL : rL l BL mL) (hQ : rQ q BQ mQ) :
    ∃ (r : Int32) (M2 : Nat → Int32) (c2 l2 q2 : Nat) (B2 mB2 BL2 mL2 BQ2 mQ2 : Nat → Int32), rC c2 B2 mB2 ∧ rL l2 BL2 mL2 ∧ rQ q2 BQ2 mQ2 ∧ FX2_obey x1 M (nI c) B (nI l) BL (nI q) BQ = some (r, M2, nI c2, B2, nI l2, BL2, nI q2, BQ2) ∧ FX3_obey x1 M mB mL mQ (nI c) (nI l) (nI q) th = some (r, M2, mB2, mL2, mQ2, nI c2, nI l2, nI q2, 0) := by
  have hq := hQ.1
  unfold FX2_obey FX3_obey
  by_cases h0 : 0 ≤ x1
  · rw [if_pos h0, if_pos h0]
    obtain ⟨N, hN, rfl⟩ := nI_of (x := x1) (fun n => by rw [Int32.lt_iff_toInt_lt] at n; rw [Int32.le_iff_toInt_le] at h0; omega)
    unfold FX2_obey_28
    by_cases h1 : q ≤ N
    · rw [if_pos (nI_le h1 hN)]
      obtain ⟨M2, c2, l2, q2, B2, mB2, BL2, mL2, BQ2, mQ2, a, b, d, g, m⟩ := obey_loop (N := N) (D := q) (q0 := q) hN (by omega) hq 0 fuel 0 M c l q B mB BL mL BQ mQ hC hL hQ (by omega) (by omega) (by unfold fuel; omega)
      exact ⟨_, M2, c2, l2, q2, B2, mB2, BL2, mL2, BQ2, mQ2, a, b, d, g, m⟩
    · rw [if_neg (by rw [nI_leI (by omega) hN]; exact h1)]
      obtain ⟨M2, c2, l2, q2, B2, mB2, BL2, mL2, BQ2, mQ2, a, b, d, g, m⟩ := obey_loop (N := N) (D := N) (q0 := q) hN (by omega) hq 0 fuel 0 M c l q B mB BL mL BQ mQ hC hL hQ (by omega) (by omega) (by unfold fuel; omega)
      exact ⟨_, M2, c2, l2, q2, B2, mB2, BL2, mL2, BQ2, mQ2, a, b, d, g, m⟩
  · rw [if_neg h0, if_neg h0]
    exact ⟨-1, M, c, l, q, B, mB, BL, mL, BQ, mQ, hC, hL, hQ, rfl, rfl⟩

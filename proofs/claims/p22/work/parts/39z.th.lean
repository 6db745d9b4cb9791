/-! The pure side in general, 15: what every call keeps, and th_all, th_idle, th_0 -/
def thR (gM : Nat → Int32) (gnC : Int32) (gbC : Nat → Int32) (gnL : Int32) (gbL : Nat → Int32) (gnF : Int32) (gbF : Nat → Int32) (gnQ : Int32) (gbQ : Nat → Int32) (gE : Nat → Nat → Int32) (gtp : Int32) (glf : Int32) (gtr : Int32) (glh : Int32) (gov : Int32) (mW : Nat → Int32) (mC : Nat → Int32) (mL : Nat → Int32) (mR : Nat → Int32) (mQ : Nat → Int32) (mE : Nat → Int32) (mtb : Int32) (mnC : Int32) (mnL : Int32) (mnR : Int32) (mov : Int32) (mnQ : Int32) (mwr : Int32) (mwl : Int32) (mft : Int32) (mth : Int32) (mpl : Int32) : Prop := ∃ c l f q t : Nat, rC c gbC mC ∧ rL l gbL mL ∧ rF f gbF mR ∧ rQ q gbQ mQ ∧ rEs gE mE ∧ t ≤ 16368 ∧ gnC = nI c ∧ mnC = nI c ∧ gnL = nI l ∧ mnL = nI l ∧ gnF = nI f ∧ mnR = nI f ∧ gnQ = nI q ∧ mnQ = nI q ∧ gtp = nI t ∧ mtb = nI t ∧ gM = mW ∧ gov = mov ∧ gtr = mwr ∧ glh = mwl
def thI (j : Nat) : GS → MS → Prop := fun (gM, gnC, gbC, gnL, gbL, gnF, gbF, gnQ, gbQ, gE, gtp, glf, gtr, glh, gov) (mW, mC, mL, mR, mQ, mE, mtb, mnC, mnL, mnR, mov, mnQ, mwr, mwl, mft, mth, mpl) => thR gM gnC gbC gnL gbL gnF gbF gnQ gbQ gE gtp glf gtr glh gov mW mC mL mR mQ mE mtb mnC mnL mnR mov mnQ mwr mwl mft mth mpl
theorem th_mk {j c l f q t : Nat} {gM gbC gbL gbF gbQ : Nat → Int32} {gE : Nat → Nat → Int32} {glf gtr glh gov : Int32} {mC mL mR mQ mE : Nat → Int32} {mft mth mpl : Int32} (hC : rC c gbC mC) (hL : rL l gbL mL) (hF : rF f gbF mR) (hQ : rQ q gbQ mQ) (hE : rEs gE mE) (ht : t ≤ 16368) : thI j (gM, nI c, gbC, nI l, gbL, nI f, gbF, nI q, gbQ, gE, nI t, glf, gtr, glh, gov) (gM, mC, mL, mR, mQ, mE, nI t, nI c, nI l, nI f, gov, nI q, gtr, glh, mft, mth, mpl) := ⟨c, l, f, q, t, hC, hL, hF, hQ, hE, ht, rfl, rfl, rfl, rfl, rfl, rfl, rfl, rfl, rfl, rfl, rfl, rfl, rfl, rfl⟩
theorem th_idle : sm_idle thI 512 := fun _ _ _ _ h => h
theorem th_0 : thI 0 G0 M0 := by
  refine ⟨0, 0, 0, 0, 0, rC_0 _ _, rL_0 _ _, ⟨by omega, fun q h => by omega⟩, ⟨by omega, fun q h => by omega⟩, ?_, by omega, rfl, rfl, rfl, rfl, rfl, rfl, rfl, rfl, rfl, rfl, rfl, rfl, rfl, rfl⟩
  have h8 : ∀ d : Nat, d < 8 → me00 (11 * d) = 0 ∧ me00 (11 * d + 1) = 1 ∧ me00 (11 * d + 2) = 0 ∧ me00 (11 * d + 3) = 0 ∧ me00 (11 * d + 4) = 0 ∧ me00 (11 * d + 5) = 0 ∧ me00 (11 * d + 6) = -1 := by decide
  intro d hd
  obtain ⟨h0, h1, h2, h3, h4, h5, h6⟩ := h8 d hd
  exact ⟨h0, h1, h2, h3, h4, h5, ⟨1, 0, by omega, by omega, rfl, rfl⟩, Or.inl ⟨rfl, h6⟩⟩
/-- a number above, its lower part below -/
theorem or_hi {u a : Nat} (hu : u < 256) (ha : a < 64) : nI u ||| (nI a <<< ((8 : Int32) &&& 31)) = nI u + (256 : Int32) * nI a := by
  have e : (256 : Int32) * nI a = nI (256 * a) := nI_mul 256 a
  rw [pk_shlN (n := a) ((8 : Int32) &&& 31) 8 (by decide) (by omega), fa_or, Nat.or_comm, Nat.mul_comm a (2 ^ 8), ← Nat.two_pow_add_eq_or_of_lt (by omega), e, nI_add, Nat.add_comm]
theorem ctx_v0 {a : Nat} (ha : a < 64) : (((1 : Int32) ||| (0 : Int32)) ||| (nI a <<< ((8 : Int32) &&& 31))) = (((1 : Int32) + 0) + ((256 : Int32) * nI a)) := or_hi (u := 1) (by omega) ha
theorem ctx_v1 {a : Nat} (ha : a < 64) : (((1 : Int32) ||| (2 : Int32)) ||| (nI a <<< ((8 : Int32) &&& 31))) = (((1 : Int32) + 2) + ((256 : Int32) * nI a)) := or_hi (u := 3) (by omega) ha
theorem ent_v0 {a b : Nat} (ha : a < 64) (hb : b < 4) : ((((1 : Int32) ||| (nI b <<< ((1 : Int32) &&& 31))) ||| (0 : Int32)) ||| (nI a <<< ((8 : Int32) &&& 31))) = ((((1 : Int32) + ((2 : Int32) * nI b)) + 0) + ((256 : Int32) * nI a)) := by
  rcases (show b = 0 ∨ b = 1 ∨ b = 2 ∨ b = 3 by omega) with rfl | rfl | rfl | rfl
  · exact or_hi (u := 1) (by omega) ha
  · exact or_hi (u := 3) (by omega) ha
  · exact or_hi (u := 5) (by omega) ha
  · exact or_hi (u := 7) (by omega) ha
theorem ent_v1 {a b : Nat} (ha : a < 64) (hb : b < 4) : ((((1 : Int32) ||| (nI b <<< ((1 : Int32) &&& 31))) ||| (8 : Int32)) ||| (nI a <<< ((8 : Int32) &&& 31))) = ((((1 : Int32) + ((2 : Int32) * nI b)) + 8) + ((256 : Int32) * nI a)) := by
  rcases (show b = 0 ∨ b = 1 ∨ b = 2 ∨ b = 3 by omega) with rfl | rfl | rfl | rfl
  · exact or_hi (u := 9) (by omega) ha
  · exact or_hi (u := 11) (by omega) ha
  · exact or_hi (u := 13) (by omega) ha
  · exact or_hi (u := 15) (by omega) ha
theorem low_of {x : Int32} {n : Nat} (hn : n < 2 ^ 31) (h0 : ¬ x < 0) (h1 : ¬ nI n ≤ x) : ∃ a : Nat, a < n ∧ x = nI a := by
  obtain ⟨a, ha, rfl⟩ := nI_of h0
  rw [nI_leI hn ha] at h1
  exact ⟨a, by omega, rfl⟩
theorem th_poke : sm_poke thI 512 := by
  intro j gM gnC gbC gnL gbL gnF gbF gnQ gbQ gE gtp glf gtr glh gov mW mC mL mR mQ mE mtb mnC mnL mnR mov mnQ mwr mwl mft mth mpl x1 x2 hj hI
  obtain ⟨c, l, f, q, t, hC, hL, hF, hQ, hE, ht, rfl, rfl, rfl, rfl, rfl, rfl, rfl, rfl, rfl, rfl, rfl, rfl, rfl, rfl⟩ := hI
  by_cases h : x1 < 0 ∨ 16384 ≤ x1
  · exact Or.inr ⟨_, _, _, ib0 h, FX3_poke_out h, th_mk hC hL hF hQ hE ht⟩
  · rw [not_or] at h
    exact Or.inl ⟨_, _, _, _, _, FX2_poke_in h.1 h.2, FX3_poke_in h.1 h.2, th_mk hC hL hF hQ hE ht⟩
theorem th_peek : sm_peek thI 512 := by
  intro j gM gnC gbC gnL gbL gnF gbF gnQ gbQ gE gtp glf gtr glh gov mW mC mL mR mQ mE mtb mnC mnL mnR mov mnQ mwr mwl mft mth mpl x1 hj hI
  obtain ⟨c, l, f, q, t, hC, hL, hF, hQ, hE, ht, rfl, rfl, rfl, rfl, rfl, rfl, rfl, rfl, rfl, rfl, rfl, rfl, rfl, rfl⟩ := hI
  by_cases h : x1 < 0 ∨ 16384 ≤ x1
  · exact Or.inr ⟨_, _, ib0 h, FX3_peek_out h, th_mk hC hL hF hQ hE ht⟩
  · rw [not_or] at h
    exact Or.inl ⟨_, _, _, FX2_peek_in h.1 h.2, FX3_peek_in h.1 h.2, th_mk hC hL hF hQ hE ht⟩
theorem th_fill : sm_fill thI 512 := by
  intro j gM gnC gbC gnL gbL gnF gbF gnQ gbQ gE gtp glf gtr glh gov mW mC mL mR mQ mE mtb mnC mnL mnR mov mnQ mwr mwl mft mth mpl x1 x2 x3 x4 hj hI
  obtain ⟨c, l, f, q, t, hC, hL, hF, hQ, hE, ht, rfl, rfl, rfl, rfl, rfl, rfl, rfl, rfl, rfl, rfl, rfl, rfl, rfl, rfl⟩ := hI
  obtain ⟨r, M2, g, m⟩ := fill_both x1 x2 x3 x4 gM mth
  exact ⟨_, _, _, _, _, g, m, th_mk hC hL hF hQ hE ht⟩
theorem th_table : sm_table thI 512 := by
  intro j gM gnC gbC gnL gbL gnF gbF gnQ gbQ gE gtp glf gtr glh gov mW mC mL mR mQ mE mtb mnC mnL mnR mov mnQ mwr mwl mft mth mpl x1 hj hI
  obtain ⟨c, l, f, q, t, hC, hL, hF, hQ, hE, ht, rfl, rfl, rfl, rfl, rfl, rfl, rfl, rfl, rfl, rfl, rfl, rfl, rfl, rfl⟩ := hI
  obtain ⟨r, t2, g, m, h⟩ := table_both x1 (nI t) mth
  rcases h with rfl | ⟨h0, h1, rfl⟩
  · exact ⟨_, _, _, _, _, g, m, th_mk hC hL hF hQ hE ht⟩
  · obtain ⟨t2, ht2, rfl⟩ := nI_of h0
    rw [show (16368 : Int32) = nI 16368 from rfl, nI_ltI (by omega) ht2] at h1
    exact ⟨_, _, _, _, _, g, m, th_mk hC hL hF hQ hE (by omega)⟩
theorem th_context : sm_context thI 512 := by
  intro j gM gnC gbC gnL gbL gnF gbF gnQ gbQ gE gtp glf gtr glh gov mW mC mL mR mQ mE mtb mnC mnL mnR mov mnQ mwr mwl mft mth mpl x1 x2 x3 x4 hj hI
  obtain ⟨c, l, f, q, t, hC, hL, hF, hQ, hE, ht, rfl, rfl, rfl, rfl, rfl, rfl, rfl, rfl, rfl, rfl, rfl, rfl, rfl, rfl⟩ := hI
  by_cases h : (x1 < 0 ∨ 8 ≤ x1) ∨ (x3 < 0 ∨ 64 ≤ x3) ∨ (x4 < 0 ∨ 16 ≤ x4)
  · exact ⟨_, _, _, _, _, ctxG_bad h, ctxM_bad h, th_mk hC hL hF hQ hE ht⟩
  · simp only [not_or] at h
    obtain ⟨a, b, d⟩ := h
    obtain ⟨e, he, rfl⟩ := dev_of a.1 a.2
    obtain ⟨u, hu, rfl⟩ := low_of (n := 64) (by omega) b.1 b.2
    have ep : nI t + (2 : Int32) * nI e = nI (t + 2 * e) := by rw [show (2 : Int32) * nI e = nI (2 * e) from nI_mul 2 e, nI_add]
    have ep1 : nI t + (2 : Int32) * nI e + 1 = nI (t + 2 * e + 1) := by rw [ep, nI_1]
    have w : ∀ z : Nat, z < 16384 → ¬ nI z < 0 ∧ ¬ 16384 ≤ nI z := fun z hz => ⟨nI_pos (by omega), by rw [show (16384 : Int32) = nI 16384 from rfl, nI_leI (by omega) (by omega)]; omega⟩
    have g := ctxG_ok (x2 := x2) (tp := nI t) (M := gM) a b d (by rw [ep]; exact (w _ (by omega)).1) (by rw [ep]; exact (w _ (by omega)).2) (by rw [ep1]; exact (w _ (by omega)).1) (by rw [ep1]; exact (w _ (by omega)).2)
    have m := ctxM_ok (x2 := x2) (tb := nI t) (M := gM) (th := mth) a b d (by rw [ep]; exact nI_inb (by omega) (by omega)) (by rw [ep1]; exact nI_inb (by omega) (by omega))
    rw [← ctx_v0 hu, ← ctx_v1 hu] at m
    exact ⟨_, _, _, _, _, g, m, th_mk hC hL hF hQ hE ht⟩
theorem th_enter : sm_enter thI 512 := by
  intro j gM gnC gbC gnL gbL gnF gbF gnQ gbQ gE gtp glf gtr glh gov mW mC mL mR mQ mE mtb mnC mnL mnR mov mnQ mwr mwl mft mth mpl x1 x2 x3 x4 x5 hj hI
  obtain ⟨c, l, f, q, t, hC, hL, hF, hQ, hE, ht, rfl, rfl, rfl, rfl, rfl, rfl, rfl, rfl, rfl, rfl, rfl, rfl, rfl, rfl⟩ := hI
  by_cases h : (x1 < 0 ∨ 64 ≤ x1) ∨ (x2 < 0 ∨ 16 ≤ x2) ∨ (x3 < 0 ∨ 4 ≤ x3) ∨ (x5 < 0 ∨ 64 ≤ x5)
  · exact ⟨_, _, _, _, _, entG_bad h, entM_bad h, th_mk hC hL hF hQ hE ht⟩
  · simp only [not_or] at h
    obtain ⟨a, b, d, e⟩ := h
    obtain ⟨p, w, hp, hw, rfl, rfl, pg1, pm1⟩ := placeIn_eq a.1 a.2 b.1 b.2
    obtain ⟨u, hu, rfl⟩ := low_of (n := 4) (by omega) d.1 d.2
    obtain ⟨v, hv, rfl⟩ := low_of (n := 64) (by omega) e.1 e.2
    have g := entG_ok (x4 := x4) (M := gM) a b d e hp hw pg1
    have m := entM_ok (x4 := x4) (M := gM) (th := mth) a b d e hp hw pm1
    rw [← ent_v0 hv hu, ← ent_v1 hv hu] at m
    exact ⟨_, _, _, _, _, g, m, th_mk hC hL hF hQ hE ht⟩
theorem th_read : sm_read thI 512 := by
  intro j gM gnC gbC gnL gbL gnF gbF gnQ gbQ gE gtp glf gtr glh gov mW mC mL mR mQ mE mtb mnC mnL mnR mov mnQ mwr mwl mft mth mpl x1 x2 hj hI
  obtain ⟨c, l, f, q, t, hC, hL, hF, hQ, hE, ht, rfl, rfl, rfl, rfl, rfl, rfl, rfl, rfl, rfl, rfl, rfl, rfl, rfl, rfl⟩ := hI
  by_cases h : x1 < 0 ∨ 8 ≤ x1
  · exact Or.inr ⟨_, _, _, _, _, _, _, _, _, _, _, _, _, ib0 h, FX3_read_out h, th_mk hC hL hF hQ hE ht⟩
  · rw [not_or] at h
    obtain ⟨e, he, rfl⟩ := dev_of h.1 h.2
    obtain ⟨c2, l2, f2, B2, mB2, BL2, mL2, BF2, mR2, t2, lh2, ov2, lf2, rr, bm, pl, hC2, hL2, hF2, hk, g, m⟩ := acc_sim he x2 0 (Or.inl rfl) ht gM glf gtr glh gov mft mpl hC hL hF
    refine Or.inl ?_
    unfold FX2_read FX3_read
    rw [ib1 h.1 h.2, id1 h.1 h.2, bd1_e, bd1_e, if_neg n10, if_neg n10, g, m, bd11_e, bd12_e]
    rcases hk with ⟨k1, rfl⟩ | ⟨p, hp, rfl, rfl, rfl⟩
    · rw [if_neg k1, if_pos rfl]
      exact ⟨_, _, _, _, _, _, _, _, _, _, _, _, _, _, _, _, _, _, _, _, _, _, _, _, rfl, rfl, th_mk hC2 hL2 hF2 hQ hE ht⟩
    · rw [if_pos (nI_pos' (n := p) (by omega)), if_neg n10, gd_t (nI_inb hp (by omega)), wordAt_in hp, bd1_e, nI_cl (i := p) (by omega)]
      exact ⟨_, _, _, _, _, _, _, _, _, _, _, _, _, _, _, _, _, _, _, _, _, _, _, _, rfl, rfl, th_mk hC2 hL2 hF2 hQ hE ht⟩
theorem th_write : sm_write thI 512 := by
  intro j gM gnC gbC gnL gbL gnF gbF gnQ gbQ gE gtp glf gtr glh gov mW mC mL mR mQ mE mtb mnC mnL mnR mov mnQ mwr mwl mft mth mpl x1 x2 x3 hj hI
  obtain ⟨c, l, f, q, t, hC, hL, hF, hQ, hE, ht, rfl, rfl, rfl, rfl, rfl, rfl, rfl, rfl, rfl, rfl, rfl, rfl, rfl, rfl⟩ := hI
  obtain ⟨r, M2, c2, l2, f2, B2, mB2, BL2, mL2, BF2, mR2, t2, lh2, ov2, lf2, pl, g, m, hC2, hL2, hF2⟩ := write_sim x1 x2 x3 ht gM glf gtr glh gov mft mth mpl hC hL hF
  exact ⟨_, _, _, _, _, _, _, _, _, _, _, _, _, _, _, _, _, _, _, _, _, _, _, _, _, _, g, m, th_mk hC2 hL2 hF2 hQ hE ht⟩
theorem th_fault : sm_fault thI 512 := by
  intro j gM gnC gbC gnL gbL gnF gbF gnQ gbQ gE gtp glf gtr glh gov mW mC mL mR mQ mE mtb mnC mnL mnR mov mnQ mwr mwl mft mth mpl hj hI
  obtain ⟨c, l, f, q, t, hC, hL, hF, hQ, hE, ht, rfl, rfl, rfl, rfl, rfl, rfl, rfl, rfl, rfl, rfl, rfl, rfl, rfl, rfl⟩ := hI
  exact ⟨_, _, _, rfl, rfl, th_mk hC hL hF hQ hE ht⟩
theorem th_ring : sm_ring thI 512 := by
  intro j gM gnC gbC gnL gbL gnF gbF gnQ gbQ gE gtp glf gtr glh gov mW mC mL mR mQ mE mtb mnC mnL mnR mov mnQ mwr mwl mft mth mpl x1 x2 x3 hj hI
  obtain ⟨c, l, f, q, t, hC, hL, hF, hQ, hE, ht, rfl, rfl, rfl, rfl, rfl, rfl, rfl, rfl, rfl, rfl, rfl, rfl, rfl, rfl⟩ := hI
  obtain ⟨r, E2, m2, g, m, hE2⟩ := ring_sim x1 x2 x3 mth hE
  exact ⟨_, _, _, _, _, g, m, th_mk hC hL hF hQ hE2 ht⟩
theorem th_tail : sm_tail thI 512 := by
  intro j gM gnC gbC gnL gbL gnF gbF gnQ gbQ gE gtp glf gtr glh gov mW mC mL mR mQ mE mtb mnC mnL mnR mov mnQ mwr mwl mft mth mpl x1 x2 hj hI
  obtain ⟨c, l, f, q, t, hC, hL, hF, hQ, hE, ht, rfl, rfl, rfl, rfl, rfl, rfl, rfl, rfl, rfl, rfl, rfl, rfl, rfl, rfl⟩ := hI
  obtain ⟨r, E2, m2, g, m, hE2⟩ := tail_sim x1 x2 mth hE
  exact ⟨_, _, _, _, _, g, m, th_mk hC hL hF hQ hE2 ht⟩
theorem th_resume : sm_resume thI 512 := by
  intro j gM gnC gbC gnL gbL gnF gbF gnQ gbQ gE gtp glf gtr glh gov mW mC mL mR mQ mE mtb mnC mnL mnR mov mnQ mwr mwl mft mth mpl x1 hj hI
  obtain ⟨c, l, f, q, t, hC, hL, hF, hQ, hE, ht, rfl, rfl, rfl, rfl, rfl, rfl, rfl, rfl, rfl, rfl, rfl, rfl, rfl, rfl⟩ := hI
  obtain ⟨r, E2, m2, g, m, hE2⟩ := resume_sim x1 mth hE
  exact ⟨_, _, _, _, _, g, m, th_mk hC hL hF hQ hE2 ht⟩
theorem th_step : sm_step thI 512 := by
  intro j gM gnC gbC gnL gbL gnF gbF gnQ gbQ gE gtp glf gtr glh gov mW mC mL mR mQ mE mtb mnC mnL mnR mov mnQ mwr mwl mft mth mpl x1 x2 hj hI
  obtain ⟨c, l, f, q, t, hC, hL, hF, hQ, hE, ht, rfl, rfl, rfl, rfl, rfl, rfl, rfl, rfl, rfl, rfl, rfl, rfl, rfl, rfl⟩ := hI
  obtain ⟨r, M2, c2, l2, f2, B2, mB2, BL2, mL2, BF2, mR2, E2, mE2, t2, lh2, ov2, lf2, ft2, pl, hC2, hL2, hF2, hE2, g, m⟩ := step_sim x1 x2 ht gM glf gtr glh gov mft mth mpl hC hL hF hE
  exact ⟨_, _, _, _, _, _, _, _, _, _, _, _, _, _, _, _, _, _, _, _, _, _, _, _, _, _, _, _, g, m, th_mk hC2 hL2 hF2 hQ hE2 ht⟩
theorem th_engine : sm_engine thI 512 := by
  intro j gM gnC gbC gnL gbL gnF gbF gnQ gbQ gE gtp glf gtr glh gov mW mC mL mR mQ mE mtb mnC mnL mnR mov mnQ mwr mwl mft mth mpl x1 x2 hj hI
  obtain ⟨c, l, f, q, t, hC, hL, hF, hQ, hE, ht, rfl, rfl, rfl, rfl, rfl, rfl, rfl, rfl, rfl, rfl, rfl, rfl, rfl, rfl⟩ := hI
  obtain ⟨r, g, m⟩ := engine_sim x1 x2 mth hE
  exact ⟨_, _, _, g, m, th_mk hC hL hF hQ hE ht⟩
theorem th_command : sm_command thI 512 := by
  intro j gM gnC gbC gnL gbL gnF gbF gnQ gbQ gE gtp glf gtr glh gov mW mC mL mR mQ mE mtb mnC mnL mnR mov mnQ mwr mwl mft mth mpl x1 x2 x3 hj hI
  obtain ⟨c, l, f, q, t, hC, hL, hF, hQ, hE, ht, rfl, rfl, rfl, rfl, rfl, rfl, rfl, rfl, rfl, rfl, rfl, rfl, rfl, rfl⟩ := hI
  obtain ⟨r, q2, B2, mQ2, g, m, hQ2⟩ := command_sim x1 x2 x3 mth hQ
  exact ⟨_, _, _, _, _, _, _, g, m, th_mk hC hL hF hQ2 hE ht⟩
theorem th_obey : sm_obey thI 512 := by
  intro j gM gnC gbC gnL gbL gnF gbF gnQ gbQ gE gtp glf gtr glh gov mW mC mL mR mQ mE mtb mnC mnL mnR mov mnQ mwr mwl mft mth mpl x1 hj hI
  obtain ⟨c, l, f, q, t, hC, hL, hF, hQ, hE, ht, rfl, rfl, rfl, rfl, rfl, rfl, rfl, rfl, rfl, rfl, rfl, rfl, rfl, rfl⟩ := hI
  obtain ⟨r, M2, c2, l2, q2, B2, mB2, BL2, mL2, BQ2, mQ2, hC2, hL2, hQ2, g, m⟩ := obey_sim x1 mth gM hC hL hQ
  exact ⟨_, _, _, _, _, _, _, _, _, _, _, _, _, _, _, _, _, g, m, th_mk hC2 hL2 hF hQ2 hE ht⟩
theorem th_count : sm_count thI 512 := by
  intro j gM gnC gbC gnL gbL gnF gbF gnQ gbQ gE gtp glf gtr glh gov mW mC mL mR mQ mE mtb mnC mnL mnR mov mnQ mwr mwl mft mth mpl x1 hj hI
  obtain ⟨c, l, f, q, t, hC, hL, hF, hQ, hE, ht, rfl, rfl, rfl, rfl, rfl, rfl, rfl, rfl, rfl, rfl, rfl, rfl, rfl, rfl⟩ := hI
  obtain ⟨r, g, m⟩ := count_sim x1 mth (nI c) (nI l) (nI f) (nI q) (nI t) gtr glh gov
  exact ⟨_, _, _, g, m, th_mk hC hL hF hQ hE ht⟩
theorem th_record : sm_record thI 512 := by
  intro j gM gnC gbC gnL gbL gnF gbF gnQ gbQ gE gtp glf gtr glh gov mW mC mL mR mQ mE mtb mnC mnL mnR mov mnQ mwr mwl mft mth mpl x1 x2 hj hI
  obtain ⟨c, l, f, q, t, hC, hL, hF, hQ, hE, ht, rfl, rfl, rfl, rfl, rfl, rfl, rfl, rfl, rfl, rfl, rfl, rfl, rfl, rfl⟩ := hI
  obtain ⟨r, g, m⟩ := record_sim x1 x2 mth hF
  exact ⟨_, _, _, g, m, th_mk hC hL hF hQ hE ht⟩
theorem th_drop : sm_drop thI 512 := by
  intro j gM gnC gbC gnL gbL gnF gbF gnQ gbQ gE gtp glf gtr glh gov mW mC mL mR mQ mE mtb mnC mnL mnR mov mnQ mwr mwl mft mth mpl hj hI
  obtain ⟨c, l, f, q, t, hC, hL, hF, hQ, hE, ht, rfl, rfl, rfl, rfl, rfl, rfl, rfl, rfl, rfl, rfl, rfl, rfl, rfl, rfl⟩ := hI
  obtain ⟨r, f2, B2, mR2, g, m, hF2⟩ := drop_sim mth hF
  exact ⟨_, _, _, _, _, _, _, g, m, th_mk hC hL hF2 hQ hE ht⟩
theorem th_clear : sm_clear thI 512 := by
  intro j gM gnC gbC gnL gbL gnF gbF gnQ gbQ gE gtp glf gtr glh gov mW mC mL mR mQ mE mtb mnC mnL mnR mov mnQ mwr mwl mft mth mpl hj hI
  obtain ⟨c, l, f, q, t, hC, hL, hF, hQ, hE, ht, rfl, rfl, rfl, rfl, rfl, rfl, rfl, rfl, rfl, rfl, rfl, rfl, rfl, rfl⟩ := hI
  exact ⟨_, _, _, _, _, _, _, rfl, rfl, th_mk (f := 0) hC hL ⟨by omega, fun q h => by omega⟩ hQ hE ht⟩
theorem th_leaf : sm_leaf thI 512 := by
  intro j gM gnC gbC gnL gbL gnF gbF gnQ gbQ gE gtp glf gtr glh gov mW mC mL mR mQ mE mtb mnC mnL mnR mov mnQ mwr mwl mft mth mpl x1 x2 hj hI
  obtain ⟨c, l, f, q, t, hC, hL, hF, hQ, hE, ht, rfl, rfl, rfl, rfl, rfl, rfl, rfl, rfl, rfl, rfl, rfl, rfl, rfl, rfl⟩ := hI
  obtain ⟨r, g, m⟩ := leaf_sim x1 x2 mth hL
  exact ⟨_, _, _, g, m, rfl, th_mk hC hL hF hQ hE ht⟩
theorem th_all : sm_all thI 512 := ⟨th_poke, th_peek, th_fill, th_table, th_context, th_enter, th_read, th_write, th_fault, th_ring, th_tail, th_step, th_resume, th_engine, th_command, th_obey, th_count, th_record, th_drop, th_clear, th_leaf⟩

def fuel : Nat := 2000
/-- an engine's fields -/
def ef (x : Nat → Int32) : List Value := [.int (x 0), .int (x 1), .int (x 2), .int (x 3), .int (x 4), .int (x 5), .int (x 6), .int (x 7), .int (x 8), .int (x 9), .int (x 10), .int (x 11)]
def eww (h : Nat) (ex : Nat → Int32) : va_W := [(h, .inr (0, ef ex))]
def rww (h ha : Nat) (kA : ClassId) (rlim rwid : Int32) (rlen : Nat) (rn : Int32) (rB : Nat → Int32) : va_W := [(h, .inr (1, [.int rlim, .int rwid, .ref ha, .int rn])), (ha, .inl (kA, rlen, .inl rB))]
def sww (ha : Nat) (kA : ClassId) (slen : Nat) (sB : Nat → Int32) : va_W := [(ha, .inl (kA, slen, .inl sB))]
/-- the gate's cells -/
def gw (a : Nat → Nat) (k : Nat → ClassId) (gM : Nat → Int32) (gnC : Int32) (gbC : Nat → Int32) (gnL : Int32) (gbL : Nat → Int32) (gnF : Int32) (gbF : Nat → Int32) (gnQ : Int32) (gbQ : Nat → Int32) (gE : Nat → Nat → Int32) (gtp glf gtr glh gov : Int32) : va_W :=
  [(a 0, .inr (2, [.ref (a 1), .ref (a 2), .ref (a 4), .ref (a 6), .ref (a 8), .ref (a 10), .int gtp, .int glf, .int gtr, .int glh, .int gov])), (a 1, .inl (k 1, 16384, .inl gM)),
   (a 2, .inr (1, [.int 3, .int 3, .ref (a 3), .int gnC])), (a 3, .inl (k 3, 9, .inl gbC)), (a 4, .inr (1, [.int 6, .int 5, .ref (a 5), .int gnL])), (a 5, .inl (k 5, 30, .inl gbL)),
   (a 6, .inr (1, [.int 6, .int 4, .ref (a 7), .int gnF])), (a 7, .inl (k 7, 24, .inl gbF)), (a 8, .inr (1, [.int 12, .int 3, .ref (a 9), .int gnQ])), (a 9, .inl (k 9, 36, .inl gbQ)),
   (a 10, .inl (k 10, 8, .inr (.inr (.inr (.inr (fun i => some (a (11 + i)))))))),
   (a (11 + 0), .inr (0, ef (gE 0))), (a (11 + 1), .inr (0, ef (gE 1))), (a (11 + 2), .inr (0, ef (gE 2))), (a (11 + 3), .inr (0, ef (gE 3))), (a (11 + 4), .inr (0, ef (gE 4))), (a (11 + 5), .inr (0, ef (gE 5))), (a (11 + 6), .inr (0, ef (gE 6))), (a (11 + 7), .inr (0, ef (gE 7)))]
def gt (k : Nat → ClassId) : List (ClassId × FieldType) := [(k 1, .int), (k 3, .int), (k 5, .int), (k 7, .int), (k 9, .int), (k 10, .object RX0)]
/-- the reference's cells -/
def mw (a : Nat → Nat) (k : Nat → ClassId) (mW mC mL mR mQ mE : Nat → Int32) (mtb mnC mnL mnR mov mnQ mwr mwl mft mth mpl : Int32) : va_W :=
  [(a 0, .inr (3, [.ref (a 1), .int mtb, .ref (a 2), .int mnC, .ref (a 3), .int mnL, .ref (a 4), .int mnR, .int mov, .ref (a 5), .int mnQ, .int mwr, .int mwl, .int mft, .int mth, .ref (a 6), .int mpl])), (a 1, .inl (k 1, 16384, .inl mW)), (a 2, .inl (k 2, 12, .inl mC)), (a 3, .inl (k 3, 30, .inl mL)), (a 4, .inl (k 4, 24, .inl mR)), (a 5, .inl (k 5, 36, .inl mQ)), (a 6, .inl (k 6, 88, .inl mE))]
def mt (k : Nat → ClassId) : List (ClassId × FieldType) := [(k 1, .int), (k 2, .int), (k 3, .int), (k 4, .int), (k 5, .int), (k 6, .int)]
section GW
variable {a : Nat → Nat} {k : Nat → ClassId} {gM : Nat → Int32} {gnC : Int32} {gbC : Nat → Int32} {gnL : Int32} {gbL : Nat → Int32} {gnF : Int32} {gbF : Nat → Int32} {gnQ : Int32} {gbQ : Nat → Int32} {gE : Nat → Nat → Int32} {gtp glf gtr glh gov : Int32}
theorem j8 {P : Nat → Prop} (h0 : P 0) (h1 : P 1) (h2 : P 2) (h3 : P 3) (h4 : P 4) (h5 : P 5) (h6 : P 6) (h7 : P 7) {j : Nat} (hj : j < 8) : P j := by
  rcases (show j = 0 ∨ j = 1 ∨ j = 2 ∨ j = 3 ∨ j = 4 ∨ j = 5 ∨ j = 6 ∨ j = 7 by omega) with h | h | h | h | h | h | h | h <;> subst h <;> assumption
theorem gwE {j : Nat} (hj : j < 8) : (gw a k gM gnC gbC gnL gbL gnF gbF gnQ gbQ gE gtp glf gtr glh gov)[11 + j]? = some (a (11 + j), .inr (0, ef (gE j))) := j8 (P := fun j => (gw a k gM gnC gbC gnL gbL gnF gbF gnQ gbQ gE gtp glf gtr glh gov)[11 + j]? = some (a (11 + j), .inr (0, ef (gE j)))) rfl rfl rfl rfl rfl rfl rfl rfl hj
theorem gw_setE {j : Nat} {x : Nat → Int32} (hj : j < 8) : (gw a k gM gnC gbC gnL gbL gnF gbF gnQ gbQ gE gtp glf gtr glh gov).set (11 + j) (a (11 + j), .inr (0, ef x)) = gw a k gM gnC gbC gnL gbL gnF gbF gnQ gbQ (va_up gE j x) gtp glf gtr glh gov := j8 (P := fun j => (gw a k gM gnC gbC gnL gbL gnF gbF gnQ gbQ gE gtp glf gtr glh gov).set (11 + j) (a (11 + j), .inr (0, ef x)) = gw a k gM gnC gbC gnL gbL gnF gbF gnQ gbQ (va_up gE j x) gtp glf gtr glh gov) rfl rfl rfl rfl rfl rfl rfl rfl hj
theorem gw_same {j : Nat} (hj : j < 8) : (gw a k gM gnC gbC gnL gbL gnF gbF gnQ gbQ gE gtp glf gtr glh gov).set (11 + j) (a (11 + j), .inr (0, ef (gE j))) = gw a k gM gnC gbC gnL gbL gnF gbF gnQ gbQ gE gtp glf gtr glh gov := j8 (P := fun j => (gw a k gM gnC gbC gnL gbL gnF gbF gnQ gbQ gE gtp glf gtr glh gov).set (11 + j) (a (11 + j), .inr (0, ef (gE j))) = gw a k gM gnC gbC gnL gbL gnF gbF gnQ gbQ gE gtp glf gtr glh gov) rfl rfl rfl rfl rfl rfl rfl rfl hj
theorem gwl {j : Nat} (hj : j < 8) : 11 + j < (gw a k gM gnC gbC gnL gbL gnF gbF gnQ gbQ gE gtp glf gtr glh gov).length := by
  show 11 + j < 19
  omega
end GW
theorem map1 {ws : va_W} {i : Nat} {x : Nat × va_E} (h : ws[i]? = some x) : [i].map (fun i => ws[i]?) = [x].map some := by
  show [ws[i]?] = [some x]
  rw [h]
theorem nd1 (i : Nat) : va_nd [i] = true := by simp [va_nd]
theorem lkN_130 : Cond.fieldLinkNest RX2 130 (TX1 3).1 (TX1 3).2.1 (TX1 3).2.2.1 RX2 ∈ nwL := by decide +kernel
theorem lkN_84 : Cond.fieldLinkNest RX2 84 (TX0 1).1 (TX0 1).2.1 (TX0 1).2.2.1 RX2 ∈ nwL := by decide +kernel
theorem lkN_93 : Cond.fieldLinkNest RX2 93 (TX0 2).1 (TX0 2).2.1 (TX0 2).2.2.1 RX2 ∈ nwL := by decide +kernel
theorem lkN_87 : Cond.fieldLinkNest RX2 87 (TX0 3).1 (TX0 3).2.1 (TX0 3).2.2.1 RX2 ∈ nwL := by decide +kernel
theorem lkN_90 : Cond.fieldLinkNest RX2 90 (TX0 4).1 (TX0 4).2.1 (TX0 4).2.2.1 RX2 ∈ nwL := by decide +kernel
theorem lkN_115 : Cond.fieldLinkNest RX2 115 (TX0 5).1 (TX0 5).2.1 (TX0 5).2.2.1 RX2 ∈ nwL := by decide +kernel
theorem lkN_96 : Cond.fieldLinkNest RX2 96 (TX0 6).1 (TX0 6).2.1 (TX0 6).2.2.1 RX2 ∈ nwL := by decide +kernel
theorem lkN_182 : Cond.fieldLinkNest RX2 182 (TX0 7).1 (TX0 7).2.1 (TX0 7).2.2.1 RX2 ∈ nwL := by decide +kernel
theorem lkN_185 : Cond.fieldLinkNest RX2 185 (TX0 8).1 (TX0 8).2.1 (TX0 8).2.2.1 RX2 ∈ nwL := by decide +kernel
theorem lkN_106 : Cond.fieldLinkNest RX2 106 (TX0 9).1 (TX0 9).2.1 (TX0 9).2.2.1 RX2 ∈ nwL := by decide +kernel
theorem lkN_188 : Cond.fieldLinkNest RX2 188 (TX0 10).1 (TX0 10).2.1 (TX0 10).2.2.1 RX2 ∈ nwL := by decide +kernel
theorem lkN_103 : Cond.fieldLinkNest RX2 103 (TX0 11).1 (TX0 11).2.1 (TX0 11).2.2.1 RX2 ∈ nwL := by decide +kernel

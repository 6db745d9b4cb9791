def FX2_ring (x1 x2 x3 : Int32) (gE : Nat → Nat → Int32) : Option (Int32 × (Nat → Nat → Int32)) := bd1 (FX2_isBelow x1 8) (fun rq1 => if rq1 = 0 then some (0, gE) else bd1 (FX2_isBelow x2 1048576) (fun rq3 => if rq3 = 0 then some (0, gE) else if (x2 &&& (3 : Int32)) = 0 then if x3 < 1 then some (0, gE) else if x3 ≤ 64 then gd (inb x1 8) (bd1 (FX0_begin x2 x3 (gE x1.toNatClampNeg)) (fun q9ex => some (1, (va_up gE x1.toNatClampNeg q9ex)))) else some (0, gE) else some (0, gE)))
def FX2_tail (x1 x2 : Int32) (gE : Nat → Nat → Int32) : Option (Int32 × (Nat → Nat → Int32)) := bd1 (FX2_isBelow x1 8) (fun rq1 => if rq1 = 0 then some ((-1), gE) else gd (inb x1 8) (bd1 (FX2_isBelow x2 (gE x1.toNatClampNeg 1)) (fun rq4 => if rq4 = 0 then some ((-1), gE) else gd (inb x1 8) (if ((va_up gE x1.toNatClampNeg (upd (gE x1.toNatClampNeg) 3 x2)) x1.toNatClampNeg 4) = 0 then if ((va_up gE x1.toNatClampNeg (upd (gE x1.toNatClampNeg) 3 x2)) x1.toNatClampNeg 3) = ((va_up gE x1.toNatClampNeg (upd (gE x1.toNatClampNeg) 3 x2)) x1.toNatClampNeg 2) then some (((va_up gE x1.toNatClampNeg (upd (gE x1.toNatClampNeg) 3 x2)) x1.toNatClampNeg 4), (va_up gE x1.toNatClampNeg (upd (gE x1.toNatClampNeg) 3 x2))) else some (((va_up (va_up gE x1.toNatClampNeg (upd (gE x1.toNatClampNeg) 3 x2)) x1.toNatClampNeg (upd ((va_up gE x1.toNatClampNeg (upd (gE x1.toNatClampNeg) 3 x2)) x1.toNatClampNeg) 4 1)) x1.toNatClampNeg 4), (va_up (va_up gE x1.toNatClampNeg (upd (gE x1.toNatClampNeg) 3 x2)) x1.toNatClampNeg (upd ((va_up gE x1.toNatClampNeg (upd (gE x1.toNatClampNeg) 3 x2)) x1.toNatClampNeg) 4 1))) else some (((va_up gE x1.toNatClampNeg (upd (gE x1.toNatClampNeg) 3 x2)) x1.toNatClampNeg 4), (va_up gE x1.toNatClampNeg (upd (gE x1.toNatClampNeg) 3 x2)))))))
def FX2_takeDescriptor (j : Nat) (x1 : Int32) (gM : Nat → Int32) (gnC : Int32) (gbC : Nat → Int32) (gnL : Int32) (gbL : Nat → Int32) (gnF : Int32) (gbF : Nat → Int32) (gE : Nat → Nat → Int32) (gtp : Int32) (glf : Int32) (gtr : Int32) (glh : Int32) (gov : Int32) : Option (Int32 × Int32 × (Nat → Int32) × Int32 × (Nat → Int32) × Int32 × (Nat → Int32) × (Nat → Nat → Int32) × Int32 × Int32 × Int32 × Int32) := bd1 (FX0_descriptorAddress (gE j)) (fun rq1 => bd11 (FX2_access x1 (rq1 + 0) 0 gM gnC gbC gnL gbL gnF gbF gtp glf gtr glh gov) (fun rq2 q2gnC q2gbC q2gnL q2gbL q2gnF q2gbF q2glf q2gtr q2glh q2gov => if 0 ≤ rq2 then bd1 (FX2_wordAt rq2 gM) (fun rq4 => bd1 (FX0_take 0 rq4 (gE j)) (fun q5ex => bd1 (FX0_descriptorAddress ((va_up gE j q5ex) j)) (fun rq6 => bd11 (FX2_access x1 (rq6 + 1) 0 gM q2gnC q2gbC q2gnL q2gbL q2gnF q2gbF gtp q2glf q2gtr q2glh q2gov) (fun rq7 q7gnC q7gbC q7gnL q7gbL q7gnF q7gbF q7glf q7gtr q7glh q7gov => if 0 ≤ rq7 then bd1 (FX2_wordAt rq7 gM) (fun rq9 => bd1 (FX0_take 1 rq9 ((va_up gE j q5ex) j)) (fun q10ex => bd1 (FX0_descriptorAddress ((va_up (va_up gE j q5ex) j q10ex) j)) (fun rq11 => bd11 (FX2_access x1 (rq11 + 2) 0 gM q7gnC q7gbC q7gnL q7gbL q7gnF q7gbF gtp q7glf q7gtr q7glh q7gov) (fun rq12 q12gnC q12gbC q12gnL q12gbL q12gnF q12gbF q12glf q12gtr q12glh q12gov => if 0 ≤ rq12 then bd1 (FX2_wordAt rq12 gM) (fun rq14 => bd1 (FX0_take 2 rq14 ((va_up (va_up gE j q5ex) j q10ex) j)) (fun q15ex => bd1 (FX0_descriptorAddress ((va_up (va_up (va_up gE j q5ex) j q10ex) j q15ex) j)) (fun rq16 => bd11 (FX2_access x1 (rq16 + 3) 0 gM q12gnC q12gbC q12gnL q12gbL q12gnF q12gbF gtp q12glf q12gtr q12glh q12gov) (fun rq17 q17gnC q17gbC q17gnL q17gbL q17gnF q17gbF q17glf q17gtr q17glh q17gov => if 0 ≤ rq17 then bd1 (FX2_wordAt rq17 gM) (fun rq19 => bd1 (FX0_take 3 rq19 ((va_up (va_up (va_up gE j q5ex) j q10ex) j q15ex) j)) (fun q20ex => some (1, q17gnC, q17gbC, q17gnL, q17gbL, q17gnF, q17gbF, (va_up (va_up (va_up (va_up (va_up (va_up gE j q5ex) j q10ex) j q15ex) j q20ex) j (upd ((va_up (va_up (va_up (va_up gE j q5ex) j q10ex) j q15ex) j q20ex) j) 11 0)) j (upd ((va_up (va_up (va_up (va_up (va_up gE j q5ex) j q10ex) j q15ex) j q20ex) j (upd ((va_up (va_up (va_up (va_up gE j q5ex) j q10ex) j q15ex) j q20ex) j) 11 0)) j) 6 1)), q17glf, q17gtr, q17glh, q17gov))) else some (0, q17gnC, q17gbC, q17gnL, q17gbL, q17gnF, q17gbF, (va_up (va_up (va_up gE j q5ex) j q10ex) j q15ex), q17glf, q17gtr, q17glh, q17gov))))) else some (0, q12gnC, q12gbC, q12gnL, q12gbL, q12gnF, q12gbF, (va_up (va_up gE j q5ex) j q10ex), q12glf, q12gtr, q12glh, q12gov))))) else some (0, q7gnC, q7gbC, q7gnL, q7gbL, q7gnF, q7gbF, (va_up gE j q5ex), q7glf, q7gtr, q7glh, q7gov))))) else some (0, q2gnC, q2gbC, q2gnL, q2gbL, q2gnF, q2gbF, gE, q2glf, q2gtr, q2glh, q2gov)))
def FX2_copyWord (j : Nat) (x1 : Int32) (gM : Nat → Int32) (gnC : Int32) (gbC : Nat → Int32) (gnL : Int32) (gbL : Nat → Int32) (gnF : Int32) (gbF : Nat → Int32) (gE : Nat → Nat → Int32) (gtp : Int32) (glf : Int32) (gtr : Int32) (glh : Int32) (gov : Int32) : Option (Int32 × (Nat → Int32) × Int32 × (Nat → Int32) × Int32 × (Nat → Int32) × Int32 × (Nat → Int32) × (Nat → Nat → Int32) × Int32 × Int32 × Int32 × Int32) := bd11 (FX2_access x1 ((gE j 7) + (gE j 11)) 0 gM gnC gbC gnL gbL gnF gbF gtp glf gtr glh gov) (fun rq1 q1gnC q1gbC q1gnL q1gbL q1gnF q1gbF q1glf q1gtr q1glh q1gov => if 0 ≤ rq1 then bd1 (FX2_wordAt rq1 gM) (fun rq3 => bd11 (FX2_access x1 ((gE j 8) + (gE j 11)) 1 gM q1gnC q1gbC q1gnL q1gbL q1gnF q1gbF gtp q1glf q1gtr q1glh q1gov) (fun rq4 q4gnC q4gbC q4gnL q4gbL q4gnF q4gbF q4glf q4gtr q4glh q4gov => if 0 ≤ rq4 then bd2 (FX2_setWord rq4 rq3 gM) (fun rq6 q6gM => some (1, q6gM, q4gnC, q4gbC, q4gnL, q4gbL, q4gnF, q4gbF, (va_up gE j (upd (gE j) 11 ((gE j 11) + 1))), q4glf, q4gtr, q4glh, q4gov)) else some (0, gM, q4gnC, q4gbC, q4gnL, q4gbL, q4gnF, q4gbF, gE, q4glf, q4gtr, q4glh, q4gov))) else some (0, gM, q1gnC, q1gbC, q1gnL, q1gbL, q1gnF, q1gbF, gE, q1glf, q1gtr, q1glh, q1gov))
def FX2_finishDescriptor (j : Nat) (x1 : Int32) (gM : Nat → Int32) (gnC : Int32) (gbC : Nat → Int32) (gnL : Int32) (gbL : Nat → Int32) (gnF : Int32) (gbF : Nat → Int32) (gE : Nat → Nat → Int32) (gtp : Int32) (glf : Int32) (gtr : Int32) (glh : Int32) (gov : Int32) : Option (Int32 × (Nat → Int32) × Int32 × (Nat → Int32) × Int32 × (Nat → Int32) × Int32 × (Nat → Int32) × (Nat → Nat → Int32) × Int32 × Int32 × Int32 × Int32) := bd1 (FX0_descriptorAddress (gE j)) (fun rq1 => bd11 (FX2_access x1 (rq1 + 3) 1 gM gnC gbC gnL gbL gnF gbF gtp glf gtr glh gov) (fun rq2 q2gnC q2gbC q2gnL q2gbL q2gnF q2gbF q2glf q2gtr q2glh q2gov => if 0 ≤ rq2 then bd2 (FX2_setWord rq2 ((gE j 10) ||| (1 : Int32)) gM) (fun rq4 q4gM => bd1 (FX0_goOn (gE j)) (fun q5ex => some (1, q4gM, q2gnC, q2gbC, q2gnL, q2gbL, q2gnF, q2gbF, (va_up gE j q5ex), q2glf, q2gtr, q2glh, q2gov))) else some (0, gM, q2gnC, q2gbC, q2gnL, q2gbL, q2gnF, q2gbF, gE, q2glf, q2gtr, q2glh, q2gov)))
def FX2_step_32 (x1 x2 : Int32) : Nat → (Nat → Int32) → Int32 → (Nat → Int32) → Int32 → (Nat → Int32) → Int32 → (Nat → Int32) → (Nat → Nat → Int32) → Int32 → Int32 → Int32 → Int32 → Int32 → Int32 → Option (Int32 × (Nat → Int32) × Int32 × (Nat → Int32) × Int32 × (Nat → Int32) × Int32 × (Nat → Int32) × (Nat → Nat → Int32) × Int32 × Int32 × Int32 × Int32)
  | 0, _, _, _, _, _, _, _, _, _, _, _, _, _, _ => none
  | n + 1, gM, gnC, gbC, gnL, gbL, gnF, gbF, gE, gtp, glf, gtr, glh, gov, v4 => if x2 ≤ v4 then some (v4, gM, gnC, gbC, gnL, gbL, gnF, gbF, gE, glf, gtr, glh, gov) else if (gE x1.toNatClampNeg 4) = 1 then if (gE x1.toNatClampNeg 6) = 0 then bd12 (FX2_takeDescriptor x1.toNatClampNeg x1 gM gnC gbC gnL gbL gnF gbF gE gtp glf gtr glh gov) (fun rq14 q14gnC q14gbC q14gnL q14gbL q14gnF q14gbF q14gE q14glf q14gtr q14glh q14gov => if rq14 = 0 then FX2_step_32 x1 x2 n gM q14gnC q14gbC q14gnL q14gbL q14gnF q14gbF (va_up q14gE x1.toNatClampNeg (upd (q14gE x1.toNatClampNeg) 4 2)) gtp q14glf q14gtr q14glh q14gov (v4 + 1) else FX2_step_32 x1 x2 n gM q14gnC q14gbC q14gnL q14gbL q14gnF q14gbF q14gE gtp q14glf q14gtr q14glh q14gov (v4 + 1)) else if (gE x1.toNatClampNeg 9) ≤ (gE x1.toNatClampNeg 11) then bd13 (FX2_finishDescriptor x1.toNatClampNeg x1 gM gnC gbC gnL gbL gnF gbF gE gtp glf gtr glh gov) (fun rq10 q10gM q10gnC q10gbC q10gnL q10gbL q10gnF q10gbF q10gE q10glf q10gtr q10glh q10gov => if rq10 = 0 then FX2_step_32 x1 x2 n q10gM q10gnC q10gbC q10gnL q10gbL q10gnF q10gbF (va_up q10gE x1.toNatClampNeg (upd (q10gE x1.toNatClampNeg) 4 2)) gtp q10glf q10gtr q10glh q10gov (v4 + 1) else FX2_step_32 x1 x2 n q10gM q10gnC q10gbC q10gnL q10gbL q10gnF q10gbF q10gE gtp q10glf q10gtr q10glh q10gov (v4 + 1)) else bd13 (FX2_copyWord x1.toNatClampNeg x1 gM gnC gbC gnL gbL gnF gbF gE gtp glf gtr glh gov) (fun rq12 q12gM q12gnC q12gbC q12gnL q12gbL q12gnF q12gbF q12gE q12glf q12gtr q12glh q12gov => if rq12 = 0 then FX2_step_32 x1 x2 n q12gM q12gnC q12gbC q12gnL q12gbL q12gnF q12gbF (va_up q12gE x1.toNatClampNeg (upd (q12gE x1.toNatClampNeg) 4 2)) gtp q12glf q12gtr q12glh q12gov (v4 + 1) else FX2_step_32 x1 x2 n q12gM q12gnC q12gbC q12gnL q12gbL q12gnF q12gbF q12gE gtp q12glf q12gtr q12glh q12gov (v4 + 1)) else some (v4, gM, gnC, gbC, gnL, gbL, gnF, gbF, gE, glf, gtr, glh, gov)
def FX2_step (x1 x2 : Int32) (gM : Nat → Int32) (gnC : Int32) (gbC : Nat → Int32) (gnL : Int32) (gbL : Nat → Int32) (gnF : Int32) (gbF : Nat → Int32) (gE : Nat → Nat → Int32) (gtp : Int32) (glf : Int32) (gtr : Int32) (glh : Int32) (gov : Int32) : Option (Int32 × (Nat → Int32) × Int32 × (Nat → Int32) × Int32 × (Nat → Int32) × Int32 × (Nat → Int32) × (Nat → Nat → Int32) × Int32 × Int32 × Int32 × Int32) := bd1 (FX2_isBelow x1 8) (fun rq1 => if rq1 = 0 then some ((-1), gM, gnC, gbC, gnL, gbL, gnF, gbF, gE, glf, gtr, glh, gov) else if x2 < 0 then some ((-1), gM, gnC, gbC, gnL, gbL, gnF, gbF, gE, glf, gtr, glh, gov) else if x2 ≤ 1000 then gd (inb x1 8) (FX2_step_32 x1 x2 fuel gM gnC gbC gnL gbL gnF gbF gE gtp glf gtr glh gov 0) else some ((-1), gM, gnC, gbC, gnL, gbL, gnF, gbF, gE, glf, gtr, glh, gov))
def FX2_resume (x1 : Int32) (gE : Nat → Nat → Int32) : Option (Int32 × (Nat → Nat → Int32)) := bd1 (FX2_isBelow x1 8) (fun rq1 => if rq1 = 0 then some ((-1), gE) else gd (inb x1 8) (if (gE x1.toNatClampNeg 4) = 2 then gd (inb x1 8) (if ((va_up gE x1.toNatClampNeg (upd (gE x1.toNatClampNeg) 6 0)) x1.toNatClampNeg 2) = ((va_up gE x1.toNatClampNeg (upd (gE x1.toNatClampNeg) 6 0)) x1.toNatClampNeg 3) then some (((va_up (va_up gE x1.toNatClampNeg (upd (gE x1.toNatClampNeg) 6 0)) x1.toNatClampNeg (upd ((va_up gE x1.toNatClampNeg (upd (gE x1.toNatClampNeg) 6 0)) x1.toNatClampNeg) 4 0)) x1.toNatClampNeg 4), (va_up (va_up gE x1.toNatClampNeg (upd (gE x1.toNatClampNeg) 6 0)) x1.toNatClampNeg (upd ((va_up gE x1.toNatClampNeg (upd (gE x1.toNatClampNeg) 6 0)) x1.toNatClampNeg) 4 0))) else some (((va_up (va_up gE x1.toNatClampNeg (upd (gE x1.toNatClampNeg) 6 0)) x1.toNatClampNeg (upd ((va_up gE x1.toNatClampNeg (upd (gE x1.toNatClampNeg) 6 0)) x1.toNatClampNeg) 4 1)) x1.toNatClampNeg 4), (va_up (va_up gE x1.toNatClampNeg (upd (gE x1.toNatClampNeg) 6 0)) x1.toNatClampNeg (upd ((va_up gE x1.toNatClampNeg (upd (gE x1.toNatClampNeg) 6 0)) x1.toNatClampNeg) 4 1)))) else some ((-1), gE)))
def FX2_engine (x1 x2 : Int32) (gE : Nat → Nat → Int32) : Option (Int32) := bd1 (FX2_isBelow x1 8) (fun rq1 => if rq1 = 0 then some (-1) else gd (inb x1 8) (if x2 = 0 then some (gE x1.toNatClampNeg 4) else if x2 = 1 then some (gE x1.toNatClampNeg 2) else if x2 = 2 then some (gE x1.toNatClampNeg 3) else if x2 = 3 then some (gE x1.toNatClampNeg 5) else if x2 = 4 then if (gE x1.toNatClampNeg 6) = 0 then some (-1) else some (gE x1.toNatClampNeg 11) else some (-1)))
theorem lkX2_ring_k80 : Cond.constant RX2 80 1048576 ∈ wsX2_ring := by decide +kernel
theorem lkX2_ring_33 : Cond.fieldLink RX2 33 (TX2 5).1 (TX2 5).2.1 (TX2 5).2.2.1 ∈ wsX2_ring := by decide +kernel
theorem inX2_ring_X2 : ∀ w ∈ u_ws RX2 TX2 11, w ∈ wsX2_ring := by decide +kernel
theorem hdyX2_ring : yX2_ring.cls = RX2 ∧ yX2_ring.cls ≠ "java/lang/invoke/MethodHandle" ∧ yX2_ring.cls ≠ "java/lang/invoke/VarHandle" ∧ (parseMethodDescriptor yX2_ring.desc).map (fun d => d.parameters.length) = some 3 := by decide +kernel
set_option maxHeartbeats 4000000 in
set_option maxRecDepth 100000 in
theorem ctX2_ring (l : Launch) (D : va_G) (a : Nat → Nat) (k : Nat → ClassId) (gM : Nat → Int32) (gnC : Int32) (gbC : Nat → Int32) (gnL : Int32) (gbL : Nat → Int32) (gnF : Int32) (gbF : Nat → Int32) (gnQ : Int32) (gbQ : Nat → Int32) (gE : Nat → Nat → Int32) (gtp : Int32) (glf : Int32) (gtr : Int32) (glh : Int32) (gov : Int32) (x1 x2 x3 : Int32) (r : Int32) (ogE : Nat → Nat → Int32) (hF : FX2_ring x1 x2 x3 gE = some (r, ogE)) : ji l yX2_ring wsX2_ring { frames := 1, cells := 0, slots := 0, locals := 22 } D (gt k) [.ref (a 0), .int x1, .int x2, .int x3] (gw a k gM gnC gbC gnL gbL gnF gbF gnQ gbQ gE gtp glf gtr glh gov) (gw a k gM gnC gbC gnL gbL gnF gbF gnQ gbQ ogE gtp glf gtr glh gov) r := by
  refine j_mi (cc := cX2_ring) (maxL := 4) (own := RX2) (ret := (some .boolean)) (by decide) rfl rfl (Nat.le_of_ble_eq_true rfl) ?_
  intro p e s m args below meth c A C K hr hlk
  unfold FX2_ring at hF
  refine j_iload_n (pc := 0) C 1 dX2_ring_0 rfl rfl ?_
  refine j_bipush (pc := 1) (v := 8) C dX2_ring_1 (by decide) ?_
  obtain ⟨rq1, hq1, hF⟩ := bd1_some hF
  refine j_callSi (pc := 3) (As := [.int x1, .int 8]) (rest := []) (ws' := (gw a k gM gnC gbC gnL gbL gnF gbF gnQ gbQ gE gtp glf gtr glh gov)) C K (ctX2_isBelow l D  _ _ _ hq1) gX2_ring_X2_isBelow rfl rfl rfl hdyX2_isBelow ⟨Nat.le_of_ble_eq_true rfl, Nat.le_of_ble_eq_true rfl⟩ [] rfl rfl jsp0 [] rfl rfl (Nat.le_of_ble_eq_true rfl) dX2_ring_3 ⟨Nat.zero_le _, Nat.zero_le _⟩ ?_
  refine j_if_eq (pc := 6) (tgt := 35) C dX2_ring_6 (by decide) (fun c2 => ?_) (fun c2 => ?_)
  · replace hF := ifp hF c2
    refine j_iconst (pc := 35) (v := 0) C dX2_ring_35 (by decide) ?_
    cases hF
    exact j_zret (pc := 36) C K hr hlk rfl dX2_ring_36
  · replace hF := ifn hF c2
    refine j_iload_n (pc := 9) C 2 dX2_ring_9 rfl rfl ?_
    refine j_ldc (pc := 10) (v := 1048576) C lkX2_ring_k80 dX2_ring_10 ?_
    obtain ⟨rq3, hq3, hF⟩ := bd1_some hF
    refine j_callSi (pc := 12) (As := [.int x2, .int 1048576]) (rest := []) (ws' := (gw a k gM gnC gbC gnL gbL gnF gbF gnQ gbQ gE gtp glf gtr glh gov)) C K (ctX2_isBelow l D  _ _ _ hq3) gX2_ring_X2_isBelow rfl rfl rfl hdyX2_isBelow ⟨Nat.le_of_ble_eq_true rfl, Nat.le_of_ble_eq_true rfl⟩ [] rfl rfl jsp0 [] rfl rfl (Nat.le_of_ble_eq_true rfl) dX2_ring_12 ⟨Nat.zero_le _, Nat.zero_le _⟩ ?_
    refine j_if_eq (pc := 15) (tgt := 35) C dX2_ring_15 (by decide) (fun c4 => ?_) (fun c4 => ?_)
    · replace hF := ifp hF c4
      refine j_iconst (pc := 35) (v := 0) C dX2_ring_35 (by decide) ?_
      cases hF
      exact j_zret (pc := 36) C K hr hlk rfl dX2_ring_36
    · replace hF := ifn hF c4
      refine j_iload_n (pc := 18) C 2 dX2_ring_18 rfl rfl ?_
      refine j_iconst (pc := 19) (v := 3) C dX2_ring_19 (by decide) ?_
      refine j_iand (pc := 20) C dX2_ring_20 ?_
      refine j_if_ne (pc := 21) (tgt := 35) C dX2_ring_21 (by decide) (fun c5 => ?_) (fun c5 => ?_)
      · replace hF := ifn hF c5
        refine j_iconst (pc := 35) (v := 0) C dX2_ring_35 (by decide) ?_
        cases hF
        exact j_zret (pc := 36) C K hr hlk rfl dX2_ring_36
      · replace hF := ifp hF c5
        refine j_iload_n (pc := 24) C 3 dX2_ring_24 rfl rfl ?_
        refine j_iconst (pc := 25) (v := 1) C dX2_ring_25 (by decide) ?_
        refine j_icmp_lt (pc := 26) (tgt := 35) C dX2_ring_26 (by decide) (fun c6 => ?_) (fun c6 => ?_)
        · replace hF := ifp hF c6
          refine j_iconst (pc := 35) (v := 0) C dX2_ring_35 (by decide) ?_
          cases hF
          exact j_zret (pc := 36) C K hr hlk rfl dX2_ring_36
        · replace hF := ifn hF c6
          refine j_iload_n (pc := 29) C 3 dX2_ring_29 rfl rfl ?_
          refine j_bipush (pc := 30) (v := 64) C dX2_ring_30 (by decide) ?_
          refine j_icmp_le (pc := 32) (tgt := 37) C dX2_ring_32 (by decide) (fun c7 => ?_) (fun c7 => ?_)
          · replace hF := ifp hF c7
            refine j_aload_n (pc := 37) C 0 dX2_ring_37 rfl rfl ?_
            refine j_get (pc := 38) (v := .ref (a 10)) C K inX2_ring_X2 0 rfl rfl 5 (by decide) lkX2_ring_33 rfl dX2_ring_38 ?_
            refine j_iload_n (pc := 41) C 1 dX2_ring_41 rfl rfl ?_
            obtain ⟨g8, hF⟩ := gd_some hF
            have g8j : x1.toNatClampNeg < 8 := inb_lt g8
            refine j_aald (pc := 42) (b := a (11 + x1.toNatClampNeg)) C K 10 5 rfl rfl g8 rfl dX2_ring_42 ?_
            refine j_iload_n (pc := 43) C 2 dX2_ring_43 rfl rfl ?_
            refine j_iload_n (pc := 44) C 3 dX2_ring_44 rfl rfl ?_
            obtain ⟨q9ex, hq9, hF⟩ := bd1_some hF
            refine j_callVv (pc := 45) (As := [.int x2, .int x3]) (rest := []) (ws' := (gw a k gM gnC gbC gnL gbL gnF gbF gnQ gbQ (va_up gE x1.toNatClampNeg q9ex) gtp glf gtr glh gov)) C K (ci := 0) (q0 := 0) rfl rfl rfl (ctX0_begin l D (a (11 + x1.toNatClampNeg)) _ _ _ _ hq9) gX2_ring_X0_begin rfl rfl rfl hdyX0_begin ⟨Nat.le_of_ble_eq_true rfl, Nat.le_of_ble_eq_true rfl⟩ [11 + x1.toNatClampNeg] (map1 (gwE g8j)) (nd1 _) (jsp_eq (jsp1 (gwl g8j)) (gw_setE g8j)) [] rfl rfl (Nat.le_of_ble_eq_true rfl) dX2_ring_45 ⟨Nat.zero_le _, Nat.zero_le _⟩ ?_
            refine j_iconst (pc := 48) (v := 1) C dX2_ring_48 (by decide) ?_
            cases hF
            exact j_zret (pc := 49) C K hr hlk rfl dX2_ring_49
          · replace hF := ifn hF c7
            refine j_iconst (pc := 35) (v := 0) C dX2_ring_35 (by decide) ?_
            cases hF
            exact j_zret (pc := 36) C K hr hlk rfl dX2_ring_36
theorem lkX2_tail_33 : Cond.fieldLink RX2 33 (TX2 5).1 (TX2 5).2.1 (TX2 5).2.2.1 ∈ wsX2_tail := by decide +kernel
theorem inX2_tail_X0 : ∀ w ∈ u_ws RX0 TX0 12, w ∈ wsX2_tail := by decide +kernel
theorem inX2_tail_X2 : ∀ w ∈ u_ws RX2 TX2 11, w ∈ wsX2_tail := by decide +kernel
theorem hdyX2_tail : yX2_tail.cls = RX2 ∧ yX2_tail.cls ≠ "java/lang/invoke/MethodHandle" ∧ yX2_tail.cls ≠ "java/lang/invoke/VarHandle" ∧ (parseMethodDescriptor yX2_tail.desc).map (fun d => d.parameters.length) = some 2 := by decide +kernel
set_option maxHeartbeats 4000000 in
set_option maxRecDepth 100000 in
theorem ctX2_tail (l : Launch) (D : va_G) (a : Nat → Nat) (k : Nat → ClassId) (gM : Nat → Int32) (gnC : Int32) (gbC : Nat → Int32) (gnL : Int32) (gbL : Nat → Int32) (gnF : Int32) (gbF : Nat → Int32) (gnQ : Int32) (gbQ : Nat → Int32) (gE : Nat → Nat → Int32) (gtp : Int32) (glf : Int32) (gtr : Int32) (glh : Int32) (gov : Int32) (x1 x2 : Int32) (r : Int32) (ogE : Nat → Nat → Int32) (hF : FX2_tail x1 x2 gE = some (r, ogE)) : ji l yX2_tail wsX2_tail { frames := 1, cells := 0, slots := 0, locals := 21 } D (gt k) [.ref (a 0), .int x1, .int x2] (gw a k gM gnC gbC gnL gbL gnF gbF gnQ gbQ gE gtp glf gtr glh gov) (gw a k gM gnC gbC gnL gbL gnF gbF gnQ gbQ ogE gtp glf gtr glh gov) r := by
  refine j_mi (cc := cX2_tail) (maxL := 4) (own := RX2) (ret := (some .int)) (by decide) rfl rfl (Nat.le_of_ble_eq_true rfl) ?_
  intro p e s m args below meth c A C K hr hlk
  unfold FX2_tail at hF
  refine j_iload_n (pc := 0) C 1 dX2_tail_0 rfl rfl ?_
  refine j_bipush (pc := 1) (v := 8) C dX2_tail_1 (by decide) ?_
  obtain ⟨rq1, hq1, hF⟩ := bd1_some hF
  refine j_callSi (pc := 3) (As := [.int x1, .int 8]) (rest := []) (ws' := (gw a k gM gnC gbC gnL gbL gnF gbF gnQ gbQ gE gtp glf gtr glh gov)) C K (ctX2_isBelow l D  _ _ _ hq1) gX2_tail_X2_isBelow rfl rfl rfl hdyX2_isBelow ⟨Nat.le_of_ble_eq_true rfl, Nat.le_of_ble_eq_true rfl⟩ [] rfl rfl jsp0 [] rfl rfl (Nat.le_of_ble_eq_true rfl) dX2_tail_3 ⟨Nat.zero_le _, Nat.zero_le _⟩ ?_
  refine j_if_eq (pc := 6) (tgt := 25) C dX2_tail_6 (by decide) (fun c2 => ?_) (fun c2 => ?_)
  · replace hF := ifp hF c2
    refine j_iconst (pc := 25) (v := (-1)) C dX2_tail_25 (by decide) ?_
    cases hF
    exact j_iret (pc := 26) C K hr hlk dX2_tail_26
  · replace hF := ifn hF c2
    refine j_iload_n (pc := 9) C 2 dX2_tail_9 rfl rfl ?_
    refine j_aload_n (pc := 10) C 0 dX2_tail_10 rfl rfl ?_
    refine j_get (pc := 11) (v := .ref (a 10)) C K inX2_tail_X2 0 rfl rfl 5 (by decide) lkX2_tail_33 rfl dX2_tail_11 ?_
    refine j_iload_n (pc := 14) C 1 dX2_tail_14 rfl rfl ?_
    obtain ⟨g3, hF⟩ := gd_some hF
    have g3j : x1.toNatClampNeg < 8 := inb_lt g3
    refine j_aald (pc := 15) (b := a (11 + x1.toNatClampNeg)) C K 10 5 rfl rfl g3 rfl dX2_tail_15 ?_
    refine j_getN (pc := 16) (v := .int (gE x1.toNatClampNeg 1)) C K inX2_tail_X0 (11 + x1.toNatClampNeg) (gwE g3j) rfl 1 (by decide) lkN_84 rfl dX2_tail_16 ?_
    obtain ⟨rq4, hq4, hF⟩ := bd1_some hF
    refine j_callSi (pc := 19) (As := [.int x2, .int (gE x1.toNatClampNeg 1)]) (rest := []) (ws' := (gw a k gM gnC gbC gnL gbL gnF gbF gnQ gbQ gE gtp glf gtr glh gov)) C K (ctX2_isBelow l D  _ _ _ hq4) gX2_tail_X2_isBelow rfl rfl rfl hdyX2_isBelow ⟨Nat.le_of_ble_eq_true rfl, Nat.le_of_ble_eq_true rfl⟩ [] rfl rfl jsp0 [] rfl rfl (Nat.le_of_ble_eq_true rfl) dX2_tail_19 ⟨Nat.zero_le _, Nat.zero_le _⟩ ?_
    refine j_if_ne (pc := 22) (tgt := 27) C dX2_tail_22 (by decide) (fun c5 => ?_) (fun c5 => ?_)
    · replace hF := ifn hF c5
      refine j_aload_n (pc := 27) C 0 dX2_tail_27 rfl rfl ?_
      refine j_get (pc := 28) (v := .ref (a 10)) C K inX2_tail_X2 0 rfl rfl 5 (by decide) lkX2_tail_33 rfl dX2_tail_28 ?_
      refine j_iload_n (pc := 31) C 1 dX2_tail_31 rfl rfl ?_
      obtain ⟨g6, hF⟩ := gd_some hF
      have g6j : x1.toNatClampNeg < 8 := inb_lt g6
      refine j_aald (pc := 32) (b := a (11 + x1.toNatClampNeg)) C K 10 5 rfl rfl g6 rfl dX2_tail_32 ?_
      refine j_astore_n (pc := 33) (lv' := [(3, .ref (a (11 + x1.toNatClampNeg))), (0, .ref (a 0)), (1, .int x1), (2, .int x2)]) C dX2_tail_33 rfl (by decide) rfl ?_
      refine j_aload_n (pc := 34) C 0 dX2_tail_34 rfl rfl ?_
      refine j_iload_n (pc := 35) C 3 dX2_tail_35 rfl rfl ?_
      refine j_putN (pc := 36) (ws' := (gw a k gM gnC gbC gnL gbL gnF gbF gnQ gbQ (va_up gE x1.toNatClampNeg (upd (gE x1.toNatClampNeg) 3 x2)) gtp glf gtr glh gov)) C K inX2_tail_X0 tyX0 tyX0_ok nmX0 (11 + x1.toNatClampNeg) (gwE g6j) rfl 3 (by decide) lkN_87 rfl (tyX0_ok 3 (by decide)) rfl rfl (Nat.le_of_ble_eq_true rfl) (gw_setE (x := upd (gE x1.toNatClampNeg) 3 x2) g6j) dX2_tail_36 ?_
      refine j_aload_n (pc := 39) C 0 dX2_tail_39 rfl rfl ?_
      refine j_getN (pc := 40) (v := .int ((va_up gE x1.toNatClampNeg (upd (gE x1.toNatClampNeg) 3 x2)) x1.toNatClampNeg 4)) C K inX2_tail_X0 (11 + x1.toNatClampNeg) (gwE g6j) rfl 4 (by decide) lkN_90 rfl dX2_tail_40 ?_
      refine j_if_ne (pc := 43) (tgt := 62) C dX2_tail_43 (by decide) (fun c7 => ?_) (fun c7 => ?_)
      · replace hF := ifn hF c7
        refine j_aload_n (pc := 62) C 0 dX2_tail_62 rfl rfl ?_
        refine j_getN (pc := 63) (v := .int ((va_up gE x1.toNatClampNeg (upd (gE x1.toNatClampNeg) 3 x2)) x1.toNatClampNeg 4)) C K inX2_tail_X0 (11 + x1.toNatClampNeg) (gwE g6j) rfl 4 (by decide) lkN_90 rfl dX2_tail_63 ?_
        cases hF
        exact j_iret (pc := 66) C K hr hlk dX2_tail_66
      · replace hF := ifp hF c7
        refine j_aload_n (pc := 46) C 0 dX2_tail_46 rfl rfl ?_
        refine j_getN (pc := 47) (v := .int ((va_up gE x1.toNatClampNeg (upd (gE x1.toNatClampNeg) 3 x2)) x1.toNatClampNeg 3)) C K inX2_tail_X0 (11 + x1.toNatClampNeg) (gwE g6j) rfl 3 (by decide) lkN_87 rfl dX2_tail_47 ?_
        refine j_aload_n (pc := 50) C 0 dX2_tail_50 rfl rfl ?_
        refine j_getN (pc := 51) (v := .int ((va_up gE x1.toNatClampNeg (upd (gE x1.toNatClampNeg) 3 x2)) x1.toNatClampNeg 2)) C K inX2_tail_X0 (11 + x1.toNatClampNeg) (gwE g6j) rfl 2 (by decide) lkN_93 rfl dX2_tail_51 ?_
        refine j_icmp_eq (pc := 54) (tgt := 62) C dX2_tail_54 (by decide) (fun c8 => ?_) (fun c8 => ?_)
        · replace hF := ifp hF c8
          refine j_aload_n (pc := 62) C 0 dX2_tail_62 rfl rfl ?_
          refine j_getN (pc := 63) (v := .int ((va_up gE x1.toNatClampNeg (upd (gE x1.toNatClampNeg) 3 x2)) x1.toNatClampNeg 4)) C K inX2_tail_X0 (11 + x1.toNatClampNeg) (gwE g6j) rfl 4 (by decide) lkN_90 rfl dX2_tail_63 ?_
          cases hF
          exact j_iret (pc := 66) C K hr hlk dX2_tail_66
        · replace hF := ifn hF c8
          refine j_aload_n (pc := 57) C 0 dX2_tail_57 rfl rfl ?_
          refine j_iconst (pc := 58) (v := 1) C dX2_tail_58 (by decide) ?_
          refine j_putN (pc := 59) (ws' := (gw a k gM gnC gbC gnL gbL gnF gbF gnQ gbQ (va_up (va_up gE x1.toNatClampNeg (upd (gE x1.toNatClampNeg) 3 x2)) x1.toNatClampNeg (upd ((va_up gE x1.toNatClampNeg (upd (gE x1.toNatClampNeg) 3 x2)) x1.toNatClampNeg) 4 1)) gtp glf gtr glh gov)) C K inX2_tail_X0 tyX0 tyX0_ok nmX0 (11 + x1.toNatClampNeg) (gwE g6j) rfl 4 (by decide) lkN_90 rfl (tyX0_ok 4 (by decide)) rfl rfl (Nat.le_of_ble_eq_true rfl) (gw_setE (x := upd ((va_up gE x1.toNatClampNeg (upd (gE x1.toNatClampNeg) 3 x2)) x1.toNatClampNeg) 4 1) g6j) dX2_tail_59 ?_
          refine j_aload_n (pc := 62) C 0 dX2_tail_62 rfl rfl ?_
          refine j_getN (pc := 63) (v := .int ((va_up (va_up gE x1.toNatClampNeg (upd (gE x1.toNatClampNeg) 3 x2)) x1.toNatClampNeg (upd ((va_up gE x1.toNatClampNeg (upd (gE x1.toNatClampNeg) 3 x2)) x1.toNatClampNeg) 4 1)) x1.toNatClampNeg 4)) C K inX2_tail_X0 (11 + x1.toNatClampNeg) (gwE g6j) rfl 4 (by decide) lkN_90 rfl dX2_tail_63 ?_
          cases hF
          exact j_iret (pc := 66) C K hr hlk dX2_tail_66
    · replace hF := ifp hF c5
      refine j_iconst (pc := 25) (v := (-1)) C dX2_tail_25 (by decide) ?_
      cases hF
      exact j_iret (pc := 26) C K hr hlk dX2_tail_26
theorem inX2_takeDescriptor_X0 : ∀ w ∈ u_ws RX0 TX0 12, w ∈ wsX2_takeDescriptor := by decide +kernel
theorem hdyX2_takeDescriptor : yX2_takeDescriptor.cls = RX2 ∧ yX2_takeDescriptor.cls ≠ "java/lang/invoke/MethodHandle" ∧ yX2_takeDescriptor.cls ≠ "java/lang/invoke/VarHandle" ∧ (parseMethodDescriptor yX2_takeDescriptor.desc).map (fun d => d.parameters.length) = some 2 := by decide +kernel
set_option maxHeartbeats 4000000 in
set_option maxRecDepth 100000 in
theorem ctX2_takeDescriptor (l : Launch) (D : va_G) (a : Nat → Nat) (k : Nat → ClassId) (j : Nat) (gM : Nat → Int32) (gnC : Int32) (gbC : Nat → Int32) (gnL : Int32) (gbL : Nat → Int32) (gnF : Int32) (gbF : Nat → Int32) (gnQ : Int32) (gbQ : Nat → Int32) (gE : Nat → Nat → Int32) (gtp : Int32) (glf : Int32) (gtr : Int32) (glh : Int32) (gov : Int32) (x1 : Int32) (r : Int32) (ognC : Int32) (ogbC : Nat → Int32) (ognL : Int32) (ogbL : Nat → Int32) (ognF : Int32) (ogbF : Nat → Int32) (ogE : Nat → Nat → Int32) (oglf : Int32) (ogtr : Int32) (oglh : Int32) (ogov : Int32) (hj : j < 8) (hF : FX2_takeDescriptor j x1 gM gnC gbC gnL gbL gnF gbF gE gtp glf gtr glh gov = some (r, ognC, ogbC, ognL, ogbL, ognF, ogbF, ogE, oglf, ogtr, oglh, ogov)) : ji l yX2_takeDescriptor wsX2_takeDescriptor { frames := 6, cells := 0, slots := 0, locals := 145 } D (gt k) [.ref (a 0), .int x1, .ref (a (11 + j))] (gw a k gM gnC gbC gnL gbL gnF gbF gnQ gbQ gE gtp glf gtr glh gov) (gw a k gM ognC ogbC ognL ogbL ognF ogbF gnQ gbQ ogE gtp oglf ogtr oglh ogov) r := by
  refine j_mi (cc := cX2_takeDescriptor) (maxL := 5) (own := RX2) (ret := (some .boolean)) (by decide) rfl rfl (Nat.le_of_ble_eq_true rfl) ?_
  intro p e s m args below meth c A C K hr hlk
  unfold FX2_takeDescriptor at hF
  refine j_iconst (pc := 0) (v := 0) C dX2_takeDescriptor_0 (by decide) ?_
  refine j_istore_n (pc := 1) (lv' := [(3, .int 0), (0, .ref (a 0)), (1, .int x1), (2, .ref (a (11 + j)))]) C dX2_takeDescriptor_1 rfl (by decide) rfl ?_
  refine j_iload_n (pc := 2) C 0 dX2_takeDescriptor_2 rfl rfl ?_
  refine j_iconst (pc := 3) (v := 4) C dX2_takeDescriptor_3 (by decide) ?_
  refine j_icmp_ge (pc := 4) (tgt := 45) C dX2_takeDescriptor_4 (by decide) (fun h => absurd h (by decide)) (fun _ => ?_)
  refine j_aload_n (pc := 7) C 1 dX2_takeDescriptor_7 rfl rfl ?_
  refine j_iload_n (pc := 8) C 2 dX2_takeDescriptor_8 rfl rfl ?_
  refine j_aload_n (pc := 9) C 3 dX2_takeDescriptor_9 rfl rfl ?_
  obtain ⟨rq1, hq1, hF⟩ := bd1_some hF
  refine j_callVi (pc := 10) (As := []) (rest := [.int x1, .ref (a 0)]) (ws' := (gw a k gM gnC gbC gnL gbL gnF gbF gnQ gbQ gE gtp glf gtr glh gov)) C K (ci := 0) (q0 := 0) rfl rfl rfl (ctX0_descriptorAddress l D (a (11 + j)) _ _ hq1) gX2_takeDescriptor_X0_descriptorAddress rfl rfl rfl hdyX0_descriptorAddress ⟨Nat.le_of_ble_eq_true rfl, Nat.le_of_ble_eq_true rfl⟩ [11 + j] (map1 (gwE hj)) (nd1 _) (jsp_eq (jsp1 (gwl hj)) (gw_same hj)) [] rfl rfl (Nat.le_of_ble_eq_true rfl) dX2_takeDescriptor_10 ⟨Nat.zero_le _, Nat.zero_le _⟩ ?_
  refine j_iload_n (pc := 13) C 0 dX2_takeDescriptor_13 rfl rfl ?_
  refine j_iadd (pc := 14) C dX2_takeDescriptor_14 ?_
  refine j_iconst (pc := 15) (v := 0) C dX2_takeDescriptor_15 (by decide) ?_
  obtain ⟨rq2, q2gnC, q2gbC, q2gnL, q2gbL, q2gnF, q2gbF, q2glf, q2gtr, q2glh, q2gov, hq2, hF⟩ := bd11_some hF
  refine j_callVi (pc := 16) (As := [.int x1, .int (rq1 + 0), .int 0]) (rest := []) (ws' := (gw a k gM q2gnC q2gbC q2gnL q2gbL q2gnF q2gbF gnQ gbQ gE gtp q2glf q2gtr q2glh q2gov)) C K (ci := 2) (q0 := 0) rfl rfl rfl (ctX2_access l D a k _ _ _ _ _ _ _ _ _ _ _ _ _ _ _ _ _ _ _ _ _ _ _ _ _ _ _ _ _ hq2) gX2_takeDescriptor_X2_access rfl rfl rfl hdyX2_access ⟨Nat.le_of_ble_eq_true rfl, Nat.le_of_ble_eq_true rfl⟩ (List.range 19) (jrange _) (by decide) (jspF rfl) [0, 1, 2, 3, 4, 5] rfl rfl (Nat.le_of_ble_eq_true rfl) dX2_takeDescriptor_16 ⟨Nat.zero_le _, Nat.zero_le _⟩ ?_
  refine j_istore (pc := 19) (lv' := [(4, .int rq2), (3, .int 0), (0, .ref (a 0)), (1, .int x1), (2, .ref (a (11 + j)))]) C dX2_takeDescriptor_19 (by decide) rfl ?_
  refine j_iload (pc := 21) C 0 dX2_takeDescriptor_21 rfl ?_
  refine j_if_ge (pc := 23) (tgt := 28) C dX2_takeDescriptor_23 (by decide) (fun c3 => ?_) (fun c3 => ?_)
  · replace hF := ifp hF c3
    refine j_aload_n (pc := 28) C 4 dX2_takeDescriptor_28 rfl rfl ?_
    refine j_iload_n (pc := 29) C 1 dX2_takeDescriptor_29 rfl rfl ?_
    refine j_aload_n (pc := 30) C 2 dX2_takeDescriptor_30 rfl rfl ?_
    refine j_iload (pc := 31) C 0 dX2_takeDescriptor_31 rfl ?_
    obtain ⟨rq4, hq4, hF⟩ := bd1_some hF
    refine j_callVi (pc := 33) (As := [.int rq2]) (rest := [.int 0, .ref (a (11 + j))]) (ws' := (gw a k gM q2gnC q2gbC q2gnL q2gbL q2gnF q2gbF gnQ gbQ gE gtp q2glf q2gtr q2glh q2gov)) C K (ci := 2) (q0 := 0) rfl rfl rfl (ctX2_wordAt l D a k _ _ _ _ _ _ _ _ _ _ _ _ _ _ _ _ _ hq4) gX2_takeDescriptor_X2_wordAt rfl rfl rfl hdyX2_wordAt ⟨Nat.le_of_ble_eq_true rfl, Nat.le_of_ble_eq_true rfl⟩ (List.range 19) (jrange _) (by decide) (jspF rfl) [0, 1, 2, 3, 4, 5] rfl rfl (Nat.le_of_ble_eq_true rfl) dX2_takeDescriptor_33 ⟨Nat.zero_le _, Nat.zero_le _⟩ ?_
    obtain ⟨q5ex, hq5, hF⟩ := bd1_some hF
    refine j_callVv (pc := 36) (As := [.int 0, .int rq4]) (rest := []) (ws' := (gw a k gM q2gnC q2gbC q2gnL q2gbL q2gnF q2gbF gnQ gbQ (va_up gE j q5ex) gtp q2glf q2gtr q2glh q2gov)) C K (ci := 0) (q0 := 0) rfl rfl rfl (ctX0_take l D (a (11 + j)) _ _ _ _ hq5) gX2_takeDescriptor_X0_take rfl rfl rfl hdyX0_take ⟨Nat.le_of_ble_eq_true rfl, Nat.le_of_ble_eq_true rfl⟩ [11 + j] (map1 (gwE hj)) (nd1 _) (jsp_eq (jsp1 (gwl hj)) (gw_setE hj)) [] rfl rfl (Nat.le_of_ble_eq_true rfl) dX2_takeDescriptor_36 ⟨Nat.zero_le _, Nat.zero_le _⟩ ?_
    refine j_iinc (pc := 39) (v := 1) (lv' := [(3, .int 1), (4, .int rq2), (0, .ref (a 0)), (1, .int x1), (2, .ref (a (11 + j)))]) C 1 dX2_takeDescriptor_39 rfl (by decide) (by decide) rfl ?_
    refine j_goto (pc := 42) (tgt := 2) C dX2_takeDescriptor_42 (by decide) ?_
    refine j_iload_n (pc := 2) C 0 dX2_takeDescriptor_2 rfl rfl ?_
    refine j_iconst (pc := 3) (v := 4) C dX2_takeDescriptor_3 (by decide) ?_
    refine j_icmp_ge (pc := 4) (tgt := 45) C dX2_takeDescriptor_4 (by decide) (fun h => absurd h (by decide)) (fun _ => ?_)
    refine j_aload_n (pc := 7) C 2 dX2_takeDescriptor_7 rfl rfl ?_
    refine j_iload_n (pc := 8) C 3 dX2_takeDescriptor_8 rfl rfl ?_
    refine j_aload_n (pc := 9) C 4 dX2_takeDescriptor_9 rfl rfl ?_
    obtain ⟨rq6, hq6, hF⟩ := bd1_some hF
    refine j_callVi (pc := 10) (As := []) (rest := [.int x1, .ref (a 0)]) (ws' := (gw a k gM q2gnC q2gbC q2gnL q2gbL q2gnF q2gbF gnQ gbQ (va_up gE j q5ex) gtp q2glf q2gtr q2glh q2gov)) C K (ci := 0) (q0 := 0) rfl rfl rfl (ctX0_descriptorAddress l D (a (11 + j)) _ _ hq6) gX2_takeDescriptor_X0_descriptorAddress rfl rfl rfl hdyX0_descriptorAddress ⟨Nat.le_of_ble_eq_true rfl, Nat.le_of_ble_eq_true rfl⟩ [11 + j] (map1 (gwE hj)) (nd1 _) (jsp_eq (jsp1 (gwl hj)) (gw_same hj)) [] rfl rfl (Nat.le_of_ble_eq_true rfl) dX2_takeDescriptor_10 ⟨Nat.zero_le _, Nat.zero_le _⟩ ?_
    refine j_iload_n (pc := 13) C 0 dX2_takeDescriptor_13 rfl rfl ?_
    refine j_iadd (pc := 14) C dX2_takeDescriptor_14 ?_
    refine j_iconst (pc := 15) (v := 0) C dX2_takeDescriptor_15 (by decide) ?_
    obtain ⟨rq7, q7gnC, q7gbC, q7gnL, q7gbL, q7gnF, q7gbF, q7glf, q7gtr, q7glh, q7gov, hq7, hF⟩ := bd11_some hF
    refine j_callVi (pc := 16) (As := [.int x1, .int (rq6 + 1), .int 0]) (rest := []) (ws' := (gw a k gM q7gnC q7gbC q7gnL q7gbL q7gnF q7gbF gnQ gbQ (va_up gE j q5ex) gtp q7glf q7gtr q7glh q7gov)) C K (ci := 2) (q0 := 0) rfl rfl rfl (ctX2_access l D a k _ _ _ _ _ _ _ _ _ _ _ _ _ _ _ _ _ _ _ _ _ _ _ _ _ _ _ _ _ hq7) gX2_takeDescriptor_X2_access rfl rfl rfl hdyX2_access ⟨Nat.le_of_ble_eq_true rfl, Nat.le_of_ble_eq_true rfl⟩ (List.range 19) (jrange _) (by decide) (jspF rfl) [0, 1, 2, 3, 4, 5] rfl rfl (Nat.le_of_ble_eq_true rfl) dX2_takeDescriptor_16 ⟨Nat.zero_le _, Nat.zero_le _⟩ ?_
    refine j_istore (pc := 19) (lv' := [(4, .int rq7), (3, .int 1), (0, .ref (a 0)), (1, .int x1), (2, .ref (a (11 + j)))]) C dX2_takeDescriptor_19 (by decide) rfl ?_
    refine j_iload (pc := 21) C 0 dX2_takeDescriptor_21 rfl ?_
    refine j_if_ge (pc := 23) (tgt := 28) C dX2_takeDescriptor_23 (by decide) (fun c8 => ?_) (fun c8 => ?_)
    · replace hF := ifp hF c8
      refine j_aload_n (pc := 28) C 4 dX2_takeDescriptor_28 rfl rfl ?_
      refine j_iload_n (pc := 29) C 1 dX2_takeDescriptor_29 rfl rfl ?_
      refine j_aload_n (pc := 30) C 2 dX2_takeDescriptor_30 rfl rfl ?_
      refine j_iload (pc := 31) C 0 dX2_takeDescriptor_31 rfl ?_
      obtain ⟨rq9, hq9, hF⟩ := bd1_some hF
      refine j_callVi (pc := 33) (As := [.int rq7]) (rest := [.int 1, .ref (a (11 + j))]) (ws' := (gw a k gM q7gnC q7gbC q7gnL q7gbL q7gnF q7gbF gnQ gbQ (va_up gE j q5ex) gtp q7glf q7gtr q7glh q7gov)) C K (ci := 2) (q0 := 0) rfl rfl rfl (ctX2_wordAt l D a k _ _ _ _ _ _ _ _ _ _ _ _ _ _ _ _ _ hq9) gX2_takeDescriptor_X2_wordAt rfl rfl rfl hdyX2_wordAt ⟨Nat.le_of_ble_eq_true rfl, Nat.le_of_ble_eq_true rfl⟩ (List.range 19) (jrange _) (by decide) (jspF rfl) [0, 1, 2, 3, 4, 5] rfl rfl (Nat.le_of_ble_eq_true rfl) dX2_takeDescriptor_33 ⟨Nat.zero_le _, Nat.zero_le _⟩ ?_
      obtain ⟨q10ex, hq10, hF⟩ := bd1_some hF
      refine j_callVv (pc := 36) (As := [.int 1, .int rq9]) (rest := []) (ws' := (gw a k gM q7gnC q7gbC q7gnL q7gbL q7gnF q7gbF gnQ gbQ (va_up (va_up gE j q5ex) j q10ex) gtp q7glf q7gtr q7glh q7gov)) C K (ci := 0) (q0 := 0) rfl rfl rfl (ctX0_take l D (a (11 + j)) _ _ _ _ hq10) gX2_takeDescriptor_X0_take rfl rfl rfl hdyX0_take ⟨Nat.le_of_ble_eq_true rfl, Nat.le_of_ble_eq_true rfl⟩ [11 + j] (map1 (gwE hj)) (nd1 _) (jsp_eq (jsp1 (gwl hj)) (gw_setE hj)) [] rfl rfl (Nat.le_of_ble_eq_true rfl) dX2_takeDescriptor_36 ⟨Nat.zero_le _, Nat.zero_le _⟩ ?_
      refine j_iinc (pc := 39) (v := 2) (lv' := [(3, .int 2), (4, .int rq7), (0, .ref (a 0)), (1, .int x1), (2, .ref (a (11 + j)))]) C 1 dX2_takeDescriptor_39 rfl (by decide) (by decide) rfl ?_
      refine j_goto (pc := 42) (tgt := 2) C dX2_takeDescriptor_42 (by decide) ?_
      refine j_iload_n (pc := 2) C 0 dX2_takeDescriptor_2 rfl rfl ?_
      refine j_iconst (pc := 3) (v := 4) C dX2_takeDescriptor_3 (by decide) ?_
      refine j_icmp_ge (pc := 4) (tgt := 45) C dX2_takeDescriptor_4 (by decide) (fun h => absurd h (by decide)) (fun _ => ?_)
      refine j_aload_n (pc := 7) C 2 dX2_takeDescriptor_7 rfl rfl ?_
      refine j_iload_n (pc := 8) C 3 dX2_takeDescriptor_8 rfl rfl ?_
      refine j_aload_n (pc := 9) C 4 dX2_takeDescriptor_9 rfl rfl ?_
      obtain ⟨rq11, hq11, hF⟩ := bd1_some hF
      refine j_callVi (pc := 10) (As := []) (rest := [.int x1, .ref (a 0)]) (ws' := (gw a k gM q7gnC q7gbC q7gnL q7gbL q7gnF q7gbF gnQ gbQ (va_up (va_up gE j q5ex) j q10ex) gtp q7glf q7gtr q7glh q7gov)) C K (ci := 0) (q0 := 0) rfl rfl rfl (ctX0_descriptorAddress l D (a (11 + j)) _ _ hq11) gX2_takeDescriptor_X0_descriptorAddress rfl rfl rfl hdyX0_descriptorAddress ⟨Nat.le_of_ble_eq_true rfl, Nat.le_of_ble_eq_true rfl⟩ [11 + j] (map1 (gwE hj)) (nd1 _) (jsp_eq (jsp1 (gwl hj)) (gw_same hj)) [] rfl rfl (Nat.le_of_ble_eq_true rfl) dX2_takeDescriptor_10 ⟨Nat.zero_le _, Nat.zero_le _⟩ ?_
      refine j_iload_n (pc := 13) C 0 dX2_takeDescriptor_13 rfl rfl ?_
      refine j_iadd (pc := 14) C dX2_takeDescriptor_14 ?_
      refine j_iconst (pc := 15) (v := 0) C dX2_takeDescriptor_15 (by decide) ?_
      obtain ⟨rq12, q12gnC, q12gbC, q12gnL, q12gbL, q12gnF, q12gbF, q12glf, q12gtr, q12glh, q12gov, hq12, hF⟩ := bd11_some hF
      refine j_callVi (pc := 16) (As := [.int x1, .int (rq11 + 2), .int 0]) (rest := []) (ws' := (gw a k gM q12gnC q12gbC q12gnL q12gbL q12gnF q12gbF gnQ gbQ (va_up (va_up gE j q5ex) j q10ex) gtp q12glf q12gtr q12glh q12gov)) C K (ci := 2) (q0 := 0) rfl rfl rfl (ctX2_access l D a k _ _ _ _ _ _ _ _ _ _ _ _ _ _ _ _ _ _ _ _ _ _ _ _ _ _ _ _ _ hq12) gX2_takeDescriptor_X2_access rfl rfl rfl hdyX2_access ⟨Nat.le_of_ble_eq_true rfl, Nat.le_of_ble_eq_true rfl⟩ (List.range 19) (jrange _) (by decide) (jspF rfl) [0, 1, 2, 3, 4, 5] rfl rfl (Nat.le_of_ble_eq_true rfl) dX2_takeDescriptor_16 ⟨Nat.zero_le _, Nat.zero_le _⟩ ?_
      refine j_istore (pc := 19) (lv' := [(4, .int rq12), (3, .int 2), (0, .ref (a 0)), (1, .int x1), (2, .ref (a (11 + j)))]) C dX2_takeDescriptor_19 (by decide) rfl ?_
      refine j_iload (pc := 21) C 0 dX2_takeDescriptor_21 rfl ?_
      refine j_if_ge (pc := 23) (tgt := 28) C dX2_takeDescriptor_23 (by decide) (fun c13 => ?_) (fun c13 => ?_)
      · replace hF := ifp hF c13
        refine j_aload_n (pc := 28) C 4 dX2_takeDescriptor_28 rfl rfl ?_
        refine j_iload_n (pc := 29) C 1 dX2_takeDescriptor_29 rfl rfl ?_
        refine j_aload_n (pc := 30) C 2 dX2_takeDescriptor_30 rfl rfl ?_
        refine j_iload (pc := 31) C 0 dX2_takeDescriptor_31 rfl ?_
        obtain ⟨rq14, hq14, hF⟩ := bd1_some hF
        refine j_callVi (pc := 33) (As := [.int rq12]) (rest := [.int 2, .ref (a (11 + j))]) (ws' := (gw a k gM q12gnC q12gbC q12gnL q12gbL q12gnF q12gbF gnQ gbQ (va_up (va_up gE j q5ex) j q10ex) gtp q12glf q12gtr q12glh q12gov)) C K (ci := 2) (q0 := 0) rfl rfl rfl (ctX2_wordAt l D a k _ _ _ _ _ _ _ _ _ _ _ _ _ _ _ _ _ hq14) gX2_takeDescriptor_X2_wordAt rfl rfl rfl hdyX2_wordAt ⟨Nat.le_of_ble_eq_true rfl, Nat.le_of_ble_eq_true rfl⟩ (List.range 19) (jrange _) (by decide) (jspF rfl) [0, 1, 2, 3, 4, 5] rfl rfl (Nat.le_of_ble_eq_true rfl) dX2_takeDescriptor_33 ⟨Nat.zero_le _, Nat.zero_le _⟩ ?_
        obtain ⟨q15ex, hq15, hF⟩ := bd1_some hF
        refine j_callVv (pc := 36) (As := [.int 2, .int rq14]) (rest := []) (ws' := (gw a k gM q12gnC q12gbC q12gnL q12gbL q12gnF q12gbF gnQ gbQ (va_up (va_up (va_up gE j q5ex) j q10ex) j q15ex) gtp q12glf q12gtr q12glh q12gov)) C K (ci := 0) (q0 := 0) rfl rfl rfl (ctX0_take l D (a (11 + j)) _ _ _ _ hq15) gX2_takeDescriptor_X0_take rfl rfl rfl hdyX0_take ⟨Nat.le_of_ble_eq_true rfl, Nat.le_of_ble_eq_true rfl⟩ [11 + j] (map1 (gwE hj)) (nd1 _) (jsp_eq (jsp1 (gwl hj)) (gw_setE hj)) [] rfl rfl (Nat.le_of_ble_eq_true rfl) dX2_takeDescriptor_36 ⟨Nat.zero_le _, Nat.zero_le _⟩ ?_
        refine j_iinc (pc := 39) (v := 3) (lv' := [(3, .int 3), (4, .int rq12), (0, .ref (a 0)), (1, .int x1), (2, .ref (a (11 + j)))]) C 1 dX2_takeDescriptor_39 rfl (by decide) (by decide) rfl ?_
        refine j_goto (pc := 42) (tgt := 2) C dX2_takeDescriptor_42 (by decide) ?_
        refine j_iload_n (pc := 2) C 0 dX2_takeDescriptor_2 rfl rfl ?_
        refine j_iconst (pc := 3) (v := 4) C dX2_takeDescriptor_3 (by decide) ?_
        refine j_icmp_ge (pc := 4) (tgt := 45) C dX2_takeDescriptor_4 (by decide) (fun h => absurd h (by decide)) (fun _ => ?_)
        refine j_aload_n (pc := 7) C 2 dX2_takeDescriptor_7 rfl rfl ?_
        refine j_iload_n (pc := 8) C 3 dX2_takeDescriptor_8 rfl rfl ?_
        refine j_aload_n (pc := 9) C 4 dX2_takeDescriptor_9 rfl rfl ?_
        obtain ⟨rq16, hq16, hF⟩ := bd1_some hF
        refine j_callVi (pc := 10) (As := []) (rest := [.int x1, .ref (a 0)]) (ws' := (gw a k gM q12gnC q12gbC q12gnL q12gbL q12gnF q12gbF gnQ gbQ (va_up (va_up (va_up gE j q5ex) j q10ex) j q15ex) gtp q12glf q12gtr q12glh q12gov)) C K (ci := 0) (q0 := 0) rfl rfl rfl (ctX0_descriptorAddress l D (a (11 + j)) _ _ hq16) gX2_takeDescriptor_X0_descriptorAddress rfl rfl rfl hdyX0_descriptorAddress ⟨Nat.le_of_ble_eq_true rfl, Nat.le_of_ble_eq_true rfl⟩ [11 + j] (map1 (gwE hj)) (nd1 _) (jsp_eq (jsp1 (gwl hj)) (gw_same hj)) [] rfl rfl (Nat.le_of_ble_eq_true rfl) dX2_takeDescriptor_10 ⟨Nat.zero_le _, Nat.zero_le _⟩ ?_
        refine j_iload_n (pc := 13) C 0 dX2_takeDescriptor_13 rfl rfl ?_
        refine j_iadd (pc := 14) C dX2_takeDescriptor_14 ?_
        refine j_iconst (pc := 15) (v := 0) C dX2_takeDescriptor_15 (by decide) ?_
        obtain ⟨rq17, q17gnC, q17gbC, q17gnL, q17gbL, q17gnF, q17gbF, q17glf, q17gtr, q17glh, q17gov, hq17, hF⟩ := bd11_some hF
        refine j_callVi (pc := 16) (As := [.int x1, .int (rq16 + 3), .int 0]) (rest := []) (ws' := (gw a k gM q17gnC q17gbC q17gnL q17gbL q17gnF q17gbF gnQ gbQ (va_up (va_up (va_up gE j q5ex) j q10ex) j q15ex) gtp q17glf q17gtr q17glh q17gov)) C K (ci := 2) (q0 := 0) rfl rfl rfl (ctX2_access l D a k _ _ _ _ _ _ _ _ _ _ _ _ _ _ _ _ _ _ _ _ _ _ _ _ _ _ _ _ _ hq17) gX2_takeDescriptor_X2_access rfl rfl rfl hdyX2_access ⟨Nat.le_of_ble_eq_true rfl, Nat.le_of_ble_eq_true rfl⟩ (List.range 19) (jrange _) (by decide) (jspF rfl) [0, 1, 2, 3, 4, 5] rfl rfl (Nat.le_of_ble_eq_true rfl) dX2_takeDescriptor_16 ⟨Nat.zero_le _, Nat.zero_le _⟩ ?_
        refine j_istore (pc := 19) (lv' := [(4, .int rq17), (3, .int 3), (0, .ref (a 0)), (1, .int x1), (2, .ref (a (11 + j)))]) C dX2_takeDescriptor_19 (by decide) rfl ?_
        refine j_iload (pc := 21) C 0 dX2_takeDescriptor_21 rfl ?_
        refine j_if_ge (pc := 23) (tgt := 28) C dX2_takeDescriptor_23 (by decide) (fun c18 => ?_) (fun c18 => ?_)
        · replace hF := ifp hF c18
          refine j_aload_n (pc := 28) C 4 dX2_takeDescriptor_28 rfl rfl ?_
          refine j_iload_n (pc := 29) C 1 dX2_takeDescriptor_29 rfl rfl ?_
          refine j_aload_n (pc := 30) C 2 dX2_takeDescriptor_30 rfl rfl ?_
          refine j_iload (pc := 31) C 0 dX2_takeDescriptor_31 rfl ?_
          obtain ⟨rq19, hq19, hF⟩ := bd1_some hF
          refine j_callVi (pc := 33) (As := [.int rq17]) (rest := [.int 3, .ref (a (11 + j))]) (ws' := (gw a k gM q17gnC q17gbC q17gnL q17gbL q17gnF q17gbF gnQ gbQ (va_up (va_up (va_up gE j q5ex) j q10ex) j q15ex) gtp q17glf q17gtr q17glh q17gov)) C K (ci := 2) (q0 := 0) rfl rfl rfl (ctX2_wordAt l D a k _ _ _ _ _ _ _ _ _ _ _ _ _ _ _ _ _ hq19) gX2_takeDescriptor_X2_wordAt rfl rfl rfl hdyX2_wordAt ⟨Nat.le_of_ble_eq_true rfl, Nat.le_of_ble_eq_true rfl⟩ (List.range 19) (jrange _) (by decide) (jspF rfl) [0, 1, 2, 3, 4, 5] rfl rfl (Nat.le_of_ble_eq_true rfl) dX2_takeDescriptor_33 ⟨Nat.zero_le _, Nat.zero_le _⟩ ?_
          obtain ⟨q20ex, hq20, hF⟩ := bd1_some hF
          refine j_callVv (pc := 36) (As := [.int 3, .int rq19]) (rest := []) (ws' := (gw a k gM q17gnC q17gbC q17gnL q17gbL q17gnF q17gbF gnQ gbQ (va_up (va_up (va_up (va_up gE j q5ex) j q10ex) j q15ex) j q20ex) gtp q17glf q17gtr q17glh q17gov)) C K (ci := 0) (q0 := 0) rfl rfl rfl (ctX0_take l D (a (11 + j)) _ _ _ _ hq20) gX2_takeDescriptor_X0_take rfl rfl rfl hdyX0_take ⟨Nat.le_of_ble_eq_true rfl, Nat.le_of_ble_eq_true rfl⟩ [11 + j] (map1 (gwE hj)) (nd1 _) (jsp_eq (jsp1 (gwl hj)) (gw_setE hj)) [] rfl rfl (Nat.le_of_ble_eq_true rfl) dX2_takeDescriptor_36 ⟨Nat.zero_le _, Nat.zero_le _⟩ ?_
          refine j_iinc (pc := 39) (v := 4) (lv' := [(3, .int 4), (4, .int rq17), (0, .ref (a 0)), (1, .int x1), (2, .ref (a (11 + j)))]) C 1 dX2_takeDescriptor_39 rfl (by decide) (by decide) rfl ?_
          refine j_goto (pc := 42) (tgt := 2) C dX2_takeDescriptor_42 (by decide) ?_
          refine j_iload_n (pc := 2) C 0 dX2_takeDescriptor_2 rfl rfl ?_
          refine j_iconst (pc := 3) (v := 4) C dX2_takeDescriptor_3 (by decide) ?_
          refine j_icmp_ge (pc := 4) (tgt := 45) C dX2_takeDescriptor_4 (by decide) (fun _ => ?_) (fun h => absurd h (by decide))
          refine j_aload_n (pc := 45) C 4 dX2_takeDescriptor_45 rfl rfl ?_
          refine j_iconst (pc := 46) (v := 0) C dX2_takeDescriptor_46 (by decide) ?_
          refine j_putN (pc := 47) (ws' := (gw a k gM q17gnC q17gbC q17gnL q17gbL q17gnF q17gbF gnQ gbQ (va_up (va_up (va_up (va_up (va_up gE j q5ex) j q10ex) j q15ex) j q20ex) j (upd ((va_up (va_up (va_up (va_up gE j q5ex) j q10ex) j q15ex) j q20ex) j) 11 0)) gtp q17glf q17gtr q17glh q17gov)) C K inX2_takeDescriptor_X0 tyX0 tyX0_ok nmX0 (11 + j) (gwE hj) rfl 11 (by decide) lkN_103 rfl (tyX0_ok 11 (by decide)) rfl rfl (Nat.le_of_ble_eq_true rfl) (gw_setE (x := upd ((va_up (va_up (va_up (va_up gE j q5ex) j q10ex) j q15ex) j q20ex) j) 11 0) hj) dX2_takeDescriptor_47 ?_
          refine j_aload_n (pc := 50) C 4 dX2_takeDescriptor_50 rfl rfl ?_
          refine j_iconst (pc := 51) (v := 1) C dX2_takeDescriptor_51 (by decide) ?_
          refine j_putN (pc := 52) (ws' := (gw a k gM q17gnC q17gbC q17gnL q17gbL q17gnF q17gbF gnQ gbQ (va_up (va_up (va_up (va_up (va_up (va_up gE j q5ex) j q10ex) j q15ex) j q20ex) j (upd ((va_up (va_up (va_up (va_up gE j q5ex) j q10ex) j q15ex) j q20ex) j) 11 0)) j (upd ((va_up (va_up (va_up (va_up (va_up gE j q5ex) j q10ex) j q15ex) j q20ex) j (upd ((va_up (va_up (va_up (va_up gE j q5ex) j q10ex) j q15ex) j q20ex) j) 11 0)) j) 6 1)) gtp q17glf q17gtr q17glh q17gov)) C K inX2_takeDescriptor_X0 tyX0 tyX0_ok nmX0 (11 + j) (gwE hj) rfl 6 (by decide) lkN_96 rfl (tyX0_ok 6 (by decide)) rfl rfl (Nat.le_of_ble_eq_true rfl) (gw_setE (x := upd ((va_up (va_up (va_up (va_up (va_up gE j q5ex) j q10ex) j q15ex) j q20ex) j (upd ((va_up (va_up (va_up (va_up gE j q5ex) j q10ex) j q15ex) j q20ex) j) 11 0)) j) 6 1) hj) dX2_takeDescriptor_52 ?_
          refine j_iconst (pc := 55) (v := 1) C dX2_takeDescriptor_55 (by decide) ?_
          cases hF
          exact j_zret (pc := 56) C K hr hlk rfl dX2_takeDescriptor_56
        · replace hF := ifn hF c18
          refine j_iconst (pc := 26) (v := 0) C dX2_takeDescriptor_26 (by decide) ?_
          cases hF
          exact j_zret (pc := 27) C K hr hlk rfl dX2_takeDescriptor_27
      · replace hF := ifn hF c13
        refine j_iconst (pc := 26) (v := 0) C dX2_takeDescriptor_26 (by decide) ?_
        cases hF
        exact j_zret (pc := 27) C K hr hlk rfl dX2_takeDescriptor_27
    · replace hF := ifn hF c8
      refine j_iconst (pc := 26) (v := 0) C dX2_takeDescriptor_26 (by decide) ?_
      cases hF
      exact j_zret (pc := 27) C K hr hlk rfl dX2_takeDescriptor_27
  · replace hF := ifn hF c3
    refine j_iconst (pc := 26) (v := 0) C dX2_takeDescriptor_26 (by decide) ?_
    cases hF
    exact j_zret (pc := 27) C K hr hlk rfl dX2_takeDescriptor_27
theorem inX2_copyWord_X0 : ∀ w ∈ u_ws RX0 TX0 12, w ∈ wsX2_copyWord := by decide +kernel
theorem hdyX2_copyWord : yX2_copyWord.cls = RX2 ∧ yX2_copyWord.cls ≠ "java/lang/invoke/MethodHandle" ∧ yX2_copyWord.cls ≠ "java/lang/invoke/VarHandle" ∧ (parseMethodDescriptor yX2_copyWord.desc).map (fun d => d.parameters.length) = some 2 := by decide +kernel
set_option maxHeartbeats 4000000 in
set_option maxRecDepth 100000 in
theorem ctX2_copyWord (l : Launch) (D : va_G) (a : Nat → Nat) (k : Nat → ClassId) (j : Nat) (gM : Nat → Int32) (gnC : Int32) (gbC : Nat → Int32) (gnL : Int32) (gbL : Nat → Int32) (gnF : Int32) (gbF : Nat → Int32) (gnQ : Int32) (gbQ : Nat → Int32) (gE : Nat → Nat → Int32) (gtp : Int32) (glf : Int32) (gtr : Int32) (glh : Int32) (gov : Int32) (x1 : Int32) (r : Int32) (ogM : Nat → Int32) (ognC : Int32) (ogbC : Nat → Int32) (ognL : Int32) (ogbL : Nat → Int32) (ognF : Int32) (ogbF : Nat → Int32) (ogE : Nat → Nat → Int32) (oglf : Int32) (ogtr : Int32) (oglh : Int32) (ogov : Int32) (hj : j < 8) (hF : FX2_copyWord j x1 gM gnC gbC gnL gbL gnF gbF gE gtp glf gtr glh gov = some (r, ogM, ognC, ogbC, ognL, ogbL, ognF, ogbF, ogE, oglf, ogtr, oglh, ogov)) : ji l yX2_copyWord wsX2_copyWord { frames := 6, cells := 0, slots := 0, locals := 145 } D (gt k) [.ref (a 0), .int x1, .ref (a (11 + j))] (gw a k gM gnC gbC gnL gbL gnF gbF gnQ gbQ gE gtp glf gtr glh gov) (gw a k ogM ognC ogbC ognL ogbL ognF ogbF gnQ gbQ ogE gtp oglf ogtr oglh ogov) r := by
  refine j_mi (cc := cX2_copyWord) (maxL := 6) (own := RX2) (ret := (some .boolean)) (by decide) rfl rfl (Nat.le_of_ble_eq_true rfl) ?_
  intro p e s m args below meth c A C K hr hlk
  unfold FX2_copyWord at hF
  refine j_aload_n (pc := 0) C 0 dX2_copyWord_0 rfl rfl ?_
  refine j_iload_n (pc := 1) C 1 dX2_copyWord_1 rfl rfl ?_
  refine j_aload_n (pc := 2) C 2 dX2_copyWord_2 rfl rfl ?_
  refine j_getN (pc := 3) (v := .int (gE j 7)) C K inX2_copyWord_X0 (11 + j) (gwE hj) rfl 7 (by decide) lkN_182 rfl dX2_copyWord_3 ?_
  refine j_aload_n (pc := 6) C 2 dX2_copyWord_6 rfl rfl ?_
  refine j_getN (pc := 7) (v := .int (gE j 11)) C K inX2_copyWord_X0 (11 + j) (gwE hj) rfl 11 (by decide) lkN_103 rfl dX2_copyWord_7 ?_
  refine j_iadd (pc := 10) C dX2_copyWord_10 ?_
  refine j_iconst (pc := 11) (v := 0) C dX2_copyWord_11 (by decide) ?_
  obtain ⟨rq1, q1gnC, q1gbC, q1gnL, q1gbL, q1gnF, q1gbF, q1glf, q1gtr, q1glh, q1gov, hq1, hF⟩ := bd11_some hF
  refine j_callVi (pc := 12) (As := [.int x1, .int ((gE j 7) + (gE j 11)), .int 0]) (rest := []) (ws' := (gw a k gM q1gnC q1gbC q1gnL q1gbL q1gnF q1gbF gnQ gbQ gE gtp q1glf q1gtr q1glh q1gov)) C K (ci := 2) (q0 := 0) rfl rfl rfl (ctX2_access l D a k _ _ _ _ _ _ _ _ _ _ _ _ _ _ _ _ _ _ _ _ _ _ _ _ _ _ _ _ _ hq1) gX2_copyWord_X2_access rfl rfl rfl hdyX2_access ⟨Nat.le_of_ble_eq_true rfl, Nat.le_of_ble_eq_true rfl⟩ (List.range 19) (jrange _) (by decide) (jspF rfl) [0, 1, 2, 3, 4, 5] rfl rfl (Nat.le_of_ble_eq_true rfl) dX2_copyWord_12 ⟨Nat.zero_le _, Nat.zero_le _⟩ ?_
  refine j_istore_n (pc := 15) (lv' := [(3, .int rq1), (0, .ref (a 0)), (1, .int x1), (2, .ref (a (11 + j)))]) C dX2_copyWord_15 rfl (by decide) rfl ?_
  refine j_iload_n (pc := 16) C 0 dX2_copyWord_16 rfl rfl ?_
  refine j_if_ge (pc := 17) (tgt := 22) C dX2_copyWord_17 (by decide) (fun c2 => ?_) (fun c2 => ?_)
  · replace hF := ifp hF c2
    refine j_aload_n (pc := 22) C 1 dX2_copyWord_22 rfl rfl ?_
    refine j_iload_n (pc := 23) C 0 dX2_copyWord_23 rfl rfl ?_
    obtain ⟨rq3, hq3, hF⟩ := bd1_some hF
    refine j_callVi (pc := 24) (As := [.int rq1]) (rest := []) (ws' := (gw a k gM q1gnC q1gbC q1gnL q1gbL q1gnF q1gbF gnQ gbQ gE gtp q1glf q1gtr q1glh q1gov)) C K (ci := 2) (q0 := 0) rfl rfl rfl (ctX2_wordAt l D a k _ _ _ _ _ _ _ _ _ _ _ _ _ _ _ _ _ hq3) gX2_copyWord_X2_wordAt rfl rfl rfl hdyX2_wordAt ⟨Nat.le_of_ble_eq_true rfl, Nat.le_of_ble_eq_true rfl⟩ (List.range 19) (jrange _) (by decide) (jspF rfl) [0, 1, 2, 3, 4, 5] rfl rfl (Nat.le_of_ble_eq_true rfl) dX2_copyWord_24 ⟨Nat.zero_le _, Nat.zero_le _⟩ ?_
    refine j_istore (pc := 27) (lv' := [(4, .int rq3), (3, .int rq1), (0, .ref (a 0)), (1, .int x1), (2, .ref (a (11 + j)))]) C dX2_copyWord_27 (by decide) rfl ?_
    refine j_aload_n (pc := 29) C 2 dX2_copyWord_29 rfl rfl ?_
    refine j_iload_n (pc := 30) C 3 dX2_copyWord_30 rfl rfl ?_
    refine j_aload_n (pc := 31) C 4 dX2_copyWord_31 rfl rfl ?_
    refine j_getN (pc := 32) (v := .int (gE j 8)) C K inX2_copyWord_X0 (11 + j) (gwE hj) rfl 8 (by decide) lkN_185 rfl dX2_copyWord_32 ?_
    refine j_aload_n (pc := 35) C 4 dX2_copyWord_35 rfl rfl ?_
    refine j_getN (pc := 36) (v := .int (gE j 11)) C K inX2_copyWord_X0 (11 + j) (gwE hj) rfl 11 (by decide) lkN_103 rfl dX2_copyWord_36 ?_
    refine j_iadd (pc := 39) C dX2_copyWord_39 ?_
    refine j_iconst (pc := 40) (v := 1) C dX2_copyWord_40 (by decide) ?_
    obtain ⟨rq4, q4gnC, q4gbC, q4gnL, q4gbL, q4gnF, q4gbF, q4glf, q4gtr, q4glh, q4gov, hq4, hF⟩ := bd11_some hF
    refine j_callVi (pc := 41) (As := [.int x1, .int ((gE j 8) + (gE j 11)), .int 1]) (rest := []) (ws' := (gw a k gM q4gnC q4gbC q4gnL q4gbL q4gnF q4gbF gnQ gbQ gE gtp q4glf q4gtr q4glh q4gov)) C K (ci := 2) (q0 := 0) rfl rfl rfl (ctX2_access l D a k _ _ _ _ _ _ _ _ _ _ _ _ _ _ _ _ _ _ _ _ _ _ _ _ _ _ _ _ _ hq4) gX2_copyWord_X2_access rfl rfl rfl hdyX2_access ⟨Nat.le_of_ble_eq_true rfl, Nat.le_of_ble_eq_true rfl⟩ (List.range 19) (jrange _) (by decide) (jspF rfl) [0, 1, 2, 3, 4, 5] rfl rfl (Nat.le_of_ble_eq_true rfl) dX2_copyWord_41 ⟨Nat.zero_le _, Nat.zero_le _⟩ ?_
    refine j_istore (pc := 44) (lv' := [(5, .int rq4), (4, .int rq3), (3, .int rq1), (0, .ref (a 0)), (1, .int x1), (2, .ref (a (11 + j)))]) C dX2_copyWord_44 (by decide) rfl ?_
    refine j_iload (pc := 46) C 0 dX2_copyWord_46 rfl ?_
    refine j_if_ge (pc := 48) (tgt := 53) C dX2_copyWord_48 (by decide) (fun c5 => ?_) (fun c5 => ?_)
    · replace hF := ifp hF c5
      refine j_aload_n (pc := 53) C 3 dX2_copyWord_53 rfl rfl ?_
      refine j_iload (pc := 54) C 0 dX2_copyWord_54 rfl ?_
      refine j_iload (pc := 56) C 1 dX2_copyWord_56 rfl ?_
      obtain ⟨rq6, q6gM, hq6, hF⟩ := bd2_some hF
      refine j_callVi (pc := 58) (As := [.int rq4, .int rq3]) (rest := []) (ws' := (gw a k q6gM q4gnC q4gbC q4gnL q4gbL q4gnF q4gbF gnQ gbQ gE gtp q4glf q4gtr q4glh q4gov)) C K (ci := 2) (q0 := 0) rfl rfl rfl (ctX2_setWord l D a k _ _ _ _ _ _ _ _ _ _ _ _ _ _ _ _ _ _ _ hq6) gX2_copyWord_X2_setWord rfl rfl rfl hdyX2_setWord ⟨Nat.le_of_ble_eq_true rfl, Nat.le_of_ble_eq_true rfl⟩ (List.range 19) (jrange _) (by decide) (jspF rfl) [0, 1, 2, 3, 4, 5] rfl rfl (Nat.le_of_ble_eq_true rfl) dX2_copyWord_58 ⟨Nat.zero_le _, Nat.zero_le _⟩ ?_
      refine j_pop (pc := 61) C dX2_copyWord_61 rfl ?_
      refine j_aload_n (pc := 62) C 5 dX2_copyWord_62 rfl rfl ?_
      refine j_dup (pc := 63) C dX2_copyWord_63 rfl ?_
      refine j_getN (pc := 64) (v := .int (gE j 11)) C K inX2_copyWord_X0 (11 + j) (gwE hj) rfl 11 (by decide) lkN_103 rfl dX2_copyWord_64 ?_
      refine j_iconst (pc := 67) (v := 1) C dX2_copyWord_67 (by decide) ?_
      refine j_iadd (pc := 68) C dX2_copyWord_68 ?_
      refine j_putN (pc := 69) (ws' := (gw a k q6gM q4gnC q4gbC q4gnL q4gbL q4gnF q4gbF gnQ gbQ (va_up gE j (upd (gE j) 11 ((gE j 11) + 1))) gtp q4glf q4gtr q4glh q4gov)) C K inX2_copyWord_X0 tyX0 tyX0_ok nmX0 (11 + j) (gwE hj) rfl 11 (by decide) lkN_103 rfl (tyX0_ok 11 (by decide)) rfl rfl (Nat.le_of_ble_eq_true rfl) (gw_setE (x := upd (gE j) 11 ((gE j 11) + 1)) hj) dX2_copyWord_69 ?_
      refine j_iconst (pc := 72) (v := 1) C dX2_copyWord_72 (by decide) ?_
      cases hF
      exact j_zret (pc := 73) C K hr hlk rfl dX2_copyWord_73
    · replace hF := ifn hF c5
      refine j_iconst (pc := 51) (v := 0) C dX2_copyWord_51 (by decide) ?_
      cases hF
      exact j_zret (pc := 52) C K hr hlk rfl dX2_copyWord_52
  · replace hF := ifn hF c2
    refine j_iconst (pc := 20) (v := 0) C dX2_copyWord_20 (by decide) ?_
    cases hF
    exact j_zret (pc := 21) C K hr hlk rfl dX2_copyWord_21
theorem inX2_finishDescriptor_X0 : ∀ w ∈ u_ws RX0 TX0 12, w ∈ wsX2_finishDescriptor := by decide +kernel
theorem hdyX2_finishDescriptor : yX2_finishDescriptor.cls = RX2 ∧ yX2_finishDescriptor.cls ≠ "java/lang/invoke/MethodHandle" ∧ yX2_finishDescriptor.cls ≠ "java/lang/invoke/VarHandle" ∧ (parseMethodDescriptor yX2_finishDescriptor.desc).map (fun d => d.parameters.length) = some 2 := by decide +kernel
set_option maxHeartbeats 4000000 in
set_option maxRecDepth 100000 in
theorem ctX2_finishDescriptor (l : Launch) (D : va_G) (a : Nat → Nat) (k : Nat → ClassId) (j : Nat) (gM : Nat → Int32) (gnC : Int32) (gbC : Nat → Int32) (gnL : Int32) (gbL : Nat → Int32) (gnF : Int32) (gbF : Nat → Int32) (gnQ : Int32) (gbQ : Nat → Int32) (gE : Nat → Nat → Int32) (gtp : Int32) (glf : Int32) (gtr : Int32) (glh : Int32) (gov : Int32) (x1 : Int32) (r : Int32) (ogM : Nat → Int32) (ognC : Int32) (ogbC : Nat → Int32) (ognL : Int32) (ogbL : Nat → Int32) (ognF : Int32) (ogbF : Nat → Int32) (ogE : Nat → Nat → Int32) (oglf : Int32) (ogtr : Int32) (oglh : Int32) (ogov : Int32) (hj : j < 8) (hF : FX2_finishDescriptor j x1 gM gnC gbC gnL gbL gnF gbF gE gtp glf gtr glh gov = some (r, ogM, ognC, ogbC, ognL, ogbL, ognF, ogbF, ogE, oglf, ogtr, oglh, ogov)) : ji l yX2_finishDescriptor wsX2_finishDescriptor { frames := 6, cells := 0, slots := 0, locals := 145 } D (gt k) [.ref (a 0), .int x1, .ref (a (11 + j))] (gw a k gM gnC gbC gnL gbL gnF gbF gnQ gbQ gE gtp glf gtr glh gov) (gw a k ogM ognC ogbC ognL ogbL ognF ogbF gnQ gbQ ogE gtp oglf ogtr oglh ogov) r := by
  refine j_mi (cc := cX2_finishDescriptor) (maxL := 4) (own := RX2) (ret := (some .boolean)) (by decide) rfl rfl (Nat.le_of_ble_eq_true rfl) ?_
  intro p e s m args below meth c A C K hr hlk
  unfold FX2_finishDescriptor at hF
  refine j_aload_n (pc := 0) C 0 dX2_finishDescriptor_0 rfl rfl ?_
  refine j_iload_n (pc := 1) C 1 dX2_finishDescriptor_1 rfl rfl ?_
  refine j_aload_n (pc := 2) C 2 dX2_finishDescriptor_2 rfl rfl ?_
  obtain ⟨rq1, hq1, hF⟩ := bd1_some hF
  refine j_callVi (pc := 3) (As := []) (rest := [.int x1, .ref (a 0)]) (ws' := (gw a k gM gnC gbC gnL gbL gnF gbF gnQ gbQ gE gtp glf gtr glh gov)) C K (ci := 0) (q0 := 0) rfl rfl rfl (ctX0_descriptorAddress l D (a (11 + j)) _ _ hq1) gX2_finishDescriptor_X0_descriptorAddress rfl rfl rfl hdyX0_descriptorAddress ⟨Nat.le_of_ble_eq_true rfl, Nat.le_of_ble_eq_true rfl⟩ [11 + j] (map1 (gwE hj)) (nd1 _) (jsp_eq (jsp1 (gwl hj)) (gw_same hj)) [] rfl rfl (Nat.le_of_ble_eq_true rfl) dX2_finishDescriptor_3 ⟨Nat.zero_le _, Nat.zero_le _⟩ ?_
  refine j_iconst (pc := 6) (v := 3) C dX2_finishDescriptor_6 (by decide) ?_
  refine j_iadd (pc := 7) C dX2_finishDescriptor_7 ?_
  refine j_iconst (pc := 8) (v := 1) C dX2_finishDescriptor_8 (by decide) ?_
  obtain ⟨rq2, q2gnC, q2gbC, q2gnL, q2gbL, q2gnF, q2gbF, q2glf, q2gtr, q2glh, q2gov, hq2, hF⟩ := bd11_some hF
  refine j_callVi (pc := 9) (As := [.int x1, .int (rq1 + 3), .int 1]) (rest := []) (ws' := (gw a k gM q2gnC q2gbC q2gnL q2gbL q2gnF q2gbF gnQ gbQ gE gtp q2glf q2gtr q2glh q2gov)) C K (ci := 2) (q0 := 0) rfl rfl rfl (ctX2_access l D a k _ _ _ _ _ _ _ _ _ _ _ _ _ _ _ _ _ _ _ _ _ _ _ _ _ _ _ _ _ hq2) gX2_finishDescriptor_X2_access rfl rfl rfl hdyX2_access ⟨Nat.le_of_ble_eq_true rfl, Nat.le_of_ble_eq_true rfl⟩ (List.range 19) (jrange _) (by decide) (jspF rfl) [0, 1, 2, 3, 4, 5] rfl rfl (Nat.le_of_ble_eq_true rfl) dX2_finishDescriptor_9 ⟨Nat.zero_le _, Nat.zero_le _⟩ ?_
  refine j_istore_n (pc := 12) (lv' := [(3, .int rq2), (0, .ref (a 0)), (1, .int x1), (2, .ref (a (11 + j)))]) C dX2_finishDescriptor_12 rfl (by decide) rfl ?_
  refine j_iload_n (pc := 13) C 0 dX2_finishDescriptor_13 rfl rfl ?_
  refine j_if_ge (pc := 14) (tgt := 19) C dX2_finishDescriptor_14 (by decide) (fun c3 => ?_) (fun c3 => ?_)
  · replace hF := ifp hF c3
    refine j_aload_n (pc := 19) C 1 dX2_finishDescriptor_19 rfl rfl ?_
    refine j_iload_n (pc := 20) C 0 dX2_finishDescriptor_20 rfl rfl ?_
    refine j_aload_n (pc := 21) C 3 dX2_finishDescriptor_21 rfl rfl ?_
    refine j_getN (pc := 22) (v := .int (gE j 10)) C K inX2_finishDescriptor_X0 (11 + j) (gwE hj) rfl 10 (by decide) lkN_188 rfl dX2_finishDescriptor_22 ?_
    refine j_iconst (pc := 25) (v := 1) C dX2_finishDescriptor_25 (by decide) ?_
    refine j_ior (pc := 26) C dX2_finishDescriptor_26 ?_
    obtain ⟨rq4, q4gM, hq4, hF⟩ := bd2_some hF
    refine j_callVi (pc := 27) (As := [.int rq2, .int ((gE j 10) ||| (1 : Int32))]) (rest := []) (ws' := (gw a k q4gM q2gnC q2gbC q2gnL q2gbL q2gnF q2gbF gnQ gbQ gE gtp q2glf q2gtr q2glh q2gov)) C K (ci := 2) (q0 := 0) rfl rfl rfl (ctX2_setWord l D a k _ _ _ _ _ _ _ _ _ _ _ _ _ _ _ _ _ _ _ hq4) gX2_finishDescriptor_X2_setWord rfl rfl rfl hdyX2_setWord ⟨Nat.le_of_ble_eq_true rfl, Nat.le_of_ble_eq_true rfl⟩ (List.range 19) (jrange _) (by decide) (jspF rfl) [0, 1, 2, 3, 4, 5] rfl rfl (Nat.le_of_ble_eq_true rfl) dX2_finishDescriptor_27 ⟨Nat.zero_le _, Nat.zero_le _⟩ ?_
    refine j_pop (pc := 30) C dX2_finishDescriptor_30 rfl ?_
    refine j_aload_n (pc := 31) C 3 dX2_finishDescriptor_31 rfl rfl ?_
    obtain ⟨q5ex, hq5, hF⟩ := bd1_some hF
    refine j_callVv (pc := 32) (As := []) (rest := []) (ws' := (gw a k q4gM q2gnC q2gbC q2gnL q2gbL q2gnF q2gbF gnQ gbQ (va_up gE j q5ex) gtp q2glf q2gtr q2glh q2gov)) C K (ci := 0) (q0 := 0) rfl rfl rfl (ctX0_goOn l D (a (11 + j)) _ _ hq5) gX2_finishDescriptor_X0_goOn rfl rfl rfl hdyX0_goOn ⟨Nat.le_of_ble_eq_true rfl, Nat.le_of_ble_eq_true rfl⟩ [11 + j] (map1 (gwE hj)) (nd1 _) (jsp_eq (jsp1 (gwl hj)) (gw_setE hj)) [] rfl rfl (Nat.le_of_ble_eq_true rfl) dX2_finishDescriptor_32 ⟨Nat.zero_le _, Nat.zero_le _⟩ ?_
    refine j_iconst (pc := 35) (v := 1) C dX2_finishDescriptor_35 (by decide) ?_
    cases hF
    exact j_zret (pc := 36) C K hr hlk rfl dX2_finishDescriptor_36
  · replace hF := ifn hF c3
    refine j_iconst (pc := 17) (v := 0) C dX2_finishDescriptor_17 (by decide) ?_
    cases hF
    exact j_zret (pc := 18) C K hr hlk rfl dX2_finishDescriptor_18
theorem lkX2_step_33 : Cond.fieldLink RX2 33 (TX2 5).1 (TX2 5).2.1 (TX2 5).2.2.1 ∈ wsX2_step := by decide +kernel
theorem inX2_step_X0 : ∀ w ∈ u_ws RX0 TX0 12, w ∈ wsX2_step := by decide +kernel
theorem inX2_step_X2 : ∀ w ∈ u_ws RX2 TX2 11, w ∈ wsX2_step := by decide +kernel
theorem hdyX2_step : yX2_step.cls = RX2 ∧ yX2_step.cls ≠ "java/lang/invoke/MethodHandle" ∧ yX2_step.cls ≠ "java/lang/invoke/VarHandle" ∧ (parseMethodDescriptor yX2_step.desc).map (fun d => d.parameters.length) = some 2 := by decide +kernel
set_option maxHeartbeats 4000000 in
set_option maxRecDepth 100000 in
theorem ctX2_step (l : Launch) (D : va_G) (a : Nat → Nat) (k : Nat → ClassId) (gM : Nat → Int32) (gnC : Int32) (gbC : Nat → Int32) (gnL : Int32) (gbL : Nat → Int32) (gnF : Int32) (gbF : Nat → Int32) (gnQ : Int32) (gbQ : Nat → Int32) (gE : Nat → Nat → Int32) (gtp : Int32) (glf : Int32) (gtr : Int32) (glh : Int32) (gov : Int32) (x1 x2 : Int32) (r : Int32) (ogM : Nat → Int32) (ognC : Int32) (ogbC : Nat → Int32) (ognL : Int32) (ogbL : Nat → Int32) (ognF : Int32) (ogbF : Nat → Int32) (ogE : Nat → Nat → Int32) (oglf : Int32) (ogtr : Int32) (oglh : Int32) (ogov : Int32) (hF : FX2_step x1 x2 gM gnC gbC gnL gbL gnF gbF gE gtp glf gtr glh gov = some (r, ogM, ognC, ogbC, ognL, ogbL, ognF, ogbF, ogE, oglf, ogtr, oglh, ogov)) : ji l yX2_step wsX2_step { frames := 7, cells := 0, slots := 0, locals := 170 } D (gt k) [.ref (a 0), .int x1, .int x2] (gw a k gM gnC gbC gnL gbL gnF gbF gnQ gbQ gE gtp glf gtr glh gov) (gw a k ogM ognC ogbC ognL ogbL ognF ogbF gnQ gbQ ogE gtp oglf ogtr oglh ogov) r := by
  refine j_mi (cc := cX2_step) (maxL := 6) (own := RX2) (ret := (some .int)) (by decide) rfl rfl (Nat.le_of_ble_eq_true rfl) ?_
  intro p e s m args below meth c A C K hr hlk
  have K32 : ∀ (n : Nat) (gM : Nat → Int32) (gnC : Int32) (gbC : Nat → Int32) (gnL : Int32) (gbL : Nat → Int32) (gnF : Int32) (gbF : Nat → Int32) (gE : Nat → Nat → Int32) (gtp : Int32) (glf : Int32) (gtr : Int32) (glh : Int32) (gov : Int32) (v4 : Int32), x1.toNatClampNeg < 8 → FX2_step_32 x1 x2 n gM gnC gbC gnL gbL gnF gbF gE gtp glf gtr glh gov v4 = some (r, ogM, ognC, ogbC, ognL, ogbL, ognF, ogbF, ogE, oglf, ogtr, oglh, ogov) → jw p l e ({ frames := 7, cells := 0, slots := 0, locals := 170 } : Room) s m args below meth c 6 D A 0 0 (jqi below D (gt k) args s A (gw a k ogM ognC ogbC ognL ogbL ognF ogbF gnQ gbQ ogE gtp oglf ogtr oglh ogov) r) (gw a k gM gnC gbC gnL gbL gnF gbF gnQ gbQ gE gtp glf gtr glh gov) [(0, .ref (a 0)), (1, .int x1), (2, .int x2), (3, .ref (a (11 + x1.toNatClampNeg))), (4, .int v4)] 32 [] := by
    intro n
    induction n with
    | zero =>
      intro gM gnC gbC gnL gbL gnF gbF gE gtp glf gtr glh gov v4 hl0 hF
      rw [FX2_step_32] at hF
      cases hF
    | succ n ih =>
      intro gM gnC gbC gnL gbL gnF gbF gE gtp glf gtr glh gov v4 hl0 hF
      rw [FX2_step_32] at hF
      refine j_iload (pc := 32) C 4 dX2_step_32 rfl ?_
      refine j_iload_n (pc := 34) C 2 dX2_step_34 rfl rfl ?_
      refine j_icmp_ge (pc := 35) (tgt := 106) C dX2_step_35 (by decide) (fun c6 => ?_) (fun c6 => ?_)
      · replace hF := ifp hF c6
        refine j_iload (pc := 106) C 4 dX2_step_106 rfl ?_
        cases hF
        exact j_iret (pc := 108) C K hr hlk dX2_step_108
      · replace hF := ifn hF c6
        refine j_aload_n (pc := 38) C 3 dX2_step_38 rfl rfl ?_
        refine j_getN (pc := 39) (v := .int (gE x1.toNatClampNeg 4)) C K inX2_step_X0 (11 + x1.toNatClampNeg) (gwE hl0) rfl 4 (by decide) lkN_90 rfl dX2_step_39 ?_
        refine j_iconst (pc := 42) (v := 1) C dX2_step_42 (by decide) ?_
        refine j_icmp_ne (pc := 43) (tgt := 106) C dX2_step_43 (by decide) (fun c7 => ?_) (fun c7 => ?_)
        · replace hF := ifn hF c7
          refine j_iload (pc := 106) C 4 dX2_step_106 rfl ?_
          cases hF
          exact j_iret (pc := 108) C K hr hlk dX2_step_108
        · replace hF := ifp hF c7
          refine j_aload_n (pc := 46) C 3 dX2_step_46 rfl rfl ?_
          refine j_getN (pc := 47) (v := .int (gE x1.toNatClampNeg 6)) C K inX2_step_X0 (11 + x1.toNatClampNeg) (gwE hl0) rfl 6 (by decide) lkN_96 rfl dX2_step_47 ?_
          refine j_if_ne (pc := 50) (tgt := 62) C dX2_step_50 (by decide) (fun c8 => ?_) (fun c8 => ?_)
          · replace hF := ifn hF c8
            refine j_aload_n (pc := 62) C 3 dX2_step_62 rfl rfl ?_
            refine j_getN (pc := 63) (v := .int (gE x1.toNatClampNeg 11)) C K inX2_step_X0 (11 + x1.toNatClampNeg) (gwE hl0) rfl 11 (by decide) lkN_103 rfl dX2_step_63 ?_
            refine j_aload_n (pc := 66) C 3 dX2_step_66 rfl rfl ?_
            refine j_getN (pc := 67) (v := .int (gE x1.toNatClampNeg 9)) C K inX2_step_X0 (11 + x1.toNatClampNeg) (gwE hl0) rfl 9 (by decide) lkN_106 rfl dX2_step_67 ?_
            refine j_icmp_ge (pc := 70) (tgt := 82) C dX2_step_70 (by decide) (fun c9 => ?_) (fun c9 => ?_)
            · replace hF := ifp hF c9
              refine j_aload_n (pc := 82) C 0 dX2_step_82 rfl rfl ?_
              refine j_iload_n (pc := 83) C 1 dX2_step_83 rfl rfl ?_
              refine j_aload_n (pc := 84) C 3 dX2_step_84 rfl rfl ?_
              obtain ⟨rq10, q10gM, q10gnC, q10gbC, q10gnL, q10gbL, q10gnF, q10gbF, q10gE, q10glf, q10gtr, q10glh, q10gov, hq10, hF⟩ := bd13_some hF
              refine j_callVi (pc := 85) (As := [.int x1, .ref (a (11 + x1.toNatClampNeg))]) (rest := []) (ws' := (gw a k q10gM q10gnC q10gbC q10gnL q10gbL q10gnF q10gbF gnQ gbQ q10gE gtp q10glf q10gtr q10glh q10gov)) C K (ci := 2) (q0 := 0) rfl rfl rfl (ctX2_finishDescriptor l D a k _ _ _ _ _ _ _ _ _ _ _ _ _ _ _ _ _ _ _ _ _ _ _ _ _ _ _ _ _ _ hl0 hq10) gX2_step_X2_finishDescriptor rfl rfl rfl hdyX2_finishDescriptor ⟨Nat.le_of_ble_eq_true rfl, Nat.le_of_ble_eq_true rfl⟩ (List.range 19) (jrange _) (by decide) (jspF rfl) [0, 1, 2, 3, 4, 5] rfl rfl (Nat.le_of_ble_eq_true rfl) dX2_step_85 ⟨Nat.zero_le _, Nat.zero_le _⟩ ?_
              refine j_istore (pc := 88) (lv' := [(5, .int rq10), (0, .ref (a 0)), (1, .int x1), (2, .int x2), (3, .ref (a (11 + x1.toNatClampNeg))), (4, .int v4)]) C dX2_step_88 (by decide) rfl ?_
              refine j_iload (pc := 90) C 0 dX2_step_90 rfl ?_
              refine j_if_ne (pc := 92) (tgt := 100) C dX2_step_92 (by decide) (fun c11 => ?_) (fun c11 => ?_)
              · replace hF := ifn hF c11
                refine j_iinc (pc := 100) (v := (v4 + 1)) (lv' := [(4, .int (v4 + 1)), (5, .int rq10), (0, .ref (a 0)), (1, .int x1), (2, .int x2), (3, .ref (a (11 + x1.toNatClampNeg)))]) C 5 dX2_step_100 rfl rfl (by decide) rfl ?_
                refine j_goto (pc := 103) (tgt := 32) C dX2_step_103 (by decide) ?_
                exact j_lv [2, 3, 4, 5, 0] rfl (ih _ _ _ _ _ _ _ _ _ _ _ _ _ _ hl0 hF)
              · replace hF := ifp hF c11
                refine j_aload_n (pc := 95) C 4 dX2_step_95 rfl rfl ?_
                refine j_iconst (pc := 96) (v := 2) C dX2_step_96 (by decide) ?_
                refine j_putN (pc := 97) (ws' := (gw a k q10gM q10gnC q10gbC q10gnL q10gbL q10gnF q10gbF gnQ gbQ (va_up q10gE x1.toNatClampNeg (upd (q10gE x1.toNatClampNeg) 4 2)) gtp q10glf q10gtr q10glh q10gov)) C K inX2_step_X0 tyX0 tyX0_ok nmX0 (11 + x1.toNatClampNeg) (gwE hl0) rfl 4 (by decide) lkN_90 rfl (tyX0_ok 4 (by decide)) rfl rfl (Nat.le_of_ble_eq_true rfl) (gw_setE (x := upd (q10gE x1.toNatClampNeg) 4 2) hl0) dX2_step_97 ?_
                refine j_iinc (pc := 100) (v := (v4 + 1)) (lv' := [(4, .int (v4 + 1)), (5, .int rq10), (0, .ref (a 0)), (1, .int x1), (2, .int x2), (3, .ref (a (11 + x1.toNatClampNeg)))]) C 5 dX2_step_100 rfl rfl (by decide) rfl ?_
                refine j_goto (pc := 103) (tgt := 32) C dX2_step_103 (by decide) ?_
                exact j_lv [2, 3, 4, 5, 0] rfl (ih _ _ _ _ _ _ _ _ _ _ _ _ _ _ hl0 hF)
            · replace hF := ifn hF c9
              refine j_aload_n (pc := 73) C 0 dX2_step_73 rfl rfl ?_
              refine j_iload_n (pc := 74) C 1 dX2_step_74 rfl rfl ?_
              refine j_aload_n (pc := 75) C 3 dX2_step_75 rfl rfl ?_
              obtain ⟨rq12, q12gM, q12gnC, q12gbC, q12gnL, q12gbL, q12gnF, q12gbF, q12gE, q12glf, q12gtr, q12glh, q12gov, hq12, hF⟩ := bd13_some hF
              refine j_callVi (pc := 76) (As := [.int x1, .ref (a (11 + x1.toNatClampNeg))]) (rest := []) (ws' := (gw a k q12gM q12gnC q12gbC q12gnL q12gbL q12gnF q12gbF gnQ gbQ q12gE gtp q12glf q12gtr q12glh q12gov)) C K (ci := 2) (q0 := 0) rfl rfl rfl (ctX2_copyWord l D a k _ _ _ _ _ _ _ _ _ _ _ _ _ _ _ _ _ _ _ _ _ _ _ _ _ _ _ _ _ _ hl0 hq12) gX2_step_X2_copyWord rfl rfl rfl hdyX2_copyWord ⟨Nat.le_of_ble_eq_true rfl, Nat.le_of_ble_eq_true rfl⟩ (List.range 19) (jrange _) (by decide) (jspF rfl) [0, 1, 2, 3, 4, 5] rfl rfl (Nat.le_of_ble_eq_true rfl) dX2_step_76 ⟨Nat.zero_le _, Nat.zero_le _⟩ ?_
              refine j_goto (pc := 79) (tgt := 88) C dX2_step_79 (by decide) ?_
              refine j_istore (pc := 88) (lv' := [(5, .int rq12), (0, .ref (a 0)), (1, .int x1), (2, .int x2), (3, .ref (a (11 + x1.toNatClampNeg))), (4, .int v4)]) C dX2_step_88 (by decide) rfl ?_
              refine j_iload (pc := 90) C 0 dX2_step_90 rfl ?_
              refine j_if_ne (pc := 92) (tgt := 100) C dX2_step_92 (by decide) (fun c13 => ?_) (fun c13 => ?_)
              · replace hF := ifn hF c13
                refine j_iinc (pc := 100) (v := (v4 + 1)) (lv' := [(4, .int (v4 + 1)), (5, .int rq12), (0, .ref (a 0)), (1, .int x1), (2, .int x2), (3, .ref (a (11 + x1.toNatClampNeg)))]) C 5 dX2_step_100 rfl rfl (by decide) rfl ?_
                refine j_goto (pc := 103) (tgt := 32) C dX2_step_103 (by decide) ?_
                exact j_lv [2, 3, 4, 5, 0] rfl (ih _ _ _ _ _ _ _ _ _ _ _ _ _ _ hl0 hF)
              · replace hF := ifp hF c13
                refine j_aload_n (pc := 95) C 4 dX2_step_95 rfl rfl ?_
                refine j_iconst (pc := 96) (v := 2) C dX2_step_96 (by decide) ?_
                refine j_putN (pc := 97) (ws' := (gw a k q12gM q12gnC q12gbC q12gnL q12gbL q12gnF q12gbF gnQ gbQ (va_up q12gE x1.toNatClampNeg (upd (q12gE x1.toNatClampNeg) 4 2)) gtp q12glf q12gtr q12glh q12gov)) C K inX2_step_X0 tyX0 tyX0_ok nmX0 (11 + x1.toNatClampNeg) (gwE hl0) rfl 4 (by decide) lkN_90 rfl (tyX0_ok 4 (by decide)) rfl rfl (Nat.le_of_ble_eq_true rfl) (gw_setE (x := upd (q12gE x1.toNatClampNeg) 4 2) hl0) dX2_step_97 ?_
                refine j_iinc (pc := 100) (v := (v4 + 1)) (lv' := [(4, .int (v4 + 1)), (5, .int rq12), (0, .ref (a 0)), (1, .int x1), (2, .int x2), (3, .ref (a (11 + x1.toNatClampNeg)))]) C 5 dX2_step_100 rfl rfl (by decide) rfl ?_
                refine j_goto (pc := 103) (tgt := 32) C dX2_step_103 (by decide) ?_
                exact j_lv [2, 3, 4, 5, 0] rfl (ih _ _ _ _ _ _ _ _ _ _ _ _ _ _ hl0 hF)
          · replace hF := ifp hF c8
            refine j_aload_n (pc := 53) C 0 dX2_step_53 rfl rfl ?_
            refine j_iload_n (pc := 54) C 1 dX2_step_54 rfl rfl ?_
            refine j_aload_n (pc := 55) C 3 dX2_step_55 rfl rfl ?_
            obtain ⟨rq14, q14gnC, q14gbC, q14gnL, q14gbL, q14gnF, q14gbF, q14gE, q14glf, q14gtr, q14glh, q14gov, hq14, hF⟩ := bd12_some hF
            refine j_callVi (pc := 56) (As := [.int x1, .ref (a (11 + x1.toNatClampNeg))]) (rest := []) (ws' := (gw a k gM q14gnC q14gbC q14gnL q14gbL q14gnF q14gbF gnQ gbQ q14gE gtp q14glf q14gtr q14glh q14gov)) C K (ci := 2) (q0 := 0) rfl rfl rfl (ctX2_takeDescriptor l D a k _ _ _ _ _ _ _ _ _ _ _ _ _ _ _ _ _ _ _ _ _ _ _ _ _ _ _ _ _ hl0 hq14) gX2_step_X2_takeDescriptor rfl rfl rfl hdyX2_takeDescriptor ⟨Nat.le_of_ble_eq_true rfl, Nat.le_of_ble_eq_true rfl⟩ (List.range 19) (jrange _) (by decide) (jspF rfl) [0, 1, 2, 3, 4, 5] rfl rfl (Nat.le_of_ble_eq_true rfl) dX2_step_56 ⟨Nat.zero_le _, Nat.zero_le _⟩ ?_
            refine j_goto (pc := 59) (tgt := 88) C dX2_step_59 (by decide) ?_
            refine j_istore (pc := 88) (lv' := [(5, .int rq14), (0, .ref (a 0)), (1, .int x1), (2, .int x2), (3, .ref (a (11 + x1.toNatClampNeg))), (4, .int v4)]) C dX2_step_88 (by decide) rfl ?_
            refine j_iload (pc := 90) C 0 dX2_step_90 rfl ?_
            refine j_if_ne (pc := 92) (tgt := 100) C dX2_step_92 (by decide) (fun c15 => ?_) (fun c15 => ?_)
            · replace hF := ifn hF c15
              refine j_iinc (pc := 100) (v := (v4 + 1)) (lv' := [(4, .int (v4 + 1)), (5, .int rq14), (0, .ref (a 0)), (1, .int x1), (2, .int x2), (3, .ref (a (11 + x1.toNatClampNeg)))]) C 5 dX2_step_100 rfl rfl (by decide) rfl ?_
              refine j_goto (pc := 103) (tgt := 32) C dX2_step_103 (by decide) ?_
              exact j_lv [2, 3, 4, 5, 0] rfl (ih _ _ _ _ _ _ _ _ _ _ _ _ _ _ hl0 hF)
            · replace hF := ifp hF c15
              refine j_aload_n (pc := 95) C 4 dX2_step_95 rfl rfl ?_
              refine j_iconst (pc := 96) (v := 2) C dX2_step_96 (by decide) ?_
              refine j_putN (pc := 97) (ws' := (gw a k gM q14gnC q14gbC q14gnL q14gbL q14gnF q14gbF gnQ gbQ (va_up q14gE x1.toNatClampNeg (upd (q14gE x1.toNatClampNeg) 4 2)) gtp q14glf q14gtr q14glh q14gov)) C K inX2_step_X0 tyX0 tyX0_ok nmX0 (11 + x1.toNatClampNeg) (gwE hl0) rfl 4 (by decide) lkN_90 rfl (tyX0_ok 4 (by decide)) rfl rfl (Nat.le_of_ble_eq_true rfl) (gw_setE (x := upd (q14gE x1.toNatClampNeg) 4 2) hl0) dX2_step_97 ?_
              refine j_iinc (pc := 100) (v := (v4 + 1)) (lv' := [(4, .int (v4 + 1)), (5, .int rq14), (0, .ref (a 0)), (1, .int x1), (2, .int x2), (3, .ref (a (11 + x1.toNatClampNeg)))]) C 5 dX2_step_100 rfl rfl (by decide) rfl ?_
              refine j_goto (pc := 103) (tgt := 32) C dX2_step_103 (by decide) ?_
              exact j_lv [2, 3, 4, 5, 0] rfl (ih _ _ _ _ _ _ _ _ _ _ _ _ _ _ hl0 hF)
  unfold FX2_step at hF
  refine j_iload_n (pc := 0) C 1 dX2_step_0 rfl rfl ?_
  refine j_bipush (pc := 1) (v := 8) C dX2_step_1 (by decide) ?_
  obtain ⟨rq1, hq1, hF⟩ := bd1_some hF
  refine j_callSi (pc := 3) (As := [.int x1, .int 8]) (rest := []) (ws' := (gw a k gM gnC gbC gnL gbL gnF gbF gnQ gbQ gE gtp glf gtr glh gov)) C K (ctX2_isBelow l D  _ _ _ hq1) gX2_step_X2_isBelow rfl rfl rfl hdyX2_isBelow ⟨Nat.le_of_ble_eq_true rfl, Nat.le_of_ble_eq_true rfl⟩ [] rfl rfl jsp0 [] rfl rfl (Nat.le_of_ble_eq_true rfl) dX2_step_3 ⟨Nat.zero_le _, Nat.zero_le _⟩ ?_
  refine j_if_eq (pc := 6) (tgt := 20) C dX2_step_6 (by decide) (fun c2 => ?_) (fun c2 => ?_)
  · replace hF := ifp hF c2
    refine j_iconst (pc := 20) (v := (-1)) C dX2_step_20 (by decide) ?_
    cases hF
    exact j_iret (pc := 21) C K hr hlk dX2_step_21
  · replace hF := ifn hF c2
    refine j_iload_n (pc := 9) C 2 dX2_step_9 rfl rfl ?_
    refine j_if_lt (pc := 10) (tgt := 20) C dX2_step_10 (by decide) (fun c3 => ?_) (fun c3 => ?_)
    · replace hF := ifp hF c3
      refine j_iconst (pc := 20) (v := (-1)) C dX2_step_20 (by decide) ?_
      cases hF
      exact j_iret (pc := 21) C K hr hlk dX2_step_21
    · replace hF := ifn hF c3
      refine j_iload_n (pc := 13) C 2 dX2_step_13 rfl rfl ?_
      refine j_sipush (pc := 14) (v := 1000) C dX2_step_14 (by decide) ?_
      refine j_icmp_le (pc := 17) (tgt := 22) C dX2_step_17 (by decide) (fun c4 => ?_) (fun c4 => ?_)
      · replace hF := ifp hF c4
        refine j_aload_n (pc := 22) C 0 dX2_step_22 rfl rfl ?_
        refine j_get (pc := 23) (v := .ref (a 10)) C K inX2_step_X2 0 rfl rfl 5 (by decide) lkX2_step_33 rfl dX2_step_23 ?_
        refine j_iload_n (pc := 26) C 1 dX2_step_26 rfl rfl ?_
        obtain ⟨g5, hF⟩ := gd_some hF
        have g5j : x1.toNatClampNeg < 8 := inb_lt g5
        refine j_aald (pc := 27) (b := a (11 + x1.toNatClampNeg)) C K 10 5 rfl rfl g5 rfl dX2_step_27 ?_
        refine j_astore_n (pc := 28) (lv' := [(3, .ref (a (11 + x1.toNatClampNeg))), (0, .ref (a 0)), (1, .int x1), (2, .int x2)]) C dX2_step_28 rfl (by decide) rfl ?_
        refine j_iconst (pc := 29) (v := 0) C dX2_step_29 (by decide) ?_
        refine j_istore (pc := 30) (lv' := [(4, .int 0), (3, .ref (a (11 + x1.toNatClampNeg))), (0, .ref (a 0)), (1, .int x1), (2, .int x2)]) C dX2_step_30 (by decide) rfl ?_
        exact j_lv [2, 3, 4, 1, 0] rfl (K32 _ _ _ _ _ _ _ _ _ _ _ _ _ _ _ g5j hF)
      · replace hF := ifn hF c4
        refine j_iconst (pc := 20) (v := (-1)) C dX2_step_20 (by decide) ?_
        cases hF
        exact j_iret (pc := 21) C K hr hlk dX2_step_21
theorem lkX2_resume_33 : Cond.fieldLink RX2 33 (TX2 5).1 (TX2 5).2.1 (TX2 5).2.2.1 ∈ wsX2_resume := by decide +kernel
theorem inX2_resume_X0 : ∀ w ∈ u_ws RX0 TX0 12, w ∈ wsX2_resume := by decide +kernel
theorem inX2_resume_X2 : ∀ w ∈ u_ws RX2 TX2 11, w ∈ wsX2_resume := by decide +kernel
theorem hdyX2_resume : yX2_resume.cls = RX2 ∧ yX2_resume.cls ≠ "java/lang/invoke/MethodHandle" ∧ yX2_resume.cls ≠ "java/lang/invoke/VarHandle" ∧ (parseMethodDescriptor yX2_resume.desc).map (fun d => d.parameters.length) = some 1 := by decide +kernel
set_option maxHeartbeats 4000000 in
set_option maxRecDepth 100000 in
theorem ctX2_resume (l : Launch) (D : va_G) (a : Nat → Nat) (k : Nat → ClassId) (gM : Nat → Int32) (gnC : Int32) (gbC : Nat → Int32) (gnL : Int32) (gbL : Nat → Int32) (gnF : Int32) (gbF : Nat → Int32) (gnQ : Int32) (gbQ : Nat → Int32) (gE : Nat → Nat → Int32) (gtp : Int32) (glf : Int32) (gtr : Int32) (glh : Int32) (gov : Int32) (x1 : Int32) (r : Int32) (ogE : Nat → Nat → Int32) (hF : FX2_resume x1 gE = some (r, ogE)) : ji l yX2_resume wsX2_resume { frames := 1, cells := 0, slots := 0, locals := 21 } D (gt k) [.ref (a 0), .int x1] (gw a k gM gnC gbC gnL gbL gnF gbF gnQ gbQ gE gtp glf gtr glh gov) (gw a k gM gnC gbC gnL gbL gnF gbF gnQ gbQ ogE gtp glf gtr glh gov) r := by
  refine j_mi (cc := cX2_resume) (maxL := 3) (own := RX2) (ret := (some .int)) (by decide) rfl rfl (Nat.le_of_ble_eq_true rfl) ?_
  intro p e s m args below meth c A C K hr hlk
  unfold FX2_resume at hF
  refine j_iload_n (pc := 0) C 1 dX2_resume_0 rfl rfl ?_
  refine j_bipush (pc := 1) (v := 8) C dX2_resume_1 (by decide) ?_
  obtain ⟨rq1, hq1, hF⟩ := bd1_some hF
  refine j_callSi (pc := 3) (As := [.int x1, .int 8]) (rest := []) (ws' := (gw a k gM gnC gbC gnL gbL gnF gbF gnQ gbQ gE gtp glf gtr glh gov)) C K (ctX2_isBelow l D  _ _ _ hq1) gX2_resume_X2_isBelow rfl rfl rfl hdyX2_isBelow ⟨Nat.le_of_ble_eq_true rfl, Nat.le_of_ble_eq_true rfl⟩ [] rfl rfl jsp0 [] rfl rfl (Nat.le_of_ble_eq_true rfl) dX2_resume_3 ⟨Nat.zero_le _, Nat.zero_le _⟩ ?_
  refine j_if_eq (pc := 6) (tgt := 22) C dX2_resume_6 (by decide) (fun c2 => ?_) (fun c2 => ?_)
  · replace hF := ifp hF c2
    refine j_iconst (pc := 22) (v := (-1)) C dX2_resume_22 (by decide) ?_
    cases hF
    exact j_iret (pc := 23) C K hr hlk dX2_resume_23
  · replace hF := ifn hF c2
    refine j_aload_n (pc := 9) C 0 dX2_resume_9 rfl rfl ?_
    refine j_get (pc := 10) (v := .ref (a 10)) C K inX2_resume_X2 0 rfl rfl 5 (by decide) lkX2_resume_33 rfl dX2_resume_10 ?_
    refine j_iload_n (pc := 13) C 1 dX2_resume_13 rfl rfl ?_
    obtain ⟨g3, hF⟩ := gd_some hF
    have g3j : x1.toNatClampNeg < 8 := inb_lt g3
    refine j_aald (pc := 14) (b := a (11 + x1.toNatClampNeg)) C K 10 5 rfl rfl g3 rfl dX2_resume_14 ?_
    refine j_getN (pc := 15) (v := .int (gE x1.toNatClampNeg 4)) C K inX2_resume_X0 (11 + x1.toNatClampNeg) (gwE g3j) rfl 4 (by decide) lkN_90 rfl dX2_resume_15 ?_
    refine j_iconst (pc := 18) (v := 2) C dX2_resume_18 (by decide) ?_
    refine j_icmp_eq (pc := 19) (tgt := 24) C dX2_resume_19 (by decide) (fun c4 => ?_) (fun c4 => ?_)
    · replace hF := ifp hF c4
      refine j_aload_n (pc := 24) C 0 dX2_resume_24 rfl rfl ?_
      refine j_get (pc := 25) (v := .ref (a 10)) C K inX2_resume_X2 0 rfl rfl 5 (by decide) lkX2_resume_33 rfl dX2_resume_25 ?_
      refine j_iload_n (pc := 28) C 1 dX2_resume_28 rfl rfl ?_
      obtain ⟨g5, hF⟩ := gd_some hF
      have g5j : x1.toNatClampNeg < 8 := inb_lt g5
      refine j_aald (pc := 29) (b := a (11 + x1.toNatClampNeg)) C K 10 5 rfl rfl g5 rfl dX2_resume_29 ?_
      refine j_astore_n (pc := 30) (lv' := [(2, .ref (a (11 + x1.toNatClampNeg))), (0, .ref (a 0)), (1, .int x1)]) C dX2_resume_30 rfl (by decide) rfl ?_
      refine j_aload_n (pc := 31) C 0 dX2_resume_31 rfl rfl ?_
      refine j_iconst (pc := 32) (v := 0) C dX2_resume_32 (by decide) ?_
      refine j_putN (pc := 33) (ws' := (gw a k gM gnC gbC gnL gbL gnF gbF gnQ gbQ (va_up gE x1.toNatClampNeg (upd (gE x1.toNatClampNeg) 6 0)) gtp glf gtr glh gov)) C K inX2_resume_X0 tyX0 tyX0_ok nmX0 (11 + x1.toNatClampNeg) (gwE g5j) rfl 6 (by decide) lkN_96 rfl (tyX0_ok 6 (by decide)) rfl rfl (Nat.le_of_ble_eq_true rfl) (gw_setE (x := upd (gE x1.toNatClampNeg) 6 0) g5j) dX2_resume_33 ?_
      refine j_aload_n (pc := 36) C 0 dX2_resume_36 rfl rfl ?_
      refine j_aload_n (pc := 37) C 0 dX2_resume_37 rfl rfl ?_
      refine j_getN (pc := 38) (v := .int ((va_up gE x1.toNatClampNeg (upd (gE x1.toNatClampNeg) 6 0)) x1.toNatClampNeg 2)) C K inX2_resume_X0 (11 + x1.toNatClampNeg) (gwE g5j) rfl 2 (by decide) lkN_93 rfl dX2_resume_38 ?_
      refine j_aload_n (pc := 41) C 0 dX2_resume_41 rfl rfl ?_
      refine j_getN (pc := 42) (v := .int ((va_up gE x1.toNatClampNeg (upd (gE x1.toNatClampNeg) 6 0)) x1.toNatClampNeg 3)) C K inX2_resume_X0 (11 + x1.toNatClampNeg) (gwE g5j) rfl 3 (by decide) lkN_87 rfl dX2_resume_42 ?_
      refine j_icmp_ne (pc := 45) (tgt := 52) C dX2_resume_45 (by decide) (fun c6 => ?_) (fun c6 => ?_)
      · replace hF := ifn hF c6
        refine j_iconst (pc := 52) (v := 1) C dX2_resume_52 (by decide) ?_
        refine j_putN (pc := 53) (ws' := (gw a k gM gnC gbC gnL gbL gnF gbF gnQ gbQ (va_up (va_up gE x1.toNatClampNeg (upd (gE x1.toNatClampNeg) 6 0)) x1.toNatClampNeg (upd ((va_up gE x1.toNatClampNeg (upd (gE x1.toNatClampNeg) 6 0)) x1.toNatClampNeg) 4 1)) gtp glf gtr glh gov)) C K inX2_resume_X0 tyX0 tyX0_ok nmX0 (11 + x1.toNatClampNeg) (gwE g5j) rfl 4 (by decide) lkN_90 rfl (tyX0_ok 4 (by decide)) rfl rfl (Nat.le_of_ble_eq_true rfl) (gw_setE (x := upd ((va_up gE x1.toNatClampNeg (upd (gE x1.toNatClampNeg) 6 0)) x1.toNatClampNeg) 4 1) g5j) dX2_resume_53 ?_
        refine j_aload_n (pc := 56) C 0 dX2_resume_56 rfl rfl ?_
        refine j_getN (pc := 57) (v := .int ((va_up (va_up gE x1.toNatClampNeg (upd (gE x1.toNatClampNeg) 6 0)) x1.toNatClampNeg (upd ((va_up gE x1.toNatClampNeg (upd (gE x1.toNatClampNeg) 6 0)) x1.toNatClampNeg) 4 1)) x1.toNatClampNeg 4)) C K inX2_resume_X0 (11 + x1.toNatClampNeg) (gwE g5j) rfl 4 (by decide) lkN_90 rfl dX2_resume_57 ?_
        cases hF
        exact j_iret (pc := 60) C K hr hlk dX2_resume_60
      · replace hF := ifp hF c6
        refine j_iconst (pc := 48) (v := 0) C dX2_resume_48 (by decide) ?_
        refine j_goto (pc := 49) (tgt := 53) C dX2_resume_49 (by decide) ?_
        refine j_putN (pc := 53) (ws' := (gw a k gM gnC gbC gnL gbL gnF gbF gnQ gbQ (va_up (va_up gE x1.toNatClampNeg (upd (gE x1.toNatClampNeg) 6 0)) x1.toNatClampNeg (upd ((va_up gE x1.toNatClampNeg (upd (gE x1.toNatClampNeg) 6 0)) x1.toNatClampNeg) 4 0)) gtp glf gtr glh gov)) C K inX2_resume_X0 tyX0 tyX0_ok nmX0 (11 + x1.toNatClampNeg) (gwE g5j) rfl 4 (by decide) lkN_90 rfl (tyX0_ok 4 (by decide)) rfl rfl (Nat.le_of_ble_eq_true rfl) (gw_setE (x := upd ((va_up gE x1.toNatClampNeg (upd (gE x1.toNatClampNeg) 6 0)) x1.toNatClampNeg) 4 0) g5j) dX2_resume_53 ?_
        refine j_aload_n (pc := 56) C 0 dX2_resume_56 rfl rfl ?_
        refine j_getN (pc := 57) (v := .int ((va_up (va_up gE x1.toNatClampNeg (upd (gE x1.toNatClampNeg) 6 0)) x1.toNatClampNeg (upd ((va_up gE x1.toNatClampNeg (upd (gE x1.toNatClampNeg) 6 0)) x1.toNatClampNeg) 4 0)) x1.toNatClampNeg 4)) C K inX2_resume_X0 (11 + x1.toNatClampNeg) (gwE g5j) rfl 4 (by decide) lkN_90 rfl dX2_resume_57 ?_
        cases hF
        exact j_iret (pc := 60) C K hr hlk dX2_resume_60
    · replace hF := ifn hF c4
      refine j_iconst (pc := 22) (v := (-1)) C dX2_resume_22 (by decide) ?_
      cases hF
      exact j_iret (pc := 23) C K hr hlk dX2_resume_23
theorem lkX2_engine_33 : Cond.fieldLink RX2 33 (TX2 5).1 (TX2 5).2.1 (TX2 5).2.2.1 ∈ wsX2_engine := by decide +kernel
theorem inX2_engine_X0 : ∀ w ∈ u_ws RX0 TX0 12, w ∈ wsX2_engine := by decide +kernel
theorem inX2_engine_X2 : ∀ w ∈ u_ws RX2 TX2 11, w ∈ wsX2_engine := by decide +kernel
theorem hdyX2_engine : yX2_engine.cls = RX2 ∧ yX2_engine.cls ≠ "java/lang/invoke/MethodHandle" ∧ yX2_engine.cls ≠ "java/lang/invoke/VarHandle" ∧ (parseMethodDescriptor yX2_engine.desc).map (fun d => d.parameters.length) = some 2 := by decide +kernel
set_option maxHeartbeats 4000000 in
set_option maxRecDepth 100000 in
theorem ctX2_engine (l : Launch) (D : va_G) (a : Nat → Nat) (k : Nat → ClassId) (gM : Nat → Int32) (gnC : Int32) (gbC : Nat → Int32) (gnL : Int32) (gbL : Nat → Int32) (gnF : Int32) (gbF : Nat → Int32) (gnQ : Int32) (gbQ : Nat → Int32) (gE : Nat → Nat → Int32) (gtp : Int32) (glf : Int32) (gtr : Int32) (glh : Int32) (gov : Int32) (x1 x2 : Int32) (r : Int32) (hF : FX2_engine x1 x2 gE = some r) : ji l yX2_engine wsX2_engine { frames := 1, cells := 0, slots := 0, locals := 21 } D (gt k) [.ref (a 0), .int x1, .int x2] (gw a k gM gnC gbC gnL gbL gnF gbF gnQ gbQ gE gtp glf gtr glh gov) (gw a k gM gnC gbC gnL gbL gnF gbF gnQ gbQ gE gtp glf gtr glh gov) r := by
  refine j_mi (cc := cX2_engine) (maxL := 4) (own := RX2) (ret := (some .int)) (by decide) rfl rfl (Nat.le_of_ble_eq_true rfl) ?_
  intro p e s m args below meth c A C K hr hlk
  unfold FX2_engine at hF
  refine j_iload_n (pc := 0) C 1 dX2_engine_0 rfl rfl ?_
  refine j_bipush (pc := 1) (v := 8) C dX2_engine_1 (by decide) ?_
  obtain ⟨rq1, hq1, hF⟩ := bd1_some hF
  refine j_callSi (pc := 3) (As := [.int x1, .int 8]) (rest := []) (ws' := (gw a k gM gnC gbC gnL gbL gnF gbF gnQ gbQ gE gtp glf gtr glh gov)) C K (ctX2_isBelow l D  _ _ _ hq1) gX2_engine_X2_isBelow rfl rfl rfl hdyX2_isBelow ⟨Nat.le_of_ble_eq_true rfl, Nat.le_of_ble_eq_true rfl⟩ [] rfl rfl jsp0 [] rfl rfl (Nat.le_of_ble_eq_true rfl) dX2_engine_3 ⟨Nat.zero_le _, Nat.zero_le _⟩ ?_
  refine j_if_ne (pc := 6) (tgt := 11) C dX2_engine_6 (by decide) (fun c2 => ?_) (fun c2 => ?_)
  · replace hF := ifn hF c2
    refine j_aload_n (pc := 11) C 0 dX2_engine_11 rfl rfl ?_
    refine j_get (pc := 12) (v := .ref (a 10)) C K inX2_engine_X2 0 rfl rfl 5 (by decide) lkX2_engine_33 rfl dX2_engine_12 ?_
    refine j_iload_n (pc := 15) C 1 dX2_engine_15 rfl rfl ?_
    obtain ⟨g3, hF⟩ := gd_some hF
    have g3j : x1.toNatClampNeg < 8 := inb_lt g3
    refine j_aald (pc := 16) (b := a (11 + x1.toNatClampNeg)) C K 10 5 rfl rfl g3 rfl dX2_engine_16 ?_
    refine j_astore_n (pc := 17) (lv' := [(3, .ref (a (11 + x1.toNatClampNeg))), (0, .ref (a 0)), (1, .int x1), (2, .int x2)]) C dX2_engine_17 rfl (by decide) rfl ?_
    refine j_iload_n (pc := 18) C 3 dX2_engine_18 rfl rfl ?_
    by_cases c4 : x2 = 0
    · replace hF := ifp hF c4
      refine j_tin (pc := 19) (tgt := 52) (off := 33) C dX2_engine_19 (by rw [c4]; decide) (by rw [c4]; decide) (by rw [c4]; rfl) (by decide) ?_
      refine j_aload_n (pc := 52) C 0 dX2_engine_52 rfl rfl ?_
      refine j_getN (pc := 53) (v := .int (gE x1.toNatClampNeg 4)) C K inX2_engine_X0 (11 + x1.toNatClampNeg) (gwE g3j) rfl 4 (by decide) lkN_90 rfl dX2_engine_53 ?_
      cases hF
      exact j_iret (pc := 56) C K hr hlk dX2_engine_56
    · replace hF := ifn hF c4
      by_cases c5 : x2 = 1
      · replace hF := ifp hF c5
        refine j_tin (pc := 19) (tgt := 57) (off := 38) C dX2_engine_19 (by rw [c5]; decide) (by rw [c5]; decide) (by rw [c5]; rfl) (by decide) ?_
        refine j_aload_n (pc := 57) C 0 dX2_engine_57 rfl rfl ?_
        refine j_getN (pc := 58) (v := .int (gE x1.toNatClampNeg 2)) C K inX2_engine_X0 (11 + x1.toNatClampNeg) (gwE g3j) rfl 2 (by decide) lkN_93 rfl dX2_engine_58 ?_
        cases hF
        exact j_iret (pc := 61) C K hr hlk dX2_engine_61
      · replace hF := ifn hF c5
        by_cases c6 : x2 = 2
        · replace hF := ifp hF c6
          refine j_tin (pc := 19) (tgt := 62) (off := 43) C dX2_engine_19 (by rw [c6]; decide) (by rw [c6]; decide) (by rw [c6]; rfl) (by decide) ?_
          refine j_aload_n (pc := 62) C 0 dX2_engine_62 rfl rfl ?_
          refine j_getN (pc := 63) (v := .int (gE x1.toNatClampNeg 3)) C K inX2_engine_X0 (11 + x1.toNatClampNeg) (gwE g3j) rfl 3 (by decide) lkN_87 rfl dX2_engine_63 ?_
          cases hF
          exact j_iret (pc := 66) C K hr hlk dX2_engine_66
        · replace hF := ifn hF c6
          by_cases c7 : x2 = 3
          · replace hF := ifp hF c7
            refine j_tin (pc := 19) (tgt := 67) (off := 48) C dX2_engine_19 (by rw [c7]; decide) (by rw [c7]; decide) (by rw [c7]; rfl) (by decide) ?_
            refine j_aload_n (pc := 67) C 0 dX2_engine_67 rfl rfl ?_
            refine j_getN (pc := 68) (v := .int (gE x1.toNatClampNeg 5)) C K inX2_engine_X0 (11 + x1.toNatClampNeg) (gwE g3j) rfl 5 (by decide) lkN_115 rfl dX2_engine_68 ?_
            cases hF
            exact j_iret (pc := 71) C K hr hlk dX2_engine_71
          · replace hF := ifn hF c7
            by_cases c8 : x2 = 4
            · replace hF := ifp hF c8
              refine j_tin (pc := 19) (tgt := 72) (off := 53) C dX2_engine_19 (by rw [c8]; decide) (by rw [c8]; decide) (by rw [c8]; rfl) (by decide) ?_
              refine j_aload_n (pc := 72) C 0 dX2_engine_72 rfl rfl ?_
              refine j_getN (pc := 73) (v := .int (gE x1.toNatClampNeg 6)) C K inX2_engine_X0 (11 + x1.toNatClampNeg) (gwE g3j) rfl 6 (by decide) lkN_96 rfl dX2_engine_73 ?_
              refine j_if_eq (pc := 76) (tgt := 86) C dX2_engine_76 (by decide) (fun c9 => ?_) (fun c9 => ?_)
              · replace hF := ifp hF c9
                refine j_iconst (pc := 86) (v := (-1)) C dX2_engine_86 (by decide) ?_
                cases hF
                exact j_iret (pc := 87) C K hr hlk dX2_engine_87
              · replace hF := ifn hF c9
                refine j_aload_n (pc := 79) C 0 dX2_engine_79 rfl rfl ?_
                refine j_getN (pc := 80) (v := .int (gE x1.toNatClampNeg 11)) C K inX2_engine_X0 (11 + x1.toNatClampNeg) (gwE g3j) rfl 11 (by decide) lkN_103 rfl dX2_engine_80 ?_
                refine j_goto (pc := 83) (tgt := 87) C dX2_engine_83 (by decide) ?_
                cases hF
                exact j_iret (pc := 87) C K hr hlk dX2_engine_87
            · replace hF := ifn hF c8
              have ec4 : x2.toInt ≠ 0 := i32_ne c4
              have ec5 : x2.toInt ≠ 1 := i32_ne c5
              have ec6 : x2.toInt ≠ 2 := i32_ne c6
              have ec7 : x2.toInt ≠ 3 := i32_ne c7
              have ec8 : x2.toInt ≠ 4 := i32_ne c8
              refine j_tout (pc := 19) (tgt := 88) C dX2_engine_19 (by omega) (by decide) ?_
              refine j_iconst (pc := 88) (v := (-1)) C dX2_engine_88 (by decide) ?_
              cases hF
              exact j_iret (pc := 89) C K hr hlk dX2_engine_89
  · replace hF := ifp hF c2
    refine j_iconst (pc := 9) (v := (-1)) C dX2_engine_9 (by decide) ?_
    cases hF
    exact j_iret (pc := 10) C K hr hlk dX2_engine_10

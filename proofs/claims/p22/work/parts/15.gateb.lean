def FX2_contextOf_2 (x1 : Int32) : Nat → (Nat → Int32) → Int32 → (Nat → Int32) → Int32 → Int32 → Int32 → Option (Int32 × Int32 × (Nat → Int32) × Int32)
  | 0, _, _, _, _, _, _ => none
  | n + 1, gM, gnC, gbC, gtp, gtr, v2 => if gnC ≤ v2 then bd1 (FX2_contextPlace x1 gtp) (fun rq2 => bd1 (FX2_wordAt rq2 gM) (fun rq3 => if (rq3 &&& (1 : Int32)) = 0 then some ((-1), gnC, gbC, (gtr + 1)) else bd3 (FX1_open 3 3 9 gnC gbC) (fun rq5 q5rn q5rB => bd1 (FX1_put 3 9 rq5 0 x1 q5rn q5rB) (fun q6rB => bd1 (FX1_put 3 9 rq5 1 rq3 q5rn q6rB) (fun q7rB => bd1 (FX2_wordAt (rq2 + 1) gM) (fun rq8 => bd1 (FX1_put 3 9 rq5 2 (rq8 &&& (15 : Int32)) q5rn q7rB) (fun q9rB => some (rq5, q5rn, q9rB, (gtr + 1))))))))) else bd1 (FX1_cell 3 9 v2 0 gnC gbC) (fun rq10 => if rq10 = x1 then some (v2, gnC, gbC, gtr) else FX2_contextOf_2 x1 n gM gnC gbC gtp gtr (v2 + 1))
def FX2_contextOf (x1 : Int32) (gM : Nat → Int32) (gnC : Int32) (gbC : Nat → Int32) (gtp : Int32) (gtr : Int32) : Option (Int32 × Int32 × (Nat → Int32) × Int32) := FX2_contextOf_2 x1 fuel gM gnC gbC gtp gtr 0
def FX2_entryFor (x1 x2 x3 : Int32) (gM : Nat → Int32) (gtr : Int32) : Option (Int32 × Int32) := bd1 (FX2_placeIn x1 ((x3 >>> (((4 : Int32) * x2) &&& 31)) &&& (15 : Int32))) (fun rq1 => bd1 (FX2_wordAt rq1 gM) (fun rq2 => some (rq2, (gtr + 1))))
def FX2_isForPage (x1 x2 : Int32) (gnL : Int32) (gbL : Nat → Int32) : Option (Int32) := bd1 (FX1_cell 5 30 x1 2 gnL gbL) (fun rq1 => bd1 (FX1_cell 5 30 x1 1 gnL gbL) (fun rq2 => if rq1 = (x2 >>> (((4 : Int32) * rq2) &&& 31)) then some 1 else some 0))
def FX2_rememberLeaf (x1 x2 x3 x4 : Int32) (gnL : Int32) (gbL : Nat → Int32) : Option (Int32 × Int32 × (Nat → Int32)) := bd3 (FX1_open 6 5 30 gnL gbL) (fun rq1 q1rn q1rB => bd1 (FX1_put 5 30 rq1 0 x1 q1rn q1rB) (fun q2rB => bd1 (FX1_put 5 30 rq1 1 x2 q1rn q2rB) (fun q3rB => bd1 (FX1_put 5 30 rq1 2 (x3 >>> (((4 : Int32) * x2) &&& 31)) q1rn q3rB) (fun q4rB => bd1 (FX2_pageOf x4) (fun rq5 => bd1 (FX1_put 5 30 rq1 3 rq5 q1rn q4rB) (fun q6rB => bd1 (FX1_put 5 30 rq1 4 ((x4 >>> ((1 : Int32) &&& 31)) &&& (3 : Int32)) q1rn q6rB) (fun q7rB => some (rq1, q1rn, q7rB))))))))
def FX2_leafFor_71 (x1 x2 x3 : Int32) : Nat → (Nat → Int32) → Int32 → (Nat → Int32) → Int32 → Int32 → Int32 → Int32 → Option (Int32 × Int32 × (Nat → Int32) × Int32 × Int32)
  | 0, _, _, _, _, _, _, _ => none
  | n + 1, gM, gnL, gbL, gtr, glh, v4, v5 => if v4 ≤ 0 then if (v5 &&& (1 : Int32)) = 0 then some ((-2), gnL, gbL, gtr, glh) else if v4 ≤ 0 then bd3 (FX2_rememberLeaf x1 v4 x3 v5 gnL gbL) (fun rq10 q10gnL q10gbL => some (rq10, q10gnL, q10gbL, gtr, glh)) else bd1 (FX2_pageOf v5) (fun rq11 => if (rq11 &&& (15 : Int32)) = 0 then bd3 (FX2_rememberLeaf x1 v4 x3 v5 gnL gbL) (fun rq13 q13gnL q13gbL => some (rq13, q13gnL, q13gbL, gtr, glh)) else some ((-5), gnL, gbL, gtr, glh)) else if (v5 &&& (9 : Int32)) = 1 then bd1 (FX2_pageOf v5) (fun rq21 => bd2 (FX2_entryFor rq21 (v4 + (-1)) x3 gM gtr) (fun rq22 q22gtr => FX2_leafFor_71 x1 x2 x3 n gM gnL gbL q22gtr glh (v4 + (-1)) rq22)) else if (v5 &&& (1 : Int32)) = 0 then some ((-2), gnL, gbL, gtr, glh) else if v4 ≤ 0 then bd3 (FX2_rememberLeaf x1 v4 x3 v5 gnL gbL) (fun rq17 q17gnL q17gbL => some (rq17, q17gnL, q17gbL, gtr, glh)) else bd1 (FX2_pageOf v5) (fun rq18 => if (rq18 &&& (15 : Int32)) = 0 then bd3 (FX2_rememberLeaf x1 v4 x3 v5 gnL gbL) (fun rq20 q20gnL q20gbL => some (rq20, q20gnL, q20gbL, gtr, glh)) else some ((-5), gnL, gbL, gtr, glh))
def FX2_leafFor_3 (x1 x2 x3 : Int32) : Nat → (Nat → Int32) → Int32 → (Nat → Int32) → Int32 → Int32 → Int32 → Option (Int32 × Int32 × (Nat → Int32) × Int32 × Int32)
  | 0, _, _, _, _, _, _ => none
  | n + 1, gM, gnL, gbL, gtr, glh, v4 => if gnL ≤ v4 then bd2 (FX2_entryFor x2 2 x3 gM gtr) (fun rq2 q2gtr => FX2_leafFor_71 x1 x2 x3 fuel gM gnL gbL q2gtr glh 2 rq2) else bd1 (FX1_cell 5 30 v4 0 gnL gbL) (fun rq3 => if rq3 = x1 then bd1 (FX2_isForPage v4 x3 gnL gbL) (fun rq5 => if rq5 = 0 then FX2_leafFor_3 x1 x2 x3 n gM gnL gbL gtr glh (v4 + 1) else some (v4, gnL, gbL, gtr, (glh + 1))) else FX2_leafFor_3 x1 x2 x3 n gM gnL gbL gtr glh (v4 + 1))
def FX2_leafFor (x1 x2 x3 : Int32) (gM : Nat → Int32) (gnL : Int32) (gbL : Nat → Int32) (gtr : Int32) (glh : Int32) : Option (Int32 × Int32 × (Nat → Int32) × Int32 × Int32) := FX2_leafFor_3 x1 x2 x3 fuel gM gnL gbL gtr glh 0
def FX2_placeBy (x1 x2 : Int32) (gnL : Int32) (gbL : Nat → Int32) : Option (Int32) := bd1 (FX1_cell 5 30 x1 1 gnL gbL) (fun rq1 => bd1 (FX1_cell 5 30 x1 3 gnL gbL) (fun rq2 => bd1 (FX2_placeIn ((rq2 + ((x2 >>> ((8 : Int32) &&& 31)) &&& (((1 : Int32) <<< (((4 : Int32) * rq1) &&& 31)) - 1))) &&& (63 : Int32)) (x2 &&& (255 : Int32))) (fun rq3 => some rq3)))
def FX2_lead (x1 x2 x3 : Int32) (gM : Nat → Int32) (gnC : Int32) (gbC : Nat → Int32) (gnL : Int32) (gbL : Nat → Int32) (gtp : Int32) (gtr : Int32) (glh : Int32) : Option (Int32 × Int32 × (Nat → Int32) × Int32 × (Nat → Int32) × Int32 × Int32) := bd1 (FX2_isBelow x2 1048576) (fun rq1 => if rq1 = 0 then some ((-4), gnC, gbC, gnL, gbL, gtr, glh) else bd4 (FX2_contextOf x1 gM gnC gbC gtp gtr) (fun rq3 q3gnC q3gbC q3gtr => if rq3 = (-1) then some ((-1), q3gnC, q3gbC, gnL, gbL, q3gtr, glh) else bd1 (FX1_cell 3 9 rq3 1 q3gnC q3gbC) (fun rq5 => if (rq5 &&& (2 : Int32)) = 0 then bd1 (FX1_cell 3 9 rq3 2 q3gnC q3gbC) (fun rq7 => bd1 (FX2_pageOf rq5) (fun rq8 => bd5 (FX2_leafFor rq7 rq8 (x2 >>> ((8 : Int32) &&& 31)) gM gnL gbL q3gtr glh) (fun rq9 q9gnL q9gbL q9gtr q9glh => if 0 ≤ rq9 then bd1 (FX1_cell 5 30 rq9 4 q9gnL q9gbL) (fun rq11 => if (rq11 &&& x3) = 0 then some ((-3), q3gnC, q3gbC, q9gnL, q9gbL, q9gtr, q9glh) else bd1 (FX2_placeBy rq9 x2 q9gnL q9gbL) (fun rq13 => some (rq13, q3gnC, q3gbC, q9gnL, q9gbL, q9gtr, q9glh))) else some (rq9, q3gnC, q3gbC, q9gnL, q9gbL, q9gtr, q9glh)))) else if 16384 ≤ x2 then some ((-4), q3gnC, q3gbC, gnL, gbL, q3gtr, glh) else some (x2, q3gnC, q3gbC, gnL, gbL, q3gtr, glh))))
def FX2_logFault (x1 x2 x3 : Int32) (gnF : Int32) (gbF : Nat → Int32) (glf : Int32) (gov : Int32) : Option (Int32 × (Nat → Int32) × Int32) := bd1 (FX1_isFull 6 gnF) (fun rq1 => if rq1 = 0 then bd3 (FX1_open 6 4 24 gnF gbF) (fun rq3 q3rn q3rB => bd1 (FX1_put 4 24 rq3 0 glf q3rn q3rB) (fun q4rB => bd1 (FX1_put 4 24 rq3 1 x1 q3rn q4rB) (fun q5rB => if x3 = 0 then bd1 (FX1_put 4 24 rq3 2 0 q3rn q5rB) (fun q7rB => bd1 (FX1_put 4 24 rq3 3 x2 q3rn q7rB) (fun q8rB => some (q3rn, q8rB, gov))) else bd1 (FX1_put 4 24 rq3 2 1 q3rn q5rB) (fun q9rB => bd1 (FX1_put 4 24 rq3 3 x2 q3rn q9rB) (fun q10rB => some (q3rn, q10rB, gov)))))) else some (gnF, gbF, 1))
def FX2_access (x1 x2 x3 : Int32) (gM : Nat → Int32) (gnC : Int32) (gbC : Nat → Int32) (gnL : Int32) (gbL : Nat → Int32) (gnF : Int32) (gbF : Nat → Int32) (gtp : Int32) (glf : Int32) (gtr : Int32) (glh : Int32) (gov : Int32) : Option (Int32 × Int32 × (Nat → Int32) × Int32 × (Nat → Int32) × Int32 × (Nat → Int32) × Int32 × Int32 × Int32 × Int32) := if x3 = 0 then bd7 (FX2_lead x1 x2 1 gM gnC gbC gnL gbL gtp gtr glh) (fun rq2 q2gnC q2gbC q2gnL q2gbL q2gtr q2glh => if 0 ≤ rq2 then if 0 ≤ rq2 then some (rq2, q2gnC, q2gbC, q2gnL, q2gbL, gnF, gbF, 0, q2gtr, q2glh, gov) else bd3 (FX2_logFault x1 x2 x3 gnF gbF 0 gov) (fun q5gnF q5gbF q5gov => some (rq2, q2gnC, q2gbC, q2gnL, q2gbL, q5gnF, q5gbF, 0, q2gtr, q2glh, q5gov)) else if 0 ≤ rq2 then some (rq2, q2gnC, q2gbC, q2gnL, q2gbL, gnF, gbF, (-rq2), q2gtr, q2glh, gov) else bd3 (FX2_logFault x1 x2 x3 gnF gbF (-rq2) gov) (fun q7gnF q7gbF q7gov => some (rq2, q2gnC, q2gbC, q2gnL, q2gbL, q7gnF, q7gbF, (-rq2), q2gtr, q2glh, q7gov))) else bd7 (FX2_lead x1 x2 2 gM gnC gbC gnL gbL gtp gtr glh) (fun rq8 q8gnC q8gbC q8gnL q8gbL q8gtr q8glh => if 0 ≤ rq8 then if 0 ≤ rq8 then some (rq8, q8gnC, q8gbC, q8gnL, q8gbL, gnF, gbF, 0, q8gtr, q8glh, gov) else bd3 (FX2_logFault x1 x2 x3 gnF gbF 0 gov) (fun q11gnF q11gbF q11gov => some (rq8, q8gnC, q8gbC, q8gnL, q8gbL, q11gnF, q11gbF, 0, q8gtr, q8glh, q11gov)) else if 0 ≤ rq8 then some (rq8, q8gnC, q8gbC, q8gnL, q8gbL, gnF, gbF, (-rq8), q8gtr, q8glh, gov) else bd3 (FX2_logFault x1 x2 x3 gnF gbF (-rq8) gov) (fun q13gnF q13gbF q13gov => some (rq8, q8gnC, q8gbC, q8gnL, q8gbL, q13gnF, q13gbF, (-rq8), q8gtr, q8glh, q13gov)))
def FX2_write (x1 x2 x3 : Int32) (gM : Nat → Int32) (gnC : Int32) (gbC : Nat → Int32) (gnL : Int32) (gbL : Nat → Int32) (gnF : Int32) (gbF : Nat → Int32) (gtp : Int32) (glf : Int32) (gtr : Int32) (glh : Int32) (gov : Int32) : Option (Int32 × (Nat → Int32) × Int32 × (Nat → Int32) × Int32 × (Nat → Int32) × Int32 × (Nat → Int32) × Int32 × Int32 × Int32 × Int32) := bd1 (FX2_isBelow x1 8) (fun rq1 => if rq1 = 0 then some (0, gM, gnC, gbC, gnL, gbL, gnF, gbF, 0, gtr, glh, gov) else bd11 (FX2_access x1 x2 1 gM gnC gbC gnL gbL gnF gbF gtp glf gtr glh gov) (fun rq3 q3gnC q3gbC q3gnL q3gbL q3gnF q3gbF q3glf q3gtr q3glh q3gov => if rq3 < 0 then some (0, gM, q3gnC, q3gbC, q3gnL, q3gbL, q3gnF, q3gbF, q3glf, q3gtr, q3glh, q3gov) else bd2 (FX2_setWord rq3 x3 gM) (fun rq5 q5gM => if rq5 = 0 then some (0, q5gM, q3gnC, q3gbC, q3gnL, q3gbL, q3gnF, q3gbF, q3glf, q3gtr, q3glh, q3gov) else some (1, q5gM, q3gnC, q3gbC, q3gnL, q3gbL, q3gnF, q3gbF, q3glf, q3gtr, q3glh, q3gov))))
def FX2_fault (glf : Int32) : Option (Int32) := some glf
theorem lkX2_contextOf_18 : Cond.fieldLink RX2 18 (TX2 1).1 (TX2 1).2.1 (TX2 1).2.2.1 ∈ wsX2_contextOf := by decide +kernel
theorem lkX2_contextOf_44 : Cond.fieldLink RX2 44 (TX2 8).1 (TX2 8).2.1 (TX2 8).2.2.1 ∈ wsX2_contextOf := by decide +kernel
theorem inX2_contextOf_X1 : ∀ w ∈ u_ws RX1 TX1 4, w ∈ wsX2_contextOf := by decide +kernel
theorem inX2_contextOf_X2 : ∀ w ∈ u_ws RX2 TX2 11, w ∈ wsX2_contextOf := by decide +kernel
theorem hdyX2_contextOf : yX2_contextOf.cls = RX2 ∧ yX2_contextOf.cls ≠ "java/lang/invoke/MethodHandle" ∧ yX2_contextOf.cls ≠ "java/lang/invoke/VarHandle" ∧ (parseMethodDescriptor yX2_contextOf.desc).map (fun d => d.parameters.length) = some 1 := by decide +kernel
set_option maxHeartbeats 4000000 in
set_option maxRecDepth 100000 in
theorem ctX2_contextOf (l : Launch) (D : va_G) (a : Nat → Nat) (k : Nat → ClassId) (gM : Nat → Int32) (gnC : Int32) (gbC : Nat → Int32) (gnL : Int32) (gbL : Nat → Int32) (gnF : Int32) (gbF : Nat → Int32) (gnQ : Int32) (gbQ : Nat → Int32) (gE : Nat → Nat → Int32) (gtp : Int32) (glf : Int32) (gtr : Int32) (glh : Int32) (gov : Int32) (x1 : Int32) (r : Int32) (ognC : Int32) (ogbC : Nat → Int32) (ogtr : Int32) (hF : FX2_contextOf x1 gM gnC gbC gtp gtr = some (r, ognC, ogbC, ogtr)) : ji l yX2_contextOf wsX2_contextOf { frames := 2, cells := 0, slots := 0, locals := 45 } D (gt k) [.ref (a 0), .int x1] (gw a k gM gnC gbC gnL gbL gnF gbF gnQ gbQ gE gtp glf gtr glh gov) (gw a k gM ognC ogbC gnL gbL gnF gbF gnQ gbQ gE gtp glf ogtr glh gov) r := by
  refine j_mi (cc := cX2_contextOf) (maxL := 5) (own := RX2) (ret := (some .int)) (by decide) rfl rfl (Nat.le_of_ble_eq_true rfl) ?_
  intro p e s m args below meth c A C K hr hlk
  have K2 : ∀ (n : Nat) (gM : Nat → Int32) (gnC : Int32) (gbC : Nat → Int32) (gtp : Int32) (gtr : Int32) (v2 : Int32), FX2_contextOf_2 x1 n gM gnC gbC gtp gtr v2 = some (r, ognC, ogbC, ogtr) → jw p l e ({ frames := 2, cells := 0, slots := 0, locals := 45 } : Room) s m args below meth c 5 D A 0 0 (jqi below D (gt k) args s A (gw a k gM ognC ogbC gnL gbL gnF gbF gnQ gbQ gE gtp glf ogtr glh gov) r) (gw a k gM gnC gbC gnL gbL gnF gbF gnQ gbQ gE gtp glf gtr glh gov) [(0, .ref (a 0)), (1, .int x1), (2, .int v2)] 2 [] := by
    intro n
    induction n with
    | zero =>
      intro gM gnC gbC gtp gtr v2 hF
      rw [FX2_contextOf_2] at hF
      cases hF
    | succ n ih =>
      intro gM gnC gbC gtp gtr v2 hF
      rw [FX2_contextOf_2] at hF
      refine j_iload_n (pc := 2) C 2 dX2_contextOf_2 rfl rfl ?_
      refine j_aload_n (pc := 3) C 0 dX2_contextOf_3 rfl rfl ?_
      refine j_get (pc := 4) (v := .ref (a 2)) C K inX2_contextOf_X2 0 rfl rfl 1 (by decide) lkX2_contextOf_18 rfl dX2_contextOf_4 ?_
      refine j_getN (pc := 7) (v := .int gnC) C K inX2_contextOf_X1 2 rfl rfl 3 (by decide) lkN_130 rfl dX2_contextOf_7 ?_
      refine j_icmp_ge (pc := 10) (tgt := 34) C dX2_contextOf_10 (by decide) (fun c1 => ?_) (fun c1 => ?_)
      · replace hF := ifp hF c1
        refine j_aload_n (pc := 34) C 0 dX2_contextOf_34 rfl rfl ?_
        refine j_iload_n (pc := 35) C 1 dX2_contextOf_35 rfl rfl ?_
        obtain ⟨rq2, hq2, hF⟩ := bd1_some hF
        refine j_callVi (pc := 36) (As := [.int x1]) (rest := []) (ws' := (gw a k gM gnC gbC gnL gbL gnF gbF gnQ gbQ gE gtp glf gtr glh gov)) C K (ci := 2) (q0 := 0) rfl rfl rfl (ctX2_contextPlace l D a k _ _ _ _ _ _ _ _ _ _ _ _ _ _ _ _ _ hq2) gX2_contextOf_X2_contextPlace rfl rfl rfl hdyX2_contextPlace ⟨Nat.le_of_ble_eq_true rfl, Nat.le_of_ble_eq_true rfl⟩ (List.range 19) (jrange _) (by decide) (jspF rfl) [0, 1, 2, 3, 4, 5] rfl rfl (Nat.le_of_ble_eq_true rfl) dX2_contextOf_36 ⟨Nat.zero_le _, Nat.zero_le _⟩ ?_
        refine j_istore_n (pc := 39) (lv' := [(2, .int rq2), (0, .ref (a 0)), (1, .int x1)]) C dX2_contextOf_39 rfl (by decide) rfl ?_
        refine j_aload_n (pc := 40) C 1 dX2_contextOf_40 rfl rfl ?_
        refine j_iload_n (pc := 41) C 0 dX2_contextOf_41 rfl rfl ?_
        obtain ⟨rq3, hq3, hF⟩ := bd1_some hF
        refine j_callVi (pc := 42) (As := [.int rq2]) (rest := []) (ws' := (gw a k gM gnC gbC gnL gbL gnF gbF gnQ gbQ gE gtp glf gtr glh gov)) C K (ci := 2) (q0 := 0) rfl rfl rfl (ctX2_wordAt l D a k _ _ _ _ _ _ _ _ _ _ _ _ _ _ _ _ _ hq3) gX2_contextOf_X2_wordAt rfl rfl rfl hdyX2_wordAt ⟨Nat.le_of_ble_eq_true rfl, Nat.le_of_ble_eq_true rfl⟩ (List.range 19) (jrange _) (by decide) (jspF rfl) [0, 1, 2, 3, 4, 5] rfl rfl (Nat.le_of_ble_eq_true rfl) dX2_contextOf_42 ⟨Nat.zero_le _, Nat.zero_le _⟩ ?_
        refine j_istore_n (pc := 45) (lv' := [(3, .int rq3), (2, .int rq2), (0, .ref (a 0)), (1, .int x1)]) C dX2_contextOf_45 rfl (by decide) rfl ?_
        refine j_aload_n (pc := 46) C 2 dX2_contextOf_46 rfl rfl ?_
        refine j_dup (pc := 47) C dX2_contextOf_47 rfl ?_
        refine j_get (pc := 48) (v := .int gtr) C K inX2_contextOf_X2 0 rfl rfl 8 (by decide) lkX2_contextOf_44 rfl dX2_contextOf_48 ?_
        refine j_iconst (pc := 51) (v := 1) C dX2_contextOf_51 (by decide) ?_
        refine j_iadd (pc := 52) C dX2_contextOf_52 ?_
        refine j_put (pc := 53) (ws' := (gw a k gM gnC gbC gnL gbL gnF gbF gnQ gbQ gE gtp glf (gtr + 1) glh gov)) C K inX2_contextOf_X2 tyX2 tyX2_ok nmX2 0 rfl rfl 8 (by decide) lkX2_contextOf_44 rfl (tyX2_ok 8 (by decide)) rfl rfl (Nat.le_of_ble_eq_true rfl) rfl dX2_contextOf_53 ?_
        refine j_iload_n (pc := 56) C 0 dX2_contextOf_56 rfl rfl ?_
        refine j_iconst (pc := 57) (v := 1) C dX2_contextOf_57 (by decide) ?_
        refine j_iand (pc := 58) C dX2_contextOf_58 ?_
        refine j_if_ne (pc := 59) (tgt := 64) C dX2_contextOf_59 (by decide) (fun c4 => ?_) (fun c4 => ?_)
        · replace hF := ifn hF c4
          refine j_aload_n (pc := 64) C 2 dX2_contextOf_64 rfl rfl ?_
          refine j_get (pc := 65) (v := .ref (a 2)) C K inX2_contextOf_X2 0 rfl rfl 1 (by decide) lkX2_contextOf_18 rfl dX2_contextOf_65 ?_
          obtain ⟨rq5, q5rn, q5rB, hq5, hF⟩ := bd3_some hF
          refine j_callVi (pc := 68) (As := []) (rest := []) (ws' := (gw a k gM q5rn q5rB gnL gbL gnF gbF gnQ gbQ gE gtp glf (gtr + 1) glh gov)) C K (ci := 1) (q0 := 0) rfl rfl rfl (ctX1_open l D (a 2) (a 3) (k 3) 3 3 9 _ _ _ _ _ hq5) gX2_contextOf_X1_open rfl rfl rfl hdyX1_open ⟨Nat.le_of_ble_eq_true rfl, Nat.le_of_ble_eq_true rfl⟩ [2, 3] rfl (by decide) (jsp_eq (jsp2 (Nat.le_of_ble_eq_true rfl) (Nat.le_of_ble_eq_true rfl) (by decide)) rfl) [1] rfl rfl (Nat.le_of_ble_eq_true rfl) dX2_contextOf_68 ⟨Nat.zero_le _, Nat.zero_le _⟩ ?_
          refine j_istore (pc := 71) (lv' := [(4, .int rq5), (3, .int rq3), (2, .int rq2), (0, .ref (a 0)), (1, .int x1)]) C dX2_contextOf_71 (by decide) rfl ?_
          refine j_aload_n (pc := 73) C 3 dX2_contextOf_73 rfl rfl ?_
          refine j_get (pc := 74) (v := .ref (a 2)) C K inX2_contextOf_X2 0 rfl rfl 1 (by decide) lkX2_contextOf_18 rfl dX2_contextOf_74 ?_
          refine j_iload (pc := 77) C 0 dX2_contextOf_77 rfl ?_
          refine j_iconst (pc := 79) (v := 0) C dX2_contextOf_79 (by decide) ?_
          refine j_iload_n (pc := 80) C 4 dX2_contextOf_80 rfl rfl ?_
          obtain ⟨q6rB, hq6, hF⟩ := bd1_some hF
          refine j_callVv (pc := 81) (As := [.int rq5, .int 0, .int x1]) (rest := []) (ws' := (gw a k gM q5rn q6rB gnL gbL gnF gbF gnQ gbQ gE gtp glf (gtr + 1) glh gov)) C K (ci := 1) (q0 := 0) rfl rfl rfl (ctX1_put l D (a 2) (a 3) (k 3) 3 3 9 _ _ _ _ _ _ hq6) gX2_contextOf_X1_put rfl rfl rfl hdyX1_put ⟨Nat.le_of_ble_eq_true rfl, Nat.le_of_ble_eq_true rfl⟩ [2, 3] rfl (by decide) (jsp_eq (jsp2 (Nat.le_of_ble_eq_true rfl) (Nat.le_of_ble_eq_true rfl) (by decide)) rfl) [1] rfl rfl (Nat.le_of_ble_eq_true rfl) dX2_contextOf_81 ⟨Nat.zero_le _, Nat.zero_le _⟩ ?_
          refine j_aload_n (pc := 84) C 3 dX2_contextOf_84 rfl rfl ?_
          refine j_get (pc := 85) (v := .ref (a 2)) C K inX2_contextOf_X2 0 rfl rfl 1 (by decide) lkX2_contextOf_18 rfl dX2_contextOf_85 ?_
          refine j_iload (pc := 88) C 0 dX2_contextOf_88 rfl ?_
          refine j_iconst (pc := 90) (v := 1) C dX2_contextOf_90 (by decide) ?_
          refine j_iload_n (pc := 91) C 1 dX2_contextOf_91 rfl rfl ?_
          obtain ⟨q7rB, hq7, hF⟩ := bd1_some hF
          refine j_callVv (pc := 92) (As := [.int rq5, .int 1, .int rq3]) (rest := []) (ws' := (gw a k gM q5rn q7rB gnL gbL gnF gbF gnQ gbQ gE gtp glf (gtr + 1) glh gov)) C K (ci := 1) (q0 := 0) rfl rfl rfl (ctX1_put l D (a 2) (a 3) (k 3) 3 3 9 _ _ _ _ _ _ hq7) gX2_contextOf_X1_put rfl rfl rfl hdyX1_put ⟨Nat.le_of_ble_eq_true rfl, Nat.le_of_ble_eq_true rfl⟩ [2, 3] rfl (by decide) (jsp_eq (jsp2 (Nat.le_of_ble_eq_true rfl) (Nat.le_of_ble_eq_true rfl) (by decide)) rfl) [1] rfl rfl (Nat.le_of_ble_eq_true rfl) dX2_contextOf_92 ⟨Nat.zero_le _, Nat.zero_le _⟩ ?_
          refine j_aload_n (pc := 95) C 3 dX2_contextOf_95 rfl rfl ?_
          refine j_get (pc := 96) (v := .ref (a 2)) C K inX2_contextOf_X2 0 rfl rfl 1 (by decide) lkX2_contextOf_18 rfl dX2_contextOf_96 ?_
          refine j_iload (pc := 99) C 0 dX2_contextOf_99 rfl ?_
          refine j_iconst (pc := 101) (v := 2) C dX2_contextOf_101 (by decide) ?_
          refine j_aload_n (pc := 102) C 3 dX2_contextOf_102 rfl rfl ?_
          refine j_iload_n (pc := 103) C 2 dX2_contextOf_103 rfl rfl ?_
          refine j_iconst (pc := 104) (v := 1) C dX2_contextOf_104 (by decide) ?_
          refine j_iadd (pc := 105) C dX2_contextOf_105 ?_
          obtain ⟨rq8, hq8, hF⟩ := bd1_some hF
          refine j_callVi (pc := 106) (As := [.int (rq2 + 1)]) (rest := [.int 2, .int rq5, .ref (a 2)]) (ws' := (gw a k gM q5rn q7rB gnL gbL gnF gbF gnQ gbQ gE gtp glf (gtr + 1) glh gov)) C K (ci := 2) (q0 := 0) rfl rfl rfl (ctX2_wordAt l D a k _ _ _ _ _ _ _ _ _ _ _ _ _ _ _ _ _ hq8) gX2_contextOf_X2_wordAt rfl rfl rfl hdyX2_wordAt ⟨Nat.le_of_ble_eq_true rfl, Nat.le_of_ble_eq_true rfl⟩ (List.range 19) (jrange _) (by decide) (jspF rfl) [0, 1, 2, 3, 4, 5] rfl rfl (Nat.le_of_ble_eq_true rfl) dX2_contextOf_106 ⟨Nat.zero_le _, Nat.zero_le _⟩ ?_
          refine j_bipush (pc := 109) (v := 15) C dX2_contextOf_109 (by decide) ?_
          refine j_iand (pc := 111) C dX2_contextOf_111 ?_
          obtain ⟨q9rB, hq9, hF⟩ := bd1_some hF
          refine j_callVv (pc := 112) (As := [.int rq5, .int 2, .int (rq8 &&& (15 : Int32))]) (rest := []) (ws' := (gw a k gM q5rn q9rB gnL gbL gnF gbF gnQ gbQ gE gtp glf (gtr + 1) glh gov)) C K (ci := 1) (q0 := 0) rfl rfl rfl (ctX1_put l D (a 2) (a 3) (k 3) 3 3 9 _ _ _ _ _ _ hq9) gX2_contextOf_X1_put rfl rfl rfl hdyX1_put ⟨Nat.le_of_ble_eq_true rfl, Nat.le_of_ble_eq_true rfl⟩ [2, 3] rfl (by decide) (jsp_eq (jsp2 (Nat.le_of_ble_eq_true rfl) (Nat.le_of_ble_eq_true rfl) (by decide)) rfl) [1] rfl rfl (Nat.le_of_ble_eq_true rfl) dX2_contextOf_112 ⟨Nat.zero_le _, Nat.zero_le _⟩ ?_
          refine j_iload (pc := 115) C 0 dX2_contextOf_115 rfl ?_
          cases hF
          exact j_iret (pc := 117) C K hr hlk dX2_contextOf_117
        · replace hF := ifp hF c4
          refine j_iconst (pc := 62) (v := (-1)) C dX2_contextOf_62 (by decide) ?_
          cases hF
          exact j_iret (pc := 63) C K hr hlk dX2_contextOf_63
      · replace hF := ifn hF c1
        refine j_aload_n (pc := 13) C 0 dX2_contextOf_13 rfl rfl ?_
        refine j_get (pc := 14) (v := .ref (a 2)) C K inX2_contextOf_X2 0 rfl rfl 1 (by decide) lkX2_contextOf_18 rfl dX2_contextOf_14 ?_
        refine j_iload_n (pc := 17) C 2 dX2_contextOf_17 rfl rfl ?_
        refine j_iconst (pc := 18) (v := 0) C dX2_contextOf_18 (by decide) ?_
        obtain ⟨rq10, hq10, hF⟩ := bd1_some hF
        refine j_callVi (pc := 19) (As := [.int v2, .int 0]) (rest := []) (ws' := (gw a k gM gnC gbC gnL gbL gnF gbF gnQ gbQ gE gtp glf gtr glh gov)) C K (ci := 1) (q0 := 0) rfl rfl rfl (ctX1_cell l D (a 2) (a 3) (k 3) 3 3 9 _ _ _ _ _ hq10) gX2_contextOf_X1_cell rfl rfl rfl hdyX1_cell ⟨Nat.le_of_ble_eq_true rfl, Nat.le_of_ble_eq_true rfl⟩ [2, 3] rfl (by decide) (jsp_eq (jsp2 (Nat.le_of_ble_eq_true rfl) (Nat.le_of_ble_eq_true rfl) (by decide)) rfl) [1] rfl rfl (Nat.le_of_ble_eq_true rfl) dX2_contextOf_19 ⟨Nat.zero_le _, Nat.zero_le _⟩ ?_
        refine j_iload_n (pc := 22) C 1 dX2_contextOf_22 rfl rfl ?_
        refine j_icmp_ne (pc := 23) (tgt := 28) C dX2_contextOf_23 (by decide) (fun c11 => ?_) (fun c11 => ?_)
        · replace hF := ifn hF c11
          refine j_iinc (pc := 28) (v := (v2 + 1)) (lv' := [(2, .int (v2 + 1)), (0, .ref (a 0)), (1, .int x1)]) C 2 dX2_contextOf_28 rfl rfl (by decide) rfl ?_
          refine j_goto (pc := 31) (tgt := 2) C dX2_contextOf_31 (by decide) ?_
          exact j_lv [1, 2, 0] rfl (ih _ _ _ _ _ _ hF)
        · replace hF := ifp hF c11
          refine j_iload_n (pc := 26) C 2 dX2_contextOf_26 rfl rfl ?_
          cases hF
          exact j_iret (pc := 27) C K hr hlk dX2_contextOf_27
  unfold FX2_contextOf at hF
  refine j_iconst (pc := 0) (v := 0) C dX2_contextOf_0 (by decide) ?_
  refine j_istore_n (pc := 1) (lv' := [(2, .int 0), (0, .ref (a 0)), (1, .int x1)]) C dX2_contextOf_1 rfl (by decide) rfl ?_
  exact j_lv [1, 2, 0] rfl (K2 _ _ _ _ _ _ _ hF)
theorem lkX2_entryFor_44 : Cond.fieldLink RX2 44 (TX2 8).1 (TX2 8).2.1 (TX2 8).2.2.1 ∈ wsX2_entryFor := by decide +kernel
theorem inX2_entryFor_X2 : ∀ w ∈ u_ws RX2 TX2 11, w ∈ wsX2_entryFor := by decide +kernel
theorem hdyX2_entryFor : yX2_entryFor.cls = RX2 ∧ yX2_entryFor.cls ≠ "java/lang/invoke/MethodHandle" ∧ yX2_entryFor.cls ≠ "java/lang/invoke/VarHandle" ∧ (parseMethodDescriptor yX2_entryFor.desc).map (fun d => d.parameters.length) = some 3 := by decide +kernel
set_option maxHeartbeats 4000000 in
set_option maxRecDepth 100000 in
theorem ctX2_entryFor (l : Launch) (D : va_G) (a : Nat → Nat) (k : Nat → ClassId) (gM : Nat → Int32) (gnC : Int32) (gbC : Nat → Int32) (gnL : Int32) (gbL : Nat → Int32) (gnF : Int32) (gbF : Nat → Int32) (gnQ : Int32) (gbQ : Nat → Int32) (gE : Nat → Nat → Int32) (gtp : Int32) (glf : Int32) (gtr : Int32) (glh : Int32) (gov : Int32) (x1 x2 x3 : Int32) (r : Int32) (ogtr : Int32) (hF : FX2_entryFor x1 x2 x3 gM gtr = some (r, ogtr)) : ji l yX2_entryFor wsX2_entryFor { frames := 2, cells := 0, slots := 0, locals := 42 } D (gt k) [.ref (a 0), .int x1, .int x2, .int x3] (gw a k gM gnC gbC gnL gbL gnF gbF gnQ gbQ gE gtp glf gtr glh gov) (gw a k gM gnC gbC gnL gbL gnF gbF gnQ gbQ gE gtp glf ogtr glh gov) r := by
  refine j_mi (cc := cX2_entryFor) (maxL := 4) (own := RX2) (ret := (some .int)) (by decide) rfl rfl (Nat.le_of_ble_eq_true rfl) ?_
  intro p e s m args below meth c A C K hr hlk
  unfold FX2_entryFor at hF
  refine j_aload_n (pc := 0) C 0 dX2_entryFor_0 rfl rfl ?_
  refine j_dup (pc := 1) C dX2_entryFor_1 rfl ?_
  refine j_get (pc := 2) (v := .int gtr) C K inX2_entryFor_X2 0 rfl rfl 8 (by decide) lkX2_entryFor_44 rfl dX2_entryFor_2 ?_
  refine j_iconst (pc := 5) (v := 1) C dX2_entryFor_5 (by decide) ?_
  refine j_iadd (pc := 6) C dX2_entryFor_6 ?_
  refine j_put (pc := 7) (ws' := (gw a k gM gnC gbC gnL gbL gnF gbF gnQ gbQ gE gtp glf (gtr + 1) glh gov)) C K inX2_entryFor_X2 tyX2 tyX2_ok nmX2 0 rfl rfl 8 (by decide) lkX2_entryFor_44 rfl (tyX2_ok 8 (by decide)) rfl rfl (Nat.le_of_ble_eq_true rfl) rfl dX2_entryFor_7 ?_
  refine j_aload_n (pc := 10) C 0 dX2_entryFor_10 rfl rfl ?_
  refine j_iload_n (pc := 11) C 1 dX2_entryFor_11 rfl rfl ?_
  refine j_iload_n (pc := 12) C 3 dX2_entryFor_12 rfl rfl ?_
  refine j_iconst (pc := 13) (v := 4) C dX2_entryFor_13 (by decide) ?_
  refine j_iload_n (pc := 14) C 2 dX2_entryFor_14 rfl rfl ?_
  refine j_imul (pc := 15) C dX2_entryFor_15 ?_
  refine j_ishr (pc := 16) C dX2_entryFor_16 ?_
  refine j_bipush (pc := 17) (v := 15) C dX2_entryFor_17 (by decide) ?_
  refine j_iand (pc := 19) C dX2_entryFor_19 ?_
  obtain ⟨rq1, hq1, hF⟩ := bd1_some hF
  refine j_callSi (pc := 20) (As := [.int x1, .int ((x3 >>> (((4 : Int32) * x2) &&& 31)) &&& (15 : Int32))]) (rest := [.ref (a 0)]) (ws' := (gw a k gM gnC gbC gnL gbL gnF gbF gnQ gbQ gE gtp glf (gtr + 1) glh gov)) C K (ctX2_placeIn l D  _ _ _ hq1) gX2_entryFor_X2_placeIn rfl rfl rfl hdyX2_placeIn ⟨Nat.le_of_ble_eq_true rfl, Nat.le_of_ble_eq_true rfl⟩ [] rfl rfl jsp0 [] rfl rfl (Nat.le_of_ble_eq_true rfl) dX2_entryFor_20 ⟨Nat.zero_le _, Nat.zero_le _⟩ ?_
  obtain ⟨rq2, hq2, hF⟩ := bd1_some hF
  refine j_callVi (pc := 23) (As := [.int rq1]) (rest := []) (ws' := (gw a k gM gnC gbC gnL gbL gnF gbF gnQ gbQ gE gtp glf (gtr + 1) glh gov)) C K (ci := 2) (q0 := 0) rfl rfl rfl (ctX2_wordAt l D a k _ _ _ _ _ _ _ _ _ _ _ _ _ _ _ _ _ hq2) gX2_entryFor_X2_wordAt rfl rfl rfl hdyX2_wordAt ⟨Nat.le_of_ble_eq_true rfl, Nat.le_of_ble_eq_true rfl⟩ (List.range 19) (jrange _) (by decide) (jspF rfl) [0, 1, 2, 3, 4, 5] rfl rfl (Nat.le_of_ble_eq_true rfl) dX2_entryFor_23 ⟨Nat.zero_le _, Nat.zero_le _⟩ ?_
  cases hF
  exact j_iret (pc := 26) C K hr hlk dX2_entryFor_26
theorem lkX2_isForPage_22 : Cond.fieldLink RX2 22 (TX2 2).1 (TX2 2).2.1 (TX2 2).2.2.1 ∈ wsX2_isForPage := by decide +kernel
theorem inX2_isForPage_X2 : ∀ w ∈ u_ws RX2 TX2 11, w ∈ wsX2_isForPage := by decide +kernel
theorem hdyX2_isForPage : yX2_isForPage.cls = RX2 ∧ yX2_isForPage.cls ≠ "java/lang/invoke/MethodHandle" ∧ yX2_isForPage.cls ≠ "java/lang/invoke/VarHandle" ∧ (parseMethodDescriptor yX2_isForPage.desc).map (fun d => d.parameters.length) = some 2 := by decide +kernel
set_option maxHeartbeats 4000000 in
set_option maxRecDepth 100000 in
theorem ctX2_isForPage (l : Launch) (D : va_G) (a : Nat → Nat) (k : Nat → ClassId) (gM : Nat → Int32) (gnC : Int32) (gbC : Nat → Int32) (gnL : Int32) (gbL : Nat → Int32) (gnF : Int32) (gbF : Nat → Int32) (gnQ : Int32) (gbQ : Nat → Int32) (gE : Nat → Nat → Int32) (gtp : Int32) (glf : Int32) (gtr : Int32) (glh : Int32) (gov : Int32) (x1 x2 : Int32) (r : Int32) (hF : FX2_isForPage x1 x2 gnL gbL = some r) : ji l yX2_isForPage wsX2_isForPage { frames := 2, cells := 0, slots := 0, locals := 44 } D (gt k) [.ref (a 0), .int x1, .int x2] (gw a k gM gnC gbC gnL gbL gnF gbF gnQ gbQ gE gtp glf gtr glh gov) (gw a k gM gnC gbC gnL gbL gnF gbF gnQ gbQ gE gtp glf gtr glh gov) r := by
  refine j_mi (cc := cX2_isForPage) (maxL := 3) (own := RX2) (ret := (some .boolean)) (by decide) rfl rfl (Nat.le_of_ble_eq_true rfl) ?_
  intro p e s m args below meth c A C K hr hlk
  unfold FX2_isForPage at hF
  refine j_aload_n (pc := 0) C 0 dX2_isForPage_0 rfl rfl ?_
  refine j_get (pc := 1) (v := .ref (a 4)) C K inX2_isForPage_X2 0 rfl rfl 2 (by decide) lkX2_isForPage_22 rfl dX2_isForPage_1 ?_
  refine j_iload_n (pc := 4) C 1 dX2_isForPage_4 rfl rfl ?_
  refine j_iconst (pc := 5) (v := 2) C dX2_isForPage_5 (by decide) ?_
  obtain ⟨rq1, hq1, hF⟩ := bd1_some hF
  refine j_callVi (pc := 6) (As := [.int x1, .int 2]) (rest := []) (ws' := (gw a k gM gnC gbC gnL gbL gnF gbF gnQ gbQ gE gtp glf gtr glh gov)) C K (ci := 1) (q0 := 0) rfl rfl rfl (ctX1_cell l D (a 4) (a 5) (k 5) 6 5 30 _ _ _ _ _ hq1) gX2_isForPage_X1_cell rfl rfl rfl hdyX1_cell ⟨Nat.le_of_ble_eq_true rfl, Nat.le_of_ble_eq_true rfl⟩ [4, 5] rfl (by decide) (jsp_eq (jsp2 (Nat.le_of_ble_eq_true rfl) (Nat.le_of_ble_eq_true rfl) (by decide)) rfl) [2] rfl rfl (Nat.le_of_ble_eq_true rfl) dX2_isForPage_6 ⟨Nat.zero_le _, Nat.zero_le _⟩ ?_
  refine j_iload_n (pc := 9) C 2 dX2_isForPage_9 rfl rfl ?_
  refine j_iconst (pc := 10) (v := 4) C dX2_isForPage_10 (by decide) ?_
  refine j_aload_n (pc := 11) C 0 dX2_isForPage_11 rfl rfl ?_
  refine j_get (pc := 12) (v := .ref (a 4)) C K inX2_isForPage_X2 0 rfl rfl 2 (by decide) lkX2_isForPage_22 rfl dX2_isForPage_12 ?_
  refine j_iload_n (pc := 15) C 1 dX2_isForPage_15 rfl rfl ?_
  refine j_iconst (pc := 16) (v := 1) C dX2_isForPage_16 (by decide) ?_
  obtain ⟨rq2, hq2, hF⟩ := bd1_some hF
  refine j_callVi (pc := 17) (As := [.int x1, .int 1]) (rest := [.int 4, .int x2, .int rq1]) (ws' := (gw a k gM gnC gbC gnL gbL gnF gbF gnQ gbQ gE gtp glf gtr glh gov)) C K (ci := 1) (q0 := 0) rfl rfl rfl (ctX1_cell l D (a 4) (a 5) (k 5) 6 5 30 _ _ _ _ _ hq2) gX2_isForPage_X1_cell rfl rfl rfl hdyX1_cell ⟨Nat.le_of_ble_eq_true rfl, Nat.le_of_ble_eq_true rfl⟩ [4, 5] rfl (by decide) (jsp_eq (jsp2 (Nat.le_of_ble_eq_true rfl) (Nat.le_of_ble_eq_true rfl) (by decide)) rfl) [2] rfl rfl (Nat.le_of_ble_eq_true rfl) dX2_isForPage_17 ⟨Nat.zero_le _, Nat.zero_le _⟩ ?_
  refine j_imul (pc := 20) C dX2_isForPage_20 ?_
  refine j_ishr (pc := 21) C dX2_isForPage_21 ?_
  refine j_icmp_ne (pc := 22) (tgt := 29) C dX2_isForPage_22 (by decide) (fun c3 => ?_) (fun c3 => ?_)
  · replace hF := ifn hF c3
    refine j_iconst (pc := 29) (v := 0) C dX2_isForPage_29 (by decide) ?_
    cases hF
    exact j_zret (pc := 30) C K hr hlk rfl dX2_isForPage_30
  · replace hF := ifp hF c3
    refine j_iconst (pc := 25) (v := 1) C dX2_isForPage_25 (by decide) ?_
    refine j_goto (pc := 26) (tgt := 30) C dX2_isForPage_26 (by decide) ?_
    cases hF
    exact j_zret (pc := 30) C K hr hlk rfl dX2_isForPage_30
theorem lkX2_rememberLeaf_22 : Cond.fieldLink RX2 22 (TX2 2).1 (TX2 2).2.1 (TX2 2).2.2.1 ∈ wsX2_rememberLeaf := by decide +kernel
theorem inX2_rememberLeaf_X2 : ∀ w ∈ u_ws RX2 TX2 11, w ∈ wsX2_rememberLeaf := by decide +kernel
theorem hdyX2_rememberLeaf : yX2_rememberLeaf.cls = RX2 ∧ yX2_rememberLeaf.cls ≠ "java/lang/invoke/MethodHandle" ∧ yX2_rememberLeaf.cls ≠ "java/lang/invoke/VarHandle" ∧ (parseMethodDescriptor yX2_rememberLeaf.desc).map (fun d => d.parameters.length) = some 4 := by decide +kernel
set_option maxHeartbeats 4000000 in
set_option maxRecDepth 100000 in
theorem ctX2_rememberLeaf (l : Launch) (D : va_G) (a : Nat → Nat) (k : Nat → ClassId) (gM : Nat → Int32) (gnC : Int32) (gbC : Nat → Int32) (gnL : Int32) (gbL : Nat → Int32) (gnF : Int32) (gbF : Nat → Int32) (gnQ : Int32) (gbQ : Nat → Int32) (gE : Nat → Nat → Int32) (gtp : Int32) (glf : Int32) (gtr : Int32) (glh : Int32) (gov : Int32) (x1 x2 x3 x4 : Int32) (r : Int32) (ognL : Int32) (ogbL : Nat → Int32) (hF : FX2_rememberLeaf x1 x2 x3 x4 gnL gbL = some (r, ognL, ogbL)) : ji l yX2_rememberLeaf wsX2_rememberLeaf { frames := 2, cells := 0, slots := 0, locals := 45 } D (gt k) [.ref (a 0), .int x1, .int x2, .int x3, .int x4] (gw a k gM gnC gbC gnL gbL gnF gbF gnQ gbQ gE gtp glf gtr glh gov) (gw a k gM gnC gbC ognL ogbL gnF gbF gnQ gbQ gE gtp glf gtr glh gov) r := by
  refine j_mi (cc := cX2_rememberLeaf) (maxL := 6) (own := RX2) (ret := (some .int)) (by decide) rfl rfl (Nat.le_of_ble_eq_true rfl) ?_
  intro p e s m args below meth c A C K hr hlk
  unfold FX2_rememberLeaf at hF
  refine j_aload_n (pc := 0) C 0 dX2_rememberLeaf_0 rfl rfl ?_
  refine j_get (pc := 1) (v := .ref (a 4)) C K inX2_rememberLeaf_X2 0 rfl rfl 2 (by decide) lkX2_rememberLeaf_22 rfl dX2_rememberLeaf_1 ?_
  obtain ⟨rq1, q1rn, q1rB, hq1, hF⟩ := bd3_some hF
  refine j_callVi (pc := 4) (As := []) (rest := []) (ws' := (gw a k gM gnC gbC q1rn q1rB gnF gbF gnQ gbQ gE gtp glf gtr glh gov)) C K (ci := 1) (q0 := 0) rfl rfl rfl (ctX1_open l D (a 4) (a 5) (k 5) 6 5 30 _ _ _ _ _ hq1) gX2_rememberLeaf_X1_open rfl rfl rfl hdyX1_open ⟨Nat.le_of_ble_eq_true rfl, Nat.le_of_ble_eq_true rfl⟩ [4, 5] rfl (by decide) (jsp_eq (jsp2 (Nat.le_of_ble_eq_true rfl) (Nat.le_of_ble_eq_true rfl) (by decide)) rfl) [2] rfl rfl (Nat.le_of_ble_eq_true rfl) dX2_rememberLeaf_4 ⟨Nat.zero_le _, Nat.zero_le _⟩ ?_
  refine j_istore (pc := 7) (lv' := [(5, .int rq1), (0, .ref (a 0)), (1, .int x1), (2, .int x2), (3, .int x3), (4, .int x4)]) C dX2_rememberLeaf_7 (by decide) rfl ?_
  refine j_aload_n (pc := 9) C 1 dX2_rememberLeaf_9 rfl rfl ?_
  refine j_get (pc := 10) (v := .ref (a 4)) C K inX2_rememberLeaf_X2 0 rfl rfl 2 (by decide) lkX2_rememberLeaf_22 rfl dX2_rememberLeaf_10 ?_
  refine j_iload (pc := 13) C 0 dX2_rememberLeaf_13 rfl ?_
  refine j_iconst (pc := 15) (v := 0) C dX2_rememberLeaf_15 (by decide) ?_
  refine j_iload_n (pc := 16) C 2 dX2_rememberLeaf_16 rfl rfl ?_
  obtain ⟨q2rB, hq2, hF⟩ := bd1_some hF
  refine j_callVv (pc := 17) (As := [.int rq1, .int 0, .int x1]) (rest := []) (ws' := (gw a k gM gnC gbC q1rn q2rB gnF gbF gnQ gbQ gE gtp glf gtr glh gov)) C K (ci := 1) (q0 := 0) rfl rfl rfl (ctX1_put l D (a 4) (a 5) (k 5) 6 5 30 _ _ _ _ _ _ hq2) gX2_rememberLeaf_X1_put rfl rfl rfl hdyX1_put ⟨Nat.le_of_ble_eq_true rfl, Nat.le_of_ble_eq_true rfl⟩ [4, 5] rfl (by decide) (jsp_eq (jsp2 (Nat.le_of_ble_eq_true rfl) (Nat.le_of_ble_eq_true rfl) (by decide)) rfl) [2] rfl rfl (Nat.le_of_ble_eq_true rfl) dX2_rememberLeaf_17 ⟨Nat.zero_le _, Nat.zero_le _⟩ ?_
  refine j_aload_n (pc := 20) C 1 dX2_rememberLeaf_20 rfl rfl ?_
  refine j_get (pc := 21) (v := .ref (a 4)) C K inX2_rememberLeaf_X2 0 rfl rfl 2 (by decide) lkX2_rememberLeaf_22 rfl dX2_rememberLeaf_21 ?_
  refine j_iload (pc := 24) C 0 dX2_rememberLeaf_24 rfl ?_
  refine j_iconst (pc := 26) (v := 1) C dX2_rememberLeaf_26 (by decide) ?_
  refine j_iload_n (pc := 27) C 3 dX2_rememberLeaf_27 rfl rfl ?_
  obtain ⟨q3rB, hq3, hF⟩ := bd1_some hF
  refine j_callVv (pc := 28) (As := [.int rq1, .int 1, .int x2]) (rest := []) (ws' := (gw a k gM gnC gbC q1rn q3rB gnF gbF gnQ gbQ gE gtp glf gtr glh gov)) C K (ci := 1) (q0 := 0) rfl rfl rfl (ctX1_put l D (a 4) (a 5) (k 5) 6 5 30 _ _ _ _ _ _ hq3) gX2_rememberLeaf_X1_put rfl rfl rfl hdyX1_put ⟨Nat.le_of_ble_eq_true rfl, Nat.le_of_ble_eq_true rfl⟩ [4, 5] rfl (by decide) (jsp_eq (jsp2 (Nat.le_of_ble_eq_true rfl) (Nat.le_of_ble_eq_true rfl) (by decide)) rfl) [2] rfl rfl (Nat.le_of_ble_eq_true rfl) dX2_rememberLeaf_28 ⟨Nat.zero_le _, Nat.zero_le _⟩ ?_
  refine j_aload_n (pc := 31) C 1 dX2_rememberLeaf_31 rfl rfl ?_
  refine j_get (pc := 32) (v := .ref (a 4)) C K inX2_rememberLeaf_X2 0 rfl rfl 2 (by decide) lkX2_rememberLeaf_22 rfl dX2_rememberLeaf_32 ?_
  refine j_iload (pc := 35) C 0 dX2_rememberLeaf_35 rfl ?_
  refine j_iconst (pc := 37) (v := 2) C dX2_rememberLeaf_37 (by decide) ?_
  refine j_iload_n (pc := 38) C 4 dX2_rememberLeaf_38 rfl rfl ?_
  refine j_iconst (pc := 39) (v := 4) C dX2_rememberLeaf_39 (by decide) ?_
  refine j_iload_n (pc := 40) C 3 dX2_rememberLeaf_40 rfl rfl ?_
  refine j_imul (pc := 41) C dX2_rememberLeaf_41 ?_
  refine j_ishr (pc := 42) C dX2_rememberLeaf_42 ?_
  obtain ⟨q4rB, hq4, hF⟩ := bd1_some hF
  refine j_callVv (pc := 43) (As := [.int rq1, .int 2, .int (x3 >>> (((4 : Int32) * x2) &&& 31))]) (rest := []) (ws' := (gw a k gM gnC gbC q1rn q4rB gnF gbF gnQ gbQ gE gtp glf gtr glh gov)) C K (ci := 1) (q0 := 0) rfl rfl rfl (ctX1_put l D (a 4) (a 5) (k 5) 6 5 30 _ _ _ _ _ _ hq4) gX2_rememberLeaf_X1_put rfl rfl rfl hdyX1_put ⟨Nat.le_of_ble_eq_true rfl, Nat.le_of_ble_eq_true rfl⟩ [4, 5] rfl (by decide) (jsp_eq (jsp2 (Nat.le_of_ble_eq_true rfl) (Nat.le_of_ble_eq_true rfl) (by decide)) rfl) [2] rfl rfl (Nat.le_of_ble_eq_true rfl) dX2_rememberLeaf_43 ⟨Nat.zero_le _, Nat.zero_le _⟩ ?_
  refine j_aload_n (pc := 46) C 1 dX2_rememberLeaf_46 rfl rfl ?_
  refine j_get (pc := 47) (v := .ref (a 4)) C K inX2_rememberLeaf_X2 0 rfl rfl 2 (by decide) lkX2_rememberLeaf_22 rfl dX2_rememberLeaf_47 ?_
  refine j_iload (pc := 50) C 0 dX2_rememberLeaf_50 rfl ?_
  refine j_iconst (pc := 52) (v := 3) C dX2_rememberLeaf_52 (by decide) ?_
  refine j_iload (pc := 53) C 5 dX2_rememberLeaf_53 rfl ?_
  obtain ⟨rq5, hq5, hF⟩ := bd1_some hF
  refine j_callSi (pc := 55) (As := [.int x4]) (rest := [.int 3, .int rq1, .ref (a 4)]) (ws' := (gw a k gM gnC gbC q1rn q4rB gnF gbF gnQ gbQ gE gtp glf gtr glh gov)) C K (ctX2_pageOf l D  _ _ hq5) gX2_rememberLeaf_X2_pageOf rfl rfl rfl hdyX2_pageOf ⟨Nat.le_of_ble_eq_true rfl, Nat.le_of_ble_eq_true rfl⟩ [] rfl rfl jsp0 [] rfl rfl (Nat.le_of_ble_eq_true rfl) dX2_rememberLeaf_55 ⟨Nat.zero_le _, Nat.zero_le _⟩ ?_
  obtain ⟨q6rB, hq6, hF⟩ := bd1_some hF
  refine j_callVv (pc := 58) (As := [.int rq1, .int 3, .int rq5]) (rest := []) (ws' := (gw a k gM gnC gbC q1rn q6rB gnF gbF gnQ gbQ gE gtp glf gtr glh gov)) C K (ci := 1) (q0 := 0) rfl rfl rfl (ctX1_put l D (a 4) (a 5) (k 5) 6 5 30 _ _ _ _ _ _ hq6) gX2_rememberLeaf_X1_put rfl rfl rfl hdyX1_put ⟨Nat.le_of_ble_eq_true rfl, Nat.le_of_ble_eq_true rfl⟩ [4, 5] rfl (by decide) (jsp_eq (jsp2 (Nat.le_of_ble_eq_true rfl) (Nat.le_of_ble_eq_true rfl) (by decide)) rfl) [2] rfl rfl (Nat.le_of_ble_eq_true rfl) dX2_rememberLeaf_58 ⟨Nat.zero_le _, Nat.zero_le _⟩ ?_
  refine j_aload_n (pc := 61) C 1 dX2_rememberLeaf_61 rfl rfl ?_
  refine j_get (pc := 62) (v := .ref (a 4)) C K inX2_rememberLeaf_X2 0 rfl rfl 2 (by decide) lkX2_rememberLeaf_22 rfl dX2_rememberLeaf_62 ?_
  refine j_iload (pc := 65) C 0 dX2_rememberLeaf_65 rfl ?_
  refine j_iconst (pc := 67) (v := 4) C dX2_rememberLeaf_67 (by decide) ?_
  refine j_iload (pc := 68) C 5 dX2_rememberLeaf_68 rfl ?_
  refine j_iconst (pc := 70) (v := 1) C dX2_rememberLeaf_70 (by decide) ?_
  refine j_ishr (pc := 71) C dX2_rememberLeaf_71 ?_
  refine j_iconst (pc := 72) (v := 3) C dX2_rememberLeaf_72 (by decide) ?_
  refine j_iand (pc := 73) C dX2_rememberLeaf_73 ?_
  obtain ⟨q7rB, hq7, hF⟩ := bd1_some hF
  refine j_callVv (pc := 74) (As := [.int rq1, .int 4, .int ((x4 >>> ((1 : Int32) &&& 31)) &&& (3 : Int32))]) (rest := []) (ws' := (gw a k gM gnC gbC q1rn q7rB gnF gbF gnQ gbQ gE gtp glf gtr glh gov)) C K (ci := 1) (q0 := 0) rfl rfl rfl (ctX1_put l D (a 4) (a 5) (k 5) 6 5 30 _ _ _ _ _ _ hq7) gX2_rememberLeaf_X1_put rfl rfl rfl hdyX1_put ⟨Nat.le_of_ble_eq_true rfl, Nat.le_of_ble_eq_true rfl⟩ [4, 5] rfl (by decide) (jsp_eq (jsp2 (Nat.le_of_ble_eq_true rfl) (Nat.le_of_ble_eq_true rfl) (by decide)) rfl) [2] rfl rfl (Nat.le_of_ble_eq_true rfl) dX2_rememberLeaf_74 ⟨Nat.zero_le _, Nat.zero_le _⟩ ?_
  refine j_iload (pc := 77) C 0 dX2_rememberLeaf_77 rfl ?_
  cases hF
  exact j_iret (pc := 79) C K hr hlk dX2_rememberLeaf_79
theorem lkX2_leafFor_22 : Cond.fieldLink RX2 22 (TX2 2).1 (TX2 2).2.1 (TX2 2).2.2.1 ∈ wsX2_leafFor := by decide +kernel
theorem lkX2_leafFor_47 : Cond.fieldLink RX2 47 (TX2 9).1 (TX2 9).2.1 (TX2 9).2.2.1 ∈ wsX2_leafFor := by decide +kernel
theorem inX2_leafFor_X1 : ∀ w ∈ u_ws RX1 TX1 4, w ∈ wsX2_leafFor := by decide +kernel
theorem inX2_leafFor_X2 : ∀ w ∈ u_ws RX2 TX2 11, w ∈ wsX2_leafFor := by decide +kernel
theorem hdyX2_leafFor : yX2_leafFor.cls = RX2 ∧ yX2_leafFor.cls ≠ "java/lang/invoke/MethodHandle" ∧ yX2_leafFor.cls ≠ "java/lang/invoke/VarHandle" ∧ (parseMethodDescriptor yX2_leafFor.desc).map (fun d => d.parameters.length) = some 3 := by decide +kernel
set_option maxHeartbeats 4000000 in
set_option maxRecDepth 100000 in
theorem ctX2_leafFor (l : Launch) (D : va_G) (a : Nat → Nat) (k : Nat → ClassId) (gM : Nat → Int32) (gnC : Int32) (gbC : Nat → Int32) (gnL : Int32) (gbL : Nat → Int32) (gnF : Int32) (gbF : Nat → Int32) (gnQ : Int32) (gbQ : Nat → Int32) (gE : Nat → Nat → Int32) (gtp : Int32) (glf : Int32) (gtr : Int32) (glh : Int32) (gov : Int32) (x1 x2 x3 : Int32) (r : Int32) (ognL : Int32) (ogbL : Nat → Int32) (ogtr : Int32) (oglh : Int32) (hF : FX2_leafFor x1 x2 x3 gM gnL gbL gtr glh = some (r, ognL, ogbL, ogtr, oglh)) : ji l yX2_leafFor wsX2_leafFor { frames := 3, cells := 0, slots := 0, locals := 70 } D (gt k) [.ref (a 0), .int x1, .int x2, .int x3] (gw a k gM gnC gbC gnL gbL gnF gbF gnQ gbQ gE gtp glf gtr glh gov) (gw a k gM gnC gbC ognL ogbL gnF gbF gnQ gbQ gE gtp glf ogtr oglh gov) r := by
  refine j_mi (cc := cX2_leafFor) (maxL := 6) (own := RX2) (ret := (some .int)) (by decide) rfl rfl (Nat.le_of_ble_eq_true rfl) ?_
  intro p e s m args below meth c A C K hr hlk
  have K71 : ∀ (n : Nat) (gM : Nat → Int32) (gnL : Int32) (gbL : Nat → Int32) (gtr : Int32) (glh : Int32) (v4 v5 : Int32), FX2_leafFor_71 x1 x2 x3 n gM gnL gbL gtr glh v4 v5 = some (r, ognL, ogbL, ogtr, oglh) → jw p l e ({ frames := 3, cells := 0, slots := 0, locals := 70 } : Room) s m args below meth c 6 D A 0 0 (jqi below D (gt k) args s A (gw a k gM gnC gbC ognL ogbL gnF gbF gnQ gbQ gE gtp glf ogtr oglh gov) r) (gw a k gM gnC gbC gnL gbL gnF gbF gnQ gbQ gE gtp glf gtr glh gov) [(0, .ref (a 0)), (1, .int x1), (3, .int x3), (4, .int v4), (5, .int v5)] 71 [] := by
    intro n
    induction n with
    | zero =>
      intro gM gnL gbL gtr glh v4 v5 hF
      rw [FX2_leafFor_71] at hF
      cases hF
    | succ n ih =>
      intro gM gnL gbL gtr glh v4 v5 hF
      rw [FX2_leafFor_71] at hF
      refine j_iload (pc := 71) C 3 dX2_leafFor_71 rfl ?_
      refine j_if_le (pc := 73) (tgt := 105) C dX2_leafFor_73 (by decide) (fun c7 => ?_) (fun c7 => ?_)
      · replace hF := ifp hF c7
        refine j_iload (pc := 105) C 4 dX2_leafFor_105 rfl ?_
        refine j_iconst (pc := 107) (v := 1) C dX2_leafFor_107 (by decide) ?_
        refine j_iand (pc := 108) C dX2_leafFor_108 ?_
        refine j_if_ne (pc := 109) (tgt := 115) C dX2_leafFor_109 (by decide) (fun c8 => ?_) (fun c8 => ?_)
        · replace hF := ifn hF c8
          refine j_iload (pc := 115) C 3 dX2_leafFor_115 rfl ?_
          refine j_if_le (pc := 117) (tgt := 134) C dX2_leafFor_117 (by decide) (fun c9 => ?_) (fun c9 => ?_)
          · replace hF := ifp hF c9
            refine j_aload_n (pc := 134) C 0 dX2_leafFor_134 rfl rfl ?_
            refine j_iload_n (pc := 135) C 1 dX2_leafFor_135 rfl rfl ?_
            refine j_iload (pc := 136) C 3 dX2_leafFor_136 rfl ?_
            refine j_iload_n (pc := 138) C 2 dX2_leafFor_138 rfl rfl ?_
            refine j_iload (pc := 139) C 4 dX2_leafFor_139 rfl ?_
            obtain ⟨rq10, q10gnL, q10gbL, hq10, hF⟩ := bd3_some hF
            refine j_callVi (pc := 141) (As := [.int x1, .int v4, .int x3, .int v5]) (rest := []) (ws' := (gw a k gM gnC gbC q10gnL q10gbL gnF gbF gnQ gbQ gE gtp glf gtr glh gov)) C K (ci := 2) (q0 := 0) rfl rfl rfl (ctX2_rememberLeaf l D a k _ _ _ _ _ _ _ _ _ _ _ _ _ _ _ _ _ _ _ _ _ _ hq10) gX2_leafFor_X2_rememberLeaf rfl rfl rfl hdyX2_rememberLeaf ⟨Nat.le_of_ble_eq_true rfl, Nat.le_of_ble_eq_true rfl⟩ (List.range 19) (jrange _) (by decide) (jspF rfl) [0, 1, 2, 3, 4, 5] rfl rfl (Nat.le_of_ble_eq_true rfl) dX2_leafFor_141 ⟨Nat.zero_le _, Nat.zero_le _⟩ ?_
            cases hF
            exact j_iret (pc := 144) C K hr hlk dX2_leafFor_144
          · replace hF := ifn hF c9
            refine j_iload (pc := 120) C 4 dX2_leafFor_120 rfl ?_
            obtain ⟨rq11, hq11, hF⟩ := bd1_some hF
            refine j_callSi (pc := 122) (As := [.int v5]) (rest := []) (ws' := (gw a k gM gnC gbC gnL gbL gnF gbF gnQ gbQ gE gtp glf gtr glh gov)) C K (ctX2_pageOf l D  _ _ hq11) gX2_leafFor_X2_pageOf rfl rfl rfl hdyX2_pageOf ⟨Nat.le_of_ble_eq_true rfl, Nat.le_of_ble_eq_true rfl⟩ [] rfl rfl jsp0 [] rfl rfl (Nat.le_of_ble_eq_true rfl) dX2_leafFor_122 ⟨Nat.zero_le _, Nat.zero_le _⟩ ?_
            refine j_bipush (pc := 125) (v := 15) C dX2_leafFor_125 (by decide) ?_
            refine j_iand (pc := 127) C dX2_leafFor_127 ?_
            refine j_if_eq (pc := 128) (tgt := 134) C dX2_leafFor_128 (by decide) (fun c12 => ?_) (fun c12 => ?_)
            · replace hF := ifp hF c12
              refine j_aload_n (pc := 134) C 0 dX2_leafFor_134 rfl rfl ?_
              refine j_iload_n (pc := 135) C 1 dX2_leafFor_135 rfl rfl ?_
              refine j_iload (pc := 136) C 3 dX2_leafFor_136 rfl ?_
              refine j_iload_n (pc := 138) C 2 dX2_leafFor_138 rfl rfl ?_
              refine j_iload (pc := 139) C 4 dX2_leafFor_139 rfl ?_
              obtain ⟨rq13, q13gnL, q13gbL, hq13, hF⟩ := bd3_some hF
              refine j_callVi (pc := 141) (As := [.int x1, .int v4, .int x3, .int v5]) (rest := []) (ws' := (gw a k gM gnC gbC q13gnL q13gbL gnF gbF gnQ gbQ gE gtp glf gtr glh gov)) C K (ci := 2) (q0 := 0) rfl rfl rfl (ctX2_rememberLeaf l D a k _ _ _ _ _ _ _ _ _ _ _ _ _ _ _ _ _ _ _ _ _ _ hq13) gX2_leafFor_X2_rememberLeaf rfl rfl rfl hdyX2_rememberLeaf ⟨Nat.le_of_ble_eq_true rfl, Nat.le_of_ble_eq_true rfl⟩ (List.range 19) (jrange _) (by decide) (jspF rfl) [0, 1, 2, 3, 4, 5] rfl rfl (Nat.le_of_ble_eq_true rfl) dX2_leafFor_141 ⟨Nat.zero_le _, Nat.zero_le _⟩ ?_
              cases hF
              exact j_iret (pc := 144) C K hr hlk dX2_leafFor_144
            · replace hF := ifn hF c12
              refine j_bipush (pc := 131) (v := (-5)) C dX2_leafFor_131 (by decide) ?_
              cases hF
              exact j_iret (pc := 133) C K hr hlk dX2_leafFor_133
        · replace hF := ifp hF c8
          refine j_bipush (pc := 112) (v := (-2)) C dX2_leafFor_112 (by decide) ?_
          cases hF
          exact j_iret (pc := 114) C K hr hlk dX2_leafFor_114
      · replace hF := ifn hF c7
        refine j_iload (pc := 76) C 4 dX2_leafFor_76 rfl ?_
        refine j_bipush (pc := 78) (v := 9) C dX2_leafFor_78 (by decide) ?_
        refine j_iand (pc := 80) C dX2_leafFor_80 ?_
        refine j_iconst (pc := 81) (v := 1) C dX2_leafFor_81 (by decide) ?_
        refine j_icmp_ne (pc := 82) (tgt := 105) C dX2_leafFor_82 (by decide) (fun c14 => ?_) (fun c14 => ?_)
        · replace hF := ifn hF c14
          refine j_iload (pc := 105) C 4 dX2_leafFor_105 rfl ?_
          refine j_iconst (pc := 107) (v := 1) C dX2_leafFor_107 (by decide) ?_
          refine j_iand (pc := 108) C dX2_leafFor_108 ?_
          refine j_if_ne (pc := 109) (tgt := 115) C dX2_leafFor_109 (by decide) (fun c15 => ?_) (fun c15 => ?_)
          · replace hF := ifn hF c15
            refine j_iload (pc := 115) C 3 dX2_leafFor_115 rfl ?_
            refine j_if_le (pc := 117) (tgt := 134) C dX2_leafFor_117 (by decide) (fun c16 => ?_) (fun c16 => ?_)
            · replace hF := ifp hF c16
              refine j_aload_n (pc := 134) C 0 dX2_leafFor_134 rfl rfl ?_
              refine j_iload_n (pc := 135) C 1 dX2_leafFor_135 rfl rfl ?_
              refine j_iload (pc := 136) C 3 dX2_leafFor_136 rfl ?_
              refine j_iload_n (pc := 138) C 2 dX2_leafFor_138 rfl rfl ?_
              refine j_iload (pc := 139) C 4 dX2_leafFor_139 rfl ?_
              obtain ⟨rq17, q17gnL, q17gbL, hq17, hF⟩ := bd3_some hF
              refine j_callVi (pc := 141) (As := [.int x1, .int v4, .int x3, .int v5]) (rest := []) (ws' := (gw a k gM gnC gbC q17gnL q17gbL gnF gbF gnQ gbQ gE gtp glf gtr glh gov)) C K (ci := 2) (q0 := 0) rfl rfl rfl (ctX2_rememberLeaf l D a k _ _ _ _ _ _ _ _ _ _ _ _ _ _ _ _ _ _ _ _ _ _ hq17) gX2_leafFor_X2_rememberLeaf rfl rfl rfl hdyX2_rememberLeaf ⟨Nat.le_of_ble_eq_true rfl, Nat.le_of_ble_eq_true rfl⟩ (List.range 19) (jrange _) (by decide) (jspF rfl) [0, 1, 2, 3, 4, 5] rfl rfl (Nat.le_of_ble_eq_true rfl) dX2_leafFor_141 ⟨Nat.zero_le _, Nat.zero_le _⟩ ?_
              cases hF
              exact j_iret (pc := 144) C K hr hlk dX2_leafFor_144
            · replace hF := ifn hF c16
              refine j_iload (pc := 120) C 4 dX2_leafFor_120 rfl ?_
              obtain ⟨rq18, hq18, hF⟩ := bd1_some hF
              refine j_callSi (pc := 122) (As := [.int v5]) (rest := []) (ws' := (gw a k gM gnC gbC gnL gbL gnF gbF gnQ gbQ gE gtp glf gtr glh gov)) C K (ctX2_pageOf l D  _ _ hq18) gX2_leafFor_X2_pageOf rfl rfl rfl hdyX2_pageOf ⟨Nat.le_of_ble_eq_true rfl, Nat.le_of_ble_eq_true rfl⟩ [] rfl rfl jsp0 [] rfl rfl (Nat.le_of_ble_eq_true rfl) dX2_leafFor_122 ⟨Nat.zero_le _, Nat.zero_le _⟩ ?_
              refine j_bipush (pc := 125) (v := 15) C dX2_leafFor_125 (by decide) ?_
              refine j_iand (pc := 127) C dX2_leafFor_127 ?_
              refine j_if_eq (pc := 128) (tgt := 134) C dX2_leafFor_128 (by decide) (fun c19 => ?_) (fun c19 => ?_)
              · replace hF := ifp hF c19
                refine j_aload_n (pc := 134) C 0 dX2_leafFor_134 rfl rfl ?_
                refine j_iload_n (pc := 135) C 1 dX2_leafFor_135 rfl rfl ?_
                refine j_iload (pc := 136) C 3 dX2_leafFor_136 rfl ?_
                refine j_iload_n (pc := 138) C 2 dX2_leafFor_138 rfl rfl ?_
                refine j_iload (pc := 139) C 4 dX2_leafFor_139 rfl ?_
                obtain ⟨rq20, q20gnL, q20gbL, hq20, hF⟩ := bd3_some hF
                refine j_callVi (pc := 141) (As := [.int x1, .int v4, .int x3, .int v5]) (rest := []) (ws' := (gw a k gM gnC gbC q20gnL q20gbL gnF gbF gnQ gbQ gE gtp glf gtr glh gov)) C K (ci := 2) (q0 := 0) rfl rfl rfl (ctX2_rememberLeaf l D a k _ _ _ _ _ _ _ _ _ _ _ _ _ _ _ _ _ _ _ _ _ _ hq20) gX2_leafFor_X2_rememberLeaf rfl rfl rfl hdyX2_rememberLeaf ⟨Nat.le_of_ble_eq_true rfl, Nat.le_of_ble_eq_true rfl⟩ (List.range 19) (jrange _) (by decide) (jspF rfl) [0, 1, 2, 3, 4, 5] rfl rfl (Nat.le_of_ble_eq_true rfl) dX2_leafFor_141 ⟨Nat.zero_le _, Nat.zero_le _⟩ ?_
                cases hF
                exact j_iret (pc := 144) C K hr hlk dX2_leafFor_144
              · replace hF := ifn hF c19
                refine j_bipush (pc := 131) (v := (-5)) C dX2_leafFor_131 (by decide) ?_
                cases hF
                exact j_iret (pc := 133) C K hr hlk dX2_leafFor_133
          · replace hF := ifp hF c15
            refine j_bipush (pc := 112) (v := (-2)) C dX2_leafFor_112 (by decide) ?_
            cases hF
            exact j_iret (pc := 114) C K hr hlk dX2_leafFor_114
        · replace hF := ifp hF c14
          refine j_iinc (pc := 85) (v := (v4 + (-1))) (lv' := [(4, .int (v4 + (-1))), (0, .ref (a 0)), (1, .int x1), (3, .int x3), (5, .int v5)]) C 3 dX2_leafFor_85 rfl rfl (by decide) rfl ?_
          refine j_aload_n (pc := 88) C 1 dX2_leafFor_88 rfl rfl ?_
          refine j_iload (pc := 89) C 4 dX2_leafFor_89 rfl ?_
          obtain ⟨rq21, hq21, hF⟩ := bd1_some hF
          refine j_callSi (pc := 91) (As := [.int v5]) (rest := [.ref (a 0)]) (ws' := (gw a k gM gnC gbC gnL gbL gnF gbF gnQ gbQ gE gtp glf gtr glh gov)) C K (ctX2_pageOf l D  _ _ hq21) gX2_leafFor_X2_pageOf rfl rfl rfl hdyX2_pageOf ⟨Nat.le_of_ble_eq_true rfl, Nat.le_of_ble_eq_true rfl⟩ [] rfl rfl jsp0 [] rfl rfl (Nat.le_of_ble_eq_true rfl) dX2_leafFor_91 ⟨Nat.zero_le _, Nat.zero_le _⟩ ?_
          refine j_iload (pc := 94) C 0 dX2_leafFor_94 rfl ?_
          refine j_iload_n (pc := 96) C 3 dX2_leafFor_96 rfl rfl ?_
          obtain ⟨rq22, q22gtr, hq22, hF⟩ := bd2_some hF
          refine j_callVi (pc := 97) (As := [.int rq21, .int (v4 + (-1)), .int x3]) (rest := []) (ws' := (gw a k gM gnC gbC gnL gbL gnF gbF gnQ gbQ gE gtp glf q22gtr glh gov)) C K (ci := 2) (q0 := 0) rfl rfl rfl (ctX2_entryFor l D a k _ _ _ _ _ _ _ _ _ _ _ _ _ _ _ _ _ _ _ _ hq22) gX2_leafFor_X2_entryFor rfl rfl rfl hdyX2_entryFor ⟨Nat.le_of_ble_eq_true rfl, Nat.le_of_ble_eq_true rfl⟩ (List.range 19) (jrange _) (by decide) (jspF rfl) [0, 1, 2, 3, 4, 5] rfl rfl (Nat.le_of_ble_eq_true rfl) dX2_leafFor_97 ⟨Nat.zero_le _, Nat.zero_le _⟩ ?_
          refine j_istore (pc := 100) (lv' := [(5, .int rq22), (4, .int (v4 + (-1))), (0, .ref (a 0)), (1, .int x1), (3, .int x3)]) C dX2_leafFor_100 (by decide) rfl ?_
          refine j_goto (pc := 102) (tgt := 71) C dX2_leafFor_102 (by decide) ?_
          exact j_lv [2, 3, 4, 1, 0] rfl (ih _ _ _ _ _ _ _ hF)
  have K3 : ∀ (n : Nat) (gM : Nat → Int32) (gnL : Int32) (gbL : Nat → Int32) (gtr : Int32) (glh : Int32) (v4 : Int32), FX2_leafFor_3 x1 x2 x3 n gM gnL gbL gtr glh v4 = some (r, ognL, ogbL, ogtr, oglh) → jw p l e ({ frames := 3, cells := 0, slots := 0, locals := 70 } : Room) s m args below meth c 6 D A 0 0 (jqi below D (gt k) args s A (gw a k gM gnC gbC ognL ogbL gnF gbF gnQ gbQ gE gtp glf ogtr oglh gov) r) (gw a k gM gnC gbC gnL gbL gnF gbF gnQ gbQ gE gtp glf gtr glh gov) [(0, .ref (a 0)), (1, .int x1), (2, .int x2), (3, .int x3), (4, .int v4)] 3 [] := by
    intro n
    induction n with
    | zero =>
      intro gM gnL gbL gtr glh v4 hF
      rw [FX2_leafFor_3] at hF
      cases hF
    | succ n ih =>
      intro gM gnL gbL gtr glh v4 hF
      rw [FX2_leafFor_3] at hF
      refine j_iload (pc := 3) C 4 dX2_leafFor_3 rfl ?_
      refine j_aload_n (pc := 5) C 0 dX2_leafFor_5 rfl rfl ?_
      refine j_get (pc := 6) (v := .ref (a 4)) C K inX2_leafFor_X2 0 rfl rfl 2 (by decide) lkX2_leafFor_22 rfl dX2_leafFor_6 ?_
      refine j_getN (pc := 9) (v := .int gnL) C K inX2_leafFor_X1 4 rfl rfl 3 (by decide) lkN_130 rfl dX2_leafFor_9 ?_
      refine j_icmp_ge (pc := 12) (tgt := 58) C dX2_leafFor_12 (by decide) (fun c1 => ?_) (fun c1 => ?_)
      · replace hF := ifp hF c1
        refine j_iconst (pc := 58) (v := 2) C dX2_leafFor_58 (by decide) ?_
        refine j_istore (pc := 59) (lv' := [(4, .int 2), (0, .ref (a 0)), (1, .int x1), (2, .int x2), (3, .int x3)]) C dX2_leafFor_59 (by decide) rfl ?_
        refine j_aload_n (pc := 61) C 1 dX2_leafFor_61 rfl rfl ?_
        refine j_iload_n (pc := 62) C 3 dX2_leafFor_62 rfl rfl ?_
        refine j_iload (pc := 63) C 0 dX2_leafFor_63 rfl ?_
        refine j_iload_n (pc := 65) C 4 dX2_leafFor_65 rfl rfl ?_
        obtain ⟨rq2, q2gtr, hq2, hF⟩ := bd2_some hF
        refine j_callVi (pc := 66) (As := [.int x2, .int 2, .int x3]) (rest := []) (ws' := (gw a k gM gnC gbC gnL gbL gnF gbF gnQ gbQ gE gtp glf q2gtr glh gov)) C K (ci := 2) (q0 := 0) rfl rfl rfl (ctX2_entryFor l D a k _ _ _ _ _ _ _ _ _ _ _ _ _ _ _ _ _ _ _ _ hq2) gX2_leafFor_X2_entryFor rfl rfl rfl hdyX2_entryFor ⟨Nat.le_of_ble_eq_true rfl, Nat.le_of_ble_eq_true rfl⟩ (List.range 19) (jrange _) (by decide) (jspF rfl) [0, 1, 2, 3, 4, 5] rfl rfl (Nat.le_of_ble_eq_true rfl) dX2_leafFor_66 ⟨Nat.zero_le _, Nat.zero_le _⟩ ?_
        refine j_istore (pc := 69) (lv' := [(5, .int rq2), (4, .int 2), (0, .ref (a 0)), (1, .int x1), (2, .int x2), (3, .int x3)]) C dX2_leafFor_69 (by decide) rfl ?_
        exact j_lv [2, 3, 5, 1, 0] rfl (K71 _ _ _ _ _ _ _ _ hF)
      · replace hF := ifn hF c1
        refine j_aload_n (pc := 15) C 0 dX2_leafFor_15 rfl rfl ?_
        refine j_get (pc := 16) (v := .ref (a 4)) C K inX2_leafFor_X2 0 rfl rfl 2 (by decide) lkX2_leafFor_22 rfl dX2_leafFor_16 ?_
        refine j_iload (pc := 19) C 4 dX2_leafFor_19 rfl ?_
        refine j_iconst (pc := 21) (v := 0) C dX2_leafFor_21 (by decide) ?_
        obtain ⟨rq3, hq3, hF⟩ := bd1_some hF
        refine j_callVi (pc := 22) (As := [.int v4, .int 0]) (rest := []) (ws' := (gw a k gM gnC gbC gnL gbL gnF gbF gnQ gbQ gE gtp glf gtr glh gov)) C K (ci := 1) (q0 := 0) rfl rfl rfl (ctX1_cell l D (a 4) (a 5) (k 5) 6 5 30 _ _ _ _ _ hq3) gX2_leafFor_X1_cell rfl rfl rfl hdyX1_cell ⟨Nat.le_of_ble_eq_true rfl, Nat.le_of_ble_eq_true rfl⟩ [4, 5] rfl (by decide) (jsp_eq (jsp2 (Nat.le_of_ble_eq_true rfl) (Nat.le_of_ble_eq_true rfl) (by decide)) rfl) [2] rfl rfl (Nat.le_of_ble_eq_true rfl) dX2_leafFor_22 ⟨Nat.zero_le _, Nat.zero_le _⟩ ?_
        refine j_iload_n (pc := 25) C 1 dX2_leafFor_25 rfl rfl ?_
        refine j_icmp_ne (pc := 26) (tgt := 52) C dX2_leafFor_26 (by decide) (fun c4 => ?_) (fun c4 => ?_)
        · replace hF := ifn hF c4
          refine j_iinc (pc := 52) (v := (v4 + 1)) (lv' := [(4, .int (v4 + 1)), (0, .ref (a 0)), (1, .int x1), (2, .int x2), (3, .int x3)]) C 4 dX2_leafFor_52 rfl rfl (by decide) rfl ?_
          refine j_goto (pc := 55) (tgt := 3) C dX2_leafFor_55 (by decide) ?_
          exact j_lv [1, 2, 3, 4, 0] rfl (ih _ _ _ _ _ _ hF)
        · replace hF := ifp hF c4
          refine j_aload_n (pc := 29) C 0 dX2_leafFor_29 rfl rfl ?_
          refine j_iload (pc := 30) C 4 dX2_leafFor_30 rfl ?_
          refine j_iload_n (pc := 32) C 3 dX2_leafFor_32 rfl rfl ?_
          obtain ⟨rq5, hq5, hF⟩ := bd1_some hF
          refine j_callVi (pc := 33) (As := [.int v4, .int x3]) (rest := []) (ws' := (gw a k gM gnC gbC gnL gbL gnF gbF gnQ gbQ gE gtp glf gtr glh gov)) C K (ci := 2) (q0 := 0) rfl rfl rfl (ctX2_isForPage l D a k _ _ _ _ _ _ _ _ _ _ _ _ _ _ _ _ _ _ hq5) gX2_leafFor_X2_isForPage rfl rfl rfl hdyX2_isForPage ⟨Nat.le_of_ble_eq_true rfl, Nat.le_of_ble_eq_true rfl⟩ (List.range 19) (jrange _) (by decide) (jspF rfl) [0, 1, 2, 3, 4, 5] rfl rfl (Nat.le_of_ble_eq_true rfl) dX2_leafFor_33 ⟨Nat.zero_le _, Nat.zero_le _⟩ ?_
          refine j_if_eq (pc := 36) (tgt := 52) C dX2_leafFor_36 (by decide) (fun c6 => ?_) (fun c6 => ?_)
          · replace hF := ifp hF c6
            refine j_iinc (pc := 52) (v := (v4 + 1)) (lv' := [(4, .int (v4 + 1)), (0, .ref (a 0)), (1, .int x1), (2, .int x2), (3, .int x3)]) C 4 dX2_leafFor_52 rfl rfl (by decide) rfl ?_
            refine j_goto (pc := 55) (tgt := 3) C dX2_leafFor_55 (by decide) ?_
            exact j_lv [1, 2, 3, 4, 0] rfl (ih _ _ _ _ _ _ hF)
          · replace hF := ifn hF c6
            refine j_aload_n (pc := 39) C 0 dX2_leafFor_39 rfl rfl ?_
            refine j_dup (pc := 40) C dX2_leafFor_40 rfl ?_
            refine j_get (pc := 41) (v := .int glh) C K inX2_leafFor_X2 0 rfl rfl 9 (by decide) lkX2_leafFor_47 rfl dX2_leafFor_41 ?_
            refine j_iconst (pc := 44) (v := 1) C dX2_leafFor_44 (by decide) ?_
            refine j_iadd (pc := 45) C dX2_leafFor_45 ?_
            refine j_put (pc := 46) (ws' := (gw a k gM gnC gbC gnL gbL gnF gbF gnQ gbQ gE gtp glf gtr (glh + 1) gov)) C K inX2_leafFor_X2 tyX2 tyX2_ok nmX2 0 rfl rfl 9 (by decide) lkX2_leafFor_47 rfl (tyX2_ok 9 (by decide)) rfl rfl (Nat.le_of_ble_eq_true rfl) rfl dX2_leafFor_46 ?_
            refine j_iload (pc := 49) C 4 dX2_leafFor_49 rfl ?_
            cases hF
            exact j_iret (pc := 51) C K hr hlk dX2_leafFor_51
  unfold FX2_leafFor at hF
  refine j_iconst (pc := 0) (v := 0) C dX2_leafFor_0 (by decide) ?_
  refine j_istore (pc := 1) (lv' := [(4, .int 0), (0, .ref (a 0)), (1, .int x1), (2, .int x2), (3, .int x3)]) C dX2_leafFor_1 (by decide) rfl ?_
  exact j_lv [1, 2, 3, 4, 0] rfl (K3 _ _ _ _ _ _ _ hF)
theorem lkX2_placeBy_22 : Cond.fieldLink RX2 22 (TX2 2).1 (TX2 2).2.1 (TX2 2).2.2.1 ∈ wsX2_placeBy := by decide +kernel
theorem inX2_placeBy_X2 : ∀ w ∈ u_ws RX2 TX2 11, w ∈ wsX2_placeBy := by decide +kernel
theorem hdyX2_placeBy : yX2_placeBy.cls = RX2 ∧ yX2_placeBy.cls ≠ "java/lang/invoke/MethodHandle" ∧ yX2_placeBy.cls ≠ "java/lang/invoke/VarHandle" ∧ (parseMethodDescriptor yX2_placeBy.desc).map (fun d => d.parameters.length) = some 2 := by decide +kernel
set_option maxHeartbeats 4000000 in
set_option maxRecDepth 100000 in
theorem ctX2_placeBy (l : Launch) (D : va_G) (a : Nat → Nat) (k : Nat → ClassId) (gM : Nat → Int32) (gnC : Int32) (gbC : Nat → Int32) (gnL : Int32) (gbL : Nat → Int32) (gnF : Int32) (gbF : Nat → Int32) (gnQ : Int32) (gbQ : Nat → Int32) (gE : Nat → Nat → Int32) (gtp : Int32) (glf : Int32) (gtr : Int32) (glh : Int32) (gov : Int32) (x1 x2 : Int32) (r : Int32) (hF : FX2_placeBy x1 x2 gnL gbL = some r) : ji l yX2_placeBy wsX2_placeBy { frames := 2, cells := 0, slots := 0, locals := 44 } D (gt k) [.ref (a 0), .int x1, .int x2] (gw a k gM gnC gbC gnL gbL gnF gbF gnQ gbQ gE gtp glf gtr glh gov) (gw a k gM gnC gbC gnL gbL gnF gbF gnQ gbQ gE gtp glf gtr glh gov) r := by
  refine j_mi (cc := cX2_placeBy) (maxL := 5) (own := RX2) (ret := (some .int)) (by decide) rfl rfl (Nat.le_of_ble_eq_true rfl) ?_
  intro p e s m args below meth c A C K hr hlk
  unfold FX2_placeBy at hF
  refine j_iconst (pc := 0) (v := 1) C dX2_placeBy_0 (by decide) ?_
  refine j_iconst (pc := 1) (v := 4) C dX2_placeBy_1 (by decide) ?_
  refine j_aload_n (pc := 2) C 0 dX2_placeBy_2 rfl rfl ?_
  refine j_get (pc := 3) (v := .ref (a 4)) C K inX2_placeBy_X2 0 rfl rfl 2 (by decide) lkX2_placeBy_22 rfl dX2_placeBy_3 ?_
  refine j_iload_n (pc := 6) C 1 dX2_placeBy_6 rfl rfl ?_
  refine j_iconst (pc := 7) (v := 1) C dX2_placeBy_7 (by decide) ?_
  obtain ⟨rq1, hq1, hF⟩ := bd1_some hF
  refine j_callVi (pc := 8) (As := [.int x1, .int 1]) (rest := [.int 4, .int 1]) (ws' := (gw a k gM gnC gbC gnL gbL gnF gbF gnQ gbQ gE gtp glf gtr glh gov)) C K (ci := 1) (q0 := 0) rfl rfl rfl (ctX1_cell l D (a 4) (a 5) (k 5) 6 5 30 _ _ _ _ _ hq1) gX2_placeBy_X1_cell rfl rfl rfl hdyX1_cell ⟨Nat.le_of_ble_eq_true rfl, Nat.le_of_ble_eq_true rfl⟩ [4, 5] rfl (by decide) (jsp_eq (jsp2 (Nat.le_of_ble_eq_true rfl) (Nat.le_of_ble_eq_true rfl) (by decide)) rfl) [2] rfl rfl (Nat.le_of_ble_eq_true rfl) dX2_placeBy_8 ⟨Nat.zero_le _, Nat.zero_le _⟩ ?_
  refine j_imul (pc := 11) C dX2_placeBy_11 ?_
  refine j_ishl (pc := 12) C dX2_placeBy_12 ?_
  refine j_iconst (pc := 13) (v := 1) C dX2_placeBy_13 (by decide) ?_
  refine j_isub (pc := 14) C dX2_placeBy_14 ?_
  refine j_istore_n (pc := 15) (lv' := [(3, .int (((1 : Int32) <<< (((4 : Int32) * rq1) &&& 31)) - 1)), (0, .ref (a 0)), (1, .int x1), (2, .int x2)]) C dX2_placeBy_15 rfl (by decide) rfl ?_
  refine j_aload_n (pc := 16) C 1 dX2_placeBy_16 rfl rfl ?_
  refine j_get (pc := 17) (v := .ref (a 4)) C K inX2_placeBy_X2 0 rfl rfl 2 (by decide) lkX2_placeBy_22 rfl dX2_placeBy_17 ?_
  refine j_iload_n (pc := 20) C 2 dX2_placeBy_20 rfl rfl ?_
  refine j_iconst (pc := 21) (v := 3) C dX2_placeBy_21 (by decide) ?_
  obtain ⟨rq2, hq2, hF⟩ := bd1_some hF
  refine j_callVi (pc := 22) (As := [.int x1, .int 3]) (rest := []) (ws' := (gw a k gM gnC gbC gnL gbL gnF gbF gnQ gbQ gE gtp glf gtr glh gov)) C K (ci := 1) (q0 := 0) rfl rfl rfl (ctX1_cell l D (a 4) (a 5) (k 5) 6 5 30 _ _ _ _ _ hq2) gX2_placeBy_X1_cell rfl rfl rfl hdyX1_cell ⟨Nat.le_of_ble_eq_true rfl, Nat.le_of_ble_eq_true rfl⟩ [4, 5] rfl (by decide) (jsp_eq (jsp2 (Nat.le_of_ble_eq_true rfl) (Nat.le_of_ble_eq_true rfl) (by decide)) rfl) [2] rfl rfl (Nat.le_of_ble_eq_true rfl) dX2_placeBy_22 ⟨Nat.zero_le _, Nat.zero_le _⟩ ?_
  refine j_iload_n (pc := 25) C 3 dX2_placeBy_25 rfl rfl ?_
  refine j_bipush (pc := 26) (v := 8) C dX2_placeBy_26 (by decide) ?_
  refine j_ishr (pc := 28) C dX2_placeBy_28 ?_
  refine j_iload_n (pc := 29) C 0 dX2_placeBy_29 rfl rfl ?_
  refine j_iand (pc := 30) C dX2_placeBy_30 ?_
  refine j_iadd (pc := 31) C dX2_placeBy_31 ?_
  refine j_istore (pc := 32) (lv' := [(4, .int (rq2 + ((x2 >>> ((8 : Int32) &&& 31)) &&& (((1 : Int32) <<< (((4 : Int32) * rq1) &&& 31)) - 1)))), (3, .int (((1 : Int32) <<< (((4 : Int32) * rq1) &&& 31)) - 1)), (0, .ref (a 0)), (1, .int x1), (2, .int x2)]) C dX2_placeBy_32 (by decide) rfl ?_
  refine j_iload (pc := 34) C 0 dX2_placeBy_34 rfl ?_
  refine j_bipush (pc := 36) (v := 63) C dX2_placeBy_36 (by decide) ?_
  refine j_iand (pc := 38) C dX2_placeBy_38 ?_
  refine j_iload_n (pc := 39) C 4 dX2_placeBy_39 rfl rfl ?_
  refine j_sipush (pc := 40) (v := 255) C dX2_placeBy_40 (by decide) ?_
  refine j_iand (pc := 43) C dX2_placeBy_43 ?_
  obtain ⟨rq3, hq3, hF⟩ := bd1_some hF
  refine j_callSi (pc := 44) (As := [.int ((rq2 + ((x2 >>> ((8 : Int32) &&& 31)) &&& (((1 : Int32) <<< (((4 : Int32) * rq1) &&& 31)) - 1))) &&& (63 : Int32)), .int (x2 &&& (255 : Int32))]) (rest := []) (ws' := (gw a k gM gnC gbC gnL gbL gnF gbF gnQ gbQ gE gtp glf gtr glh gov)) C K (ctX2_placeIn l D  _ _ _ hq3) gX2_placeBy_X2_placeIn rfl rfl rfl hdyX2_placeIn ⟨Nat.le_of_ble_eq_true rfl, Nat.le_of_ble_eq_true rfl⟩ [] rfl rfl jsp0 [] rfl rfl (Nat.le_of_ble_eq_true rfl) dX2_placeBy_44 ⟨Nat.zero_le _, Nat.zero_le _⟩ ?_
  cases hF
  exact j_iret (pc := 47) C K hr hlk dX2_placeBy_47
theorem lkX2_lead_k80 : Cond.constant RX2 80 1048576 ∈ wsX2_lead := by decide +kernel
theorem lkX2_lead_18 : Cond.fieldLink RX2 18 (TX2 1).1 (TX2 1).2.1 (TX2 1).2.2.1 ∈ wsX2_lead := by decide +kernel
theorem lkX2_lead_22 : Cond.fieldLink RX2 22 (TX2 2).1 (TX2 2).2.1 (TX2 2).2.2.1 ∈ wsX2_lead := by decide +kernel
theorem inX2_lead_X2 : ∀ w ∈ u_ws RX2 TX2 11, w ∈ wsX2_lead := by decide +kernel
theorem hdyX2_lead : yX2_lead.cls = RX2 ∧ yX2_lead.cls ≠ "java/lang/invoke/MethodHandle" ∧ yX2_lead.cls ≠ "java/lang/invoke/VarHandle" ∧ (parseMethodDescriptor yX2_lead.desc).map (fun d => d.parameters.length) = some 3 := by decide +kernel
set_option maxHeartbeats 4000000 in
set_option maxRecDepth 100000 in
theorem ctX2_lead (l : Launch) (D : va_G) (a : Nat → Nat) (k : Nat → ClassId) (gM : Nat → Int32) (gnC : Int32) (gbC : Nat → Int32) (gnL : Int32) (gbL : Nat → Int32) (gnF : Int32) (gbF : Nat → Int32) (gnQ : Int32) (gbQ : Nat → Int32) (gE : Nat → Nat → Int32) (gtp : Int32) (glf : Int32) (gtr : Int32) (glh : Int32) (gov : Int32) (x1 x2 x3 : Int32) (r : Int32) (ognC : Int32) (ogbC : Nat → Int32) (ognL : Int32) (ogbL : Nat → Int32) (ogtr : Int32) (oglh : Int32) (hF : FX2_lead x1 x2 x3 gM gnC gbC gnL gbL gtp gtr glh = some (r, ognC, ogbC, ognL, ogbL, ogtr, oglh)) : ji l yX2_lead wsX2_lead { frames := 4, cells := 0, slots := 0, locals := 95 } D (gt k) [.ref (a 0), .int x1, .int x2, .int x3] (gw a k gM gnC gbC gnL gbL gnF gbF gnQ gbQ gE gtp glf gtr glh gov) (gw a k gM ognC ogbC ognL ogbL gnF gbF gnQ gbQ gE gtp glf ogtr oglh gov) r := by
  refine j_mi (cc := cX2_lead) (maxL := 7) (own := RX2) (ret := (some .int)) (by decide) rfl rfl (Nat.le_of_ble_eq_true rfl) ?_
  intro p e s m args below meth c A C K hr hlk
  unfold FX2_lead at hF
  refine j_iload_n (pc := 0) C 2 dX2_lead_0 rfl rfl ?_
  refine j_ldc (pc := 1) (v := 1048576) C lkX2_lead_k80 dX2_lead_1 ?_
  obtain ⟨rq1, hq1, hF⟩ := bd1_some hF
  refine j_callSi (pc := 3) (As := [.int x2, .int 1048576]) (rest := []) (ws' := (gw a k gM gnC gbC gnL gbL gnF gbF gnQ gbQ gE gtp glf gtr glh gov)) C K (ctX2_isBelow l D  _ _ _ hq1) gX2_lead_X2_isBelow rfl rfl rfl hdyX2_isBelow ⟨Nat.le_of_ble_eq_true rfl, Nat.le_of_ble_eq_true rfl⟩ [] rfl rfl jsp0 [] rfl rfl (Nat.le_of_ble_eq_true rfl) dX2_lead_3 ⟨Nat.zero_le _, Nat.zero_le _⟩ ?_
  refine j_if_ne (pc := 6) (tgt := 12) C dX2_lead_6 (by decide) (fun c2 => ?_) (fun c2 => ?_)
  · replace hF := ifn hF c2
    refine j_aload_n (pc := 12) C 0 dX2_lead_12 rfl rfl ?_
    refine j_iload_n (pc := 13) C 1 dX2_lead_13 rfl rfl ?_
    obtain ⟨rq3, q3gnC, q3gbC, q3gtr, hq3, hF⟩ := bd4_some hF
    refine j_callVi (pc := 14) (As := [.int x1]) (rest := []) (ws' := (gw a k gM q3gnC q3gbC gnL gbL gnF gbF gnQ gbQ gE gtp glf q3gtr glh gov)) C K (ci := 2) (q0 := 0) rfl rfl rfl (ctX2_contextOf l D a k _ _ _ _ _ _ _ _ _ _ _ _ _ _ _ _ _ _ _ _ hq3) gX2_lead_X2_contextOf rfl rfl rfl hdyX2_contextOf ⟨Nat.le_of_ble_eq_true rfl, Nat.le_of_ble_eq_true rfl⟩ (List.range 19) (jrange _) (by decide) (jspF rfl) [0, 1, 2, 3, 4, 5] rfl rfl (Nat.le_of_ble_eq_true rfl) dX2_lead_14 ⟨Nat.zero_le _, Nat.zero_le _⟩ ?_
    refine j_istore (pc := 17) (lv' := [(4, .int rq3), (0, .ref (a 0)), (1, .int x1), (2, .int x2), (3, .int x3)]) C dX2_lead_17 (by decide) rfl ?_
    refine j_iload (pc := 19) C 0 dX2_lead_19 rfl ?_
    refine j_iconst (pc := 21) (v := (-1)) C dX2_lead_21 (by decide) ?_
    refine j_icmp_ne (pc := 22) (tgt := 27) C dX2_lead_22 (by decide) (fun c4 => ?_) (fun c4 => ?_)
    · replace hF := ifn hF c4
      refine j_aload_n (pc := 27) C 1 dX2_lead_27 rfl rfl ?_
      refine j_get (pc := 28) (v := .ref (a 2)) C K inX2_lead_X2 0 rfl rfl 1 (by decide) lkX2_lead_18 rfl dX2_lead_28 ?_
      refine j_iload (pc := 31) C 0 dX2_lead_31 rfl ?_
      refine j_iconst (pc := 33) (v := 1) C dX2_lead_33 (by decide) ?_
      obtain ⟨rq5, hq5, hF⟩ := bd1_some hF
      refine j_callVi (pc := 34) (As := [.int rq3, .int 1]) (rest := []) (ws' := (gw a k gM q3gnC q3gbC gnL gbL gnF gbF gnQ gbQ gE gtp glf q3gtr glh gov)) C K (ci := 1) (q0 := 0) rfl rfl rfl (ctX1_cell l D (a 2) (a 3) (k 3) 3 3 9 _ _ _ _ _ hq5) gX2_lead_X1_cell rfl rfl rfl hdyX1_cell ⟨Nat.le_of_ble_eq_true rfl, Nat.le_of_ble_eq_true rfl⟩ [2, 3] rfl (by decide) (jsp_eq (jsp2 (Nat.le_of_ble_eq_true rfl) (Nat.le_of_ble_eq_true rfl) (by decide)) rfl) [1] rfl rfl (Nat.le_of_ble_eq_true rfl) dX2_lead_34 ⟨Nat.zero_le _, Nat.zero_le _⟩ ?_
      refine j_istore (pc := 37) (lv' := [(5, .int rq5), (4, .int rq3), (0, .ref (a 0)), (1, .int x1), (2, .int x2), (3, .int x3)]) C dX2_lead_37 (by decide) rfl ?_
      refine j_iload (pc := 39) C 0 dX2_lead_39 rfl ?_
      refine j_iconst (pc := 41) (v := 2) C dX2_lead_41 (by decide) ?_
      refine j_iand (pc := 42) C dX2_lead_42 ?_
      refine j_if_eq (pc := 43) (tgt := 60) C dX2_lead_43 (by decide) (fun c6 => ?_) (fun c6 => ?_)
      · replace hF := ifp hF c6
        refine j_aload_n (pc := 60) C 2 dX2_lead_60 rfl rfl ?_
        refine j_aload_n (pc := 61) C 2 dX2_lead_61 rfl rfl ?_
        refine j_get (pc := 62) (v := .ref (a 2)) C K inX2_lead_X2 0 rfl rfl 1 (by decide) lkX2_lead_18 rfl dX2_lead_62 ?_
        refine j_iload (pc := 65) C 1 dX2_lead_65 rfl ?_
        refine j_iconst (pc := 67) (v := 2) C dX2_lead_67 (by decide) ?_
        obtain ⟨rq7, hq7, hF⟩ := bd1_some hF
        refine j_callVi (pc := 68) (As := [.int rq3, .int 2]) (rest := [.ref (a 0)]) (ws' := (gw a k gM q3gnC q3gbC gnL gbL gnF gbF gnQ gbQ gE gtp glf q3gtr glh gov)) C K (ci := 1) (q0 := 0) rfl rfl rfl (ctX1_cell l D (a 2) (a 3) (k 3) 3 3 9 _ _ _ _ _ hq7) gX2_lead_X1_cell rfl rfl rfl hdyX1_cell ⟨Nat.le_of_ble_eq_true rfl, Nat.le_of_ble_eq_true rfl⟩ [2, 3] rfl (by decide) (jsp_eq (jsp2 (Nat.le_of_ble_eq_true rfl) (Nat.le_of_ble_eq_true rfl) (by decide)) rfl) [1] rfl rfl (Nat.le_of_ble_eq_true rfl) dX2_lead_68 ⟨Nat.zero_le _, Nat.zero_le _⟩ ?_
        refine j_iload (pc := 71) C 0 dX2_lead_71 rfl ?_
        obtain ⟨rq8, hq8, hF⟩ := bd1_some hF
        refine j_callSi (pc := 73) (As := [.int rq5]) (rest := [.int rq7, .ref (a 0)]) (ws' := (gw a k gM q3gnC q3gbC gnL gbL gnF gbF gnQ gbQ gE gtp glf q3gtr glh gov)) C K (ctX2_pageOf l D  _ _ hq8) gX2_lead_X2_pageOf rfl rfl rfl hdyX2_pageOf ⟨Nat.le_of_ble_eq_true rfl, Nat.le_of_ble_eq_true rfl⟩ [] rfl rfl jsp0 [] rfl rfl (Nat.le_of_ble_eq_true rfl) dX2_lead_73 ⟨Nat.zero_le _, Nat.zero_le _⟩ ?_
        refine j_iload_n (pc := 76) C 4 dX2_lead_76 rfl rfl ?_
        refine j_bipush (pc := 77) (v := 8) C dX2_lead_77 (by decide) ?_
        refine j_ishr (pc := 79) C dX2_lead_79 ?_
        obtain ⟨rq9, q9gnL, q9gbL, q9gtr, q9glh, hq9, hF⟩ := bd5_some hF
        refine j_callVi (pc := 80) (As := [.int rq7, .int rq8, .int (x2 >>> ((8 : Int32) &&& 31))]) (rest := []) (ws' := (gw a k gM q3gnC q3gbC q9gnL q9gbL gnF gbF gnQ gbQ gE gtp glf q9gtr q9glh gov)) C K (ci := 2) (q0 := 0) rfl rfl rfl (ctX2_leafFor l D a k _ _ _ _ _ _ _ _ _ _ _ _ _ _ _ _ _ _ _ _ _ _ _ hq9) gX2_lead_X2_leafFor rfl rfl rfl hdyX2_leafFor ⟨Nat.le_of_ble_eq_true rfl, Nat.le_of_ble_eq_true rfl⟩ (List.range 19) (jrange _) (by decide) (jspF rfl) [0, 1, 2, 3, 4, 5] rfl rfl (Nat.le_of_ble_eq_true rfl) dX2_lead_80 ⟨Nat.zero_le _, Nat.zero_le _⟩ ?_
        refine j_istore (pc := 83) (lv' := [(6, .int rq9), (5, .int rq5), (4, .int rq3), (0, .ref (a 0)), (1, .int x1), (2, .int x2), (3, .int x3)]) C dX2_lead_83 (by decide) rfl ?_
        refine j_iload (pc := 85) C 0 dX2_lead_85 rfl ?_
        refine j_if_ge (pc := 87) (tgt := 93) C dX2_lead_87 (by decide) (fun c10 => ?_) (fun c10 => ?_)
        · replace hF := ifp hF c10
          refine j_aload_n (pc := 93) C 3 dX2_lead_93 rfl rfl ?_
          refine j_get (pc := 94) (v := .ref (a 4)) C K inX2_lead_X2 0 rfl rfl 2 (by decide) lkX2_lead_22 rfl dX2_lead_94 ?_
          refine j_iload (pc := 97) C 0 dX2_lead_97 rfl ?_
          refine j_iconst (pc := 99) (v := 4) C dX2_lead_99 (by decide) ?_
          obtain ⟨rq11, hq11, hF⟩ := bd1_some hF
          refine j_callVi (pc := 100) (As := [.int rq9, .int 4]) (rest := []) (ws' := (gw a k gM q3gnC q3gbC q9gnL q9gbL gnF gbF gnQ gbQ gE gtp glf q9gtr q9glh gov)) C K (ci := 1) (q0 := 0) rfl rfl rfl (ctX1_cell l D (a 4) (a 5) (k 5) 6 5 30 _ _ _ _ _ hq11) gX2_lead_X1_cell rfl rfl rfl hdyX1_cell ⟨Nat.le_of_ble_eq_true rfl, Nat.le_of_ble_eq_true rfl⟩ [4, 5] rfl (by decide) (jsp_eq (jsp2 (Nat.le_of_ble_eq_true rfl) (Nat.le_of_ble_eq_true rfl) (by decide)) rfl) [2] rfl rfl (Nat.le_of_ble_eq_true rfl) dX2_lead_100 ⟨Nat.zero_le _, Nat.zero_le _⟩ ?_
          refine j_iload_n (pc := 103) C 6 dX2_lead_103 rfl rfl ?_
          refine j_iand (pc := 104) C dX2_lead_104 ?_
          refine j_if_ne (pc := 105) (tgt := 111) C dX2_lead_105 (by decide) (fun c12 => ?_) (fun c12 => ?_)
          · replace hF := ifn hF c12
            refine j_aload_n (pc := 111) C 3 dX2_lead_111 rfl rfl ?_
            refine j_iload (pc := 112) C 0 dX2_lead_112 rfl ?_
            refine j_iload_n (pc := 114) C 5 dX2_lead_114 rfl rfl ?_
            obtain ⟨rq13, hq13, hF⟩ := bd1_some hF
            refine j_callVi (pc := 115) (As := [.int rq9, .int x2]) (rest := []) (ws' := (gw a k gM q3gnC q3gbC q9gnL q9gbL gnF gbF gnQ gbQ gE gtp glf q9gtr q9glh gov)) C K (ci := 2) (q0 := 0) rfl rfl rfl (ctX2_placeBy l D a k _ _ _ _ _ _ _ _ _ _ _ _ _ _ _ _ _ _ hq13) gX2_lead_X2_placeBy rfl rfl rfl hdyX2_placeBy ⟨Nat.le_of_ble_eq_true rfl, Nat.le_of_ble_eq_true rfl⟩ (List.range 19) (jrange _) (by decide) (jspF rfl) [0, 1, 2, 3, 4, 5] rfl rfl (Nat.le_of_ble_eq_true rfl) dX2_lead_115 ⟨Nat.zero_le _, Nat.zero_le _⟩ ?_
            cases hF
            exact j_iret (pc := 118) C K hr hlk dX2_lead_118
          · replace hF := ifp hF c12
            refine j_bipush (pc := 108) (v := (-3)) C dX2_lead_108 (by decide) ?_
            cases hF
            exact j_iret (pc := 110) C K hr hlk dX2_lead_110
        · replace hF := ifn hF c10
          refine j_iload (pc := 90) C 0 dX2_lead_90 rfl ?_
          cases hF
          exact j_iret (pc := 92) C K hr hlk dX2_lead_92
      · replace hF := ifn hF c6
        refine j_iload_n (pc := 46) C 4 dX2_lead_46 rfl rfl ?_
        refine j_sipush (pc := 47) (v := 16384) C dX2_lead_47 (by decide) ?_
        refine j_icmp_ge (pc := 50) (tgt := 57) C dX2_lead_50 (by decide) (fun c14 => ?_) (fun c14 => ?_)
        · replace hF := ifp hF c14
          refine j_bipush (pc := 57) (v := (-4)) C dX2_lead_57 (by decide) ?_
          cases hF
          exact j_iret (pc := 59) C K hr hlk dX2_lead_59
        · replace hF := ifn hF c14
          refine j_iload_n (pc := 53) C 4 dX2_lead_53 rfl rfl ?_
          refine j_goto (pc := 54) (tgt := 59) C dX2_lead_54 (by decide) ?_
          cases hF
          exact j_iret (pc := 59) C K hr hlk dX2_lead_59
    · replace hF := ifp hF c4
      refine j_iconst (pc := 25) (v := (-1)) C dX2_lead_25 (by decide) ?_
      cases hF
      exact j_iret (pc := 26) C K hr hlk dX2_lead_26
  · replace hF := ifp hF c2
    refine j_bipush (pc := 9) (v := (-4)) C dX2_lead_9 (by decide) ?_
    cases hF
    exact j_iret (pc := 11) C K hr hlk dX2_lead_11
theorem lkX2_logFault_25 : Cond.fieldLink RX2 25 (TX2 3).1 (TX2 3).2.1 (TX2 3).2.2.1 ∈ wsX2_logFault := by decide +kernel
theorem lkX2_logFault_41 : Cond.fieldLink RX2 41 (TX2 7).1 (TX2 7).2.1 (TX2 7).2.2.1 ∈ wsX2_logFault := by decide +kernel
theorem lkX2_logFault_50 : Cond.fieldLink RX2 50 (TX2 10).1 (TX2 10).2.1 (TX2 10).2.2.1 ∈ wsX2_logFault := by decide +kernel
theorem inX2_logFault_X2 : ∀ w ∈ u_ws RX2 TX2 11, w ∈ wsX2_logFault := by decide +kernel
theorem hdyX2_logFault : yX2_logFault.cls = RX2 ∧ yX2_logFault.cls ≠ "java/lang/invoke/MethodHandle" ∧ yX2_logFault.cls ≠ "java/lang/invoke/VarHandle" ∧ (parseMethodDescriptor yX2_logFault.desc).map (fun d => d.parameters.length) = some 3 := by decide +kernel
set_option maxHeartbeats 4000000 in
set_option maxRecDepth 100000 in
theorem ctX2_logFault (l : Launch) (D : va_G) (a : Nat → Nat) (k : Nat → ClassId) (gM : Nat → Int32) (gnC : Int32) (gbC : Nat → Int32) (gnL : Int32) (gbL : Nat → Int32) (gnF : Int32) (gbF : Nat → Int32) (gnQ : Int32) (gbQ : Nat → Int32) (gE : Nat → Nat → Int32) (gtp : Int32) (glf : Int32) (gtr : Int32) (glh : Int32) (gov : Int32) (x1 x2 x3 : Int32) (ognF : Int32) (ogbF : Nat → Int32) (ogov : Int32) (hF : FX2_logFault x1 x2 x3 gnF gbF glf gov = some (ognF, ogbF, ogov)) : jv l yX2_logFault wsX2_logFault { frames := 2, cells := 0, slots := 0, locals := 45 } D (gt k) [.ref (a 0), .int x1, .int x2, .int x3] (gw a k gM gnC gbC gnL gbL gnF gbF gnQ gbQ gE gtp glf gtr glh gov) (gw a k gM gnC gbC gnL gbL ognF ogbF gnQ gbQ gE gtp glf gtr glh ogov) := by
  refine j_mv (cc := cX2_logFault) (maxL := 5) (own := RX2) (by decide) rfl rfl (Nat.le_of_ble_eq_true rfl) ?_
  intro p e s m args below meth c A C K hr hlk
  unfold FX2_logFault at hF
  refine j_aload_n (pc := 0) C 0 dX2_logFault_0 rfl rfl ?_
  refine j_get (pc := 1) (v := .ref (a 6)) C K inX2_logFault_X2 0 rfl rfl 3 (by decide) lkX2_logFault_25 rfl dX2_logFault_1 ?_
  obtain ⟨rq1, hq1, hF⟩ := bd1_some hF
  refine j_callVi (pc := 4) (As := []) (rest := []) (ws' := (gw a k gM gnC gbC gnL gbL gnF gbF gnQ gbQ gE gtp glf gtr glh gov)) C K (ci := 1) (q0 := 0) rfl rfl rfl (ctX1_isFull l D (a 6) (a 7) (k 7) 6 4 24 _ _ _ hq1) gX2_logFault_X1_isFull rfl rfl rfl hdyX1_isFull ⟨Nat.le_of_ble_eq_true rfl, Nat.le_of_ble_eq_true rfl⟩ [6, 7] rfl (by decide) (jsp_eq (jsp2 (Nat.le_of_ble_eq_true rfl) (Nat.le_of_ble_eq_true rfl) (by decide)) rfl) [3] rfl rfl (Nat.le_of_ble_eq_true rfl) dX2_logFault_4 ⟨Nat.zero_le _, Nat.zero_le _⟩ ?_
  refine j_if_eq (pc := 7) (tgt := 16) C dX2_logFault_7 (by decide) (fun c2 => ?_) (fun c2 => ?_)
  · replace hF := ifp hF c2
    refine j_aload_n (pc := 16) C 0 dX2_logFault_16 rfl rfl ?_
    refine j_get (pc := 17) (v := .ref (a 6)) C K inX2_logFault_X2 0 rfl rfl 3 (by decide) lkX2_logFault_25 rfl dX2_logFault_17 ?_
    obtain ⟨rq3, q3rn, q3rB, hq3, hF⟩ := bd3_some hF
    refine j_callVi (pc := 20) (As := []) (rest := []) (ws' := (gw a k gM gnC gbC gnL gbL q3rn q3rB gnQ gbQ gE gtp glf gtr glh gov)) C K (ci := 1) (q0 := 0) rfl rfl rfl (ctX1_open l D (a 6) (a 7) (k 7) 6 4 24 _ _ _ _ _ hq3) gX2_logFault_X1_open rfl rfl rfl hdyX1_open ⟨Nat.le_of_ble_eq_true rfl, Nat.le_of_ble_eq_true rfl⟩ [6, 7] rfl (by decide) (jsp_eq (jsp2 (Nat.le_of_ble_eq_true rfl) (Nat.le_of_ble_eq_true rfl) (by decide)) rfl) [3] rfl rfl (Nat.le_of_ble_eq_true rfl) dX2_logFault_20 ⟨Nat.zero_le _, Nat.zero_le _⟩ ?_
    refine j_istore (pc := 23) (lv' := [(4, .int rq3), (0, .ref (a 0)), (1, .int x1), (2, .int x2), (3, .int x3)]) C dX2_logFault_23 (by decide) rfl ?_
    refine j_aload_n (pc := 25) C 1 dX2_logFault_25 rfl rfl ?_
    refine j_get (pc := 26) (v := .ref (a 6)) C K inX2_logFault_X2 0 rfl rfl 3 (by decide) lkX2_logFault_25 rfl dX2_logFault_26 ?_
    refine j_iload (pc := 29) C 0 dX2_logFault_29 rfl ?_
    refine j_iconst (pc := 31) (v := 0) C dX2_logFault_31 (by decide) ?_
    refine j_aload_n (pc := 32) C 1 dX2_logFault_32 rfl rfl ?_
    refine j_get (pc := 33) (v := .int glf) C K inX2_logFault_X2 0 rfl rfl 7 (by decide) lkX2_logFault_41 rfl dX2_logFault_33 ?_
    obtain ⟨q4rB, hq4, hF⟩ := bd1_some hF
    refine j_callVv (pc := 36) (As := [.int rq3, .int 0, .int glf]) (rest := []) (ws' := (gw a k gM gnC gbC gnL gbL q3rn q4rB gnQ gbQ gE gtp glf gtr glh gov)) C K (ci := 1) (q0 := 0) rfl rfl rfl (ctX1_put l D (a 6) (a 7) (k 7) 6 4 24 _ _ _ _ _ _ hq4) gX2_logFault_X1_put rfl rfl rfl hdyX1_put ⟨Nat.le_of_ble_eq_true rfl, Nat.le_of_ble_eq_true rfl⟩ [6, 7] rfl (by decide) (jsp_eq (jsp2 (Nat.le_of_ble_eq_true rfl) (Nat.le_of_ble_eq_true rfl) (by decide)) rfl) [3] rfl rfl (Nat.le_of_ble_eq_true rfl) dX2_logFault_36 ⟨Nat.zero_le _, Nat.zero_le _⟩ ?_
    refine j_aload_n (pc := 39) C 1 dX2_logFault_39 rfl rfl ?_
    refine j_get (pc := 40) (v := .ref (a 6)) C K inX2_logFault_X2 0 rfl rfl 3 (by decide) lkX2_logFault_25 rfl dX2_logFault_40 ?_
    refine j_iload (pc := 43) C 0 dX2_logFault_43 rfl ?_
    refine j_iconst (pc := 45) (v := 1) C dX2_logFault_45 (by decide) ?_
    refine j_iload_n (pc := 46) C 2 dX2_logFault_46 rfl rfl ?_
    obtain ⟨q5rB, hq5, hF⟩ := bd1_some hF
    refine j_callVv (pc := 47) (As := [.int rq3, .int 1, .int x1]) (rest := []) (ws' := (gw a k gM gnC gbC gnL gbL q3rn q5rB gnQ gbQ gE gtp glf gtr glh gov)) C K (ci := 1) (q0 := 0) rfl rfl rfl (ctX1_put l D (a 6) (a 7) (k 7) 6 4 24 _ _ _ _ _ _ hq5) gX2_logFault_X1_put rfl rfl rfl hdyX1_put ⟨Nat.le_of_ble_eq_true rfl, Nat.le_of_ble_eq_true rfl⟩ [6, 7] rfl (by decide) (jsp_eq (jsp2 (Nat.le_of_ble_eq_true rfl) (Nat.le_of_ble_eq_true rfl) (by decide)) rfl) [3] rfl rfl (Nat.le_of_ble_eq_true rfl) dX2_logFault_47 ⟨Nat.zero_le _, Nat.zero_le _⟩ ?_
    refine j_aload_n (pc := 50) C 1 dX2_logFault_50 rfl rfl ?_
    refine j_get (pc := 51) (v := .ref (a 6)) C K inX2_logFault_X2 0 rfl rfl 3 (by decide) lkX2_logFault_25 rfl dX2_logFault_51 ?_
    refine j_iload (pc := 54) C 0 dX2_logFault_54 rfl ?_
    refine j_iconst (pc := 56) (v := 2) C dX2_logFault_56 (by decide) ?_
    refine j_iload_n (pc := 57) C 4 dX2_logFault_57 rfl rfl ?_
    refine j_if_eq (pc := 58) (tgt := 65) C dX2_logFault_58 (by decide) (fun c6 => ?_) (fun c6 => ?_)
    · replace hF := ifp hF c6
      refine j_iconst (pc := 65) (v := 0) C dX2_logFault_65 (by decide) ?_
      obtain ⟨q7rB, hq7, hF⟩ := bd1_some hF
      refine j_callVv (pc := 66) (As := [.int rq3, .int 2, .int 0]) (rest := []) (ws' := (gw a k gM gnC gbC gnL gbL q3rn q7rB gnQ gbQ gE gtp glf gtr glh gov)) C K (ci := 1) (q0 := 0) rfl rfl rfl (ctX1_put l D (a 6) (a 7) (k 7) 6 4 24 _ _ _ _ _ _ hq7) gX2_logFault_X1_put rfl rfl rfl hdyX1_put ⟨Nat.le_of_ble_eq_true rfl, Nat.le_of_ble_eq_true rfl⟩ [6, 7] rfl (by decide) (jsp_eq (jsp2 (Nat.le_of_ble_eq_true rfl) (Nat.le_of_ble_eq_true rfl) (by decide)) rfl) [3] rfl rfl (Nat.le_of_ble_eq_true rfl) dX2_logFault_66 ⟨Nat.zero_le _, Nat.zero_le _⟩ ?_
      refine j_aload_n (pc := 69) C 1 dX2_logFault_69 rfl rfl ?_
      refine j_get (pc := 70) (v := .ref (a 6)) C K inX2_logFault_X2 0 rfl rfl 3 (by decide) lkX2_logFault_25 rfl dX2_logFault_70 ?_
      refine j_iload (pc := 73) C 0 dX2_logFault_73 rfl ?_
      refine j_iconst (pc := 75) (v := 3) C dX2_logFault_75 (by decide) ?_
      refine j_iload_n (pc := 76) C 3 dX2_logFault_76 rfl rfl ?_
      obtain ⟨q8rB, hq8, hF⟩ := bd1_some hF
      refine j_callVv (pc := 77) (As := [.int rq3, .int 3, .int x2]) (rest := []) (ws' := (gw a k gM gnC gbC gnL gbL q3rn q8rB gnQ gbQ gE gtp glf gtr glh gov)) C K (ci := 1) (q0 := 0) rfl rfl rfl (ctX1_put l D (a 6) (a 7) (k 7) 6 4 24 _ _ _ _ _ _ hq8) gX2_logFault_X1_put rfl rfl rfl hdyX1_put ⟨Nat.le_of_ble_eq_true rfl, Nat.le_of_ble_eq_true rfl⟩ [6, 7] rfl (by decide) (jsp_eq (jsp2 (Nat.le_of_ble_eq_true rfl) (Nat.le_of_ble_eq_true rfl) (by decide)) rfl) [3] rfl rfl (Nat.le_of_ble_eq_true rfl) dX2_logFault_77 ⟨Nat.zero_le _, Nat.zero_le _⟩ ?_
      cases hF
      exact j_vret (pc := 80) C K hr hlk dX2_logFault_80
    · replace hF := ifn hF c6
      refine j_iconst (pc := 61) (v := 1) C dX2_logFault_61 (by decide) ?_
      refine j_goto (pc := 62) (tgt := 66) C dX2_logFault_62 (by decide) ?_
      obtain ⟨q9rB, hq9, hF⟩ := bd1_some hF
      refine j_callVv (pc := 66) (As := [.int rq3, .int 2, .int 1]) (rest := []) (ws' := (gw a k gM gnC gbC gnL gbL q3rn q9rB gnQ gbQ gE gtp glf gtr glh gov)) C K (ci := 1) (q0 := 0) rfl rfl rfl (ctX1_put l D (a 6) (a 7) (k 7) 6 4 24 _ _ _ _ _ _ hq9) gX2_logFault_X1_put rfl rfl rfl hdyX1_put ⟨Nat.le_of_ble_eq_true rfl, Nat.le_of_ble_eq_true rfl⟩ [6, 7] rfl (by decide) (jsp_eq (jsp2 (Nat.le_of_ble_eq_true rfl) (Nat.le_of_ble_eq_true rfl) (by decide)) rfl) [3] rfl rfl (Nat.le_of_ble_eq_true rfl) dX2_logFault_66 ⟨Nat.zero_le _, Nat.zero_le _⟩ ?_
      refine j_aload_n (pc := 69) C 1 dX2_logFault_69 rfl rfl ?_
      refine j_get (pc := 70) (v := .ref (a 6)) C K inX2_logFault_X2 0 rfl rfl 3 (by decide) lkX2_logFault_25 rfl dX2_logFault_70 ?_
      refine j_iload (pc := 73) C 0 dX2_logFault_73 rfl ?_
      refine j_iconst (pc := 75) (v := 3) C dX2_logFault_75 (by decide) ?_
      refine j_iload_n (pc := 76) C 3 dX2_logFault_76 rfl rfl ?_
      obtain ⟨q10rB, hq10, hF⟩ := bd1_some hF
      refine j_callVv (pc := 77) (As := [.int rq3, .int 3, .int x2]) (rest := []) (ws' := (gw a k gM gnC gbC gnL gbL q3rn q10rB gnQ gbQ gE gtp glf gtr glh gov)) C K (ci := 1) (q0 := 0) rfl rfl rfl (ctX1_put l D (a 6) (a 7) (k 7) 6 4 24 _ _ _ _ _ _ hq10) gX2_logFault_X1_put rfl rfl rfl hdyX1_put ⟨Nat.le_of_ble_eq_true rfl, Nat.le_of_ble_eq_true rfl⟩ [6, 7] rfl (by decide) (jsp_eq (jsp2 (Nat.le_of_ble_eq_true rfl) (Nat.le_of_ble_eq_true rfl) (by decide)) rfl) [3] rfl rfl (Nat.le_of_ble_eq_true rfl) dX2_logFault_77 ⟨Nat.zero_le _, Nat.zero_le _⟩ ?_
      cases hF
      exact j_vret (pc := 80) C K hr hlk dX2_logFault_80
  · replace hF := ifn hF c2
    refine j_aload_n (pc := 10) C 0 dX2_logFault_10 rfl rfl ?_
    refine j_iconst (pc := 11) (v := 1) C dX2_logFault_11 (by decide) ?_
    refine j_put (pc := 12) (ws' := (gw a k gM gnC gbC gnL gbL gnF gbF gnQ gbQ gE gtp glf gtr glh 1)) C K inX2_logFault_X2 tyX2 tyX2_ok nmX2 0 rfl rfl 10 (by decide) lkX2_logFault_50 rfl (tyX2_ok 10 (by decide)) rfl rfl (Nat.le_of_ble_eq_true rfl) rfl dX2_logFault_12 ?_
    cases hF
    exact j_vret (pc := 15) C K hr hlk dX2_logFault_15
theorem lkX2_access_41 : Cond.fieldLink RX2 41 (TX2 7).1 (TX2 7).2.1 (TX2 7).2.2.1 ∈ wsX2_access := by decide +kernel
theorem inX2_access_X2 : ∀ w ∈ u_ws RX2 TX2 11, w ∈ wsX2_access := by decide +kernel
theorem hdyX2_access : yX2_access.cls = RX2 ∧ yX2_access.cls ≠ "java/lang/invoke/MethodHandle" ∧ yX2_access.cls ≠ "java/lang/invoke/VarHandle" ∧ (parseMethodDescriptor yX2_access.desc).map (fun d => d.parameters.length) = some 3 := by decide +kernel
set_option maxHeartbeats 4000000 in
set_option maxRecDepth 100000 in
theorem ctX2_access (l : Launch) (D : va_G) (a : Nat → Nat) (k : Nat → ClassId) (gM : Nat → Int32) (gnC : Int32) (gbC : Nat → Int32) (gnL : Int32) (gbL : Nat → Int32) (gnF : Int32) (gbF : Nat → Int32) (gnQ : Int32) (gbQ : Nat → Int32) (gE : Nat → Nat → Int32) (gtp : Int32) (glf : Int32) (gtr : Int32) (glh : Int32) (gov : Int32) (x1 x2 x3 : Int32) (r : Int32) (ognC : Int32) (ogbC : Nat → Int32) (ognL : Int32) (ogbL : Nat → Int32) (ognF : Int32) (ogbF : Nat → Int32) (oglf : Int32) (ogtr : Int32) (oglh : Int32) (ogov : Int32) (hF : FX2_access x1 x2 x3 gM gnC gbC gnL gbL gnF gbF gtp glf gtr glh gov = some (r, ognC, ogbC, ognL, ogbL, ognF, ogbF, oglf, ogtr, oglh, ogov)) : ji l yX2_access wsX2_access { frames := 5, cells := 0, slots := 0, locals := 121 } D (gt k) [.ref (a 0), .int x1, .int x2, .int x3] (gw a k gM gnC gbC gnL gbL gnF gbF gnQ gbQ gE gtp glf gtr glh gov) (gw a k gM ognC ogbC ognL ogbL ognF ogbF gnQ gbQ gE gtp oglf ogtr oglh ogov) r := by
  refine j_mi (cc := cX2_access) (maxL := 5) (own := RX2) (ret := (some .int)) (by decide) rfl rfl (Nat.le_of_ble_eq_true rfl) ?_
  intro p e s m args below meth c A C K hr hlk
  unfold FX2_access at hF
  refine j_aload_n (pc := 0) C 0 dX2_access_0 rfl rfl ?_
  refine j_iload_n (pc := 1) C 1 dX2_access_1 rfl rfl ?_
  refine j_iload_n (pc := 2) C 2 dX2_access_2 rfl rfl ?_
  refine j_iload_n (pc := 3) C 3 dX2_access_3 rfl rfl ?_
  refine j_if_eq (pc := 4) (tgt := 11) C dX2_access_4 (by decide) (fun c1 => ?_) (fun c1 => ?_)
  · replace hF := ifp hF c1
    refine j_iconst (pc := 11) (v := 1) C dX2_access_11 (by decide) ?_
    obtain ⟨rq2, q2gnC, q2gbC, q2gnL, q2gbL, q2gtr, q2glh, hq2, hF⟩ := bd7_some hF
    refine j_callVi (pc := 12) (As := [.int x1, .int x2, .int 1]) (rest := []) (ws' := (gw a k gM q2gnC q2gbC q2gnL q2gbL gnF gbF gnQ gbQ gE gtp glf q2gtr q2glh gov)) C K (ci := 2) (q0 := 0) rfl rfl rfl (ctX2_lead l D a k _ _ _ _ _ _ _ _ _ _ _ _ _ _ _ _ _ _ _ _ _ _ _ _ _ hq2) gX2_access_X2_lead rfl rfl rfl hdyX2_lead ⟨Nat.le_of_ble_eq_true rfl, Nat.le_of_ble_eq_true rfl⟩ (List.range 19) (jrange _) (by decide) (jspF rfl) [0, 1, 2, 3, 4, 5] rfl rfl (Nat.le_of_ble_eq_true rfl) dX2_access_12 ⟨Nat.zero_le _, Nat.zero_le _⟩ ?_
    refine j_istore (pc := 15) (lv' := [(4, .int rq2), (0, .ref (a 0)), (1, .int x1), (2, .int x2), (3, .int x3)]) C dX2_access_15 (by decide) rfl ?_
    refine j_aload_n (pc := 17) C 1 dX2_access_17 rfl rfl ?_
    refine j_iload (pc := 18) C 0 dX2_access_18 rfl ?_
    refine j_if_ge (pc := 20) (tgt := 29) C dX2_access_20 (by decide) (fun c3 => ?_) (fun c3 => ?_)
    · replace hF := ifp hF c3
      refine j_iconst (pc := 29) (v := 0) C dX2_access_29 (by decide) ?_
      refine j_put (pc := 30) (ws' := (gw a k gM q2gnC q2gbC q2gnL q2gbL gnF gbF gnQ gbQ gE gtp 0 q2gtr q2glh gov)) C K inX2_access_X2 tyX2 tyX2_ok nmX2 0 rfl rfl 7 (by decide) lkX2_access_41 rfl (tyX2_ok 7 (by decide)) rfl rfl (Nat.le_of_ble_eq_true rfl) rfl dX2_access_30 ?_
      refine j_iload (pc := 33) C 0 dX2_access_33 rfl ?_
      refine j_if_ge (pc := 35) (tgt := 45) C dX2_access_35 (by decide) (fun c4 => ?_) (fun c4 => ?_)
      · replace hF := ifp hF c4
        refine j_iload (pc := 45) C 0 dX2_access_45 rfl ?_
        cases hF
        exact j_iret (pc := 47) C K hr hlk dX2_access_47
      · replace hF := ifn hF c4
        refine j_aload_n (pc := 38) C 1 dX2_access_38 rfl rfl ?_
        refine j_iload_n (pc := 39) C 2 dX2_access_39 rfl rfl ?_
        refine j_iload_n (pc := 40) C 3 dX2_access_40 rfl rfl ?_
        refine j_iload_n (pc := 41) C 4 dX2_access_41 rfl rfl ?_
        obtain ⟨q5gnF, q5gbF, q5gov, hq5, hF⟩ := bd3_some hF
        refine j_callVv (pc := 42) (As := [.int x1, .int x2, .int x3]) (rest := []) (ws' := (gw a k gM q2gnC q2gbC q2gnL q2gbL q5gnF q5gbF gnQ gbQ gE gtp 0 q2gtr q2glh q5gov)) C K (ci := 2) (q0 := 0) rfl rfl rfl (ctX2_logFault l D a k _ _ _ _ _ _ _ _ _ _ _ _ _ _ _ _ _ _ _ _ _ hq5) gX2_access_X2_logFault rfl rfl rfl hdyX2_logFault ⟨Nat.le_of_ble_eq_true rfl, Nat.le_of_ble_eq_true rfl⟩ (List.range 19) (jrange _) (by decide) (jspF rfl) [0, 1, 2, 3, 4, 5] rfl rfl (Nat.le_of_ble_eq_true rfl) dX2_access_42 ⟨Nat.zero_le _, Nat.zero_le _⟩ ?_
        refine j_iload (pc := 45) C 0 dX2_access_45 rfl ?_
        cases hF
        exact j_iret (pc := 47) C K hr hlk dX2_access_47
    · replace hF := ifn hF c3
      refine j_iload (pc := 23) C 0 dX2_access_23 rfl ?_
      refine j_ineg (pc := 25) C dX2_access_25 ?_
      refine j_goto (pc := 26) (tgt := 30) C dX2_access_26 (by decide) ?_
      refine j_put (pc := 30) (ws' := (gw a k gM q2gnC q2gbC q2gnL q2gbL gnF gbF gnQ gbQ gE gtp (-rq2) q2gtr q2glh gov)) C K inX2_access_X2 tyX2 tyX2_ok nmX2 0 rfl rfl 7 (by decide) lkX2_access_41 rfl (tyX2_ok 7 (by decide)) rfl rfl (Nat.le_of_ble_eq_true rfl) rfl dX2_access_30 ?_
      refine j_iload (pc := 33) C 0 dX2_access_33 rfl ?_
      refine j_if_ge (pc := 35) (tgt := 45) C dX2_access_35 (by decide) (fun c6 => ?_) (fun c6 => ?_)
      · replace hF := ifp hF c6
        refine j_iload (pc := 45) C 0 dX2_access_45 rfl ?_
        cases hF
        exact j_iret (pc := 47) C K hr hlk dX2_access_47
      · replace hF := ifn hF c6
        refine j_aload_n (pc := 38) C 1 dX2_access_38 rfl rfl ?_
        refine j_iload_n (pc := 39) C 2 dX2_access_39 rfl rfl ?_
        refine j_iload_n (pc := 40) C 3 dX2_access_40 rfl rfl ?_
        refine j_iload_n (pc := 41) C 4 dX2_access_41 rfl rfl ?_
        obtain ⟨q7gnF, q7gbF, q7gov, hq7, hF⟩ := bd3_some hF
        refine j_callVv (pc := 42) (As := [.int x1, .int x2, .int x3]) (rest := []) (ws' := (gw a k gM q2gnC q2gbC q2gnL q2gbL q7gnF q7gbF gnQ gbQ gE gtp (-rq2) q2gtr q2glh q7gov)) C K (ci := 2) (q0 := 0) rfl rfl rfl (ctX2_logFault l D a k _ _ _ _ _ _ _ _ _ _ _ _ _ _ _ _ _ _ _ _ _ hq7) gX2_access_X2_logFault rfl rfl rfl hdyX2_logFault ⟨Nat.le_of_ble_eq_true rfl, Nat.le_of_ble_eq_true rfl⟩ (List.range 19) (jrange _) (by decide) (jspF rfl) [0, 1, 2, 3, 4, 5] rfl rfl (Nat.le_of_ble_eq_true rfl) dX2_access_42 ⟨Nat.zero_le _, Nat.zero_le _⟩ ?_
        refine j_iload (pc := 45) C 0 dX2_access_45 rfl ?_
        cases hF
        exact j_iret (pc := 47) C K hr hlk dX2_access_47
  · replace hF := ifn hF c1
    refine j_iconst (pc := 7) (v := 2) C dX2_access_7 (by decide) ?_
    refine j_goto (pc := 8) (tgt := 12) C dX2_access_8 (by decide) ?_
    obtain ⟨rq8, q8gnC, q8gbC, q8gnL, q8gbL, q8gtr, q8glh, hq8, hF⟩ := bd7_some hF
    refine j_callVi (pc := 12) (As := [.int x1, .int x2, .int 2]) (rest := []) (ws' := (gw a k gM q8gnC q8gbC q8gnL q8gbL gnF gbF gnQ gbQ gE gtp glf q8gtr q8glh gov)) C K (ci := 2) (q0 := 0) rfl rfl rfl (ctX2_lead l D a k _ _ _ _ _ _ _ _ _ _ _ _ _ _ _ _ _ _ _ _ _ _ _ _ _ hq8) gX2_access_X2_lead rfl rfl rfl hdyX2_lead ⟨Nat.le_of_ble_eq_true rfl, Nat.le_of_ble_eq_true rfl⟩ (List.range 19) (jrange _) (by decide) (jspF rfl) [0, 1, 2, 3, 4, 5] rfl rfl (Nat.le_of_ble_eq_true rfl) dX2_access_12 ⟨Nat.zero_le _, Nat.zero_le _⟩ ?_
    refine j_istore (pc := 15) (lv' := [(4, .int rq8), (0, .ref (a 0)), (1, .int x1), (2, .int x2), (3, .int x3)]) C dX2_access_15 (by decide) rfl ?_
    refine j_aload_n (pc := 17) C 1 dX2_access_17 rfl rfl ?_
    refine j_iload (pc := 18) C 0 dX2_access_18 rfl ?_
    refine j_if_ge (pc := 20) (tgt := 29) C dX2_access_20 (by decide) (fun c9 => ?_) (fun c9 => ?_)
    · replace hF := ifp hF c9
      refine j_iconst (pc := 29) (v := 0) C dX2_access_29 (by decide) ?_
      refine j_put (pc := 30) (ws' := (gw a k gM q8gnC q8gbC q8gnL q8gbL gnF gbF gnQ gbQ gE gtp 0 q8gtr q8glh gov)) C K inX2_access_X2 tyX2 tyX2_ok nmX2 0 rfl rfl 7 (by decide) lkX2_access_41 rfl (tyX2_ok 7 (by decide)) rfl rfl (Nat.le_of_ble_eq_true rfl) rfl dX2_access_30 ?_
      refine j_iload (pc := 33) C 0 dX2_access_33 rfl ?_
      refine j_if_ge (pc := 35) (tgt := 45) C dX2_access_35 (by decide) (fun c10 => ?_) (fun c10 => ?_)
      · replace hF := ifp hF c10
        refine j_iload (pc := 45) C 0 dX2_access_45 rfl ?_
        cases hF
        exact j_iret (pc := 47) C K hr hlk dX2_access_47
      · replace hF := ifn hF c10
        refine j_aload_n (pc := 38) C 1 dX2_access_38 rfl rfl ?_
        refine j_iload_n (pc := 39) C 2 dX2_access_39 rfl rfl ?_
        refine j_iload_n (pc := 40) C 3 dX2_access_40 rfl rfl ?_
        refine j_iload_n (pc := 41) C 4 dX2_access_41 rfl rfl ?_
        obtain ⟨q11gnF, q11gbF, q11gov, hq11, hF⟩ := bd3_some hF
        refine j_callVv (pc := 42) (As := [.int x1, .int x2, .int x3]) (rest := []) (ws' := (gw a k gM q8gnC q8gbC q8gnL q8gbL q11gnF q11gbF gnQ gbQ gE gtp 0 q8gtr q8glh q11gov)) C K (ci := 2) (q0 := 0) rfl rfl rfl (ctX2_logFault l D a k _ _ _ _ _ _ _ _ _ _ _ _ _ _ _ _ _ _ _ _ _ hq11) gX2_access_X2_logFault rfl rfl rfl hdyX2_logFault ⟨Nat.le_of_ble_eq_true rfl, Nat.le_of_ble_eq_true rfl⟩ (List.range 19) (jrange _) (by decide) (jspF rfl) [0, 1, 2, 3, 4, 5] rfl rfl (Nat.le_of_ble_eq_true rfl) dX2_access_42 ⟨Nat.zero_le _, Nat.zero_le _⟩ ?_
        refine j_iload (pc := 45) C 0 dX2_access_45 rfl ?_
        cases hF
        exact j_iret (pc := 47) C K hr hlk dX2_access_47
    · replace hF := ifn hF c9
      refine j_iload (pc := 23) C 0 dX2_access_23 rfl ?_
      refine j_ineg (pc := 25) C dX2_access_25 ?_
      refine j_goto (pc := 26) (tgt := 30) C dX2_access_26 (by decide) ?_
      refine j_put (pc := 30) (ws' := (gw a k gM q8gnC q8gbC q8gnL q8gbL gnF gbF gnQ gbQ gE gtp (-rq8) q8gtr q8glh gov)) C K inX2_access_X2 tyX2 tyX2_ok nmX2 0 rfl rfl 7 (by decide) lkX2_access_41 rfl (tyX2_ok 7 (by decide)) rfl rfl (Nat.le_of_ble_eq_true rfl) rfl dX2_access_30 ?_
      refine j_iload (pc := 33) C 0 dX2_access_33 rfl ?_
      refine j_if_ge (pc := 35) (tgt := 45) C dX2_access_35 (by decide) (fun c12 => ?_) (fun c12 => ?_)
      · replace hF := ifp hF c12
        refine j_iload (pc := 45) C 0 dX2_access_45 rfl ?_
        cases hF
        exact j_iret (pc := 47) C K hr hlk dX2_access_47
      · replace hF := ifn hF c12
        refine j_aload_n (pc := 38) C 1 dX2_access_38 rfl rfl ?_
        refine j_iload_n (pc := 39) C 2 dX2_access_39 rfl rfl ?_
        refine j_iload_n (pc := 40) C 3 dX2_access_40 rfl rfl ?_
        refine j_iload_n (pc := 41) C 4 dX2_access_41 rfl rfl ?_
        obtain ⟨q13gnF, q13gbF, q13gov, hq13, hF⟩ := bd3_some hF
        refine j_callVv (pc := 42) (As := [.int x1, .int x2, .int x3]) (rest := []) (ws' := (gw a k gM q8gnC q8gbC q8gnL q8gbL q13gnF q13gbF gnQ gbQ gE gtp (-rq8) q8gtr q8glh q13gov)) C K (ci := 2) (q0 := 0) rfl rfl rfl (ctX2_logFault l D a k _ _ _ _ _ _ _ _ _ _ _ _ _ _ _ _ _ _ _ _ _ hq13) gX2_access_X2_logFault rfl rfl rfl hdyX2_logFault ⟨Nat.le_of_ble_eq_true rfl, Nat.le_of_ble_eq_true rfl⟩ (List.range 19) (jrange _) (by decide) (jspF rfl) [0, 1, 2, 3, 4, 5] rfl rfl (Nat.le_of_ble_eq_true rfl) dX2_access_42 ⟨Nat.zero_le _, Nat.zero_le _⟩ ?_
        refine j_iload (pc := 45) C 0 dX2_access_45 rfl ?_
        cases hF
        exact j_iret (pc := 47) C K hr hlk dX2_access_47
theorem lkX2_write_41 : Cond.fieldLink RX2 41 (TX2 7).1 (TX2 7).2.1 (TX2 7).2.2.1 ∈ wsX2_write := by decide +kernel
theorem inX2_write_X2 : ∀ w ∈ u_ws RX2 TX2 11, w ∈ wsX2_write := by decide +kernel
theorem hdyX2_write : yX2_write.cls = RX2 ∧ yX2_write.cls ≠ "java/lang/invoke/MethodHandle" ∧ yX2_write.cls ≠ "java/lang/invoke/VarHandle" ∧ (parseMethodDescriptor yX2_write.desc).map (fun d => d.parameters.length) = some 3 := by decide +kernel
set_option maxHeartbeats 4000000 in
set_option maxRecDepth 100000 in
theorem ctX2_write (l : Launch) (D : va_G) (a : Nat → Nat) (k : Nat → ClassId) (gM : Nat → Int32) (gnC : Int32) (gbC : Nat → Int32) (gnL : Int32) (gbL : Nat → Int32) (gnF : Int32) (gbF : Nat → Int32) (gnQ : Int32) (gbQ : Nat → Int32) (gE : Nat → Nat → Int32) (gtp : Int32) (glf : Int32) (gtr : Int32) (glh : Int32) (gov : Int32) (x1 x2 x3 : Int32) (r : Int32) (ogM : Nat → Int32) (ognC : Int32) (ogbC : Nat → Int32) (ognL : Int32) (ogbL : Nat → Int32) (ognF : Int32) (ogbF : Nat → Int32) (oglf : Int32) (ogtr : Int32) (oglh : Int32) (ogov : Int32) (hF : FX2_write x1 x2 x3 gM gnC gbC gnL gbL gnF gbF gtp glf gtr glh gov = some (r, ogM, ognC, ogbC, ognL, ogbL, ognF, ogbF, oglf, ogtr, oglh, ogov)) : ji l yX2_write wsX2_write { frames := 6, cells := 0, slots := 0, locals := 145 } D (gt k) [.ref (a 0), .int x1, .int x2, .int x3] (gw a k gM gnC gbC gnL gbL gnF gbF gnQ gbQ gE gtp glf gtr glh gov) (gw a k ogM ognC ogbC ognL ogbL ognF ogbF gnQ gbQ gE gtp oglf ogtr oglh ogov) r := by
  refine j_mi (cc := cX2_write) (maxL := 5) (own := RX2) (ret := (some .boolean)) (by decide) rfl rfl (Nat.le_of_ble_eq_true rfl) ?_
  intro p e s m args below meth c A C K hr hlk
  unfold FX2_write at hF
  refine j_iload_n (pc := 0) C 1 dX2_write_0 rfl rfl ?_
  refine j_bipush (pc := 1) (v := 8) C dX2_write_1 (by decide) ?_
  obtain ⟨rq1, hq1, hF⟩ := bd1_some hF
  refine j_callSi (pc := 3) (As := [.int x1, .int 8]) (rest := []) (ws' := (gw a k gM gnC gbC gnL gbL gnF gbF gnQ gbQ gE gtp glf gtr glh gov)) C K (ctX2_isBelow l D  _ _ _ hq1) gX2_write_X2_isBelow rfl rfl rfl hdyX2_isBelow ⟨Nat.le_of_ble_eq_true rfl, Nat.le_of_ble_eq_true rfl⟩ [] rfl rfl jsp0 [] rfl rfl (Nat.le_of_ble_eq_true rfl) dX2_write_3 ⟨Nat.zero_le _, Nat.zero_le _⟩ ?_
  refine j_if_ne (pc := 6) (tgt := 16) C dX2_write_6 (by decide) (fun c2 => ?_) (fun c2 => ?_)
  · replace hF := ifn hF c2
    refine j_aload_n (pc := 16) C 0 dX2_write_16 rfl rfl ?_
    refine j_iload_n (pc := 17) C 1 dX2_write_17 rfl rfl ?_
    refine j_iload_n (pc := 18) C 2 dX2_write_18 rfl rfl ?_
    refine j_iconst (pc := 19) (v := 1) C dX2_write_19 (by decide) ?_
    obtain ⟨rq3, q3gnC, q3gbC, q3gnL, q3gbL, q3gnF, q3gbF, q3glf, q3gtr, q3glh, q3gov, hq3, hF⟩ := bd11_some hF
    refine j_callVi (pc := 20) (As := [.int x1, .int x2, .int 1]) (rest := []) (ws' := (gw a k gM q3gnC q3gbC q3gnL q3gbL q3gnF q3gbF gnQ gbQ gE gtp q3glf q3gtr q3glh q3gov)) C K (ci := 2) (q0 := 0) rfl rfl rfl (ctX2_access l D a k _ _ _ _ _ _ _ _ _ _ _ _ _ _ _ _ _ _ _ _ _ _ _ _ _ _ _ _ _ hq3) gX2_write_X2_access rfl rfl rfl hdyX2_access ⟨Nat.le_of_ble_eq_true rfl, Nat.le_of_ble_eq_true rfl⟩ (List.range 19) (jrange _) (by decide) (jspF rfl) [0, 1, 2, 3, 4, 5] rfl rfl (Nat.le_of_ble_eq_true rfl) dX2_write_20 ⟨Nat.zero_le _, Nat.zero_le _⟩ ?_
    refine j_istore (pc := 23) (lv' := [(4, .int rq3), (0, .ref (a 0)), (1, .int x1), (2, .int x2), (3, .int x3)]) C dX2_write_23 (by decide) rfl ?_
    refine j_iload (pc := 25) C 0 dX2_write_25 rfl ?_
    refine j_if_lt (pc := 27) (tgt := 44) C dX2_write_27 (by decide) (fun c4 => ?_) (fun c4 => ?_)
    · replace hF := ifp hF c4
      refine j_iconst (pc := 44) (v := 0) C dX2_write_44 (by decide) ?_
      cases hF
      exact j_zret (pc := 45) C K hr hlk rfl dX2_write_45
    · replace hF := ifn hF c4
      refine j_aload_n (pc := 30) C 1 dX2_write_30 rfl rfl ?_
      refine j_iload (pc := 31) C 0 dX2_write_31 rfl ?_
      refine j_iload_n (pc := 33) C 4 dX2_write_33 rfl rfl ?_
      obtain ⟨rq5, q5gM, hq5, hF⟩ := bd2_some hF
      refine j_callVi (pc := 34) (As := [.int rq3, .int x3]) (rest := []) (ws' := (gw a k q5gM q3gnC q3gbC q3gnL q3gbL q3gnF q3gbF gnQ gbQ gE gtp q3glf q3gtr q3glh q3gov)) C K (ci := 2) (q0 := 0) rfl rfl rfl (ctX2_setWord l D a k _ _ _ _ _ _ _ _ _ _ _ _ _ _ _ _ _ _ _ hq5) gX2_write_X2_setWord rfl rfl rfl hdyX2_setWord ⟨Nat.le_of_ble_eq_true rfl, Nat.le_of_ble_eq_true rfl⟩ (List.range 19) (jrange _) (by decide) (jspF rfl) [0, 1, 2, 3, 4, 5] rfl rfl (Nat.le_of_ble_eq_true rfl) dX2_write_34 ⟨Nat.zero_le _, Nat.zero_le _⟩ ?_
      refine j_if_eq (pc := 37) (tgt := 44) C dX2_write_37 (by decide) (fun c6 => ?_) (fun c6 => ?_)
      · replace hF := ifp hF c6
        refine j_iconst (pc := 44) (v := 0) C dX2_write_44 (by decide) ?_
        cases hF
        exact j_zret (pc := 45) C K hr hlk rfl dX2_write_45
      · replace hF := ifn hF c6
        refine j_iconst (pc := 40) (v := 1) C dX2_write_40 (by decide) ?_
        refine j_goto (pc := 41) (tgt := 45) C dX2_write_41 (by decide) ?_
        cases hF
        exact j_zret (pc := 45) C K hr hlk rfl dX2_write_45
  · replace hF := ifp hF c2
    refine j_aload_n (pc := 9) C 0 dX2_write_9 rfl rfl ?_
    refine j_iconst (pc := 10) (v := 0) C dX2_write_10 (by decide) ?_
    refine j_put (pc := 11) (ws' := (gw a k gM gnC gbC gnL gbL gnF gbF gnQ gbQ gE gtp 0 gtr glh gov)) C K inX2_write_X2 tyX2 tyX2_ok nmX2 0 rfl rfl 7 (by decide) lkX2_write_41 rfl (tyX2_ok 7 (by decide)) rfl rfl (Nat.le_of_ble_eq_true rfl) rfl dX2_write_11 ?_
    refine j_iconst (pc := 14) (v := 0) C dX2_write_14 (by decide) ?_
    cases hF
    exact j_zret (pc := 15) C K hr hlk rfl dX2_write_15
theorem lkX2_fault_41 : Cond.fieldLink RX2 41 (TX2 7).1 (TX2 7).2.1 (TX2 7).2.2.1 ∈ wsX2_fault := by decide +kernel
theorem inX2_fault_X2 : ∀ w ∈ u_ws RX2 TX2 11, w ∈ wsX2_fault := by decide +kernel
theorem hdyX2_fault : yX2_fault.cls = RX2 ∧ yX2_fault.cls ≠ "java/lang/invoke/MethodHandle" ∧ yX2_fault.cls ≠ "java/lang/invoke/VarHandle" ∧ (parseMethodDescriptor yX2_fault.desc).map (fun d => d.parameters.length) = some 0 := by decide +kernel
set_option maxHeartbeats 4000000 in
set_option maxRecDepth 100000 in
theorem ctX2_fault (l : Launch) (D : va_G) (a : Nat → Nat) (k : Nat → ClassId) (gM : Nat → Int32) (gnC : Int32) (gbC : Nat → Int32) (gnL : Int32) (gbL : Nat → Int32) (gnF : Int32) (gbF : Nat → Int32) (gnQ : Int32) (gbQ : Nat → Int32) (gE : Nat → Nat → Int32) (gtp : Int32) (glf : Int32) (gtr : Int32) (glh : Int32) (gov : Int32) (r : Int32) (hF : FX2_fault glf = some r) : ji l yX2_fault wsX2_fault { frames := 0, cells := 0, slots := 0, locals := 0 } D (gt k) [.ref (a 0)] (gw a k gM gnC gbC gnL gbL gnF gbF gnQ gbQ gE gtp glf gtr glh gov) (gw a k gM gnC gbC gnL gbL gnF gbF gnQ gbQ gE gtp glf gtr glh gov) r := by
  refine j_mi (cc := cX2_fault) (maxL := 1) (own := RX2) (ret := (some .int)) (by decide) rfl rfl (Nat.le_of_ble_eq_true rfl) ?_
  intro p e s m args below meth c A C K hr hlk
  unfold FX2_fault at hF
  refine j_aload_n (pc := 0) C 0 dX2_fault_0 rfl rfl ?_
  refine j_get (pc := 1) (v := .int glf) C K inX2_fault_X2 0 rfl rfl 7 (by decide) lkX2_fault_41 rfl dX2_fault_1 ?_
  cases hF
  exact j_iret (pc := 4) C K hr hlk dX2_fault_4

def FX2_command (x1 x2 x3 : Int32) (gnQ : Int32) (gbQ : Nat → Int32) : Option (Int32 × Int32 × (Nat → Int32)) := if x1 < 0 then some ((-1), gnQ, gbQ) else if 5 < x1 then some ((-1), gnQ, gbQ) else bd1 (FX1_isFull 12 gnQ) (fun rq3 => if rq3 = 0 then bd3 (FX1_open 12 3 36 gnQ gbQ) (fun rq5 q5rn q5rB => bd1 (FX1_put 3 36 rq5 0 x1 q5rn q5rB) (fun q6rB => bd1 (FX1_put 3 36 rq5 1 x2 q5rn q6rB) (fun q7rB => bd1 (FX1_put 3 36 rq5 2 x3 q5rn q7rB) (fun q8rB => some (q5rn, q5rn, q8rB))))) else some ((-1), gnQ, gbQ))
def FX2_forgetDomain_10 (x1 : Int32) : Nat → Int32 → (Nat → Int32) → Int32 → Option (Int32 × (Nat → Int32))
  | 0, _, _, _ => none
  | n + 1, gnL, gbL, v2 => if v2 < 0 then some (gnL, gbL) else bd1 (FX1_cell 5 30 v2 0 gnL gbL) (fun rq2 => if rq2 = x1 then bd2 (FX1_remove 5 30 v2 gnL gbL) (fun q4rn q4rB => FX2_forgetDomain_10 x1 n q4rn q4rB (v2 + (-1))) else FX2_forgetDomain_10 x1 n gnL gbL (v2 + (-1)))
def FX2_forgetDomain (x1 : Int32) (gnL : Int32) (gbL : Nat → Int32) : Option (Int32 × (Nat → Int32)) := FX2_forgetDomain_10 x1 fuel gnL gbL (gnL - 1)
def FX2_forgetPage_10 (x1 x2 : Int32) : Nat → Int32 → (Nat → Int32) → Int32 → Option (Int32 × (Nat → Int32))
  | 0, _, _, _ => none
  | n + 1, gnL, gbL, v3 => if v3 < 0 then some (gnL, gbL) else bd1 (FX1_cell 5 30 v3 0 gnL gbL) (fun rq2 => if rq2 = x1 then bd1 (FX2_isForPage v3 x2 gnL gbL) (fun rq4 => if rq4 = 0 then FX2_forgetPage_10 x1 x2 n gnL gbL (v3 + (-1)) else bd2 (FX1_remove 5 30 v3 gnL gbL) (fun q6rn q6rB => FX2_forgetPage_10 x1 x2 n q6rn q6rB (v3 + (-1)))) else FX2_forgetPage_10 x1 x2 n gnL gbL (v3 + (-1)))
def FX2_forgetPage (x1 x2 : Int32) (gnL : Int32) (gbL : Nat → Int32) : Option (Int32 × (Nat → Int32)) := FX2_forgetPage_10 x1 x2 fuel gnL gbL (gnL - 1)
def FX2_forgetContext_10 (x1 : Int32) : Nat → Int32 → (Nat → Int32) → Int32 → Option (Int32 × (Nat → Int32))
  | 0, _, _, _ => none
  | n + 1, gnC, gbC, v2 => if v2 < 0 then some (gnC, gbC) else bd1 (FX1_cell 3 9 v2 0 gnC gbC) (fun rq2 => if rq2 = x1 then bd2 (FX1_remove 3 9 v2 gnC gbC) (fun q4rn q4rB => FX2_forgetContext_10 x1 n q4rn q4rB (v2 + (-1))) else FX2_forgetContext_10 x1 n gnC gbC (v2 + (-1)))
def FX2_forgetContext (x1 : Int32) (gnC : Int32) (gbC : Nat → Int32) : Option (Int32 × (Nat → Int32)) := FX2_forgetContext_10 x1 fuel gnC gbC (gnC - 1)
def FX2_carryOut (x1 x2 x3 : Int32) (gM : Nat → Int32) (gnC : Int32) (gbC : Nat → Int32) (gnL : Int32) (gbL : Nat → Int32) : Option ((Nat → Int32) × Int32 × (Nat → Int32) × Int32 × (Nat → Int32)) := if x1 = 0 then bd1 (FX1_removeAll gnL) (fun q2rn => some (gM, gnC, gbC, q2rn, gbL)) else if x1 = 1 then bd2 (FX2_forgetDomain x2 gnL gbL) (fun q4gnL q4gbL => some (gM, gnC, gbC, q4gnL, q4gbL)) else if x1 = 2 then bd2 (FX2_forgetPage x2 x3 gnL gbL) (fun q6gnL q6gbL => some (gM, gnC, gbC, q6gnL, q6gbL)) else if x1 = 3 then bd2 (FX2_forgetContext x2 gnC gbC) (fun q8gnC q8gbC => some (gM, q8gnC, q8gbC, gnL, gbL)) else if x1 = 4 then bd1 (FX1_removeAll gnC) (fun q10rn => some (gM, q10rn, gbC, gnL, gbL)) else bd2 (FX2_setWord x2 x3 gM) (fun rq11 q11gM => some (q11gM, gnC, gbC, gnL, gbL))
def FX2_obey_31 (x1 : Int32) : Nat → (Nat → Int32) → Int32 → (Nat → Int32) → Int32 → (Nat → Int32) → Int32 → (Nat → Int32) → Int32 → Int32 → Option (Int32 × (Nat → Int32) × Int32 × (Nat → Int32) × Int32 × (Nat → Int32) × Int32 × (Nat → Int32))
  | 0, _, _, _, _, _, _, _, _, _ => none
  | n + 1, gM, gnC, gbC, gnL, gbL, gnQ, gbQ, v2, v3 => if v2 ≤ v3 then some (v2, gM, gnC, gbC, gnL, gbL, gnQ, gbQ) else bd1 (FX1_cell 3 36 0 0 gnQ gbQ) (fun rq4 => bd1 (FX1_cell 3 36 0 1 gnQ gbQ) (fun rq5 => bd1 (FX1_cell 3 36 0 2 gnQ gbQ) (fun rq6 => bd5 (FX2_carryOut rq4 rq5 rq6 gM gnC gbC gnL gbL) (fun q7gM q7gnC q7gbC q7gnL q7gbL => bd2 (FX1_remove 3 36 0 gnQ gbQ) (fun q8rn q8rB => FX2_obey_31 x1 n q7gM q7gnC q7gbC q7gnL q7gbL q8rn q8rB v2 (v3 + 1))))))
def FX2_obey_28 (x1 : Int32) (gM : Nat → Int32) (gnC : Int32) (gbC : Nat → Int32) (gnL : Int32) (gbL : Nat → Int32) (gnQ : Int32) (gbQ : Nat → Int32) (s0 : Int32) : Option (Int32 × (Nat → Int32) × Int32 × (Nat → Int32) × Int32 × (Nat → Int32) × Int32 × (Nat → Int32)) := FX2_obey_31 x1 fuel gM gnC gbC gnL gbL gnQ gbQ s0 0
def FX2_obey (x1 : Int32) (gM : Nat → Int32) (gnC : Int32) (gbC : Nat → Int32) (gnL : Int32) (gbL : Nat → Int32) (gnQ : Int32) (gbQ : Nat → Int32) : Option (Int32 × (Nat → Int32) × Int32 × (Nat → Int32) × Int32 × (Nat → Int32) × Int32 × (Nat → Int32)) := if 0 ≤ x1 then if gnQ ≤ x1 then FX2_obey_28 x1 gM gnC gbC gnL gbL gnQ gbQ gnQ else FX2_obey_28 x1 gM gnC gbC gnL gbL gnQ gbQ x1 else some ((-1), gM, gnC, gbC, gnL, gbL, gnQ, gbQ)
def FX2_count (x1 : Int32) (gnC : Int32) (gnL : Int32) (gnF : Int32) (gnQ : Int32) (gtp : Int32) (gtr : Int32) (glh : Int32) (gov : Int32) : Option (Int32) := if x1 = 0 then some gnQ else if x1 = 1 then some gnF else if x1 = 2 then if gov = 0 then some 0 else some 1 else if x1 = 3 then some gnC else if x1 = 4 then some gnL else if x1 = 5 then some gtr else if x1 = 6 then some glh else if x1 = 7 then some gtp else some (-1)
def FX2_record (x1 x2 : Int32) (gnF : Int32) (gbF : Nat → Int32) : Option (Int32) := bd1 (FX1_cell 4 24 x1 x2 gnF gbF) (fun rq1 => some rq1)
def FX2_drop (gnF : Int32) (gbF : Nat → Int32) : Option (Int32 × Int32 × (Nat → Int32)) := if gnF = 0 then some ((-1), gnF, gbF) else bd2 (FX1_remove 4 24 0 gnF gbF) (fun q2rn q2rB => some (q2rn, q2rn, q2rB))
def FX2_clear (gnF : Int32) (gov : Int32) : Option (Int32 × Int32 × Int32) := bd1 (FX1_removeAll gnF) (fun q1rn => some (gnF, q1rn, 0))
def FX2_leaf (x1 x2 : Int32) (gnL : Int32) (gbL : Nat → Int32) : Option (Int32) := bd1 (FX1_cell 5 30 x1 x2 gnL gbL) (fun rq1 => some rq1)
theorem lkX2_command_28 : Cond.fieldLink RX2 28 (TX2 4).1 (TX2 4).2.1 (TX2 4).2.2.1 ∈ wsX2_command := by decide +kernel
theorem inX2_command_X1 : ∀ w ∈ u_ws RX1 TX1 4, w ∈ wsX2_command := by decide +kernel
theorem inX2_command_X2 : ∀ w ∈ u_ws RX2 TX2 11, w ∈ wsX2_command := by decide +kernel
theorem hdyX2_command : yX2_command.cls = RX2 ∧ yX2_command.cls ≠ "java/lang/invoke/MethodHandle" ∧ yX2_command.cls ≠ "java/lang/invoke/VarHandle" ∧ (parseMethodDescriptor yX2_command.desc).map (fun d => d.parameters.length) = some 3 := by decide +kernel
set_option maxHeartbeats 4000000 in
set_option maxRecDepth 100000 in
theorem ctX2_command (l : Launch) (D : va_G) (a : Nat → Nat) (k : Nat → ClassId) (gM : Nat → Int32) (gnC : Int32) (gbC : Nat → Int32) (gnL : Int32) (gbL : Nat → Int32) (gnF : Int32) (gbF : Nat → Int32) (gnQ : Int32) (gbQ : Nat → Int32) (gE : Nat → Nat → Int32) (gtp : Int32) (glf : Int32) (gtr : Int32) (glh : Int32) (gov : Int32) (x1 x2 x3 : Int32) (r : Int32) (ognQ : Int32) (ogbQ : Nat → Int32) (hF : FX2_command x1 x2 x3 gnQ gbQ = some (r, ognQ, ogbQ)) : ji l yX2_command wsX2_command { frames := 2, cells := 0, slots := 0, locals := 45 } D (gt k) [.ref (a 0), .int x1, .int x2, .int x3] (gw a k gM gnC gbC gnL gbL gnF gbF gnQ gbQ gE gtp glf gtr glh gov) (gw a k gM gnC gbC gnL gbL gnF gbF ognQ ogbQ gE gtp glf gtr glh gov) r := by
  refine j_mi (cc := cX2_command) (maxL := 5) (own := RX2) (ret := (some .int)) (by decide) rfl rfl (Nat.le_of_ble_eq_true rfl) ?_
  intro p e s m args below meth c A C K hr hlk
  unfold FX2_command at hF
  refine j_iload_n (pc := 0) C 1 dX2_command_0 rfl rfl ?_
  refine j_if_lt (pc := 1) (tgt := 19) C dX2_command_1 (by decide) (fun c1 => ?_) (fun c1 => ?_)
  · replace hF := ifp hF c1
    refine j_iconst (pc := 19) (v := (-1)) C dX2_command_19 (by decide) ?_
    cases hF
    exact j_iret (pc := 20) C K hr hlk dX2_command_20
  · replace hF := ifn hF c1
    refine j_iload_n (pc := 4) C 1 dX2_command_4 rfl rfl ?_
    refine j_iconst (pc := 5) (v := 5) C dX2_command_5 (by decide) ?_
    refine j_icmp_gt (pc := 6) (tgt := 19) C dX2_command_6 (by decide) (fun c2 => ?_) (fun c2 => ?_)
    · replace hF := ifp hF c2
      refine j_iconst (pc := 19) (v := (-1)) C dX2_command_19 (by decide) ?_
      cases hF
      exact j_iret (pc := 20) C K hr hlk dX2_command_20
    · replace hF := ifn hF c2
      refine j_aload_n (pc := 9) C 0 dX2_command_9 rfl rfl ?_
      refine j_get (pc := 10) (v := .ref (a 8)) C K inX2_command_X2 0 rfl rfl 4 (by decide) lkX2_command_28 rfl dX2_command_10 ?_
      obtain ⟨rq3, hq3, hF⟩ := bd1_some hF
      refine j_callVi (pc := 13) (As := []) (rest := []) (ws' := (gw a k gM gnC gbC gnL gbL gnF gbF gnQ gbQ gE gtp glf gtr glh gov)) C K (ci := 1) (q0 := 0) rfl rfl rfl (ctX1_isFull l D (a 8) (a 9) (k 9) 12 3 36 _ _ _ hq3) gX2_command_X1_isFull rfl rfl rfl hdyX1_isFull ⟨Nat.le_of_ble_eq_true rfl, Nat.le_of_ble_eq_true rfl⟩ [8, 9] rfl (by decide) (jsp_eq (jsp2 (Nat.le_of_ble_eq_true rfl) (Nat.le_of_ble_eq_true rfl) (by decide)) rfl) [4] rfl rfl (Nat.le_of_ble_eq_true rfl) dX2_command_13 ⟨Nat.zero_le _, Nat.zero_le _⟩ ?_
      refine j_if_eq (pc := 16) (tgt := 21) C dX2_command_16 (by decide) (fun c4 => ?_) (fun c4 => ?_)
      · replace hF := ifp hF c4
        refine j_aload_n (pc := 21) C 0 dX2_command_21 rfl rfl ?_
        refine j_get (pc := 22) (v := .ref (a 8)) C K inX2_command_X2 0 rfl rfl 4 (by decide) lkX2_command_28 rfl dX2_command_22 ?_
        obtain ⟨rq5, q5rn, q5rB, hq5, hF⟩ := bd3_some hF
        refine j_callVi (pc := 25) (As := []) (rest := []) (ws' := (gw a k gM gnC gbC gnL gbL gnF gbF q5rn q5rB gE gtp glf gtr glh gov)) C K (ci := 1) (q0 := 0) rfl rfl rfl (ctX1_open l D (a 8) (a 9) (k 9) 12 3 36 _ _ _ _ _ hq5) gX2_command_X1_open rfl rfl rfl hdyX1_open ⟨Nat.le_of_ble_eq_true rfl, Nat.le_of_ble_eq_true rfl⟩ [8, 9] rfl (by decide) (jsp_eq (jsp2 (Nat.le_of_ble_eq_true rfl) (Nat.le_of_ble_eq_true rfl) (by decide)) rfl) [4] rfl rfl (Nat.le_of_ble_eq_true rfl) dX2_command_25 ⟨Nat.zero_le _, Nat.zero_le _⟩ ?_
        refine j_istore (pc := 28) (lv' := [(4, .int rq5), (0, .ref (a 0)), (1, .int x1), (2, .int x2), (3, .int x3)]) C dX2_command_28 (by decide) rfl ?_
        refine j_aload_n (pc := 30) C 1 dX2_command_30 rfl rfl ?_
        refine j_get (pc := 31) (v := .ref (a 8)) C K inX2_command_X2 0 rfl rfl 4 (by decide) lkX2_command_28 rfl dX2_command_31 ?_
        refine j_iload (pc := 34) C 0 dX2_command_34 rfl ?_
        refine j_iconst (pc := 36) (v := 0) C dX2_command_36 (by decide) ?_
        refine j_iload_n (pc := 37) C 2 dX2_command_37 rfl rfl ?_
        obtain ⟨q6rB, hq6, hF⟩ := bd1_some hF
        refine j_callVv (pc := 38) (As := [.int rq5, .int 0, .int x1]) (rest := []) (ws' := (gw a k gM gnC gbC gnL gbL gnF gbF q5rn q6rB gE gtp glf gtr glh gov)) C K (ci := 1) (q0 := 0) rfl rfl rfl (ctX1_put l D (a 8) (a 9) (k 9) 12 3 36 _ _ _ _ _ _ hq6) gX2_command_X1_put rfl rfl rfl hdyX1_put ⟨Nat.le_of_ble_eq_true rfl, Nat.le_of_ble_eq_true rfl⟩ [8, 9] rfl (by decide) (jsp_eq (jsp2 (Nat.le_of_ble_eq_true rfl) (Nat.le_of_ble_eq_true rfl) (by decide)) rfl) [4] rfl rfl (Nat.le_of_ble_eq_true rfl) dX2_command_38 ⟨Nat.zero_le _, Nat.zero_le _⟩ ?_
        refine j_aload_n (pc := 41) C 1 dX2_command_41 rfl rfl ?_
        refine j_get (pc := 42) (v := .ref (a 8)) C K inX2_command_X2 0 rfl rfl 4 (by decide) lkX2_command_28 rfl dX2_command_42 ?_
        refine j_iload (pc := 45) C 0 dX2_command_45 rfl ?_
        refine j_iconst (pc := 47) (v := 1) C dX2_command_47 (by decide) ?_
        refine j_iload_n (pc := 48) C 3 dX2_command_48 rfl rfl ?_
        obtain ⟨q7rB, hq7, hF⟩ := bd1_some hF
        refine j_callVv (pc := 49) (As := [.int rq5, .int 1, .int x2]) (rest := []) (ws' := (gw a k gM gnC gbC gnL gbL gnF gbF q5rn q7rB gE gtp glf gtr glh gov)) C K (ci := 1) (q0 := 0) rfl rfl rfl (ctX1_put l D (a 8) (a 9) (k 9) 12 3 36 _ _ _ _ _ _ hq7) gX2_command_X1_put rfl rfl rfl hdyX1_put ⟨Nat.le_of_ble_eq_true rfl, Nat.le_of_ble_eq_true rfl⟩ [8, 9] rfl (by decide) (jsp_eq (jsp2 (Nat.le_of_ble_eq_true rfl) (Nat.le_of_ble_eq_true rfl) (by decide)) rfl) [4] rfl rfl (Nat.le_of_ble_eq_true rfl) dX2_command_49 ⟨Nat.zero_le _, Nat.zero_le _⟩ ?_
        refine j_aload_n (pc := 52) C 1 dX2_command_52 rfl rfl ?_
        refine j_get (pc := 53) (v := .ref (a 8)) C K inX2_command_X2 0 rfl rfl 4 (by decide) lkX2_command_28 rfl dX2_command_53 ?_
        refine j_iload (pc := 56) C 0 dX2_command_56 rfl ?_
        refine j_iconst (pc := 58) (v := 2) C dX2_command_58 (by decide) ?_
        refine j_iload_n (pc := 59) C 4 dX2_command_59 rfl rfl ?_
        obtain ⟨q8rB, hq8, hF⟩ := bd1_some hF
        refine j_callVv (pc := 60) (As := [.int rq5, .int 2, .int x3]) (rest := []) (ws' := (gw a k gM gnC gbC gnL gbL gnF gbF q5rn q8rB gE gtp glf gtr glh gov)) C K (ci := 1) (q0 := 0) rfl rfl rfl (ctX1_put l D (a 8) (a 9) (k 9) 12 3 36 _ _ _ _ _ _ hq8) gX2_command_X1_put rfl rfl rfl hdyX1_put ⟨Nat.le_of_ble_eq_true rfl, Nat.le_of_ble_eq_true rfl⟩ [8, 9] rfl (by decide) (jsp_eq (jsp2 (Nat.le_of_ble_eq_true rfl) (Nat.le_of_ble_eq_true rfl) (by decide)) rfl) [4] rfl rfl (Nat.le_of_ble_eq_true rfl) dX2_command_60 ⟨Nat.zero_le _, Nat.zero_le _⟩ ?_
        refine j_aload_n (pc := 63) C 1 dX2_command_63 rfl rfl ?_
        refine j_get (pc := 64) (v := .ref (a 8)) C K inX2_command_X2 0 rfl rfl 4 (by decide) lkX2_command_28 rfl dX2_command_64 ?_
        refine j_getN (pc := 67) (v := .int q5rn) C K inX2_command_X1 8 rfl rfl 3 (by decide) lkN_130 rfl dX2_command_67 ?_
        cases hF
        exact j_iret (pc := 70) C K hr hlk dX2_command_70
      · replace hF := ifn hF c4
        refine j_iconst (pc := 19) (v := (-1)) C dX2_command_19 (by decide) ?_
        cases hF
        exact j_iret (pc := 20) C K hr hlk dX2_command_20
theorem lkX2_forgetDomain_22 : Cond.fieldLink RX2 22 (TX2 2).1 (TX2 2).2.1 (TX2 2).2.2.1 ∈ wsX2_forgetDomain := by decide +kernel
theorem inX2_forgetDomain_X1 : ∀ w ∈ u_ws RX1 TX1 4, w ∈ wsX2_forgetDomain := by decide +kernel
theorem inX2_forgetDomain_X2 : ∀ w ∈ u_ws RX2 TX2 11, w ∈ wsX2_forgetDomain := by decide +kernel
theorem hdyX2_forgetDomain : yX2_forgetDomain.cls = RX2 ∧ yX2_forgetDomain.cls ≠ "java/lang/invoke/MethodHandle" ∧ yX2_forgetDomain.cls ≠ "java/lang/invoke/VarHandle" ∧ (parseMethodDescriptor yX2_forgetDomain.desc).map (fun d => d.parameters.length) = some 1 := by decide +kernel
set_option maxHeartbeats 4000000 in
set_option maxRecDepth 100000 in
theorem ctX2_forgetDomain (l : Launch) (D : va_G) (a : Nat → Nat) (k : Nat → ClassId) (gM : Nat → Int32) (gnC : Int32) (gbC : Nat → Int32) (gnL : Int32) (gbL : Nat → Int32) (gnF : Int32) (gbF : Nat → Int32) (gnQ : Int32) (gbQ : Nat → Int32) (gE : Nat → Nat → Int32) (gtp : Int32) (glf : Int32) (gtr : Int32) (glh : Int32) (gov : Int32) (x1 : Int32) (ognL : Int32) (ogbL : Nat → Int32) (hF : FX2_forgetDomain x1 gnL gbL = some (ognL, ogbL)) : jv l yX2_forgetDomain wsX2_forgetDomain { frames := 2, cells := 0, slots := 0, locals := 44 } D (gt k) [.ref (a 0), .int x1] (gw a k gM gnC gbC gnL gbL gnF gbF gnQ gbQ gE gtp glf gtr glh gov) (gw a k gM gnC gbC ognL ogbL gnF gbF gnQ gbQ gE gtp glf gtr glh gov) := by
  refine j_mv (cc := cX2_forgetDomain) (maxL := 3) (own := RX2) (by decide) rfl rfl (Nat.le_of_ble_eq_true rfl) ?_
  intro p e s m args below meth c A C K hr hlk
  have K10 : ∀ (n : Nat) (gnL : Int32) (gbL : Nat → Int32) (v2 : Int32), FX2_forgetDomain_10 x1 n gnL gbL v2 = some (ognL, ogbL) → jw p l e ({ frames := 2, cells := 0, slots := 0, locals := 44 } : Room) s m args below meth c 3 D A 0 0 (jqv below D (gt k) args s A (gw a k gM gnC gbC ognL ogbL gnF gbF gnQ gbQ gE gtp glf gtr glh gov)) (gw a k gM gnC gbC gnL gbL gnF gbF gnQ gbQ gE gtp glf gtr glh gov) [(0, .ref (a 0)), (1, .int x1), (2, .int v2)] 10 [] := by
    intro n
    induction n with
    | zero =>
      intro gnL gbL v2 hF
      rw [FX2_forgetDomain_10] at hF
      cases hF
    | succ n ih =>
      intro gnL gbL v2 hF
      rw [FX2_forgetDomain_10] at hF
      refine j_iload_n (pc := 10) C 2 dX2_forgetDomain_10 rfl rfl ?_
      refine j_if_lt (pc := 11) (tgt := 41) C dX2_forgetDomain_11 (by decide) (fun c1 => ?_) (fun c1 => ?_)
      · replace hF := ifp hF c1
        cases hF
        exact j_vret (pc := 41) C K hr hlk dX2_forgetDomain_41
      · replace hF := ifn hF c1
        refine j_aload_n (pc := 14) C 0 dX2_forgetDomain_14 rfl rfl ?_
        refine j_get (pc := 15) (v := .ref (a 4)) C K inX2_forgetDomain_X2 0 rfl rfl 2 (by decide) lkX2_forgetDomain_22 rfl dX2_forgetDomain_15 ?_
        refine j_iload_n (pc := 18) C 2 dX2_forgetDomain_18 rfl rfl ?_
        refine j_iconst (pc := 19) (v := 0) C dX2_forgetDomain_19 (by decide) ?_
        obtain ⟨rq2, hq2, hF⟩ := bd1_some hF
        refine j_callVi (pc := 20) (As := [.int v2, .int 0]) (rest := []) (ws' := (gw a k gM gnC gbC gnL gbL gnF gbF gnQ gbQ gE gtp glf gtr glh gov)) C K (ci := 1) (q0 := 0) rfl rfl rfl (ctX1_cell l D (a 4) (a 5) (k 5) 6 5 30 _ _ _ _ _ hq2) gX2_forgetDomain_X1_cell rfl rfl rfl hdyX1_cell ⟨Nat.le_of_ble_eq_true rfl, Nat.le_of_ble_eq_true rfl⟩ [4, 5] rfl (by decide) (jsp_eq (jsp2 (Nat.le_of_ble_eq_true rfl) (Nat.le_of_ble_eq_true rfl) (by decide)) rfl) [2] rfl rfl (Nat.le_of_ble_eq_true rfl) dX2_forgetDomain_20 ⟨Nat.zero_le _, Nat.zero_le _⟩ ?_
        refine j_iload_n (pc := 23) C 1 dX2_forgetDomain_23 rfl rfl ?_
        refine j_icmp_ne (pc := 24) (tgt := 35) C dX2_forgetDomain_24 (by decide) (fun c3 => ?_) (fun c3 => ?_)
        · replace hF := ifn hF c3
          refine j_iinc (pc := 35) (v := (v2 + (-1))) (lv' := [(2, .int (v2 + (-1))), (0, .ref (a 0)), (1, .int x1)]) C 2 dX2_forgetDomain_35 rfl rfl (by decide) rfl ?_
          refine j_goto (pc := 38) (tgt := 10) C dX2_forgetDomain_38 (by decide) ?_
          exact j_lv [1, 2, 0] rfl (ih _ _ _ hF)
        · replace hF := ifp hF c3
          refine j_aload_n (pc := 27) C 0 dX2_forgetDomain_27 rfl rfl ?_
          refine j_get (pc := 28) (v := .ref (a 4)) C K inX2_forgetDomain_X2 0 rfl rfl 2 (by decide) lkX2_forgetDomain_22 rfl dX2_forgetDomain_28 ?_
          refine j_iload_n (pc := 31) C 2 dX2_forgetDomain_31 rfl rfl ?_
          obtain ⟨q4rn, q4rB, hq4, hF⟩ := bd2_some hF
          refine j_callVv (pc := 32) (As := [.int v2]) (rest := []) (ws' := (gw a k gM gnC gbC q4rn q4rB gnF gbF gnQ gbQ gE gtp glf gtr glh gov)) C K (ci := 1) (q0 := 0) rfl rfl rfl (ctX1_remove l D (a 4) (a 5) (k 5) 6 5 30 _ _ _ _ _ hq4) gX2_forgetDomain_X1_remove rfl rfl rfl hdyX1_remove ⟨Nat.le_of_ble_eq_true rfl, Nat.le_of_ble_eq_true rfl⟩ [4, 5] rfl (by decide) (jsp_eq (jsp2 (Nat.le_of_ble_eq_true rfl) (Nat.le_of_ble_eq_true rfl) (by decide)) rfl) [2] rfl rfl (Nat.le_of_ble_eq_true rfl) dX2_forgetDomain_32 ⟨Nat.zero_le _, Nat.zero_le _⟩ ?_
          refine j_iinc (pc := 35) (v := (v2 + (-1))) (lv' := [(2, .int (v2 + (-1))), (0, .ref (a 0)), (1, .int x1)]) C 2 dX2_forgetDomain_35 rfl rfl (by decide) rfl ?_
          refine j_goto (pc := 38) (tgt := 10) C dX2_forgetDomain_38 (by decide) ?_
          exact j_lv [1, 2, 0] rfl (ih _ _ _ hF)
  unfold FX2_forgetDomain at hF
  refine j_aload_n (pc := 0) C 0 dX2_forgetDomain_0 rfl rfl ?_
  refine j_get (pc := 1) (v := .ref (a 4)) C K inX2_forgetDomain_X2 0 rfl rfl 2 (by decide) lkX2_forgetDomain_22 rfl dX2_forgetDomain_1 ?_
  refine j_getN (pc := 4) (v := .int gnL) C K inX2_forgetDomain_X1 4 rfl rfl 3 (by decide) lkN_130 rfl dX2_forgetDomain_4 ?_
  refine j_iconst (pc := 7) (v := 1) C dX2_forgetDomain_7 (by decide) ?_
  refine j_isub (pc := 8) C dX2_forgetDomain_8 ?_
  refine j_istore_n (pc := 9) (lv' := [(2, .int (gnL - 1)), (0, .ref (a 0)), (1, .int x1)]) C dX2_forgetDomain_9 rfl (by decide) rfl ?_
  exact j_lv [1, 2, 0] rfl (K10 _ _ _ _ hF)
theorem lkX2_forgetPage_22 : Cond.fieldLink RX2 22 (TX2 2).1 (TX2 2).2.1 (TX2 2).2.2.1 ∈ wsX2_forgetPage := by decide +kernel
theorem inX2_forgetPage_X1 : ∀ w ∈ u_ws RX1 TX1 4, w ∈ wsX2_forgetPage := by decide +kernel
theorem inX2_forgetPage_X2 : ∀ w ∈ u_ws RX2 TX2 11, w ∈ wsX2_forgetPage := by decide +kernel
theorem hdyX2_forgetPage : yX2_forgetPage.cls = RX2 ∧ yX2_forgetPage.cls ≠ "java/lang/invoke/MethodHandle" ∧ yX2_forgetPage.cls ≠ "java/lang/invoke/VarHandle" ∧ (parseMethodDescriptor yX2_forgetPage.desc).map (fun d => d.parameters.length) = some 2 := by decide +kernel
set_option maxHeartbeats 4000000 in
set_option maxRecDepth 100000 in
theorem ctX2_forgetPage (l : Launch) (D : va_G) (a : Nat → Nat) (k : Nat → ClassId) (gM : Nat → Int32) (gnC : Int32) (gbC : Nat → Int32) (gnL : Int32) (gbL : Nat → Int32) (gnF : Int32) (gbF : Nat → Int32) (gnQ : Int32) (gbQ : Nat → Int32) (gE : Nat → Nat → Int32) (gtp : Int32) (glf : Int32) (gtr : Int32) (glh : Int32) (gov : Int32) (x1 x2 : Int32) (ognL : Int32) (ogbL : Nat → Int32) (hF : FX2_forgetPage x1 x2 gnL gbL = some (ognL, ogbL)) : jv l yX2_forgetPage wsX2_forgetPage { frames := 3, cells := 0, slots := 0, locals := 66 } D (gt k) [.ref (a 0), .int x1, .int x2] (gw a k gM gnC gbC gnL gbL gnF gbF gnQ gbQ gE gtp glf gtr glh gov) (gw a k gM gnC gbC ognL ogbL gnF gbF gnQ gbQ gE gtp glf gtr glh gov) := by
  refine j_mv (cc := cX2_forgetPage) (maxL := 4) (own := RX2) (by decide) rfl rfl (Nat.le_of_ble_eq_true rfl) ?_
  intro p e s m args below meth c A C K hr hlk
  have K10 : ∀ (n : Nat) (gnL : Int32) (gbL : Nat → Int32) (v3 : Int32), FX2_forgetPage_10 x1 x2 n gnL gbL v3 = some (ognL, ogbL) → jw p l e ({ frames := 3, cells := 0, slots := 0, locals := 66 } : Room) s m args below meth c 4 D A 0 0 (jqv below D (gt k) args s A (gw a k gM gnC gbC ognL ogbL gnF gbF gnQ gbQ gE gtp glf gtr glh gov)) (gw a k gM gnC gbC gnL gbL gnF gbF gnQ gbQ gE gtp glf gtr glh gov) [(0, .ref (a 0)), (1, .int x1), (2, .int x2), (3, .int v3)] 10 [] := by
    intro n
    induction n with
    | zero =>
      intro gnL gbL v3 hF
      rw [FX2_forgetPage_10] at hF
      cases hF
    | succ n ih =>
      intro gnL gbL v3 hF
      rw [FX2_forgetPage_10] at hF
      refine j_iload_n (pc := 10) C 3 dX2_forgetPage_10 rfl rfl ?_
      refine j_if_lt (pc := 11) (tgt := 50) C dX2_forgetPage_11 (by decide) (fun c1 => ?_) (fun c1 => ?_)
      · replace hF := ifp hF c1
        cases hF
        exact j_vret (pc := 50) C K hr hlk dX2_forgetPage_50
      · replace hF := ifn hF c1
        refine j_aload_n (pc := 14) C 0 dX2_forgetPage_14 rfl rfl ?_
        refine j_get (pc := 15) (v := .ref (a 4)) C K inX2_forgetPage_X2 0 rfl rfl 2 (by decide) lkX2_forgetPage_22 rfl dX2_forgetPage_15 ?_
        refine j_iload_n (pc := 18) C 3 dX2_forgetPage_18 rfl rfl ?_
        refine j_iconst (pc := 19) (v := 0) C dX2_forgetPage_19 (by decide) ?_
        obtain ⟨rq2, hq2, hF⟩ := bd1_some hF
        refine j_callVi (pc := 20) (As := [.int v3, .int 0]) (rest := []) (ws' := (gw a k gM gnC gbC gnL gbL gnF gbF gnQ gbQ gE gtp glf gtr glh gov)) C K (ci := 1) (q0 := 0) rfl rfl rfl (ctX1_cell l D (a 4) (a 5) (k 5) 6 5 30 _ _ _ _ _ hq2) gX2_forgetPage_X1_cell rfl rfl rfl hdyX1_cell ⟨Nat.le_of_ble_eq_true rfl, Nat.le_of_ble_eq_true rfl⟩ [4, 5] rfl (by decide) (jsp_eq (jsp2 (Nat.le_of_ble_eq_true rfl) (Nat.le_of_ble_eq_true rfl) (by decide)) rfl) [2] rfl rfl (Nat.le_of_ble_eq_true rfl) dX2_forgetPage_20 ⟨Nat.zero_le _, Nat.zero_le _⟩ ?_
        refine j_iload_n (pc := 23) C 1 dX2_forgetPage_23 rfl rfl ?_
        refine j_icmp_ne (pc := 24) (tgt := 44) C dX2_forgetPage_24 (by decide) (fun c3 => ?_) (fun c3 => ?_)
        · replace hF := ifn hF c3
          refine j_iinc (pc := 44) (v := (v3 + (-1))) (lv' := [(3, .int (v3 + (-1))), (0, .ref (a 0)), (1, .int x1), (2, .int x2)]) C 3 dX2_forgetPage_44 rfl rfl (by decide) rfl ?_
          refine j_goto (pc := 47) (tgt := 10) C dX2_forgetPage_47 (by decide) ?_
          exact j_lv [1, 2, 3, 0] rfl (ih _ _ _ hF)
        · replace hF := ifp hF c3
          refine j_aload_n (pc := 27) C 0 dX2_forgetPage_27 rfl rfl ?_
          refine j_iload_n (pc := 28) C 3 dX2_forgetPage_28 rfl rfl ?_
          refine j_iload_n (pc := 29) C 2 dX2_forgetPage_29 rfl rfl ?_
          obtain ⟨rq4, hq4, hF⟩ := bd1_some hF
          refine j_callVi (pc := 30) (As := [.int v3, .int x2]) (rest := []) (ws' := (gw a k gM gnC gbC gnL gbL gnF gbF gnQ gbQ gE gtp glf gtr glh gov)) C K (ci := 2) (q0 := 0) rfl rfl rfl (ctX2_isForPage l D a k _ _ _ _ _ _ _ _ _ _ _ _ _ _ _ _ _ _ hq4) gX2_forgetPage_X2_isForPage rfl rfl rfl hdyX2_isForPage ⟨Nat.le_of_ble_eq_true rfl, Nat.le_of_ble_eq_true rfl⟩ (List.range 19) (jrange _) (by decide) (jspF rfl) [0, 1, 2, 3, 4, 5] rfl rfl (Nat.le_of_ble_eq_true rfl) dX2_forgetPage_30 ⟨Nat.zero_le _, Nat.zero_le _⟩ ?_
          refine j_if_eq (pc := 33) (tgt := 44) C dX2_forgetPage_33 (by decide) (fun c5 => ?_) (fun c5 => ?_)
          · replace hF := ifp hF c5
            refine j_iinc (pc := 44) (v := (v3 + (-1))) (lv' := [(3, .int (v3 + (-1))), (0, .ref (a 0)), (1, .int x1), (2, .int x2)]) C 3 dX2_forgetPage_44 rfl rfl (by decide) rfl ?_
            refine j_goto (pc := 47) (tgt := 10) C dX2_forgetPage_47 (by decide) ?_
            exact j_lv [1, 2, 3, 0] rfl (ih _ _ _ hF)
          · replace hF := ifn hF c5
            refine j_aload_n (pc := 36) C 0 dX2_forgetPage_36 rfl rfl ?_
            refine j_get (pc := 37) (v := .ref (a 4)) C K inX2_forgetPage_X2 0 rfl rfl 2 (by decide) lkX2_forgetPage_22 rfl dX2_forgetPage_37 ?_
            refine j_iload_n (pc := 40) C 3 dX2_forgetPage_40 rfl rfl ?_
            obtain ⟨q6rn, q6rB, hq6, hF⟩ := bd2_some hF
            refine j_callVv (pc := 41) (As := [.int v3]) (rest := []) (ws' := (gw a k gM gnC gbC q6rn q6rB gnF gbF gnQ gbQ gE gtp glf gtr glh gov)) C K (ci := 1) (q0 := 0) rfl rfl rfl (ctX1_remove l D (a 4) (a 5) (k 5) 6 5 30 _ _ _ _ _ hq6) gX2_forgetPage_X1_remove rfl rfl rfl hdyX1_remove ⟨Nat.le_of_ble_eq_true rfl, Nat.le_of_ble_eq_true rfl⟩ [4, 5] rfl (by decide) (jsp_eq (jsp2 (Nat.le_of_ble_eq_true rfl) (Nat.le_of_ble_eq_true rfl) (by decide)) rfl) [2] rfl rfl (Nat.le_of_ble_eq_true rfl) dX2_forgetPage_41 ⟨Nat.zero_le _, Nat.zero_le _⟩ ?_
            refine j_iinc (pc := 44) (v := (v3 + (-1))) (lv' := [(3, .int (v3 + (-1))), (0, .ref (a 0)), (1, .int x1), (2, .int x2)]) C 3 dX2_forgetPage_44 rfl rfl (by decide) rfl ?_
            refine j_goto (pc := 47) (tgt := 10) C dX2_forgetPage_47 (by decide) ?_
            exact j_lv [1, 2, 3, 0] rfl (ih _ _ _ hF)
  unfold FX2_forgetPage at hF
  refine j_aload_n (pc := 0) C 0 dX2_forgetPage_0 rfl rfl ?_
  refine j_get (pc := 1) (v := .ref (a 4)) C K inX2_forgetPage_X2 0 rfl rfl 2 (by decide) lkX2_forgetPage_22 rfl dX2_forgetPage_1 ?_
  refine j_getN (pc := 4) (v := .int gnL) C K inX2_forgetPage_X1 4 rfl rfl 3 (by decide) lkN_130 rfl dX2_forgetPage_4 ?_
  refine j_iconst (pc := 7) (v := 1) C dX2_forgetPage_7 (by decide) ?_
  refine j_isub (pc := 8) C dX2_forgetPage_8 ?_
  refine j_istore_n (pc := 9) (lv' := [(3, .int (gnL - 1)), (0, .ref (a 0)), (1, .int x1), (2, .int x2)]) C dX2_forgetPage_9 rfl (by decide) rfl ?_
  exact j_lv [1, 2, 3, 0] rfl (K10 _ _ _ _ hF)
theorem lkX2_forgetContext_18 : Cond.fieldLink RX2 18 (TX2 1).1 (TX2 1).2.1 (TX2 1).2.2.1 ∈ wsX2_forgetContext := by decide +kernel
theorem inX2_forgetContext_X1 : ∀ w ∈ u_ws RX1 TX1 4, w ∈ wsX2_forgetContext := by decide +kernel
theorem inX2_forgetContext_X2 : ∀ w ∈ u_ws RX2 TX2 11, w ∈ wsX2_forgetContext := by decide +kernel
theorem hdyX2_forgetContext : yX2_forgetContext.cls = RX2 ∧ yX2_forgetContext.cls ≠ "java/lang/invoke/MethodHandle" ∧ yX2_forgetContext.cls ≠ "java/lang/invoke/VarHandle" ∧ (parseMethodDescriptor yX2_forgetContext.desc).map (fun d => d.parameters.length) = some 1 := by decide +kernel
set_option maxHeartbeats 4000000 in
set_option maxRecDepth 100000 in
theorem ctX2_forgetContext (l : Launch) (D : va_G) (a : Nat → Nat) (k : Nat → ClassId) (gM : Nat → Int32) (gnC : Int32) (gbC : Nat → Int32) (gnL : Int32) (gbL : Nat → Int32) (gnF : Int32) (gbF : Nat → Int32) (gnQ : Int32) (gbQ : Nat → Int32) (gE : Nat → Nat → Int32) (gtp : Int32) (glf : Int32) (gtr : Int32) (glh : Int32) (gov : Int32) (x1 : Int32) (ognC : Int32) (ogbC : Nat → Int32) (hF : FX2_forgetContext x1 gnC gbC = some (ognC, ogbC)) : jv l yX2_forgetContext wsX2_forgetContext { frames := 2, cells := 0, slots := 0, locals := 44 } D (gt k) [.ref (a 0), .int x1] (gw a k gM gnC gbC gnL gbL gnF gbF gnQ gbQ gE gtp glf gtr glh gov) (gw a k gM ognC ogbC gnL gbL gnF gbF gnQ gbQ gE gtp glf gtr glh gov) := by
  refine j_mv (cc := cX2_forgetContext) (maxL := 3) (own := RX2) (by decide) rfl rfl (Nat.le_of_ble_eq_true rfl) ?_
  intro p e s m args below meth c A C K hr hlk
  have K10 : ∀ (n : Nat) (gnC : Int32) (gbC : Nat → Int32) (v2 : Int32), FX2_forgetContext_10 x1 n gnC gbC v2 = some (ognC, ogbC) → jw p l e ({ frames := 2, cells := 0, slots := 0, locals := 44 } : Room) s m args below meth c 3 D A 0 0 (jqv below D (gt k) args s A (gw a k gM ognC ogbC gnL gbL gnF gbF gnQ gbQ gE gtp glf gtr glh gov)) (gw a k gM gnC gbC gnL gbL gnF gbF gnQ gbQ gE gtp glf gtr glh gov) [(0, .ref (a 0)), (1, .int x1), (2, .int v2)] 10 [] := by
    intro n
    induction n with
    | zero =>
      intro gnC gbC v2 hF
      rw [FX2_forgetContext_10] at hF
      cases hF
    | succ n ih =>
      intro gnC gbC v2 hF
      rw [FX2_forgetContext_10] at hF
      refine j_iload_n (pc := 10) C 2 dX2_forgetContext_10 rfl rfl ?_
      refine j_if_lt (pc := 11) (tgt := 41) C dX2_forgetContext_11 (by decide) (fun c1 => ?_) (fun c1 => ?_)
      · replace hF := ifp hF c1
        cases hF
        exact j_vret (pc := 41) C K hr hlk dX2_forgetContext_41
      · replace hF := ifn hF c1
        refine j_aload_n (pc := 14) C 0 dX2_forgetContext_14 rfl rfl ?_
        refine j_get (pc := 15) (v := .ref (a 2)) C K inX2_forgetContext_X2 0 rfl rfl 1 (by decide) lkX2_forgetContext_18 rfl dX2_forgetContext_15 ?_
        refine j_iload_n (pc := 18) C 2 dX2_forgetContext_18 rfl rfl ?_
        refine j_iconst (pc := 19) (v := 0) C dX2_forgetContext_19 (by decide) ?_
        obtain ⟨rq2, hq2, hF⟩ := bd1_some hF
        refine j_callVi (pc := 20) (As := [.int v2, .int 0]) (rest := []) (ws' := (gw a k gM gnC gbC gnL gbL gnF gbF gnQ gbQ gE gtp glf gtr glh gov)) C K (ci := 1) (q0 := 0) rfl rfl rfl (ctX1_cell l D (a 2) (a 3) (k 3) 3 3 9 _ _ _ _ _ hq2) gX2_forgetContext_X1_cell rfl rfl rfl hdyX1_cell ⟨Nat.le_of_ble_eq_true rfl, Nat.le_of_ble_eq_true rfl⟩ [2, 3] rfl (by decide) (jsp_eq (jsp2 (Nat.le_of_ble_eq_true rfl) (Nat.le_of_ble_eq_true rfl) (by decide)) rfl) [1] rfl rfl (Nat.le_of_ble_eq_true rfl) dX2_forgetContext_20 ⟨Nat.zero_le _, Nat.zero_le _⟩ ?_
        refine j_iload_n (pc := 23) C 1 dX2_forgetContext_23 rfl rfl ?_
        refine j_icmp_ne (pc := 24) (tgt := 35) C dX2_forgetContext_24 (by decide) (fun c3 => ?_) (fun c3 => ?_)
        · replace hF := ifn hF c3
          refine j_iinc (pc := 35) (v := (v2 + (-1))) (lv' := [(2, .int (v2 + (-1))), (0, .ref (a 0)), (1, .int x1)]) C 2 dX2_forgetContext_35 rfl rfl (by decide) rfl ?_
          refine j_goto (pc := 38) (tgt := 10) C dX2_forgetContext_38 (by decide) ?_
          exact j_lv [1, 2, 0] rfl (ih _ _ _ hF)
        · replace hF := ifp hF c3
          refine j_aload_n (pc := 27) C 0 dX2_forgetContext_27 rfl rfl ?_
          refine j_get (pc := 28) (v := .ref (a 2)) C K inX2_forgetContext_X2 0 rfl rfl 1 (by decide) lkX2_forgetContext_18 rfl dX2_forgetContext_28 ?_
          refine j_iload_n (pc := 31) C 2 dX2_forgetContext_31 rfl rfl ?_
          obtain ⟨q4rn, q4rB, hq4, hF⟩ := bd2_some hF
          refine j_callVv (pc := 32) (As := [.int v2]) (rest := []) (ws' := (gw a k gM q4rn q4rB gnL gbL gnF gbF gnQ gbQ gE gtp glf gtr glh gov)) C K (ci := 1) (q0 := 0) rfl rfl rfl (ctX1_remove l D (a 2) (a 3) (k 3) 3 3 9 _ _ _ _ _ hq4) gX2_forgetContext_X1_remove rfl rfl rfl hdyX1_remove ⟨Nat.le_of_ble_eq_true rfl, Nat.le_of_ble_eq_true rfl⟩ [2, 3] rfl (by decide) (jsp_eq (jsp2 (Nat.le_of_ble_eq_true rfl) (Nat.le_of_ble_eq_true rfl) (by decide)) rfl) [1] rfl rfl (Nat.le_of_ble_eq_true rfl) dX2_forgetContext_32 ⟨Nat.zero_le _, Nat.zero_le _⟩ ?_
          refine j_iinc (pc := 35) (v := (v2 + (-1))) (lv' := [(2, .int (v2 + (-1))), (0, .ref (a 0)), (1, .int x1)]) C 2 dX2_forgetContext_35 rfl rfl (by decide) rfl ?_
          refine j_goto (pc := 38) (tgt := 10) C dX2_forgetContext_38 (by decide) ?_
          exact j_lv [1, 2, 0] rfl (ih _ _ _ hF)
  unfold FX2_forgetContext at hF
  refine j_aload_n (pc := 0) C 0 dX2_forgetContext_0 rfl rfl ?_
  refine j_get (pc := 1) (v := .ref (a 2)) C K inX2_forgetContext_X2 0 rfl rfl 1 (by decide) lkX2_forgetContext_18 rfl dX2_forgetContext_1 ?_
  refine j_getN (pc := 4) (v := .int gnC) C K inX2_forgetContext_X1 2 rfl rfl 3 (by decide) lkN_130 rfl dX2_forgetContext_4 ?_
  refine j_iconst (pc := 7) (v := 1) C dX2_forgetContext_7 (by decide) ?_
  refine j_isub (pc := 8) C dX2_forgetContext_8 ?_
  refine j_istore_n (pc := 9) (lv' := [(2, .int (gnC - 1)), (0, .ref (a 0)), (1, .int x1)]) C dX2_forgetContext_9 rfl (by decide) rfl ?_
  exact j_lv [1, 2, 0] rfl (K10 _ _ _ _ hF)
theorem lkX2_carryOut_22 : Cond.fieldLink RX2 22 (TX2 2).1 (TX2 2).2.1 (TX2 2).2.2.1 ∈ wsX2_carryOut := by decide +kernel
theorem lkX2_carryOut_18 : Cond.fieldLink RX2 18 (TX2 1).1 (TX2 1).2.1 (TX2 1).2.2.1 ∈ wsX2_carryOut := by decide +kernel
theorem inX2_carryOut_X2 : ∀ w ∈ u_ws RX2 TX2 11, w ∈ wsX2_carryOut := by decide +kernel
theorem hdyX2_carryOut : yX2_carryOut.cls = RX2 ∧ yX2_carryOut.cls ≠ "java/lang/invoke/MethodHandle" ∧ yX2_carryOut.cls ≠ "java/lang/invoke/VarHandle" ∧ (parseMethodDescriptor yX2_carryOut.desc).map (fun d => d.parameters.length) = some 3 := by decide +kernel
set_option maxHeartbeats 4000000 in
set_option maxRecDepth 100000 in
theorem ctX2_carryOut (l : Launch) (D : va_G) (a : Nat → Nat) (k : Nat → ClassId) (gM : Nat → Int32) (gnC : Int32) (gbC : Nat → Int32) (gnL : Int32) (gbL : Nat → Int32) (gnF : Int32) (gbF : Nat → Int32) (gnQ : Int32) (gbQ : Nat → Int32) (gE : Nat → Nat → Int32) (gtp : Int32) (glf : Int32) (gtr : Int32) (glh : Int32) (gov : Int32) (x1 x2 x3 : Int32) (ogM : Nat → Int32) (ognC : Int32) (ogbC : Nat → Int32) (ognL : Int32) (ogbL : Nat → Int32) (hF : FX2_carryOut x1 x2 x3 gM gnC gbC gnL gbL = some (ogM, ognC, ogbC, ognL, ogbL)) : jv l yX2_carryOut wsX2_carryOut { frames := 4, cells := 0, slots := 0, locals := 89 } D (gt k) [.ref (a 0), .int x1, .int x2, .int x3] (gw a k gM gnC gbC gnL gbL gnF gbF gnQ gbQ gE gtp glf gtr glh gov) (gw a k ogM ognC ogbC ognL ogbL gnF gbF gnQ gbQ gE gtp glf gtr glh gov) := by
  refine j_mv (cc := cX2_carryOut) (maxL := 4) (own := RX2) (by decide) rfl rfl (Nat.le_of_ble_eq_true rfl) ?_
  intro p e s m args below meth c A C K hr hlk
  unfold FX2_carryOut at hF
  refine j_iload_n (pc := 0) C 1 dX2_carryOut_0 rfl rfl ?_
  by_cases c1 : x1 = 0
  · replace hF := ifp hF c1
    refine j_tin (pc := 1) (tgt := 36) (off := 35) C dX2_carryOut_1 (by rw [c1]; decide) (by rw [c1]; decide) (by rw [c1]; rfl) (by decide) ?_
    refine j_aload_n (pc := 36) C 0 dX2_carryOut_36 rfl rfl ?_
    refine j_get (pc := 37) (v := .ref (a 4)) C K inX2_carryOut_X2 0 rfl rfl 2 (by decide) lkX2_carryOut_22 rfl dX2_carryOut_37 ?_
    obtain ⟨q2rn, hq2, hF⟩ := bd1_some hF
    refine j_callVv (pc := 40) (As := []) (rest := []) (ws' := (gw a k gM gnC gbC q2rn gbL gnF gbF gnQ gbQ gE gtp glf gtr glh gov)) C K (ci := 1) (q0 := 0) rfl rfl rfl (ctX1_removeAll l D (a 4) (a 5) (k 5) 6 5 30 _ _ _ hq2) gX2_carryOut_X1_removeAll rfl rfl rfl hdyX1_removeAll ⟨Nat.le_of_ble_eq_true rfl, Nat.le_of_ble_eq_true rfl⟩ [4, 5] rfl (by decide) (jsp_eq (jsp2 (Nat.le_of_ble_eq_true rfl) (Nat.le_of_ble_eq_true rfl) (by decide)) rfl) [2] rfl rfl (Nat.le_of_ble_eq_true rfl) dX2_carryOut_40 ⟨Nat.zero_le _, Nat.zero_le _⟩ ?_
    refine j_goto (pc := 43) (tgt := 88) C dX2_carryOut_43 (by decide) ?_
    cases hF
    exact j_vret (pc := 88) C K hr hlk dX2_carryOut_88
  · replace hF := ifn hF c1
    by_cases c3 : x1 = 1
    · replace hF := ifp hF c3
      refine j_tin (pc := 1) (tgt := 46) (off := 45) C dX2_carryOut_1 (by rw [c3]; decide) (by rw [c3]; decide) (by rw [c3]; rfl) (by decide) ?_
      refine j_aload_n (pc := 46) C 0 dX2_carryOut_46 rfl rfl ?_
      refine j_iload_n (pc := 47) C 2 dX2_carryOut_47 rfl rfl ?_
      obtain ⟨q4gnL, q4gbL, hq4, hF⟩ := bd2_some hF
      refine j_callVv (pc := 48) (As := [.int x2]) (rest := []) (ws' := (gw a k gM gnC gbC q4gnL q4gbL gnF gbF gnQ gbQ gE gtp glf gtr glh gov)) C K (ci := 2) (q0 := 0) rfl rfl rfl (ctX2_forgetDomain l D a k _ _ _ _ _ _ _ _ _ _ _ _ _ _ _ _ _ _ hq4) gX2_carryOut_X2_forgetDomain rfl rfl rfl hdyX2_forgetDomain ⟨Nat.le_of_ble_eq_true rfl, Nat.le_of_ble_eq_true rfl⟩ (List.range 19) (jrange _) (by decide) (jspF rfl) [0, 1, 2, 3, 4, 5] rfl rfl (Nat.le_of_ble_eq_true rfl) dX2_carryOut_48 ⟨Nat.zero_le _, Nat.zero_le _⟩ ?_
      refine j_goto (pc := 51) (tgt := 88) C dX2_carryOut_51 (by decide) ?_
      cases hF
      exact j_vret (pc := 88) C K hr hlk dX2_carryOut_88
    · replace hF := ifn hF c3
      by_cases c5 : x1 = 2
      · replace hF := ifp hF c5
        refine j_tin (pc := 1) (tgt := 54) (off := 53) C dX2_carryOut_1 (by rw [c5]; decide) (by rw [c5]; decide) (by rw [c5]; rfl) (by decide) ?_
        refine j_aload_n (pc := 54) C 0 dX2_carryOut_54 rfl rfl ?_
        refine j_iload_n (pc := 55) C 2 dX2_carryOut_55 rfl rfl ?_
        refine j_iload_n (pc := 56) C 3 dX2_carryOut_56 rfl rfl ?_
        obtain ⟨q6gnL, q6gbL, hq6, hF⟩ := bd2_some hF
        refine j_callVv (pc := 57) (As := [.int x2, .int x3]) (rest := []) (ws' := (gw a k gM gnC gbC q6gnL q6gbL gnF gbF gnQ gbQ gE gtp glf gtr glh gov)) C K (ci := 2) (q0 := 0) rfl rfl rfl (ctX2_forgetPage l D a k _ _ _ _ _ _ _ _ _ _ _ _ _ _ _ _ _ _ _ hq6) gX2_carryOut_X2_forgetPage rfl rfl rfl hdyX2_forgetPage ⟨Nat.le_of_ble_eq_true rfl, Nat.le_of_ble_eq_true rfl⟩ (List.range 19) (jrange _) (by decide) (jspF rfl) [0, 1, 2, 3, 4, 5] rfl rfl (Nat.le_of_ble_eq_true rfl) dX2_carryOut_57 ⟨Nat.zero_le _, Nat.zero_le _⟩ ?_
        refine j_goto (pc := 60) (tgt := 88) C dX2_carryOut_60 (by decide) ?_
        cases hF
        exact j_vret (pc := 88) C K hr hlk dX2_carryOut_88
      · replace hF := ifn hF c5
        by_cases c7 : x1 = 3
        · replace hF := ifp hF c7
          refine j_tin (pc := 1) (tgt := 63) (off := 62) C dX2_carryOut_1 (by rw [c7]; decide) (by rw [c7]; decide) (by rw [c7]; rfl) (by decide) ?_
          refine j_aload_n (pc := 63) C 0 dX2_carryOut_63 rfl rfl ?_
          refine j_iload_n (pc := 64) C 2 dX2_carryOut_64 rfl rfl ?_
          obtain ⟨q8gnC, q8gbC, hq8, hF⟩ := bd2_some hF
          refine j_callVv (pc := 65) (As := [.int x2]) (rest := []) (ws' := (gw a k gM q8gnC q8gbC gnL gbL gnF gbF gnQ gbQ gE gtp glf gtr glh gov)) C K (ci := 2) (q0 := 0) rfl rfl rfl (ctX2_forgetContext l D a k _ _ _ _ _ _ _ _ _ _ _ _ _ _ _ _ _ _ hq8) gX2_carryOut_X2_forgetContext rfl rfl rfl hdyX2_forgetContext ⟨Nat.le_of_ble_eq_true rfl, Nat.le_of_ble_eq_true rfl⟩ (List.range 19) (jrange _) (by decide) (jspF rfl) [0, 1, 2, 3, 4, 5] rfl rfl (Nat.le_of_ble_eq_true rfl) dX2_carryOut_65 ⟨Nat.zero_le _, Nat.zero_le _⟩ ?_
          refine j_goto (pc := 68) (tgt := 88) C dX2_carryOut_68 (by decide) ?_
          cases hF
          exact j_vret (pc := 88) C K hr hlk dX2_carryOut_88
        · replace hF := ifn hF c7
          by_cases c9 : x1 = 4
          · replace hF := ifp hF c9
            refine j_tin (pc := 1) (tgt := 71) (off := 70) C dX2_carryOut_1 (by rw [c9]; decide) (by rw [c9]; decide) (by rw [c9]; rfl) (by decide) ?_
            refine j_aload_n (pc := 71) C 0 dX2_carryOut_71 rfl rfl ?_
            refine j_get (pc := 72) (v := .ref (a 2)) C K inX2_carryOut_X2 0 rfl rfl 1 (by decide) lkX2_carryOut_18 rfl dX2_carryOut_72 ?_
            obtain ⟨q10rn, hq10, hF⟩ := bd1_some hF
            refine j_callVv (pc := 75) (As := []) (rest := []) (ws' := (gw a k gM q10rn gbC gnL gbL gnF gbF gnQ gbQ gE gtp glf gtr glh gov)) C K (ci := 1) (q0 := 0) rfl rfl rfl (ctX1_removeAll l D (a 2) (a 3) (k 3) 3 3 9 _ _ _ hq10) gX2_carryOut_X1_removeAll rfl rfl rfl hdyX1_removeAll ⟨Nat.le_of_ble_eq_true rfl, Nat.le_of_ble_eq_true rfl⟩ [2, 3] rfl (by decide) (jsp_eq (jsp2 (Nat.le_of_ble_eq_true rfl) (Nat.le_of_ble_eq_true rfl) (by decide)) rfl) [1] rfl rfl (Nat.le_of_ble_eq_true rfl) dX2_carryOut_75 ⟨Nat.zero_le _, Nat.zero_le _⟩ ?_
            refine j_goto (pc := 78) (tgt := 88) C dX2_carryOut_78 (by decide) ?_
            cases hF
            exact j_vret (pc := 88) C K hr hlk dX2_carryOut_88
          · replace hF := ifn hF c9
            have ec1 : x1.toInt ≠ 0 := i32_ne c1
            have ec3 : x1.toInt ≠ 1 := i32_ne c3
            have ec5 : x1.toInt ≠ 2 := i32_ne c5
            have ec7 : x1.toInt ≠ 3 := i32_ne c7
            have ec9 : x1.toInt ≠ 4 := i32_ne c9
            refine j_tout (pc := 1) (tgt := 81) C dX2_carryOut_1 (by omega) (by decide) ?_
            refine j_aload_n (pc := 81) C 0 dX2_carryOut_81 rfl rfl ?_
            refine j_iload_n (pc := 82) C 2 dX2_carryOut_82 rfl rfl ?_
            refine j_iload_n (pc := 83) C 3 dX2_carryOut_83 rfl rfl ?_
            obtain ⟨rq11, q11gM, hq11, hF⟩ := bd2_some hF
            refine j_callVi (pc := 84) (As := [.int x2, .int x3]) (rest := []) (ws' := (gw a k q11gM gnC gbC gnL gbL gnF gbF gnQ gbQ gE gtp glf gtr glh gov)) C K (ci := 2) (q0 := 0) rfl rfl rfl (ctX2_setWord l D a k _ _ _ _ _ _ _ _ _ _ _ _ _ _ _ _ _ _ _ hq11) gX2_carryOut_X2_setWord rfl rfl rfl hdyX2_setWord ⟨Nat.le_of_ble_eq_true rfl, Nat.le_of_ble_eq_true rfl⟩ (List.range 19) (jrange _) (by decide) (jspF rfl) [0, 1, 2, 3, 4, 5] rfl rfl (Nat.le_of_ble_eq_true rfl) dX2_carryOut_84 ⟨Nat.zero_le _, Nat.zero_le _⟩ ?_
            refine j_pop (pc := 87) C dX2_carryOut_87 rfl ?_
            cases hF
            exact j_vret (pc := 88) C K hr hlk dX2_carryOut_88
theorem lkX2_obey_28 : Cond.fieldLink RX2 28 (TX2 4).1 (TX2 4).2.1 (TX2 4).2.2.1 ∈ wsX2_obey := by decide +kernel
theorem inX2_obey_X1 : ∀ w ∈ u_ws RX1 TX1 4, w ∈ wsX2_obey := by decide +kernel
theorem inX2_obey_X2 : ∀ w ∈ u_ws RX2 TX2 11, w ∈ wsX2_obey := by decide +kernel
theorem hdyX2_obey : yX2_obey.cls = RX2 ∧ yX2_obey.cls ≠ "java/lang/invoke/MethodHandle" ∧ yX2_obey.cls ≠ "java/lang/invoke/VarHandle" ∧ (parseMethodDescriptor yX2_obey.desc).map (fun d => d.parameters.length) = some 1 := by decide +kernel
set_option maxHeartbeats 4000000 in
set_option maxRecDepth 100000 in
theorem ctX2_obey (l : Launch) (D : va_G) (a : Nat → Nat) (k : Nat → ClassId) (gM : Nat → Int32) (gnC : Int32) (gbC : Nat → Int32) (gnL : Int32) (gbL : Nat → Int32) (gnF : Int32) (gbF : Nat → Int32) (gnQ : Int32) (gbQ : Nat → Int32) (gE : Nat → Nat → Int32) (gtp : Int32) (glf : Int32) (gtr : Int32) (glh : Int32) (gov : Int32) (x1 : Int32) (r : Int32) (ogM : Nat → Int32) (ognC : Int32) (ogbC : Nat → Int32) (ognL : Int32) (ogbL : Nat → Int32) (ognQ : Int32) (ogbQ : Nat → Int32) (hF : FX2_obey x1 gM gnC gbC gnL gbL gnQ gbQ = some (r, ogM, ognC, ogbC, ognL, ogbL, ognQ, ogbQ)) : ji l yX2_obey wsX2_obey { frames := 5, cells := 0, slots := 0, locals := 112 } D (gt k) [.ref (a 0), .int x1] (gw a k gM gnC gbC gnL gbL gnF gbF gnQ gbQ gE gtp glf gtr glh gov) (gw a k ogM ognC ogbC ognL ogbL gnF gbF ognQ ogbQ gE gtp glf gtr glh gov) r := by
  refine j_mi (cc := cX2_obey) (maxL := 4) (own := RX2) (ret := (some .int)) (by decide) rfl rfl (Nat.le_of_ble_eq_true rfl) ?_
  intro p e s m args below meth c A C K hr hlk
  have K31 : ∀ (n : Nat) (gM : Nat → Int32) (gnC : Int32) (gbC : Nat → Int32) (gnL : Int32) (gbL : Nat → Int32) (gnQ : Int32) (gbQ : Nat → Int32) (v2 v3 : Int32), FX2_obey_31 x1 n gM gnC gbC gnL gbL gnQ gbQ v2 v3 = some (r, ogM, ognC, ogbC, ognL, ogbL, ognQ, ogbQ) → jw p l e ({ frames := 5, cells := 0, slots := 0, locals := 112 } : Room) s m args below meth c 4 D A 0 0 (jqi below D (gt k) args s A (gw a k ogM ognC ogbC ognL ogbL gnF gbF ognQ ogbQ gE gtp glf gtr glh gov) r) (gw a k gM gnC gbC gnL gbL gnF gbF gnQ gbQ gE gtp glf gtr glh gov) [(0, .ref (a 0)), (2, .int v2), (3, .int v3)] 31 [] := by
    intro n
    induction n with
    | zero =>
      intro gM gnC gbC gnL gbL gnQ gbQ v2 v3 hF
      rw [FX2_obey_31] at hF
      cases hF
    | succ n ih =>
      intro gM gnC gbC gnL gbL gnQ gbQ v2 v3 hF
      rw [FX2_obey_31] at hF
      refine j_iload_n (pc := 31) C 2 dX2_obey_31 rfl rfl ?_
      refine j_iload_n (pc := 32) C 1 dX2_obey_32 rfl rfl ?_
      refine j_icmp_ge (pc := 33) (tgt := 81) C dX2_obey_33 (by decide) (fun c3 => ?_) (fun c3 => ?_)
      · replace hF := ifp hF c3
        refine j_iload_n (pc := 81) C 1 dX2_obey_81 rfl rfl ?_
        cases hF
        exact j_iret (pc := 82) C K hr hlk dX2_obey_82
      · replace hF := ifn hF c3
        refine j_aload_n (pc := 36) C 0 dX2_obey_36 rfl rfl ?_
        refine j_aload_n (pc := 37) C 0 dX2_obey_37 rfl rfl ?_
        refine j_get (pc := 38) (v := .ref (a 8)) C K inX2_obey_X2 0 rfl rfl 4 (by decide) lkX2_obey_28 rfl dX2_obey_38 ?_
        refine j_iconst (pc := 41) (v := 0) C dX2_obey_41 (by decide) ?_
        refine j_iconst (pc := 42) (v := 0) C dX2_obey_42 (by decide) ?_
        obtain ⟨rq4, hq4, hF⟩ := bd1_some hF
        refine j_callVi (pc := 43) (As := [.int 0, .int 0]) (rest := [.ref (a 0)]) (ws' := (gw a k gM gnC gbC gnL gbL gnF gbF gnQ gbQ gE gtp glf gtr glh gov)) C K (ci := 1) (q0 := 0) rfl rfl rfl (ctX1_cell l D (a 8) (a 9) (k 9) 12 3 36 _ _ _ _ _ hq4) gX2_obey_X1_cell rfl rfl rfl hdyX1_cell ⟨Nat.le_of_ble_eq_true rfl, Nat.le_of_ble_eq_true rfl⟩ [8, 9] rfl (by decide) (jsp_eq (jsp2 (Nat.le_of_ble_eq_true rfl) (Nat.le_of_ble_eq_true rfl) (by decide)) rfl) [4] rfl rfl (Nat.le_of_ble_eq_true rfl) dX2_obey_43 ⟨Nat.zero_le _, Nat.zero_le _⟩ ?_
        refine j_aload_n (pc := 46) C 0 dX2_obey_46 rfl rfl ?_
        refine j_get (pc := 47) (v := .ref (a 8)) C K inX2_obey_X2 0 rfl rfl 4 (by decide) lkX2_obey_28 rfl dX2_obey_47 ?_
        refine j_iconst (pc := 50) (v := 0) C dX2_obey_50 (by decide) ?_
        refine j_iconst (pc := 51) (v := 1) C dX2_obey_51 (by decide) ?_
        obtain ⟨rq5, hq5, hF⟩ := bd1_some hF
        refine j_callVi (pc := 52) (As := [.int 0, .int 1]) (rest := [.int rq4, .ref (a 0)]) (ws' := (gw a k gM gnC gbC gnL gbL gnF gbF gnQ gbQ gE gtp glf gtr glh gov)) C K (ci := 1) (q0 := 0) rfl rfl rfl (ctX1_cell l D (a 8) (a 9) (k 9) 12 3 36 _ _ _ _ _ hq5) gX2_obey_X1_cell rfl rfl rfl hdyX1_cell ⟨Nat.le_of_ble_eq_true rfl, Nat.le_of_ble_eq_true rfl⟩ [8, 9] rfl (by decide) (jsp_eq (jsp2 (Nat.le_of_ble_eq_true rfl) (Nat.le_of_ble_eq_true rfl) (by decide)) rfl) [4] rfl rfl (Nat.le_of_ble_eq_true rfl) dX2_obey_52 ⟨Nat.zero_le _, Nat.zero_le _⟩ ?_
        refine j_aload_n (pc := 55) C 0 dX2_obey_55 rfl rfl ?_
        refine j_get (pc := 56) (v := .ref (a 8)) C K inX2_obey_X2 0 rfl rfl 4 (by decide) lkX2_obey_28 rfl dX2_obey_56 ?_
        refine j_iconst (pc := 59) (v := 0) C dX2_obey_59 (by decide) ?_
        refine j_iconst (pc := 60) (v := 2) C dX2_obey_60 (by decide) ?_
        obtain ⟨rq6, hq6, hF⟩ := bd1_some hF
        refine j_callVi (pc := 61) (As := [.int 0, .int 2]) (rest := [.int rq5, .int rq4, .ref (a 0)]) (ws' := (gw a k gM gnC gbC gnL gbL gnF gbF gnQ gbQ gE gtp glf gtr glh gov)) C K (ci := 1) (q0 := 0) rfl rfl rfl (ctX1_cell l D (a 8) (a 9) (k 9) 12 3 36 _ _ _ _ _ hq6) gX2_obey_X1_cell rfl rfl rfl hdyX1_cell ⟨Nat.le_of_ble_eq_true rfl, Nat.le_of_ble_eq_true rfl⟩ [8, 9] rfl (by decide) (jsp_eq (jsp2 (Nat.le_of_ble_eq_true rfl) (Nat.le_of_ble_eq_true rfl) (by decide)) rfl) [4] rfl rfl (Nat.le_of_ble_eq_true rfl) dX2_obey_61 ⟨Nat.zero_le _, Nat.zero_le _⟩ ?_
        obtain ⟨q7gM, q7gnC, q7gbC, q7gnL, q7gbL, hq7, hF⟩ := bd5_some hF
        refine j_callVv (pc := 64) (As := [.int rq4, .int rq5, .int rq6]) (rest := []) (ws' := (gw a k q7gM q7gnC q7gbC q7gnL q7gbL gnF gbF gnQ gbQ gE gtp glf gtr glh gov)) C K (ci := 2) (q0 := 0) rfl rfl rfl (ctX2_carryOut l D a k _ _ _ _ _ _ _ _ _ _ _ _ _ _ _ _ _ _ _ _ _ _ _ hq7) gX2_obey_X2_carryOut rfl rfl rfl hdyX2_carryOut ⟨Nat.le_of_ble_eq_true rfl, Nat.le_of_ble_eq_true rfl⟩ (List.range 19) (jrange _) (by decide) (jspF rfl) [0, 1, 2, 3, 4, 5] rfl rfl (Nat.le_of_ble_eq_true rfl) dX2_obey_64 ⟨Nat.zero_le _, Nat.zero_le _⟩ ?_
        refine j_aload_n (pc := 67) C 0 dX2_obey_67 rfl rfl ?_
        refine j_get (pc := 68) (v := .ref (a 8)) C K inX2_obey_X2 0 rfl rfl 4 (by decide) lkX2_obey_28 rfl dX2_obey_68 ?_
        refine j_iconst (pc := 71) (v := 0) C dX2_obey_71 (by decide) ?_
        obtain ⟨q8rn, q8rB, hq8, hF⟩ := bd2_some hF
        refine j_callVv (pc := 72) (As := [.int 0]) (rest := []) (ws' := (gw a k q7gM q7gnC q7gbC q7gnL q7gbL gnF gbF q8rn q8rB gE gtp glf gtr glh gov)) C K (ci := 1) (q0 := 0) rfl rfl rfl (ctX1_remove l D (a 8) (a 9) (k 9) 12 3 36 _ _ _ _ _ hq8) gX2_obey_X1_remove rfl rfl rfl hdyX1_remove ⟨Nat.le_of_ble_eq_true rfl, Nat.le_of_ble_eq_true rfl⟩ [8, 9] rfl (by decide) (jsp_eq (jsp2 (Nat.le_of_ble_eq_true rfl) (Nat.le_of_ble_eq_true rfl) (by decide)) rfl) [4] rfl rfl (Nat.le_of_ble_eq_true rfl) dX2_obey_72 ⟨Nat.zero_le _, Nat.zero_le _⟩ ?_
        refine j_iinc (pc := 75) (v := (v3 + 1)) (lv' := [(3, .int (v3 + 1)), (0, .ref (a 0)), (2, .int v2)]) C 2 dX2_obey_75 rfl rfl (by decide) rfl ?_
        refine j_goto (pc := 78) (tgt := 31) C dX2_obey_78 (by decide) ?_
        exact j_lv [1, 2, 0] rfl (ih _ _ _ _ _ _ _ _ _ hF)
  have K28 : ∀ (gM : Nat → Int32) (gnC : Int32) (gbC : Nat → Int32) (gnL : Int32) (gbL : Nat → Int32) (gnQ : Int32) (gbQ : Nat → Int32) (s0 : Int32), FX2_obey_28 x1 gM gnC gbC gnL gbL gnQ gbQ s0 = some (r, ogM, ognC, ogbC, ognL, ogbL, ognQ, ogbQ) → jw p l e ({ frames := 5, cells := 0, slots := 0, locals := 112 } : Room) s m args below meth c 4 D A 0 0 (jqi below D (gt k) args s A (gw a k ogM ognC ogbC ognL ogbL gnF gbF ognQ ogbQ gE gtp glf gtr glh gov) r) (gw a k gM gnC gbC gnL gbL gnF gbF gnQ gbQ gE gtp glf gtr glh gov) [(0, .ref (a 0))] 28 [.int s0] := by
    intro gM gnC gbC gnL gbL gnQ gbQ s0 hF
    unfold FX2_obey_28 at hF
    refine j_istore_n (pc := 28) (lv' := [(2, .int s0), (0, .ref (a 0))]) C dX2_obey_28 rfl (by decide) rfl ?_
    refine j_iconst (pc := 29) (v := 0) C dX2_obey_29 (by decide) ?_
    refine j_istore_n (pc := 30) (lv' := [(3, .int 0), (2, .int s0), (0, .ref (a 0))]) C dX2_obey_30 rfl (by decide) rfl ?_
    exact j_lv [2, 1, 0] rfl (K31 _ _ _ _ _ _ _ _ _ _ hF)
  unfold FX2_obey at hF
  refine j_iload_n (pc := 0) C 1 dX2_obey_0 rfl rfl ?_
  refine j_if_ge (pc := 1) (tgt := 6) C dX2_obey_1 (by decide) (fun c1 => ?_) (fun c1 => ?_)
  · replace hF := ifp hF c1
    refine j_iload_n (pc := 6) C 1 dX2_obey_6 rfl rfl ?_
    refine j_aload_n (pc := 7) C 0 dX2_obey_7 rfl rfl ?_
    refine j_get (pc := 8) (v := .ref (a 8)) C K inX2_obey_X2 0 rfl rfl 4 (by decide) lkX2_obey_28 rfl dX2_obey_8 ?_
    refine j_getN (pc := 11) (v := .int gnQ) C K inX2_obey_X1 8 rfl rfl 3 (by decide) lkN_130 rfl dX2_obey_11 ?_
    refine j_icmp_ge (pc := 14) (tgt := 21) C dX2_obey_14 (by decide) (fun c2 => ?_) (fun c2 => ?_)
    · replace hF := ifp hF c2
      refine j_aload_n (pc := 21) C 0 dX2_obey_21 rfl rfl ?_
      refine j_get (pc := 22) (v := .ref (a 8)) C K inX2_obey_X2 0 rfl rfl 4 (by decide) lkX2_obey_28 rfl dX2_obey_22 ?_
      refine j_getN (pc := 25) (v := .int gnQ) C K inX2_obey_X1 8 rfl rfl 3 (by decide) lkN_130 rfl dX2_obey_25 ?_
      exact j_lv [0] rfl (K28 _ _ _ _ _ _ _ _ hF)
    · replace hF := ifn hF c2
      refine j_iload_n (pc := 17) C 1 dX2_obey_17 rfl rfl ?_
      refine j_goto (pc := 18) (tgt := 28) C dX2_obey_18 (by decide) ?_
      exact j_lv [0] rfl (K28 _ _ _ _ _ _ _ _ hF)
  · replace hF := ifn hF c1
    refine j_iconst (pc := 4) (v := (-1)) C dX2_obey_4 (by decide) ?_
    cases hF
    exact j_iret (pc := 5) C K hr hlk dX2_obey_5
theorem lkX2_count_28 : Cond.fieldLink RX2 28 (TX2 4).1 (TX2 4).2.1 (TX2 4).2.2.1 ∈ wsX2_count := by decide +kernel
theorem lkX2_count_25 : Cond.fieldLink RX2 25 (TX2 3).1 (TX2 3).2.1 (TX2 3).2.2.1 ∈ wsX2_count := by decide +kernel
theorem lkX2_count_50 : Cond.fieldLink RX2 50 (TX2 10).1 (TX2 10).2.1 (TX2 10).2.2.1 ∈ wsX2_count := by decide +kernel
theorem lkX2_count_18 : Cond.fieldLink RX2 18 (TX2 1).1 (TX2 1).2.1 (TX2 1).2.2.1 ∈ wsX2_count := by decide +kernel
theorem lkX2_count_22 : Cond.fieldLink RX2 22 (TX2 2).1 (TX2 2).2.1 (TX2 2).2.2.1 ∈ wsX2_count := by decide +kernel
theorem lkX2_count_44 : Cond.fieldLink RX2 44 (TX2 8).1 (TX2 8).2.1 (TX2 8).2.2.1 ∈ wsX2_count := by decide +kernel
theorem lkX2_count_47 : Cond.fieldLink RX2 47 (TX2 9).1 (TX2 9).2.1 (TX2 9).2.2.1 ∈ wsX2_count := by decide +kernel
theorem lkX2_count_37 : Cond.fieldLink RX2 37 (TX2 6).1 (TX2 6).2.1 (TX2 6).2.2.1 ∈ wsX2_count := by decide +kernel
theorem inX2_count_X1 : ∀ w ∈ u_ws RX1 TX1 4, w ∈ wsX2_count := by decide +kernel
theorem inX2_count_X2 : ∀ w ∈ u_ws RX2 TX2 11, w ∈ wsX2_count := by decide +kernel
theorem hdyX2_count : yX2_count.cls = RX2 ∧ yX2_count.cls ≠ "java/lang/invoke/MethodHandle" ∧ yX2_count.cls ≠ "java/lang/invoke/VarHandle" ∧ (parseMethodDescriptor yX2_count.desc).map (fun d => d.parameters.length) = some 1 := by decide +kernel
set_option maxHeartbeats 4000000 in
set_option maxRecDepth 100000 in
theorem ctX2_count (l : Launch) (D : va_G) (a : Nat → Nat) (k : Nat → ClassId) (gM : Nat → Int32) (gnC : Int32) (gbC : Nat → Int32) (gnL : Int32) (gbL : Nat → Int32) (gnF : Int32) (gbF : Nat → Int32) (gnQ : Int32) (gbQ : Nat → Int32) (gE : Nat → Nat → Int32) (gtp : Int32) (glf : Int32) (gtr : Int32) (glh : Int32) (gov : Int32) (x1 : Int32) (r : Int32) (hF : FX2_count x1 gnC gnL gnF gnQ gtp gtr glh gov = some r) : ji l yX2_count wsX2_count { frames := 0, cells := 0, slots := 0, locals := 0 } D (gt k) [.ref (a 0), .int x1] (gw a k gM gnC gbC gnL gbL gnF gbF gnQ gbQ gE gtp glf gtr glh gov) (gw a k gM gnC gbC gnL gbL gnF gbF gnQ gbQ gE gtp glf gtr glh gov) r := by
  refine j_mi (cc := cX2_count) (maxL := 2) (own := RX2) (ret := (some .int)) (by decide) rfl rfl (Nat.le_of_ble_eq_true rfl) ?_
  intro p e s m args below meth c A C K hr hlk
  unfold FX2_count at hF
  refine j_iload_n (pc := 0) C 1 dX2_count_0 rfl rfl ?_
  by_cases c1 : x1 = 0
  · replace hF := ifp hF c1
    refine j_tin (pc := 1) (tgt := 48) (off := 47) C dX2_count_1 (by rw [c1]; decide) (by rw [c1]; decide) (by rw [c1]; rfl) (by decide) ?_
    refine j_aload_n (pc := 48) C 0 dX2_count_48 rfl rfl ?_
    refine j_get (pc := 49) (v := .ref (a 8)) C K inX2_count_X2 0 rfl rfl 4 (by decide) lkX2_count_28 rfl dX2_count_49 ?_
    refine j_getN (pc := 52) (v := .int gnQ) C K inX2_count_X1 8 rfl rfl 3 (by decide) lkN_130 rfl dX2_count_52 ?_
    cases hF
    exact j_iret (pc := 55) C K hr hlk dX2_count_55
  · replace hF := ifn hF c1
    by_cases c2 : x1 = 1
    · replace hF := ifp hF c2
      refine j_tin (pc := 1) (tgt := 56) (off := 55) C dX2_count_1 (by rw [c2]; decide) (by rw [c2]; decide) (by rw [c2]; rfl) (by decide) ?_
      refine j_aload_n (pc := 56) C 0 dX2_count_56 rfl rfl ?_
      refine j_get (pc := 57) (v := .ref (a 6)) C K inX2_count_X2 0 rfl rfl 3 (by decide) lkX2_count_25 rfl dX2_count_57 ?_
      refine j_getN (pc := 60) (v := .int gnF) C K inX2_count_X1 6 rfl rfl 3 (by decide) lkN_130 rfl dX2_count_60 ?_
      cases hF
      exact j_iret (pc := 63) C K hr hlk dX2_count_63
    · replace hF := ifn hF c2
      by_cases c3 : x1 = 2
      · replace hF := ifp hF c3
        refine j_tin (pc := 1) (tgt := 64) (off := 63) C dX2_count_1 (by rw [c3]; decide) (by rw [c3]; decide) (by rw [c3]; rfl) (by decide) ?_
        refine j_aload_n (pc := 64) C 0 dX2_count_64 rfl rfl ?_
        refine j_get (pc := 65) (v := .int gov) C K inX2_count_X2 0 rfl rfl 10 (by decide) lkX2_count_50 rfl dX2_count_65 ?_
        refine j_if_eq (pc := 68) (tgt := 75) C dX2_count_68 (by decide) (fun c4 => ?_) (fun c4 => ?_)
        · replace hF := ifp hF c4
          refine j_iconst (pc := 75) (v := 0) C dX2_count_75 (by decide) ?_
          cases hF
          exact j_iret (pc := 76) C K hr hlk dX2_count_76
        · replace hF := ifn hF c4
          refine j_iconst (pc := 71) (v := 1) C dX2_count_71 (by decide) ?_
          refine j_goto (pc := 72) (tgt := 76) C dX2_count_72 (by decide) ?_
          cases hF
          exact j_iret (pc := 76) C K hr hlk dX2_count_76
      · replace hF := ifn hF c3
        by_cases c5 : x1 = 3
        · replace hF := ifp hF c5
          refine j_tin (pc := 1) (tgt := 77) (off := 76) C dX2_count_1 (by rw [c5]; decide) (by rw [c5]; decide) (by rw [c5]; rfl) (by decide) ?_
          refine j_aload_n (pc := 77) C 0 dX2_count_77 rfl rfl ?_
          refine j_get (pc := 78) (v := .ref (a 2)) C K inX2_count_X2 0 rfl rfl 1 (by decide) lkX2_count_18 rfl dX2_count_78 ?_
          refine j_getN (pc := 81) (v := .int gnC) C K inX2_count_X1 2 rfl rfl 3 (by decide) lkN_130 rfl dX2_count_81 ?_
          cases hF
          exact j_iret (pc := 84) C K hr hlk dX2_count_84
        · replace hF := ifn hF c5
          by_cases c6 : x1 = 4
          · replace hF := ifp hF c6
            refine j_tin (pc := 1) (tgt := 85) (off := 84) C dX2_count_1 (by rw [c6]; decide) (by rw [c6]; decide) (by rw [c6]; rfl) (by decide) ?_
            refine j_aload_n (pc := 85) C 0 dX2_count_85 rfl rfl ?_
            refine j_get (pc := 86) (v := .ref (a 4)) C K inX2_count_X2 0 rfl rfl 2 (by decide) lkX2_count_22 rfl dX2_count_86 ?_
            refine j_getN (pc := 89) (v := .int gnL) C K inX2_count_X1 4 rfl rfl 3 (by decide) lkN_130 rfl dX2_count_89 ?_
            cases hF
            exact j_iret (pc := 92) C K hr hlk dX2_count_92
          · replace hF := ifn hF c6
            by_cases c7 : x1 = 5
            · replace hF := ifp hF c7
              refine j_tin (pc := 1) (tgt := 93) (off := 92) C dX2_count_1 (by rw [c7]; decide) (by rw [c7]; decide) (by rw [c7]; rfl) (by decide) ?_
              refine j_aload_n (pc := 93) C 0 dX2_count_93 rfl rfl ?_
              refine j_get (pc := 94) (v := .int gtr) C K inX2_count_X2 0 rfl rfl 8 (by decide) lkX2_count_44 rfl dX2_count_94 ?_
              cases hF
              exact j_iret (pc := 97) C K hr hlk dX2_count_97
            · replace hF := ifn hF c7
              by_cases c8 : x1 = 6
              · replace hF := ifp hF c8
                refine j_tin (pc := 1) (tgt := 98) (off := 97) C dX2_count_1 (by rw [c8]; decide) (by rw [c8]; decide) (by rw [c8]; rfl) (by decide) ?_
                refine j_aload_n (pc := 98) C 0 dX2_count_98 rfl rfl ?_
                refine j_get (pc := 99) (v := .int glh) C K inX2_count_X2 0 rfl rfl 9 (by decide) lkX2_count_47 rfl dX2_count_99 ?_
                cases hF
                exact j_iret (pc := 102) C K hr hlk dX2_count_102
              · replace hF := ifn hF c8
                by_cases c9 : x1 = 7
                · replace hF := ifp hF c9
                  refine j_tin (pc := 1) (tgt := 103) (off := 102) C dX2_count_1 (by rw [c9]; decide) (by rw [c9]; decide) (by rw [c9]; rfl) (by decide) ?_
                  refine j_aload_n (pc := 103) C 0 dX2_count_103 rfl rfl ?_
                  refine j_get (pc := 104) (v := .int gtp) C K inX2_count_X2 0 rfl rfl 6 (by decide) lkX2_count_37 rfl dX2_count_104 ?_
                  cases hF
                  exact j_iret (pc := 107) C K hr hlk dX2_count_107
                · replace hF := ifn hF c9
                  have ec1 : x1.toInt ≠ 0 := i32_ne c1
                  have ec2 : x1.toInt ≠ 1 := i32_ne c2
                  have ec3 : x1.toInt ≠ 2 := i32_ne c3
                  have ec5 : x1.toInt ≠ 3 := i32_ne c5
                  have ec6 : x1.toInt ≠ 4 := i32_ne c6
                  have ec7 : x1.toInt ≠ 5 := i32_ne c7
                  have ec8 : x1.toInt ≠ 6 := i32_ne c8
                  have ec9 : x1.toInt ≠ 7 := i32_ne c9
                  refine j_tout (pc := 1) (tgt := 108) C dX2_count_1 (by omega) (by decide) ?_
                  refine j_iconst (pc := 108) (v := (-1)) C dX2_count_108 (by decide) ?_
                  cases hF
                  exact j_iret (pc := 109) C K hr hlk dX2_count_109
theorem lkX2_record_25 : Cond.fieldLink RX2 25 (TX2 3).1 (TX2 3).2.1 (TX2 3).2.2.1 ∈ wsX2_record := by decide +kernel
theorem inX2_record_X2 : ∀ w ∈ u_ws RX2 TX2 11, w ∈ wsX2_record := by decide +kernel
theorem hdyX2_record : yX2_record.cls = RX2 ∧ yX2_record.cls ≠ "java/lang/invoke/MethodHandle" ∧ yX2_record.cls ≠ "java/lang/invoke/VarHandle" ∧ (parseMethodDescriptor yX2_record.desc).map (fun d => d.parameters.length) = some 2 := by decide +kernel
set_option maxHeartbeats 4000000 in
set_option maxRecDepth 100000 in
theorem ctX2_record (l : Launch) (D : va_G) (a : Nat → Nat) (k : Nat → ClassId) (gM : Nat → Int32) (gnC : Int32) (gbC : Nat → Int32) (gnL : Int32) (gbL : Nat → Int32) (gnF : Int32) (gbF : Nat → Int32) (gnQ : Int32) (gbQ : Nat → Int32) (gE : Nat → Nat → Int32) (gtp : Int32) (glf : Int32) (gtr : Int32) (glh : Int32) (gov : Int32) (x1 x2 : Int32) (r : Int32) (hF : FX2_record x1 x2 gnF gbF = some r) : ji l yX2_record wsX2_record { frames := 2, cells := 0, slots := 0, locals := 44 } D (gt k) [.ref (a 0), .int x1, .int x2] (gw a k gM gnC gbC gnL gbL gnF gbF gnQ gbQ gE gtp glf gtr glh gov) (gw a k gM gnC gbC gnL gbL gnF gbF gnQ gbQ gE gtp glf gtr glh gov) r := by
  refine j_mi (cc := cX2_record) (maxL := 3) (own := RX2) (ret := (some .int)) (by decide) rfl rfl (Nat.le_of_ble_eq_true rfl) ?_
  intro p e s m args below meth c A C K hr hlk
  unfold FX2_record at hF
  refine j_aload_n (pc := 0) C 0 dX2_record_0 rfl rfl ?_
  refine j_get (pc := 1) (v := .ref (a 6)) C K inX2_record_X2 0 rfl rfl 3 (by decide) lkX2_record_25 rfl dX2_record_1 ?_
  refine j_iload_n (pc := 4) C 1 dX2_record_4 rfl rfl ?_
  refine j_iload_n (pc := 5) C 2 dX2_record_5 rfl rfl ?_
  obtain ⟨rq1, hq1, hF⟩ := bd1_some hF
  refine j_callVi (pc := 6) (As := [.int x1, .int x2]) (rest := []) (ws' := (gw a k gM gnC gbC gnL gbL gnF gbF gnQ gbQ gE gtp glf gtr glh gov)) C K (ci := 1) (q0 := 0) rfl rfl rfl (ctX1_cell l D (a 6) (a 7) (k 7) 6 4 24 _ _ _ _ _ hq1) gX2_record_X1_cell rfl rfl rfl hdyX1_cell ⟨Nat.le_of_ble_eq_true rfl, Nat.le_of_ble_eq_true rfl⟩ [6, 7] rfl (by decide) (jsp_eq (jsp2 (Nat.le_of_ble_eq_true rfl) (Nat.le_of_ble_eq_true rfl) (by decide)) rfl) [3] rfl rfl (Nat.le_of_ble_eq_true rfl) dX2_record_6 ⟨Nat.zero_le _, Nat.zero_le _⟩ ?_
  cases hF
  exact j_iret (pc := 9) C K hr hlk dX2_record_9
theorem lkX2_drop_25 : Cond.fieldLink RX2 25 (TX2 3).1 (TX2 3).2.1 (TX2 3).2.2.1 ∈ wsX2_drop := by decide +kernel
theorem inX2_drop_X1 : ∀ w ∈ u_ws RX1 TX1 4, w ∈ wsX2_drop := by decide +kernel
theorem inX2_drop_X2 : ∀ w ∈ u_ws RX2 TX2 11, w ∈ wsX2_drop := by decide +kernel
theorem hdyX2_drop : yX2_drop.cls = RX2 ∧ yX2_drop.cls ≠ "java/lang/invoke/MethodHandle" ∧ yX2_drop.cls ≠ "java/lang/invoke/VarHandle" ∧ (parseMethodDescriptor yX2_drop.desc).map (fun d => d.parameters.length) = some 0 := by decide +kernel
set_option maxHeartbeats 4000000 in
set_option maxRecDepth 100000 in
theorem ctX2_drop (l : Launch) (D : va_G) (a : Nat → Nat) (k : Nat → ClassId) (gM : Nat → Int32) (gnC : Int32) (gbC : Nat → Int32) (gnL : Int32) (gbL : Nat → Int32) (gnF : Int32) (gbF : Nat → Int32) (gnQ : Int32) (gbQ : Nat → Int32) (gE : Nat → Nat → Int32) (gtp : Int32) (glf : Int32) (gtr : Int32) (glh : Int32) (gov : Int32) (r : Int32) (ognF : Int32) (ogbF : Nat → Int32) (hF : FX2_drop gnF gbF = some (r, ognF, ogbF)) : ji l yX2_drop wsX2_drop { frames := 1, cells := 0, slots := 0, locals := 23 } D (gt k) [.ref (a 0)] (gw a k gM gnC gbC gnL gbL gnF gbF gnQ gbQ gE gtp glf gtr glh gov) (gw a k gM gnC gbC gnL gbL ognF ogbF gnQ gbQ gE gtp glf gtr glh gov) r := by
  refine j_mi (cc := cX2_drop) (maxL := 1) (own := RX2) (ret := (some .int)) (by decide) rfl rfl (Nat.le_of_ble_eq_true rfl) ?_
  intro p e s m args below meth c A C K hr hlk
  unfold FX2_drop at hF
  refine j_aload_n (pc := 0) C 0 dX2_drop_0 rfl rfl ?_
  refine j_get (pc := 1) (v := .ref (a 6)) C K inX2_drop_X2 0 rfl rfl 3 (by decide) lkX2_drop_25 rfl dX2_drop_1 ?_
  refine j_getN (pc := 4) (v := .int gnF) C K inX2_drop_X1 6 rfl rfl 3 (by decide) lkN_130 rfl dX2_drop_4 ?_
  refine j_if_ne (pc := 7) (tgt := 12) C dX2_drop_7 (by decide) (fun c1 => ?_) (fun c1 => ?_)
  · replace hF := ifn hF c1
    refine j_aload_n (pc := 12) C 0 dX2_drop_12 rfl rfl ?_
    refine j_get (pc := 13) (v := .ref (a 6)) C K inX2_drop_X2 0 rfl rfl 3 (by decide) lkX2_drop_25 rfl dX2_drop_13 ?_
    refine j_iconst (pc := 16) (v := 0) C dX2_drop_16 (by decide) ?_
    obtain ⟨q2rn, q2rB, hq2, hF⟩ := bd2_some hF
    refine j_callVv (pc := 17) (As := [.int 0]) (rest := []) (ws' := (gw a k gM gnC gbC gnL gbL q2rn q2rB gnQ gbQ gE gtp glf gtr glh gov)) C K (ci := 1) (q0 := 0) rfl rfl rfl (ctX1_remove l D (a 6) (a 7) (k 7) 6 4 24 _ _ _ _ _ hq2) gX2_drop_X1_remove rfl rfl rfl hdyX1_remove ⟨Nat.le_of_ble_eq_true rfl, Nat.le_of_ble_eq_true rfl⟩ [6, 7] rfl (by decide) (jsp_eq (jsp2 (Nat.le_of_ble_eq_true rfl) (Nat.le_of_ble_eq_true rfl) (by decide)) rfl) [3] rfl rfl (Nat.le_of_ble_eq_true rfl) dX2_drop_17 ⟨Nat.zero_le _, Nat.zero_le _⟩ ?_
    refine j_aload_n (pc := 20) C 0 dX2_drop_20 rfl rfl ?_
    refine j_get (pc := 21) (v := .ref (a 6)) C K inX2_drop_X2 0 rfl rfl 3 (by decide) lkX2_drop_25 rfl dX2_drop_21 ?_
    refine j_getN (pc := 24) (v := .int q2rn) C K inX2_drop_X1 6 rfl rfl 3 (by decide) lkN_130 rfl dX2_drop_24 ?_
    cases hF
    exact j_iret (pc := 27) C K hr hlk dX2_drop_27
  · replace hF := ifp hF c1
    refine j_iconst (pc := 10) (v := (-1)) C dX2_drop_10 (by decide) ?_
    cases hF
    exact j_iret (pc := 11) C K hr hlk dX2_drop_11
theorem lkX2_clear_25 : Cond.fieldLink RX2 25 (TX2 3).1 (TX2 3).2.1 (TX2 3).2.2.1 ∈ wsX2_clear := by decide +kernel
theorem lkX2_clear_50 : Cond.fieldLink RX2 50 (TX2 10).1 (TX2 10).2.1 (TX2 10).2.2.1 ∈ wsX2_clear := by decide +kernel
theorem inX2_clear_X1 : ∀ w ∈ u_ws RX1 TX1 4, w ∈ wsX2_clear := by decide +kernel
theorem inX2_clear_X2 : ∀ w ∈ u_ws RX2 TX2 11, w ∈ wsX2_clear := by decide +kernel
theorem hdyX2_clear : yX2_clear.cls = RX2 ∧ yX2_clear.cls ≠ "java/lang/invoke/MethodHandle" ∧ yX2_clear.cls ≠ "java/lang/invoke/VarHandle" ∧ (parseMethodDescriptor yX2_clear.desc).map (fun d => d.parameters.length) = some 0 := by decide +kernel
set_option maxHeartbeats 4000000 in
set_option maxRecDepth 100000 in
theorem ctX2_clear (l : Launch) (D : va_G) (a : Nat → Nat) (k : Nat → ClassId) (gM : Nat → Int32) (gnC : Int32) (gbC : Nat → Int32) (gnL : Int32) (gbL : Nat → Int32) (gnF : Int32) (gbF : Nat → Int32) (gnQ : Int32) (gbQ : Nat → Int32) (gE : Nat → Nat → Int32) (gtp : Int32) (glf : Int32) (gtr : Int32) (glh : Int32) (gov : Int32) (r : Int32) (ognF : Int32) (ogov : Int32) (hF : FX2_clear gnF gov = some (r, ognF, ogov)) : ji l yX2_clear wsX2_clear { frames := 1, cells := 0, slots := 0, locals := 20 } D (gt k) [.ref (a 0)] (gw a k gM gnC gbC gnL gbL gnF gbF gnQ gbQ gE gtp glf gtr glh gov) (gw a k gM gnC gbC gnL gbL ognF gbF gnQ gbQ gE gtp glf gtr glh ogov) r := by
  refine j_mi (cc := cX2_clear) (maxL := 2) (own := RX2) (ret := (some .int)) (by decide) rfl rfl (Nat.le_of_ble_eq_true rfl) ?_
  intro p e s m args below meth c A C K hr hlk
  unfold FX2_clear at hF
  refine j_aload_n (pc := 0) C 0 dX2_clear_0 rfl rfl ?_
  refine j_get (pc := 1) (v := .ref (a 6)) C K inX2_clear_X2 0 rfl rfl 3 (by decide) lkX2_clear_25 rfl dX2_clear_1 ?_
  refine j_getN (pc := 4) (v := .int gnF) C K inX2_clear_X1 6 rfl rfl 3 (by decide) lkN_130 rfl dX2_clear_4 ?_
  refine j_istore_n (pc := 7) (lv' := [(1, .int gnF), (0, .ref (a 0))]) C dX2_clear_7 rfl (by decide) rfl ?_
  refine j_aload_n (pc := 8) C 1 dX2_clear_8 rfl rfl ?_
  refine j_get (pc := 9) (v := .ref (a 6)) C K inX2_clear_X2 0 rfl rfl 3 (by decide) lkX2_clear_25 rfl dX2_clear_9 ?_
  obtain ⟨q1rn, hq1, hF⟩ := bd1_some hF
  refine j_callVv (pc := 12) (As := []) (rest := []) (ws' := (gw a k gM gnC gbC gnL gbL q1rn gbF gnQ gbQ gE gtp glf gtr glh gov)) C K (ci := 1) (q0 := 0) rfl rfl rfl (ctX1_removeAll l D (a 6) (a 7) (k 7) 6 4 24 _ _ _ hq1) gX2_clear_X1_removeAll rfl rfl rfl hdyX1_removeAll ⟨Nat.le_of_ble_eq_true rfl, Nat.le_of_ble_eq_true rfl⟩ [6, 7] rfl (by decide) (jsp_eq (jsp2 (Nat.le_of_ble_eq_true rfl) (Nat.le_of_ble_eq_true rfl) (by decide)) rfl) [3] rfl rfl (Nat.le_of_ble_eq_true rfl) dX2_clear_12 ⟨Nat.zero_le _, Nat.zero_le _⟩ ?_
  refine j_aload_n (pc := 15) C 1 dX2_clear_15 rfl rfl ?_
  refine j_iconst (pc := 16) (v := 0) C dX2_clear_16 (by decide) ?_
  refine j_put (pc := 17) (ws' := (gw a k gM gnC gbC gnL gbL q1rn gbF gnQ gbQ gE gtp glf gtr glh 0)) C K inX2_clear_X2 tyX2 tyX2_ok nmX2 0 rfl rfl 10 (by decide) lkX2_clear_50 rfl (tyX2_ok 10 (by decide)) rfl rfl (Nat.le_of_ble_eq_true rfl) rfl dX2_clear_17 ?_
  refine j_iload_n (pc := 20) C 0 dX2_clear_20 rfl rfl ?_
  cases hF
  exact j_iret (pc := 21) C K hr hlk dX2_clear_21
theorem lkX2_leaf_22 : Cond.fieldLink RX2 22 (TX2 2).1 (TX2 2).2.1 (TX2 2).2.2.1 ∈ wsX2_leaf := by decide +kernel
theorem inX2_leaf_X2 : ∀ w ∈ u_ws RX2 TX2 11, w ∈ wsX2_leaf := by decide +kernel
theorem hdyX2_leaf : yX2_leaf.cls = RX2 ∧ yX2_leaf.cls ≠ "java/lang/invoke/MethodHandle" ∧ yX2_leaf.cls ≠ "java/lang/invoke/VarHandle" ∧ (parseMethodDescriptor yX2_leaf.desc).map (fun d => d.parameters.length) = some 2 := by decide +kernel
set_option maxHeartbeats 4000000 in
set_option maxRecDepth 100000 in
theorem ctX2_leaf (l : Launch) (D : va_G) (a : Nat → Nat) (k : Nat → ClassId) (gM : Nat → Int32) (gnC : Int32) (gbC : Nat → Int32) (gnL : Int32) (gbL : Nat → Int32) (gnF : Int32) (gbF : Nat → Int32) (gnQ : Int32) (gbQ : Nat → Int32) (gE : Nat → Nat → Int32) (gtp : Int32) (glf : Int32) (gtr : Int32) (glh : Int32) (gov : Int32) (x1 x2 : Int32) (r : Int32) (hF : FX2_leaf x1 x2 gnL gbL = some r) : ji l yX2_leaf wsX2_leaf { frames := 2, cells := 0, slots := 0, locals := 44 } D (gt k) [.ref (a 0), .int x1, .int x2] (gw a k gM gnC gbC gnL gbL gnF gbF gnQ gbQ gE gtp glf gtr glh gov) (gw a k gM gnC gbC gnL gbL gnF gbF gnQ gbQ gE gtp glf gtr glh gov) r := by
  refine j_mi (cc := cX2_leaf) (maxL := 3) (own := RX2) (ret := (some .int)) (by decide) rfl rfl (Nat.le_of_ble_eq_true rfl) ?_
  intro p e s m args below meth c A C K hr hlk
  unfold FX2_leaf at hF
  refine j_aload_n (pc := 0) C 0 dX2_leaf_0 rfl rfl ?_
  refine j_get (pc := 1) (v := .ref (a 4)) C K inX2_leaf_X2 0 rfl rfl 2 (by decide) lkX2_leaf_22 rfl dX2_leaf_1 ?_
  refine j_iload_n (pc := 4) C 1 dX2_leaf_4 rfl rfl ?_
  refine j_iload_n (pc := 5) C 2 dX2_leaf_5 rfl rfl ?_
  obtain ⟨rq1, hq1, hF⟩ := bd1_some hF
  refine j_callVi (pc := 6) (As := [.int x1, .int x2]) (rest := []) (ws' := (gw a k gM gnC gbC gnL gbL gnF gbF gnQ gbQ gE gtp glf gtr glh gov)) C K (ci := 1) (q0 := 0) rfl rfl rfl (ctX1_cell l D (a 4) (a 5) (k 5) 6 5 30 _ _ _ _ _ hq1) gX2_leaf_X1_cell rfl rfl rfl hdyX1_cell ⟨Nat.le_of_ble_eq_true rfl, Nat.le_of_ble_eq_true rfl⟩ [4, 5] rfl (by decide) (jsp_eq (jsp2 (Nat.le_of_ble_eq_true rfl) (Nat.le_of_ble_eq_true rfl) (by decide)) rfl) [2] rfl rfl (Nat.le_of_ble_eq_true rfl) dX2_leaf_6 ⟨Nat.zero_le _, Nat.zero_le _⟩ ?_
  cases hF
  exact j_iret (pc := 9) C K hr hlk dX2_leaf_9

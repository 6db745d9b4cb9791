def FX2_poke (x1 x2 : Int32) (gM : Nat → Int32) : Option (Int32 × (Nat → Int32)) := bd1 (FX2_isBelow x1 16384) (fun rq1 => if rq1 = 0 then none else gd (inb x1 16384) (gd (inb x1 16384) (some ((gM x1.toNatClampNeg), (upd gM x1.toNatClampNeg x2)))))
def FX2_peek (x1 : Int32) (gM : Nat → Int32) : Option (Int32) := bd1 (FX2_isBelow x1 16384) (fun rq1 => if rq1 = 0 then none else gd (inb x1 16384) (some (gM x1.toNatClampNeg)))
def FX2_read (x1 x2 : Int32) (gM : Nat → Int32) (gnC : Int32) (gbC : Nat → Int32) (gnL : Int32) (gbL : Nat → Int32) (gnF : Int32) (gbF : Nat → Int32) (gtp : Int32) (glf : Int32) (gtr : Int32) (glh : Int32) (gov : Int32) : Option (Int32 × Int32 × (Nat → Int32) × Int32 × (Nat → Int32) × Int32 × (Nat → Int32) × Int32 × Int32 × Int32 × Int32) := bd1 (FX2_isBelow x1 8) (fun rq1 => if rq1 = 0 then none else bd11 (FX2_access x1 x2 0 gM gnC gbC gnL gbL gnF gbF gtp glf gtr glh gov) (fun rq3 q3gnC q3gbC q3gnL q3gbL q3gnF q3gbF q3glf q3gtr q3glh q3gov => if 0 ≤ rq3 then bd1 (FX2_wordAt rq3 gM) (fun rq5 => some (rq5, q3gnC, q3gbC, q3gnL, q3gbL, q3gnF, q3gbF, q3glf, q3gtr, q3glh, q3gov)) else some (0, q3gnC, q3gbC, q3gnL, q3gbL, q3gnF, q3gbF, q3glf, q3gtr, q3glh, q3gov)))
theorem lkX2_poke_9 : Cond.fieldLink RX2 9 (TX2 0).1 (TX2 0).2.1 (TX2 0).2.2.1 ∈ wsX2_poke := by decide +kernel
theorem inX2_poke_X2 : ∀ w ∈ u_ws RX2 TX2 11, w ∈ wsX2_poke := by decide +kernel
theorem hdyX2_poke : yX2_poke.cls = RX2 ∧ yX2_poke.cls ≠ "java/lang/invoke/MethodHandle" ∧ yX2_poke.cls ≠ "java/lang/invoke/VarHandle" ∧ (parseMethodDescriptor yX2_poke.desc).map (fun d => d.parameters.length) = some 2 := by decide +kernel
set_option maxHeartbeats 4000000 in
set_option maxRecDepth 100000 in
theorem ctX2_poke (l : Launch) (D : va_G) (a : Nat → Nat) (k : Nat → ClassId) (gM : Nat → Int32) (gnC : Int32) (gbC : Nat → Int32) (gnL : Int32) (gbL : Nat → Int32) (gnF : Int32) (gbF : Nat → Int32) (gnQ : Int32) (gbQ : Nat → Int32) (gE : Nat → Nat → Int32) (gtp : Int32) (glf : Int32) (gtr : Int32) (glh : Int32) (gov : Int32) (x1 x2 : Int32) (r : Int32) (ogM : Nat → Int32) (hF : FX2_poke x1 x2 gM = some (r, ogM)) : ji l yX2_poke wsX2_poke { frames := 1, cells := 0, slots := 0, locals := 21 } D (gt k) [.ref (a 0), .int x1, .int x2] (gw a k gM gnC gbC gnL gbL gnF gbF gnQ gbQ gE gtp glf gtr glh gov) (gw a k ogM gnC gbC gnL gbL gnF gbF gnQ gbQ gE gtp glf gtr glh gov) r := by
  refine j_mi (cc := cX2_poke) (maxL := 4) (own := RX2) (ret := (some .int)) (by decide) rfl rfl (Nat.le_of_ble_eq_true rfl) ?_
  intro p e s m args below meth c A C K hr hlk
  unfold FX2_poke at hF
  refine j_iload_n (pc := 0) C 1 dX2_poke_0 rfl rfl ?_
  refine j_sipush (pc := 1) (v := 16384) C dX2_poke_1 (by decide) ?_
  obtain ⟨rq1, hq1, hF⟩ := bd1_some hF
  refine j_callSi (pc := 4) (As := [.int x1, .int 16384]) (rest := []) (ws' := (gw a k gM gnC gbC gnL gbL gnF gbF gnQ gbQ gE gtp glf gtr glh gov)) C K (ctX2_isBelow l D  _ _ _ hq1) gX2_poke_X2_isBelow rfl rfl rfl hdyX2_isBelow ⟨Nat.le_of_ble_eq_true rfl, Nat.le_of_ble_eq_true rfl⟩ [] rfl rfl jsp0 [] rfl rfl (Nat.le_of_ble_eq_true rfl) dX2_poke_4 ⟨Nat.zero_le _, Nat.zero_le _⟩ ?_
  refine j_if_ne (pc := 7) (tgt := 18) C dX2_poke_7 (by decide) (fun c2 => ?_) (fun c2 => ?_)
  · replace hF := ifn hF c2
    refine j_aload_n (pc := 18) C 0 dX2_poke_18 rfl rfl ?_
    refine j_get (pc := 19) (v := .ref (a 1)) C K inX2_poke_X2 0 rfl rfl 0 (by decide) lkX2_poke_9 rfl dX2_poke_19 ?_
    refine j_iload_n (pc := 22) C 1 dX2_poke_22 rfl rfl ?_
    obtain ⟨g3, hF⟩ := gd_some hF
    refine j_iald (pc := 23) C K 1 0 rfl rfl g3 dX2_poke_23 ?_
    refine j_istore_n (pc := 24) (lv' := [(3, .int (gM x1.toNatClampNeg)), (0, .ref (a 0)), (1, .int x1), (2, .int x2)]) C dX2_poke_24 rfl (by decide) rfl ?_
    refine j_aload_n (pc := 25) C 1 dX2_poke_25 rfl rfl ?_
    refine j_get (pc := 26) (v := .ref (a 1)) C K inX2_poke_X2 0 rfl rfl 0 (by decide) lkX2_poke_9 rfl dX2_poke_26 ?_
    refine j_iload_n (pc := 29) C 2 dX2_poke_29 rfl rfl ?_
    refine j_iload_n (pc := 30) C 3 dX2_poke_30 rfl rfl ?_
    obtain ⟨g4, hF⟩ := gd_some hF
    refine j_iast (pc := 31) (ws' := (gw a k (upd gM x1.toNatClampNeg x2) gnC gbC gnL gbL gnF gbF gnQ gbQ gE gtp glf gtr glh gov)) C K 1 0 rfl rfl g4 rfl dX2_poke_31 ?_
    refine j_iload_n (pc := 32) C 0 dX2_poke_32 rfl rfl ?_
    cases hF
    exact j_iret (pc := 33) C K hr hlk dX2_poke_33
  · replace hF := ifp hF c2
    cases hF
theorem lkX2_peek_9 : Cond.fieldLink RX2 9 (TX2 0).1 (TX2 0).2.1 (TX2 0).2.2.1 ∈ wsX2_peek := by decide +kernel
theorem inX2_peek_X2 : ∀ w ∈ u_ws RX2 TX2 11, w ∈ wsX2_peek := by decide +kernel
theorem hdyX2_peek : yX2_peek.cls = RX2 ∧ yX2_peek.cls ≠ "java/lang/invoke/MethodHandle" ∧ yX2_peek.cls ≠ "java/lang/invoke/VarHandle" ∧ (parseMethodDescriptor yX2_peek.desc).map (fun d => d.parameters.length) = some 1 := by decide +kernel
set_option maxHeartbeats 4000000 in
set_option maxRecDepth 100000 in
theorem ctX2_peek (l : Launch) (D : va_G) (a : Nat → Nat) (k : Nat → ClassId) (gM : Nat → Int32) (gnC : Int32) (gbC : Nat → Int32) (gnL : Int32) (gbL : Nat → Int32) (gnF : Int32) (gbF : Nat → Int32) (gnQ : Int32) (gbQ : Nat → Int32) (gE : Nat → Nat → Int32) (gtp : Int32) (glf : Int32) (gtr : Int32) (glh : Int32) (gov : Int32) (x1 : Int32) (r : Int32) (hF : FX2_peek x1 gM = some r) : ji l yX2_peek wsX2_peek { frames := 1, cells := 0, slots := 0, locals := 21 } D (gt k) [.ref (a 0), .int x1] (gw a k gM gnC gbC gnL gbL gnF gbF gnQ gbQ gE gtp glf gtr glh gov) (gw a k gM gnC gbC gnL gbL gnF gbF gnQ gbQ gE gtp glf gtr glh gov) r := by
  refine j_mi (cc := cX2_peek) (maxL := 2) (own := RX2) (ret := (some .int)) (by decide) rfl rfl (Nat.le_of_ble_eq_true rfl) ?_
  intro p e s m args below meth c A C K hr hlk
  unfold FX2_peek at hF
  refine j_iload_n (pc := 0) C 1 dX2_peek_0 rfl rfl ?_
  refine j_sipush (pc := 1) (v := 16384) C dX2_peek_1 (by decide) ?_
  obtain ⟨rq1, hq1, hF⟩ := bd1_some hF
  refine j_callSi (pc := 4) (As := [.int x1, .int 16384]) (rest := []) (ws' := (gw a k gM gnC gbC gnL gbL gnF gbF gnQ gbQ gE gtp glf gtr glh gov)) C K (ctX2_isBelow l D  _ _ _ hq1) gX2_peek_X2_isBelow rfl rfl rfl hdyX2_isBelow ⟨Nat.le_of_ble_eq_true rfl, Nat.le_of_ble_eq_true rfl⟩ [] rfl rfl jsp0 [] rfl rfl (Nat.le_of_ble_eq_true rfl) dX2_peek_4 ⟨Nat.zero_le _, Nat.zero_le _⟩ ?_
  refine j_if_ne (pc := 7) (tgt := 18) C dX2_peek_7 (by decide) (fun c2 => ?_) (fun c2 => ?_)
  · replace hF := ifn hF c2
    refine j_aload_n (pc := 18) C 0 dX2_peek_18 rfl rfl ?_
    refine j_get (pc := 19) (v := .ref (a 1)) C K inX2_peek_X2 0 rfl rfl 0 (by decide) lkX2_peek_9 rfl dX2_peek_19 ?_
    refine j_iload_n (pc := 22) C 1 dX2_peek_22 rfl rfl ?_
    obtain ⟨g3, hF⟩ := gd_some hF
    refine j_iald (pc := 23) C K 1 0 rfl rfl g3 dX2_peek_23 ?_
    cases hF
    exact j_iret (pc := 24) C K hr hlk dX2_peek_24
  · replace hF := ifp hF c2
    cases hF
theorem lkX2_read_41 : Cond.fieldLink RX2 41 (TX2 7).1 (TX2 7).2.1 (TX2 7).2.2.1 ∈ wsX2_read := by decide +kernel
theorem inX2_read_X2 : ∀ w ∈ u_ws RX2 TX2 11, w ∈ wsX2_read := by decide +kernel
theorem hdyX2_read : yX2_read.cls = RX2 ∧ yX2_read.cls ≠ "java/lang/invoke/MethodHandle" ∧ yX2_read.cls ≠ "java/lang/invoke/VarHandle" ∧ (parseMethodDescriptor yX2_read.desc).map (fun d => d.parameters.length) = some 2 := by decide +kernel
set_option maxHeartbeats 4000000 in
set_option maxRecDepth 100000 in
theorem ctX2_read (l : Launch) (D : va_G) (a : Nat → Nat) (k : Nat → ClassId) (gM : Nat → Int32) (gnC : Int32) (gbC : Nat → Int32) (gnL : Int32) (gbL : Nat → Int32) (gnF : Int32) (gbF : Nat → Int32) (gnQ : Int32) (gbQ : Nat → Int32) (gE : Nat → Nat → Int32) (gtp : Int32) (glf : Int32) (gtr : Int32) (glh : Int32) (gov : Int32) (x1 x2 : Int32) (r : Int32) (ognC : Int32) (ogbC : Nat → Int32) (ognL : Int32) (ogbL : Nat → Int32) (ognF : Int32) (ogbF : Nat → Int32) (oglf : Int32) (ogtr : Int32) (oglh : Int32) (ogov : Int32) (hF : FX2_read x1 x2 gM gnC gbC gnL gbL gnF gbF gtp glf gtr glh gov = some (r, ognC, ogbC, ognL, ogbL, ognF, ogbF, oglf, ogtr, oglh, ogov)) : ji l yX2_read wsX2_read { frames := 6, cells := 0, slots := 0, locals := 145 } D (gt k) [.ref (a 0), .int x1, .int x2] (gw a k gM gnC gbC gnL gbL gnF gbF gnQ gbQ gE gtp glf gtr glh gov) (gw a k gM ognC ogbC ognL ogbL ognF ogbF gnQ gbQ gE gtp oglf ogtr oglh ogov) r := by
  refine j_mi (cc := cX2_read) (maxL := 4) (own := RX2) (ret := (some .int)) (by decide) rfl rfl (Nat.le_of_ble_eq_true rfl) ?_
  intro p e s m args below meth c A C K hr hlk
  unfold FX2_read at hF
  refine j_iload_n (pc := 0) C 1 dX2_read_0 rfl rfl ?_
  refine j_bipush (pc := 1) (v := 8) C dX2_read_1 (by decide) ?_
  obtain ⟨rq1, hq1, hF⟩ := bd1_some hF
  refine j_callSi (pc := 3) (As := [.int x1, .int 8]) (rest := []) (ws' := (gw a k gM gnC gbC gnL gbL gnF gbF gnQ gbQ gE gtp glf gtr glh gov)) C K (ctX2_isBelow l D  _ _ _ hq1) gX2_read_X2_isBelow rfl rfl rfl hdyX2_isBelow ⟨Nat.le_of_ble_eq_true rfl, Nat.le_of_ble_eq_true rfl⟩ [] rfl rfl jsp0 [] rfl rfl (Nat.le_of_ble_eq_true rfl) dX2_read_3 ⟨Nat.zero_le _, Nat.zero_le _⟩ ?_
  refine j_if_ne (pc := 6) (tgt := 22) C dX2_read_6 (by decide) (fun c2 => ?_) (fun c2 => ?_)
  · replace hF := ifn hF c2
    refine j_aload_n (pc := 22) C 0 dX2_read_22 rfl rfl ?_
    refine j_iload_n (pc := 23) C 1 dX2_read_23 rfl rfl ?_
    refine j_iload_n (pc := 24) C 2 dX2_read_24 rfl rfl ?_
    refine j_iconst (pc := 25) (v := 0) C dX2_read_25 (by decide) ?_
    obtain ⟨rq3, q3gnC, q3gbC, q3gnL, q3gbL, q3gnF, q3gbF, q3glf, q3gtr, q3glh, q3gov, hq3, hF⟩ := bd11_some hF
    refine j_callVi (pc := 26) (As := [.int x1, .int x2, .int 0]) (rest := []) (ws' := (gw a k gM q3gnC q3gbC q3gnL q3gbL q3gnF q3gbF gnQ gbQ gE gtp q3glf q3gtr q3glh q3gov)) C K (ci := 2) (q0 := 0) rfl rfl rfl (ctX2_access l D a k _ _ _ _ _ _ _ _ _ _ _ _ _ _ _ _ _ _ _ _ _ _ _ _ _ _ _ _ _ hq3) gX2_read_X2_access rfl rfl rfl hdyX2_access ⟨Nat.le_of_ble_eq_true rfl, Nat.le_of_ble_eq_true rfl⟩ (List.range 19) (jrange _) (by decide) (jspF rfl) [0, 1, 2, 3, 4, 5] rfl rfl (Nat.le_of_ble_eq_true rfl) dX2_read_26 ⟨Nat.zero_le _, Nat.zero_le _⟩ ?_
    refine j_istore_n (pc := 29) (lv' := [(3, .int rq3), (0, .ref (a 0)), (1, .int x1), (2, .int x2)]) C dX2_read_29 rfl (by decide) rfl ?_
    refine j_iload_n (pc := 30) C 0 dX2_read_30 rfl rfl ?_
    refine j_if_ge (pc := 31) (tgt := 38) C dX2_read_31 (by decide) (fun c4 => ?_) (fun c4 => ?_)
    · replace hF := ifp hF c4
      refine j_aload_n (pc := 38) C 1 dX2_read_38 rfl rfl ?_
      refine j_iload_n (pc := 39) C 0 dX2_read_39 rfl rfl ?_
      obtain ⟨rq5, hq5, hF⟩ := bd1_some hF
      refine j_callVi (pc := 40) (As := [.int rq3]) (rest := []) (ws' := (gw a k gM q3gnC q3gbC q3gnL q3gbL q3gnF q3gbF gnQ gbQ gE gtp q3glf q3gtr q3glh q3gov)) C K (ci := 2) (q0 := 0) rfl rfl rfl (ctX2_wordAt l D a k _ _ _ _ _ _ _ _ _ _ _ _ _ _ _ _ _ hq5) gX2_read_X2_wordAt rfl rfl rfl hdyX2_wordAt ⟨Nat.le_of_ble_eq_true rfl, Nat.le_of_ble_eq_true rfl⟩ (List.range 19) (jrange _) (by decide) (jspF rfl) [0, 1, 2, 3, 4, 5] rfl rfl (Nat.le_of_ble_eq_true rfl) dX2_read_40 ⟨Nat.zero_le _, Nat.zero_le _⟩ ?_
      cases hF
      exact j_iret (pc := 43) C K hr hlk dX2_read_43
    · replace hF := ifn hF c4
      refine j_iconst (pc := 34) (v := 0) C dX2_read_34 (by decide) ?_
      refine j_goto (pc := 35) (tgt := 43) C dX2_read_35 (by decide) ?_
      cases hF
      exact j_iret (pc := 43) C K hr hlk dX2_read_43
  · replace hF := ifp hF c2
    refine j_aload_n (pc := 9) C 0 dX2_read_9 rfl rfl ?_
    refine j_iconst (pc := 10) (v := 0) C dX2_read_10 (by decide) ?_
    refine j_put (pc := 11) (ws' := (gw a k gM gnC gbC gnL gbL gnF gbF gnQ gbQ gE gtp 0 gtr glh gov)) C K inX2_read_X2 tyX2 tyX2_ok nmX2 0 rfl rfl 7 (by decide) lkX2_read_41 rfl (tyX2_ok 7 (by decide)) rfl rfl (Nat.le_of_ble_eq_true rfl) rfl dX2_read_11 ?_
    cases hF
theorem gwX2_poke : ∀ w ∈ (vx_at0 RX2 61 "java/util/NoSuchElementException" ["java/lang/RuntimeException", "java/lang/Exception"]).filter goodWord, w ∈ wsX2_poke := by decide +kernel
set_option maxHeartbeats 4000000 in
set_option maxRecDepth 100000 in
theorem txX2_poke (l : Launch) (hlt : l.stackTraces = false) (D : va_G) (a : Nat → Nat) (k : Nat → ClassId) (gM : Nat → Int32) (gnC : Int32) (gbC : Nat → Int32) (gnL : Int32) (gbL : Nat → Int32) (gnF : Int32) (gbF : Nat → Int32) (gnQ : Int32) (gbQ : Nat → Int32) (gE : Nat → Nat → Int32) (gtp : Int32) (glf : Int32) (gtr : Int32) (glh : Int32) (gov : Int32) (x1 x2 : Int32) (hF : FX2_isBelow x1 16384 = some 0) : jx l yX2_poke wsX2_poke { frames := 6, cells := 1, slots := 6, locals := 100 } D (gt k) [.ref (a 0), .int x1, .int x2] (gw a k gM gnC gbC gnL gbL gnF gbF gnQ gbQ gE gtp glf gtr glh gov) (gw a k gM gnC gbC gnL gbL gnF gbF gnQ gbQ gE gtp glf gtr glh gov) := by
  refine j_mx (cc := cX2_poke) (maxL := 4) (own := RX2) (ret := (some .int)) (by decide) rfl rfl (Nat.le_of_ble_eq_true rfl) ?_
  intro p e s m args below meth c A C K hlk htb hxw hxz
  refine j_iload_n (pc := 0) C 1 dX2_poke_0 rfl rfl ?_
  refine j_sipush (pc := 1) (v := 16384) C dX2_poke_1 (by decide) ?_
  refine j_callSi (pc := 4) (As := [.int x1, .int 16384]) (rest := []) (ws' := (gw a k gM gnC gbC gnL gbL gnF gbF gnQ gbQ gE gtp glf gtr glh gov)) C K (ctX2_isBelow l D _ _ _ hF) gX2_poke_X2_isBelow rfl rfl rfl hdyX2_isBelow ⟨Nat.le_of_ble_eq_true rfl, Nat.le_of_ble_eq_true rfl⟩ [] rfl rfl jsp0 [] rfl rfl (Nat.le_of_ble_eq_true rfl) dX2_poke_4 ⟨Nat.zero_le _, Nat.zero_le _⟩ ?_
  refine j_if_ne (pc := 7) (tgt := 18) C dX2_poke_7 (by decide) (fun h => absurd rfl h) (fun _ => ?_)
  exact j_throw (pc := 10) C K hlt (by decide +kernel) (by decide +kernel) gwX2_poke hlk htb hxw hxz dX2_poke_10 dX2_poke_13 dX2_poke_14 dX2_poke_17 (Nat.le_of_ble_eq_true rfl) (Nat.le_of_ble_eq_true rfl) (Nat.le_of_ble_eq_true rfl) (Nat.le_of_ble_eq_true rfl)
theorem gwX2_peek : ∀ w ∈ (vx_at0 RX2 61 "java/util/NoSuchElementException" ["java/lang/RuntimeException", "java/lang/Exception"]).filter goodWord, w ∈ wsX2_peek := by decide +kernel
set_option maxHeartbeats 4000000 in
set_option maxRecDepth 100000 in
theorem txX2_peek (l : Launch) (hlt : l.stackTraces = false) (D : va_G) (a : Nat → Nat) (k : Nat → ClassId) (gM : Nat → Int32) (gnC : Int32) (gbC : Nat → Int32) (gnL : Int32) (gbL : Nat → Int32) (gnF : Int32) (gbF : Nat → Int32) (gnQ : Int32) (gbQ : Nat → Int32) (gE : Nat → Nat → Int32) (gtp : Int32) (glf : Int32) (gtr : Int32) (glh : Int32) (gov : Int32) (x1 : Int32) (hF : FX2_isBelow x1 16384 = some 0) : jx l yX2_peek wsX2_peek { frames := 6, cells := 1, slots := 6, locals := 100 } D (gt k) [.ref (a 0), .int x1] (gw a k gM gnC gbC gnL gbL gnF gbF gnQ gbQ gE gtp glf gtr glh gov) (gw a k gM gnC gbC gnL gbL gnF gbF gnQ gbQ gE gtp glf gtr glh gov) := by
  refine j_mx (cc := cX2_peek) (maxL := 2) (own := RX2) (ret := (some .int)) (by decide) rfl rfl (Nat.le_of_ble_eq_true rfl) ?_
  intro p e s m args below meth c A C K hlk htb hxw hxz
  refine j_iload_n (pc := 0) C 1 dX2_peek_0 rfl rfl ?_
  refine j_sipush (pc := 1) (v := 16384) C dX2_peek_1 (by decide) ?_
  refine j_callSi (pc := 4) (As := [.int x1, .int 16384]) (rest := []) (ws' := (gw a k gM gnC gbC gnL gbL gnF gbF gnQ gbQ gE gtp glf gtr glh gov)) C K (ctX2_isBelow l D _ _ _ hF) gX2_peek_X2_isBelow rfl rfl rfl hdyX2_isBelow ⟨Nat.le_of_ble_eq_true rfl, Nat.le_of_ble_eq_true rfl⟩ [] rfl rfl jsp0 [] rfl rfl (Nat.le_of_ble_eq_true rfl) dX2_peek_4 ⟨Nat.zero_le _, Nat.zero_le _⟩ ?_
  refine j_if_ne (pc := 7) (tgt := 18) C dX2_peek_7 (by decide) (fun h => absurd rfl h) (fun _ => ?_)
  exact j_throw (pc := 10) C K hlt (by decide +kernel) (by decide +kernel) gwX2_peek hlk htb hxw hxz dX2_peek_10 dX2_peek_13 dX2_peek_14 dX2_peek_17 (Nat.le_of_ble_eq_true rfl) (Nat.le_of_ble_eq_true rfl) (Nat.le_of_ble_eq_true rfl) (Nat.le_of_ble_eq_true rfl)
theorem gwX2_read : ∀ w ∈ (vx_at0 RX2 61 "java/util/NoSuchElementException" ["java/lang/RuntimeException", "java/lang/Exception"]).filter goodWord, w ∈ wsX2_read := by decide +kernel
set_option maxHeartbeats 4000000 in
set_option maxRecDepth 100000 in
theorem txX2_read (l : Launch) (hlt : l.stackTraces = false) (D : va_G) (a : Nat → Nat) (k : Nat → ClassId) (gM : Nat → Int32) (gnC : Int32) (gbC : Nat → Int32) (gnL : Int32) (gbL : Nat → Int32) (gnF : Int32) (gbF : Nat → Int32) (gnQ : Int32) (gbQ : Nat → Int32) (gE : Nat → Nat → Int32) (gtp : Int32) (glf : Int32) (gtr : Int32) (glh : Int32) (gov : Int32) (x1 x2 : Int32) (hF : FX2_isBelow x1 8 = some 0) : jx l yX2_read wsX2_read { frames := 6, cells := 1, slots := 6, locals := 100 } D (gt k) [.ref (a 0), .int x1, .int x2] (gw a k gM gnC gbC gnL gbL gnF gbF gnQ gbQ gE gtp glf gtr glh gov) (gw a k gM gnC gbC gnL gbL gnF gbF gnQ gbQ gE gtp 0 gtr glh gov) := by
  refine j_mx (cc := cX2_read) (maxL := 4) (own := RX2) (ret := (some .int)) (by decide) rfl rfl (Nat.le_of_ble_eq_true rfl) ?_
  intro p e s m args below meth c A C K hlk htb hxw hxz
  refine j_iload_n (pc := 0) C 1 dX2_read_0 rfl rfl ?_
  refine j_bipush (pc := 1) (v := 8) C dX2_read_1 (by decide) ?_
  refine j_callSi (pc := 3) (As := [.int x1, .int 8]) (rest := []) (ws' := (gw a k gM gnC gbC gnL gbL gnF gbF gnQ gbQ gE gtp glf gtr glh gov)) C K (ctX2_isBelow l D _ _ _ hF) gX2_read_X2_isBelow rfl rfl rfl hdyX2_isBelow ⟨Nat.le_of_ble_eq_true rfl, Nat.le_of_ble_eq_true rfl⟩ [] rfl rfl jsp0 [] rfl rfl (Nat.le_of_ble_eq_true rfl) dX2_read_3 ⟨Nat.zero_le _, Nat.zero_le _⟩ ?_
  refine j_if_ne (pc := 6) (tgt := 22) C dX2_read_6 (by decide) (fun h => absurd rfl h) (fun _ => ?_)
  refine j_aload_n (pc := 9) C 0 dX2_read_9 rfl rfl ?_
  refine j_iconst (pc := 10) (v := 0) C dX2_read_10 (by decide) ?_
  refine j_put (pc := 11) (ws' := (gw a k gM gnC gbC gnL gbL gnF gbF gnQ gbQ gE gtp 0 gtr glh gov)) C K inX2_read_X2 tyX2 tyX2_ok nmX2 0 rfl rfl 7 (by decide) lkX2_read_41 rfl (tyX2_ok 7 (by decide)) rfl rfl (Nat.le_of_ble_eq_true rfl) rfl dX2_read_11 ?_
  exact j_throw (pc := 14) C K hlt (by decide +kernel) (by decide +kernel) gwX2_read hlk htb hxw hxz dX2_read_14 dX2_read_17 dX2_read_18 dX2_read_21 (Nat.le_of_ble_eq_true rfl) (Nat.le_of_ble_eq_true rfl) (Nat.le_of_ble_eq_true rfl) (Nat.le_of_ble_eq_true rfl)
theorem jspA {w w' r : va_W} {n : Nat} (h1 : w.length = n) (h2 : w'.length = n) : jsp (List.range n) (w ++ r) w' (w' ++ r) := by
  intro k q h
  by_cases hk : k < n
  · rw [List.getElem?_append_left (by omega)] at h
    exact Or.inr ⟨k, by rw [List.getElem?_range hk], h⟩
  · rw [List.getElem?_append_right (by omega), h2, ← h1, ← List.getElem?_append_right (by omega)] at h
    exact Or.inl ⟨by simp only [List.mem_range]; exact hk, h⟩
theorem jspB {w v v' r : va_W} {n m : Nat} (h1 : w.length = n) (h2 : v.length = m) (h3 : v'.length = m) : jsp ((List.range m).map (fun i => n + i)) (w ++ (v ++ r)) v' (w ++ (v' ++ r)) := by
  intro k q h
  by_cases hk : k < n
  · rw [List.getElem?_append_left (by omega)] at h
    refine Or.inl ⟨?_, by rw [List.getElem?_append_left (by omega)]; exact h⟩
    intro hm
    obtain ⟨i, -, hi⟩ := List.mem_map.mp hm
    omega
  · rw [List.getElem?_append_right (by omega)] at h
    by_cases hk2 : k < n + m
    · rw [List.getElem?_append_left (by omega)] at h
      refine Or.inr ⟨k - n, ?_, by rw [← h1]; exact h⟩
      rw [List.getElem?_map, List.getElem?_range (by omega)]
      show some (n + (k - n)) = some k
      congr 1
      omega
    · rw [List.getElem?_append_right (by omega)] at h
      refine Or.inl ⟨?_, ?_⟩
      · intro hm
        obtain ⟨i, hi0, hi⟩ := List.mem_map.mp hm
        have := List.mem_range.mp hi0
        omega
      · rw [List.getElem?_append_right (by omega), List.getElem?_append_right (by omega), show k - w.length - v.length = k - w.length - v'.length by omega]
        exact h
theorem jspH {w w' v r r' : va_W} {n m j : Nat} (h1 : w.length = n) (h2 : w'.length = n) (h3 : v.length = m) (h4 : r.length = j) (h5 : r'.length = j) : jsp (List.range n ++ (List.range j).map (fun i => (n + m) + i)) (w ++ (v ++ r)) (w' ++ r') (w' ++ (v ++ r')) := by
  intro k q h
  by_cases hk : k < n
  · rw [List.getElem?_append_left (by omega)] at h
    refine Or.inr ⟨k, ?_, ?_⟩
    · rw [List.getElem?_append_left (by rw [List.length_range]; omega), List.getElem?_range hk]
    · rw [List.getElem?_append_left (by omega)]; exact h
  · rw [List.getElem?_append_right (by omega)] at h
    by_cases hk2 : k < n + m
    · rw [List.getElem?_append_left (by omega)] at h
      refine Or.inl ⟨?_, ?_⟩
      · intro hm
        rcases List.mem_append.mp hm with hm | hm
        · have := List.mem_range.mp hm
          omega
        · obtain ⟨i, -, hi⟩ := List.mem_map.mp hm
          omega
      · rw [List.getElem?_append_right (by omega), List.getElem?_append_left (by omega), h1, ← h2]
        exact h
    · rw [List.getElem?_append_right (by omega)] at h
      have hlt := (List.getElem?_eq_some_iff.mp h).1
      refine Or.inr ⟨n + (k - n - m), ?_, ?_⟩
      · rw [List.getElem?_append_right (by rw [List.length_range]; omega), List.length_range, List.getElem?_map, List.getElem?_range (by omega)]
        show some (n + m + (n + (k - n - m) - n)) = some k
        congr 1
        omega
      · rw [List.getElem?_append_right (by omega), show n + (k - n - m) - w'.length = k - w'.length - v.length by omega]
        exact h
/-- a helper's cells -/
def hww (a : Nat → Nat) (k : Nat → ClassId) (gM : Nat → Int32) (gnC : Int32) (gbC : Nat → Int32) (gnL : Int32) (gbL : Nat → Int32) (gnF : Int32) (gbF : Nat → Int32) (gnQ : Int32) (gbQ : Nat → Int32) (gE : Nat → Nat → Int32) (gtp : Int32) (glf : Int32) (gtr : Int32) (glh : Int32) (gov : Int32) (qo : Nat) (ko : ClassId) (out : Nat → Int64) : va_W := gw a k gM gnC gbC gnL gbL gnF gbF gnQ gbQ gE gtp glf gtr glh gov ++ [(qo, .inl (ko, 1, .inr (.inl out)))]
def htt (k : Nat → ClassId) (ko : ClassId) : List (ClassId × FieldType) := gt k ++ [(ko, .long)]
/-- the law's cells -/
def lww (a : Nat → Nat) (k : Nat → ClassId) (am : Nat → Nat) (km : Nat → ClassId) (qo : Nat) (ko : ClassId) (gM : Nat → Int32) (gnC : Int32) (gbC : Nat → Int32) (gnL : Int32) (gbL : Nat → Int32) (gnF : Int32) (gbF : Nat → Int32) (gnQ : Int32) (gbQ : Nat → Int32) (gE : Nat → Nat → Int32) (gtp : Int32) (glf : Int32) (gtr : Int32) (glh : Int32) (gov : Int32) (mW : Nat → Int32) (mC : Nat → Int32) (mL : Nat → Int32) (mR : Nat → Int32) (mQ : Nat → Int32) (mE : Nat → Int32) (mtb : Int32) (mnC : Int32) (mnL : Int32) (mnR : Int32) (mov : Int32) (mnQ : Int32) (mwr : Int32) (mwl : Int32) (mft : Int32) (mth : Int32) (mpl : Int32) (out : Nat → Int64) : va_W := gw a k gM gnC gbC gnL gbL gnF gbF gnQ gbQ gE gtp glf gtr glh gov ++ (mw am km mW mC mL mR mQ mE mtb mnC mnL mnR mov mnQ mwr mwl mft mth mpl ++ [(qo, .inl (ko, 1, .inr (.inl out)))])
def ltt (k km : Nat → ClassId) (ko : ClassId) : List (ClassId × FieldType) := gt k ++ (mt km ++ [(ko, .long)])
set_option maxHeartbeats 4000000 in
set_option maxRecDepth 100000 in
theorem ctL_poke_ret (l : Launch) (D : va_G) (a : Nat → Nat) (k : Nat → ClassId) (gM : Nat → Int32) (gnC : Int32) (gbC : Nat → Int32) (gnL : Int32) (gbL : Nat → Int32) (gnF : Int32) (gbF : Nat → Int32) (gnQ : Int32) (gbQ : Nat → Int32) (gE : Nat → Nat → Int32) (gtp : Int32) (glf : Int32) (gtr : Int32) (glh : Int32) (gov : Int32) (qo : Nat) (ko : ClassId) (out : Nat → Int64) (x1 x2 : Int32) (r : Int32) (ogM : Nat → Int32) (hF : FX2_poke x1 x2 gM = some (r, ogM)) : jim l yL_poke wsL_poke { frames := 7, cells := 1, slots := 6, locals := 123 } D (htt k ko) [.ref (a 0), .int x1, .int x2, .ref qo] (hww a k gM gnC gbC gnL gbL gnF gbF gnQ gbQ gE gtp glf gtr glh gov qo ko out) (hww a k ogM gnC gbC gnL gbL gnF gbF gnQ gbQ gE gtp glf gtr glh gov qo ko (vp_updL out (0 : Int32).toNatClampNeg r.toInt64)) 0 1 6 := by
  refine j_mm (cc := cL_poke) (maxL := 5) (own := RL) (by decide) rfl rfl (Nat.le_of_ble_eq_true rfl) ?_
  intro p e s m args below meth c A C K hr hlk htb hxw hxz
  refine j_aload_n (pc := 0) C 3 dL_poke_0 rfl rfl ?_
  refine j_iconst (pc := 1) (v := 0) C dL_poke_1 (by decide) ?_
  refine j_aload_n (pc := 2) C 0 dL_poke_2 rfl rfl ?_
  refine j_iload_n (pc := 3) C 1 dL_poke_3 rfl rfl ?_
  refine j_iload_n (pc := 4) C 2 dL_poke_4 rfl rfl ?_
  refine j_callVi (pc := 5) (As := [.int x1, .int x2]) (rest := [.int 0, .ref qo]) (ws' := (hww a k ogM gnC gbC gnL gbL gnF gbF gnQ gbQ gE gtp glf gtr glh gov qo ko out)) C K (ci := 2) (q0 := 0) rfl rfl rfl (ctX2_poke l D a k _ _ _ _ _ _ _ _ _ _ _ _ _ _ _ _ _ _ _ hF) gL_poke_X2_poke rfl rfl rfl hdyX2_poke ⟨Nat.le_of_ble_eq_true rfl, Nat.le_of_ble_eq_true rfl⟩ (List.range 19) rfl (by decide) (jspA rfl rfl) [0, 1, 2, 3, 4, 5] rfl rfl (Nat.le_of_ble_eq_true rfl) dL_poke_5 ⟨Nat.zero_le _, Nat.zero_le _⟩ ?_
  refine j_i2l (pc := 8) C dL_poke_8 ?_
  refine j_lastore (pc := 9) (ws' := (hww a k ogM gnC gbC gnL gbL gnF gbF gnQ gbQ gE gtp glf gtr glh gov qo ko (vp_updL out (0 : Int32).toNatClampNeg r.toInt64))) C K 19 6 rfl rfl (by decide) rfl dL_poke_9 ?_
  refine j_goto (pc := 10) (tgt := 17) C dL_poke_10 (by decide) ?_
  refine j_iconst (pc := 17) (v := 0) C dL_poke_17 (by decide) ?_
  exact j_mret (pc := 18) C K hr hlk (Nat.zero_le _) (Nat.zero_le _) dL_poke_18
set_option maxHeartbeats 4000000 in
set_option maxRecDepth 100000 in
theorem ctL_poke_thr (l : Launch) (hlt : l.stackTraces = false) (D : va_G) (a : Nat → Nat) (k : Nat → ClassId) (gM : Nat → Int32) (gnC : Int32) (gbC : Nat → Int32) (gnL : Int32) (gbL : Nat → Int32) (gnF : Int32) (gbF : Nat → Int32) (gnQ : Int32) (gbQ : Nat → Int32) (gE : Nat → Nat → Int32) (gtp : Int32) (glf : Int32) (gtr : Int32) (glh : Int32) (gov : Int32) (qo : Nat) (ko : ClassId) (out : Nat → Int64) (x1 x2 : Int32) (hF : FX2_isBelow x1 16384 = some 0) : jim l yL_poke wsL_poke { frames := 7, cells := 1, slots := 6, locals := 123 } D (htt k ko) [.ref (a 0), .int x1, .int x2, .ref qo] (hww a k gM gnC gbC gnL gbL gnF gbF gnQ gbQ gE gtp glf gtr glh gov qo ko out) (hww a k gM gnC gbC gnL gbL gnF gbF gnQ gbQ gE gtp glf gtr glh gov qo ko out) 1 1 6 := by
  refine j_mm (cc := cL_poke) (maxL := 5) (own := RL) (by decide) rfl rfl (Nat.le_of_ble_eq_true rfl) ?_
  intro p e s m args below meth c A C K hr hlk htb hxw hxz
  refine j_aload_n (pc := 0) C 3 dL_poke_0 rfl rfl ?_
  refine j_iconst (pc := 1) (v := 0) C dL_poke_1 (by decide) ?_
  refine j_aload_n (pc := 2) C 0 dL_poke_2 rfl rfl ?_
  refine j_iload_n (pc := 3) C 1 dL_poke_3 rfl rfl ?_
  refine j_iload_n (pc := 4) C 2 dL_poke_4 rfl rfl ?_
  refine j_callX (name := RL) (pc := 5) (As := [.int x1, .int x2]) (rest := [.int 0, .ref qo]) (ws' := (hww a k gM gnC gbC gnL gbL gnF gbF gnQ gbQ gE gtp glf gtr glh gov qo ko out)) (hpc := 13) C K hxw hxz (ci := 2) (q0 := 0) rfl rfl rfl (txX2_poke l hlt D a k _ _ _ _ _ _ _ _ _ _ _ _ _ _ _ _ _ hF) gL_poke_X2_poke rfl rfl rfl hdyX2_poke ⟨Nat.le_of_ble_eq_true rfl, Nat.le_of_ble_eq_true rfl⟩ (List.range 19) rfl (by decide) (jspA rfl rfl) [0, 1, 2, 3, 4, 5] rfl rfl (Nat.le_of_ble_eq_true rfl) dL_poke_5 ⟨Nat.le_of_ble_eq_true rfl, Nat.le_of_ble_eq_true rfl⟩ htb (by decide) (by decide) (by decide +kernel) rfl (fun qx => ?_)
  refine j_astore (pc := 13) (lv' := [(4, .ref qx), (0, .ref (a 0)), (1, .int x1), (2, .int x2), (3, .ref qo)]) C dL_poke_13 (by decide) rfl ?_
  refine j_iconst (pc := 15) (v := 1) C dL_poke_15 (by decide) ?_
  exact j_mret (pc := 16) C K hr hlk (Nat.le_of_ble_eq_true rfl) (Nat.le_of_ble_eq_true rfl) dL_poke_16
set_option maxHeartbeats 4000000 in
set_option maxRecDepth 100000 in
theorem ctL_peek_ret (l : Launch) (D : va_G) (a : Nat → Nat) (k : Nat → ClassId) (gM : Nat → Int32) (gnC : Int32) (gbC : Nat → Int32) (gnL : Int32) (gbL : Nat → Int32) (gnF : Int32) (gbF : Nat → Int32) (gnQ : Int32) (gbQ : Nat → Int32) (gE : Nat → Nat → Int32) (gtp : Int32) (glf : Int32) (gtr : Int32) (glh : Int32) (gov : Int32) (qo : Nat) (ko : ClassId) (out : Nat → Int64) (x1 : Int32) (r : Int32) (hF : FX2_peek x1 gM = some r) : jim l yL_peek wsL_peek { frames := 7, cells := 1, slots := 6, locals := 121 } D (htt k ko) [.ref (a 0), .int x1, .ref qo] (hww a k gM gnC gbC gnL gbL gnF gbF gnQ gbQ gE gtp glf gtr glh gov qo ko out) (hww a k gM gnC gbC gnL gbL gnF gbF gnQ gbQ gE gtp glf gtr glh gov qo ko (vp_updL out (0 : Int32).toNatClampNeg r.toInt64)) 0 1 6 := by
  refine j_mm (cc := cL_peek) (maxL := 4) (own := RL) (by decide) rfl rfl (Nat.le_of_ble_eq_true rfl) ?_
  intro p e s m args below meth c A C K hr hlk htb hxw hxz
  refine j_aload_n (pc := 0) C 2 dL_peek_0 rfl rfl ?_
  refine j_iconst (pc := 1) (v := 0) C dL_peek_1 (by decide) ?_
  refine j_aload_n (pc := 2) C 0 dL_peek_2 rfl rfl ?_
  refine j_iload_n (pc := 3) C 1 dL_peek_3 rfl rfl ?_
  refine j_callVi (pc := 4) (As := [.int x1]) (rest := [.int 0, .ref qo]) (ws' := (hww a k gM gnC gbC gnL gbL gnF gbF gnQ gbQ gE gtp glf gtr glh gov qo ko out)) C K (ci := 2) (q0 := 0) rfl rfl rfl (ctX2_peek l D a k _ _ _ _ _ _ _ _ _ _ _ _ _ _ _ _ _ hF) gL_peek_X2_peek rfl rfl rfl hdyX2_peek ⟨Nat.le_of_ble_eq_true rfl, Nat.le_of_ble_eq_true rfl⟩ (List.range 19) rfl (by decide) (jspA rfl rfl) [0, 1, 2, 3, 4, 5] rfl rfl (Nat.le_of_ble_eq_true rfl) dL_peek_4 ⟨Nat.zero_le _, Nat.zero_le _⟩ ?_
  refine j_i2l (pc := 7) C dL_peek_7 ?_
  refine j_lastore (pc := 8) (ws' := (hww a k gM gnC gbC gnL gbL gnF gbF gnQ gbQ gE gtp glf gtr glh gov qo ko (vp_updL out (0 : Int32).toNatClampNeg r.toInt64))) C K 19 6 rfl rfl (by decide) rfl dL_peek_8 ?_
  refine j_goto (pc := 9) (tgt := 15) C dL_peek_9 (by decide) ?_
  refine j_iconst (pc := 15) (v := 0) C dL_peek_15 (by decide) ?_
  exact j_mret (pc := 16) C K hr hlk (Nat.zero_le _) (Nat.zero_le _) dL_peek_16
set_option maxHeartbeats 4000000 in
set_option maxRecDepth 100000 in
theorem ctL_peek_thr (l : Launch) (hlt : l.stackTraces = false) (D : va_G) (a : Nat → Nat) (k : Nat → ClassId) (gM : Nat → Int32) (gnC : Int32) (gbC : Nat → Int32) (gnL : Int32) (gbL : Nat → Int32) (gnF : Int32) (gbF : Nat → Int32) (gnQ : Int32) (gbQ : Nat → Int32) (gE : Nat → Nat → Int32) (gtp : Int32) (glf : Int32) (gtr : Int32) (glh : Int32) (gov : Int32) (qo : Nat) (ko : ClassId) (out : Nat → Int64) (x1 : Int32) (hF : FX2_isBelow x1 16384 = some 0) : jim l yL_peek wsL_peek { frames := 7, cells := 1, slots := 6, locals := 121 } D (htt k ko) [.ref (a 0), .int x1, .ref qo] (hww a k gM gnC gbC gnL gbL gnF gbF gnQ gbQ gE gtp glf gtr glh gov qo ko out) (hww a k gM gnC gbC gnL gbL gnF gbF gnQ gbQ gE gtp glf gtr glh gov qo ko out) 1 1 6 := by
  refine j_mm (cc := cL_peek) (maxL := 4) (own := RL) (by decide) rfl rfl (Nat.le_of_ble_eq_true rfl) ?_
  intro p e s m args below meth c A C K hr hlk htb hxw hxz
  refine j_aload_n (pc := 0) C 2 dL_peek_0 rfl rfl ?_
  refine j_iconst (pc := 1) (v := 0) C dL_peek_1 (by decide) ?_
  refine j_aload_n (pc := 2) C 0 dL_peek_2 rfl rfl ?_
  refine j_iload_n (pc := 3) C 1 dL_peek_3 rfl rfl ?_
  refine j_callX (name := RL) (pc := 4) (As := [.int x1]) (rest := [.int 0, .ref qo]) (ws' := (hww a k gM gnC gbC gnL gbL gnF gbF gnQ gbQ gE gtp glf gtr glh gov qo ko out)) (hpc := 12) C K hxw hxz (ci := 2) (q0 := 0) rfl rfl rfl (txX2_peek l hlt D a k _ _ _ _ _ _ _ _ _ _ _ _ _ _ _ _ hF) gL_peek_X2_peek rfl rfl rfl hdyX2_peek ⟨Nat.le_of_ble_eq_true rfl, Nat.le_of_ble_eq_true rfl⟩ (List.range 19) rfl (by decide) (jspA rfl rfl) [0, 1, 2, 3, 4, 5] rfl rfl (Nat.le_of_ble_eq_true rfl) dL_peek_4 ⟨Nat.le_of_ble_eq_true rfl, Nat.le_of_ble_eq_true rfl⟩ htb (by decide) (by decide) (by decide +kernel) rfl (fun qx => ?_)
  refine j_astore_n (pc := 12) (lv' := [(3, .ref qx), (0, .ref (a 0)), (1, .int x1), (2, .ref qo)]) C dL_peek_12 rfl (by decide) rfl ?_
  refine j_iconst (pc := 13) (v := 1) C dL_peek_13 (by decide) ?_
  exact j_mret (pc := 14) C K hr hlk (Nat.le_of_ble_eq_true rfl) (Nat.le_of_ble_eq_true rfl) dL_peek_14
set_option maxHeartbeats 4000000 in
set_option maxRecDepth 100000 in
theorem ctL_read_ret (l : Launch) (D : va_G) (a : Nat → Nat) (k : Nat → ClassId) (gM : Nat → Int32) (gnC : Int32) (gbC : Nat → Int32) (gnL : Int32) (gbL : Nat → Int32) (gnF : Int32) (gbF : Nat → Int32) (gnQ : Int32) (gbQ : Nat → Int32) (gE : Nat → Nat → Int32) (gtp : Int32) (glf : Int32) (gtr : Int32) (glh : Int32) (gov : Int32) (qo : Nat) (ko : ClassId) (out : Nat → Int64) (x1 x2 : Int32) (r : Int32) (ognC : Int32) (ogbC : Nat → Int32) (ognL : Int32) (ogbL : Nat → Int32) (ognF : Int32) (ogbF : Nat → Int32) (oglf : Int32) (ogtr : Int32) (oglh : Int32) (ogov : Int32) (hF : FX2_read x1 x2 gM gnC gbC gnL gbL gnF gbF gtp glf gtr glh gov = some (r, ognC, ogbC, ognL, ogbL, ognF, ogbF, oglf, ogtr, oglh, ogov)) : jim l yL_read wsL_read { frames := 7, cells := 1, slots := 6, locals := 168 } D (htt k ko) [.ref (a 0), .int x1, .int x2, .ref qo] (hww a k gM gnC gbC gnL gbL gnF gbF gnQ gbQ gE gtp glf gtr glh gov qo ko out) (hww a k gM ognC ogbC ognL ogbL ognF ogbF gnQ gbQ gE gtp oglf ogtr oglh ogov qo ko (vp_updL out (0 : Int32).toNatClampNeg r.toInt64)) 0 1 6 := by
  refine j_mm (cc := cL_read) (maxL := 5) (own := RL) (by decide) rfl rfl (Nat.le_of_ble_eq_true rfl) ?_
  intro p e s m args below meth c A C K hr hlk htb hxw hxz
  refine j_aload_n (pc := 0) C 3 dL_read_0 rfl rfl ?_
  refine j_iconst (pc := 1) (v := 0) C dL_read_1 (by decide) ?_
  refine j_aload_n (pc := 2) C 0 dL_read_2 rfl rfl ?_
  refine j_iload_n (pc := 3) C 1 dL_read_3 rfl rfl ?_
  refine j_iload_n (pc := 4) C 2 dL_read_4 rfl rfl ?_
  refine j_callVi (pc := 5) (As := [.int x1, .int x2]) (rest := [.int 0, .ref qo]) (ws' := (hww a k gM ognC ogbC ognL ogbL ognF ogbF gnQ gbQ gE gtp oglf ogtr oglh ogov qo ko out)) C K (ci := 2) (q0 := 0) rfl rfl rfl (ctX2_read l D a k _ _ _ _ _ _ _ _ _ _ _ _ _ _ _ _ _ _ _ _ _ _ _ _ _ _ _ _ hF) gL_read_X2_read rfl rfl rfl hdyX2_read ⟨Nat.le_of_ble_eq_true rfl, Nat.le_of_ble_eq_true rfl⟩ (List.range 19) rfl (by decide) (jspA rfl rfl) [0, 1, 2, 3, 4, 5] rfl rfl (Nat.le_of_ble_eq_true rfl) dL_read_5 ⟨Nat.zero_le _, Nat.zero_le _⟩ ?_
  refine j_i2l (pc := 8) C dL_read_8 ?_
  refine j_lastore (pc := 9) (ws' := (hww a k gM ognC ogbC ognL ogbL ognF ogbF gnQ gbQ gE gtp oglf ogtr oglh ogov qo ko (vp_updL out (0 : Int32).toNatClampNeg r.toInt64))) C K 19 6 rfl rfl (by decide) rfl dL_read_9 ?_
  refine j_goto (pc := 10) (tgt := 17) C dL_read_10 (by decide) ?_
  refine j_iconst (pc := 17) (v := 0) C dL_read_17 (by decide) ?_
  exact j_mret (pc := 18) C K hr hlk (Nat.zero_le _) (Nat.zero_le _) dL_read_18
set_option maxHeartbeats 4000000 in
set_option maxRecDepth 100000 in
theorem ctL_read_thr (l : Launch) (hlt : l.stackTraces = false) (D : va_G) (a : Nat → Nat) (k : Nat → ClassId) (gM : Nat → Int32) (gnC : Int32) (gbC : Nat → Int32) (gnL : Int32) (gbL : Nat → Int32) (gnF : Int32) (gbF : Nat → Int32) (gnQ : Int32) (gbQ : Nat → Int32) (gE : Nat → Nat → Int32) (gtp : Int32) (glf : Int32) (gtr : Int32) (glh : Int32) (gov : Int32) (qo : Nat) (ko : ClassId) (out : Nat → Int64) (x1 x2 : Int32) (hF : FX2_isBelow x1 8 = some 0) : jim l yL_read wsL_read { frames := 7, cells := 1, slots := 6, locals := 168 } D (htt k ko) [.ref (a 0), .int x1, .int x2, .ref qo] (hww a k gM gnC gbC gnL gbL gnF gbF gnQ gbQ gE gtp glf gtr glh gov qo ko out) (hww a k gM gnC gbC gnL gbL gnF gbF gnQ gbQ gE gtp 0 gtr glh gov qo ko out) 1 1 6 := by
  refine j_mm (cc := cL_read) (maxL := 5) (own := RL) (by decide) rfl rfl (Nat.le_of_ble_eq_true rfl) ?_
  intro p e s m args below meth c A C K hr hlk htb hxw hxz
  refine j_aload_n (pc := 0) C 3 dL_read_0 rfl rfl ?_
  refine j_iconst (pc := 1) (v := 0) C dL_read_1 (by decide) ?_
  refine j_aload_n (pc := 2) C 0 dL_read_2 rfl rfl ?_
  refine j_iload_n (pc := 3) C 1 dL_read_3 rfl rfl ?_
  refine j_iload_n (pc := 4) C 2 dL_read_4 rfl rfl ?_
  refine j_callX (name := RL) (pc := 5) (As := [.int x1, .int x2]) (rest := [.int 0, .ref qo]) (ws' := (hww a k gM gnC gbC gnL gbL gnF gbF gnQ gbQ gE gtp 0 gtr glh gov qo ko out)) (hpc := 13) C K hxw hxz (ci := 2) (q0 := 0) rfl rfl rfl (txX2_read l hlt D a k _ _ _ _ _ _ _ _ _ _ _ _ _ _ _ _ _ hF) gL_read_X2_read rfl rfl rfl hdyX2_read ⟨Nat.le_of_ble_eq_true rfl, Nat.le_of_ble_eq_true rfl⟩ (List.range 19) rfl (by decide) (jspA rfl rfl) [0, 1, 2, 3, 4, 5] rfl rfl (Nat.le_of_ble_eq_true rfl) dL_read_5 ⟨Nat.le_of_ble_eq_true rfl, Nat.le_of_ble_eq_true rfl⟩ htb (by decide) (by decide) (by decide +kernel) rfl (fun qx => ?_)
  refine j_astore (pc := 13) (lv' := [(4, .ref qx), (0, .ref (a 0)), (1, .int x1), (2, .int x2), (3, .ref qo)]) C dL_read_13 (by decide) rfl ?_
  refine j_iconst (pc := 15) (v := 1) C dL_read_15 (by decide) ?_
  exact j_mret (pc := 16) C K hr hlk (Nat.le_of_ble_eq_true rfl) (Nat.le_of_ble_eq_true rfl) dL_read_16

def FX2_isBelow (x0 x1 : Int32) : Option (Int32) := if x0 < 0 then some 0 else if x1 ≤ x0 then some 0 else some 1
def FX2_placeIn (x0 x1 : Int32) : Option (Int32) := some ((x0 <<< ((8 : Int32) &&& 31)) ||| x1)
def FX2_pageOf (x0 : Int32) : Option (Int32) := some ((x0 >>> ((8 : Int32) &&& 31)) &&& (63 : Int32))
def FX2_contextPlace (x1 : Int32) (gtp : Int32) : Option (Int32) := some (gtp + ((2 : Int32) * x1))
def FX2_wordAt (x1 : Int32) (gM : Nat → Int32) : Option (Int32) := bd1 (FX2_isBelow x1 16384) (fun rq1 => if rq1 = 0 then some 0 else gd (inb x1 16384) (some (gM x1.toNatClampNeg)))
def FX2_setWord (x1 x2 : Int32) (gM : Nat → Int32) : Option (Int32 × (Nat → Int32)) := bd1 (FX2_isBelow x1 16384) (fun rq1 => if rq1 = 0 then some (0, gM) else gd (inb x1 16384) (some (1, (upd gM x1.toNatClampNeg x2))))
def FX2_fill_55 (x1 x2 x3 x4 : Int32) : Nat → (Nat → Int32) → Int32 → Int32 → Int32 → Option (Int32 × (Nat → Int32))
  | 0, _, _, _, _ => none
  | n + 1, gM, v6, v7, v8 => if v6 ≤ v8 then some (v6, gM) else bd2 (FX2_setWord (x1 + v8) v7 gM) (fun rq7 q7gM => FX2_fill_55 x1 x2 x3 x4 n q7gM v6 (v7 + x4) (v8 + 1))
def FX2_fill_33 (x1 x2 x3 x4 : Int32) (gM : Nat → Int32) (s0 : Int32) : Option (Int32 × (Nat → Int32)) := if s0 ≤ x2 then FX2_fill_55 x1 x2 x3 x4 fuel gM s0 x3 0 else FX2_fill_55 x1 x2 x3 x4 fuel gM x2 x3 0
def FX2_fill (x1 x2 x3 x4 : Int32) (gM : Nat → Int32) : Option (Int32 × (Nat → Int32)) := if x1 < 0 then some ((-1), gM) else if x2 < 0 then some ((-1), gM) else if x2 ≤ 256 then if 16384 ≤ x1 then FX2_fill_33 x1 x2 x3 x4 gM 0 else FX2_fill_33 x1 x2 x3 x4 gM ((16384 : Int32) - x1) else some ((-1), gM)
def FX2_table (x1 : Int32) (gtp : Int32) : Option (Int32 × Int32) := if x1 < 0 then some (0, gtp) else if 16368 < x1 then some (0, gtp) else if (x1 &&& (15 : Int32)) = 0 then some (1, x1) else some (0, gtp)
def FX2_context (x1 x2 x3 x4 : Int32) (gM : Nat → Int32) (gtp : Int32) : Option (Int32 × (Nat → Int32)) := bd1 (FX2_isBelow x1 8) (fun rq1 => if rq1 = 0 then some (0, gM) else bd1 (FX2_isBelow x3 64) (fun rq3 => if rq3 = 0 then some (0, gM) else bd1 (FX2_isBelow x4 16) (fun rq5 => if rq5 = 0 then some (0, gM) else bd1 (FX2_contextPlace x1 gtp) (fun rq7 => if x2 = 0 then bd2 (FX2_setWord rq7 (((1 : Int32) ||| (0 : Int32)) ||| (x3 <<< ((8 : Int32) &&& 31))) gM) (fun rq9 q9gM => bd2 (FX2_setWord (rq7 + 1) x4 q9gM) (fun rq10 q10gM => some (1, q10gM))) else bd2 (FX2_setWord rq7 (((1 : Int32) ||| (2 : Int32)) ||| (x3 <<< ((8 : Int32) &&& 31))) gM) (fun rq11 q11gM => bd2 (FX2_setWord (rq7 + 1) x4 q11gM) (fun rq12 q12gM => some (1, q12gM)))))))
def FX2_enter (x1 x2 x3 x4 x5 : Int32) (gM : Nat → Int32) : Option (Int32 × (Nat → Int32)) := bd1 (FX2_isBelow x1 64) (fun rq1 => if rq1 = 0 then some (0, gM) else bd1 (FX2_isBelow x2 16) (fun rq3 => if rq3 = 0 then some (0, gM) else bd1 (FX2_isBelow x3 4) (fun rq5 => if rq5 = 0 then some (0, gM) else bd1 (FX2_isBelow x5 64) (fun rq7 => if rq7 = 0 then some (0, gM) else bd1 (FX2_placeIn x1 x2) (fun rq9 => if x4 = 0 then bd2 (FX2_setWord rq9 ((((1 : Int32) ||| (x3 <<< ((1 : Int32) &&& 31))) ||| (0 : Int32)) ||| (x5 <<< ((8 : Int32) &&& 31))) gM) (fun rq11 q11gM => some (1, q11gM)) else bd2 (FX2_setWord rq9 ((((1 : Int32) ||| (x3 <<< ((1 : Int32) &&& 31))) ||| (8 : Int32)) ||| (x5 <<< ((8 : Int32) &&& 31))) gM) (fun rq12 q12gM => some (1, q12gM)))))))
theorem hdyX2_isBelow : yX2_isBelow.cls ≠ "java/lang/invoke/MethodHandle" ∧ yX2_isBelow.cls ≠ "java/lang/invoke/VarHandle" ∧ (parseMethodDescriptor yX2_isBelow.desc).map (fun d => d.parameters.length) = some 2 := by decide +kernel
set_option maxHeartbeats 4000000 in
set_option maxRecDepth 100000 in
theorem ctX2_isBelow (l : Launch) (D : va_G) (x0 x1 : Int32) (r : Int32) (hF : FX2_isBelow x0 x1 = some r) : ji l yX2_isBelow wsX2_isBelow { frames := 0, cells := 0, slots := 0, locals := 0 } D [] [.int x0, .int x1] [] [] r := by
  refine j_mi (cc := cX2_isBelow) (maxL := 2) (own := RX2) (ret := (some .boolean)) (by decide) rfl rfl (Nat.le_of_ble_eq_true rfl) ?_
  intro p e s m args below meth c A C K hr hlk
  unfold FX2_isBelow at hF
  refine j_iload_n (pc := 0) C 0 dX2_isBelow_0 rfl rfl ?_
  refine j_if_lt (pc := 1) (tgt := 13) C dX2_isBelow_1 (by decide) (fun c1 => ?_) (fun c1 => ?_)
  · replace hF := ifp hF c1
    refine j_iconst (pc := 13) (v := 0) C dX2_isBelow_13 (by decide) ?_
    cases hF
    exact j_zret (pc := 14) C K hr hlk rfl dX2_isBelow_14
  · replace hF := ifn hF c1
    refine j_iload_n (pc := 4) C 0 dX2_isBelow_4 rfl rfl ?_
    refine j_iload_n (pc := 5) C 1 dX2_isBelow_5 rfl rfl ?_
    refine j_icmp_ge (pc := 6) (tgt := 13) C dX2_isBelow_6 (by decide) (fun c2 => ?_) (fun c2 => ?_)
    · replace hF := ifp hF c2
      refine j_iconst (pc := 13) (v := 0) C dX2_isBelow_13 (by decide) ?_
      cases hF
      exact j_zret (pc := 14) C K hr hlk rfl dX2_isBelow_14
    · replace hF := ifn hF c2
      refine j_iconst (pc := 9) (v := 1) C dX2_isBelow_9 (by decide) ?_
      refine j_goto (pc := 10) (tgt := 14) C dX2_isBelow_10 (by decide) ?_
      cases hF
      exact j_zret (pc := 14) C K hr hlk rfl dX2_isBelow_14
theorem hdyX2_placeIn : yX2_placeIn.cls ≠ "java/lang/invoke/MethodHandle" ∧ yX2_placeIn.cls ≠ "java/lang/invoke/VarHandle" ∧ (parseMethodDescriptor yX2_placeIn.desc).map (fun d => d.parameters.length) = some 2 := by decide +kernel
set_option maxHeartbeats 4000000 in
set_option maxRecDepth 100000 in
theorem ctX2_placeIn (l : Launch) (D : va_G) (x0 x1 : Int32) (r : Int32) (hF : FX2_placeIn x0 x1 = some r) : ji l yX2_placeIn wsX2_placeIn { frames := 0, cells := 0, slots := 0, locals := 0 } D [] [.int x0, .int x1] [] [] r := by
  refine j_mi (cc := cX2_placeIn) (maxL := 2) (own := RX2) (ret := (some .int)) (by decide) rfl rfl (Nat.le_of_ble_eq_true rfl) ?_
  intro p e s m args below meth c A C K hr hlk
  unfold FX2_placeIn at hF
  refine j_iload_n (pc := 0) C 0 dX2_placeIn_0 rfl rfl ?_
  refine j_bipush (pc := 1) (v := 8) C dX2_placeIn_1 (by decide) ?_
  refine j_ishl (pc := 3) C dX2_placeIn_3 ?_
  refine j_iload_n (pc := 4) C 1 dX2_placeIn_4 rfl rfl ?_
  refine j_ior (pc := 5) C dX2_placeIn_5 ?_
  cases hF
  exact j_iret (pc := 6) C K hr hlk dX2_placeIn_6
theorem hdyX2_pageOf : yX2_pageOf.cls ≠ "java/lang/invoke/MethodHandle" ∧ yX2_pageOf.cls ≠ "java/lang/invoke/VarHandle" ∧ (parseMethodDescriptor yX2_pageOf.desc).map (fun d => d.parameters.length) = some 1 := by decide +kernel
set_option maxHeartbeats 4000000 in
set_option maxRecDepth 100000 in
theorem ctX2_pageOf (l : Launch) (D : va_G) (x0 : Int32) (r : Int32) (hF : FX2_pageOf x0 = some r) : ji l yX2_pageOf wsX2_pageOf { frames := 0, cells := 0, slots := 0, locals := 0 } D [] [.int x0] [] [] r := by
  refine j_mi (cc := cX2_pageOf) (maxL := 1) (own := RX2) (ret := (some .int)) (by decide) rfl rfl (Nat.le_of_ble_eq_true rfl) ?_
  intro p e s m args below meth c A C K hr hlk
  unfold FX2_pageOf at hF
  refine j_iload_n (pc := 0) C 0 dX2_pageOf_0 rfl rfl ?_
  refine j_bipush (pc := 1) (v := 8) C dX2_pageOf_1 (by decide) ?_
  refine j_ishr (pc := 3) C dX2_pageOf_3 ?_
  refine j_bipush (pc := 4) (v := 63) C dX2_pageOf_4 (by decide) ?_
  refine j_iand (pc := 6) C dX2_pageOf_6 ?_
  cases hF
  exact j_iret (pc := 7) C K hr hlk dX2_pageOf_7
theorem lkX2_contextPlace_37 : Cond.fieldLink RX2 37 (TX2 6).1 (TX2 6).2.1 (TX2 6).2.2.1 ∈ wsX2_contextPlace := by decide +kernel
theorem inX2_contextPlace_X2 : ∀ w ∈ u_ws RX2 TX2 11, w ∈ wsX2_contextPlace := by decide +kernel
theorem hdyX2_contextPlace : yX2_contextPlace.cls = RX2 ∧ yX2_contextPlace.cls ≠ "java/lang/invoke/MethodHandle" ∧ yX2_contextPlace.cls ≠ "java/lang/invoke/VarHandle" ∧ (parseMethodDescriptor yX2_contextPlace.desc).map (fun d => d.parameters.length) = some 1 := by decide +kernel
set_option maxHeartbeats 4000000 in
set_option maxRecDepth 100000 in
theorem ctX2_contextPlace (l : Launch) (D : va_G) (a : Nat → Nat) (k : Nat → ClassId) (gM : Nat → Int32) (gnC : Int32) (gbC : Nat → Int32) (gnL : Int32) (gbL : Nat → Int32) (gnF : Int32) (gbF : Nat → Int32) (gnQ : Int32) (gbQ : Nat → Int32) (gE : Nat → Nat → Int32) (gtp : Int32) (glf : Int32) (gtr : Int32) (glh : Int32) (gov : Int32) (x1 : Int32) (r : Int32) (hF : FX2_contextPlace x1 gtp = some r) : ji l yX2_contextPlace wsX2_contextPlace { frames := 0, cells := 0, slots := 0, locals := 0 } D (gt k) [.ref (a 0), .int x1] (gw a k gM gnC gbC gnL gbL gnF gbF gnQ gbQ gE gtp glf gtr glh gov) (gw a k gM gnC gbC gnL gbL gnF gbF gnQ gbQ gE gtp glf gtr glh gov) r := by
  refine j_mi (cc := cX2_contextPlace) (maxL := 2) (own := RX2) (ret := (some .int)) (by decide) rfl rfl (Nat.le_of_ble_eq_true rfl) ?_
  intro p e s m args below meth c A C K hr hlk
  unfold FX2_contextPlace at hF
  refine j_aload_n (pc := 0) C 0 dX2_contextPlace_0 rfl rfl ?_
  refine j_get (pc := 1) (v := .int gtp) C K inX2_contextPlace_X2 0 rfl rfl 6 (by decide) lkX2_contextPlace_37 rfl dX2_contextPlace_1 ?_
  refine j_iconst (pc := 4) (v := 2) C dX2_contextPlace_4 (by decide) ?_
  refine j_iload_n (pc := 5) C 1 dX2_contextPlace_5 rfl rfl ?_
  refine j_imul (pc := 6) C dX2_contextPlace_6 ?_
  refine j_iadd (pc := 7) C dX2_contextPlace_7 ?_
  cases hF
  exact j_iret (pc := 8) C K hr hlk dX2_contextPlace_8
theorem lkX2_wordAt_9 : Cond.fieldLink RX2 9 (TX2 0).1 (TX2 0).2.1 (TX2 0).2.2.1 ∈ wsX2_wordAt := by decide +kernel
theorem inX2_wordAt_X2 : ∀ w ∈ u_ws RX2 TX2 11, w ∈ wsX2_wordAt := by decide +kernel
theorem hdyX2_wordAt : yX2_wordAt.cls = RX2 ∧ yX2_wordAt.cls ≠ "java/lang/invoke/MethodHandle" ∧ yX2_wordAt.cls ≠ "java/lang/invoke/VarHandle" ∧ (parseMethodDescriptor yX2_wordAt.desc).map (fun d => d.parameters.length) = some 1 := by decide +kernel
set_option maxHeartbeats 4000000 in
set_option maxRecDepth 100000 in
theorem ctX2_wordAt (l : Launch) (D : va_G) (a : Nat → Nat) (k : Nat → ClassId) (gM : Nat → Int32) (gnC : Int32) (gbC : Nat → Int32) (gnL : Int32) (gbL : Nat → Int32) (gnF : Int32) (gbF : Nat → Int32) (gnQ : Int32) (gbQ : Nat → Int32) (gE : Nat → Nat → Int32) (gtp : Int32) (glf : Int32) (gtr : Int32) (glh : Int32) (gov : Int32) (x1 : Int32) (r : Int32) (hF : FX2_wordAt x1 gM = some r) : ji l yX2_wordAt wsX2_wordAt { frames := 1, cells := 0, slots := 0, locals := 21 } D (gt k) [.ref (a 0), .int x1] (gw a k gM gnC gbC gnL gbL gnF gbF gnQ gbQ gE gtp glf gtr glh gov) (gw a k gM gnC gbC gnL gbL gnF gbF gnQ gbQ gE gtp glf gtr glh gov) r := by
  refine j_mi (cc := cX2_wordAt) (maxL := 2) (own := RX2) (ret := (some .int)) (by decide) rfl rfl (Nat.le_of_ble_eq_true rfl) ?_
  intro p e s m args below meth c A C K hr hlk
  unfold FX2_wordAt at hF
  refine j_iload_n (pc := 0) C 1 dX2_wordAt_0 rfl rfl ?_
  refine j_sipush (pc := 1) (v := 16384) C dX2_wordAt_1 (by decide) ?_
  obtain ⟨rq1, hq1, hF⟩ := bd1_some hF
  refine j_callSi (pc := 4) (As := [.int x1, .int 16384]) (rest := []) (ws' := (gw a k gM gnC gbC gnL gbL gnF gbF gnQ gbQ gE gtp glf gtr glh gov)) C K (ctX2_isBelow l D  _ _ _ hq1) gX2_wordAt_X2_isBelow rfl rfl rfl hdyX2_isBelow ⟨Nat.le_of_ble_eq_true rfl, Nat.le_of_ble_eq_true rfl⟩ [] rfl rfl jsp0 [] rfl rfl (Nat.le_of_ble_eq_true rfl) dX2_wordAt_4 ⟨Nat.zero_le _, Nat.zero_le _⟩ ?_
  refine j_if_eq (pc := 7) (tgt := 19) C dX2_wordAt_7 (by decide) (fun c2 => ?_) (fun c2 => ?_)
  · replace hF := ifp hF c2
    refine j_iconst (pc := 19) (v := 0) C dX2_wordAt_19 (by decide) ?_
    cases hF
    exact j_iret (pc := 20) C K hr hlk dX2_wordAt_20
  · replace hF := ifn hF c2
    refine j_aload_n (pc := 10) C 0 dX2_wordAt_10 rfl rfl ?_
    refine j_get (pc := 11) (v := .ref (a 1)) C K inX2_wordAt_X2 0 rfl rfl 0 (by decide) lkX2_wordAt_9 rfl dX2_wordAt_11 ?_
    refine j_iload_n (pc := 14) C 1 dX2_wordAt_14 rfl rfl ?_
    obtain ⟨g3, hF⟩ := gd_some hF
    refine j_iald (pc := 15) C K 1 0 rfl rfl g3 dX2_wordAt_15 ?_
    refine j_goto (pc := 16) (tgt := 20) C dX2_wordAt_16 (by decide) ?_
    cases hF
    exact j_iret (pc := 20) C K hr hlk dX2_wordAt_20
theorem lkX2_setWord_9 : Cond.fieldLink RX2 9 (TX2 0).1 (TX2 0).2.1 (TX2 0).2.2.1 ∈ wsX2_setWord := by decide +kernel
theorem inX2_setWord_X2 : ∀ w ∈ u_ws RX2 TX2 11, w ∈ wsX2_setWord := by decide +kernel
theorem hdyX2_setWord : yX2_setWord.cls = RX2 ∧ yX2_setWord.cls ≠ "java/lang/invoke/MethodHandle" ∧ yX2_setWord.cls ≠ "java/lang/invoke/VarHandle" ∧ (parseMethodDescriptor yX2_setWord.desc).map (fun d => d.parameters.length) = some 2 := by decide +kernel
set_option maxHeartbeats 4000000 in
set_option maxRecDepth 100000 in
theorem ctX2_setWord (l : Launch) (D : va_G) (a : Nat → Nat) (k : Nat → ClassId) (gM : Nat → Int32) (gnC : Int32) (gbC : Nat → Int32) (gnL : Int32) (gbL : Nat → Int32) (gnF : Int32) (gbF : Nat → Int32) (gnQ : Int32) (gbQ : Nat → Int32) (gE : Nat → Nat → Int32) (gtp : Int32) (glf : Int32) (gtr : Int32) (glh : Int32) (gov : Int32) (x1 x2 : Int32) (r : Int32) (ogM : Nat → Int32) (hF : FX2_setWord x1 x2 gM = some (r, ogM)) : ji l yX2_setWord wsX2_setWord { frames := 1, cells := 0, slots := 0, locals := 21 } D (gt k) [.ref (a 0), .int x1, .int x2] (gw a k gM gnC gbC gnL gbL gnF gbF gnQ gbQ gE gtp glf gtr glh gov) (gw a k ogM gnC gbC gnL gbL gnF gbF gnQ gbQ gE gtp glf gtr glh gov) r := by
  refine j_mi (cc := cX2_setWord) (maxL := 3) (own := RX2) (ret := (some .boolean)) (by decide) rfl rfl (Nat.le_of_ble_eq_true rfl) ?_
  intro p e s m args below meth c A C K hr hlk
  unfold FX2_setWord at hF
  refine j_iload_n (pc := 0) C 1 dX2_setWord_0 rfl rfl ?_
  refine j_sipush (pc := 1) (v := 16384) C dX2_setWord_1 (by decide) ?_
  obtain ⟨rq1, hq1, hF⟩ := bd1_some hF
  refine j_callSi (pc := 4) (As := [.int x1, .int 16384]) (rest := []) (ws' := (gw a k gM gnC gbC gnL gbL gnF gbF gnQ gbQ gE gtp glf gtr glh gov)) C K (ctX2_isBelow l D  _ _ _ hq1) gX2_setWord_X2_isBelow rfl rfl rfl hdyX2_isBelow ⟨Nat.le_of_ble_eq_true rfl, Nat.le_of_ble_eq_true rfl⟩ [] rfl rfl jsp0 [] rfl rfl (Nat.le_of_ble_eq_true rfl) dX2_setWord_4 ⟨Nat.zero_le _, Nat.zero_le _⟩ ?_
  refine j_if_ne (pc := 7) (tgt := 12) C dX2_setWord_7 (by decide) (fun c2 => ?_) (fun c2 => ?_)
  · replace hF := ifn hF c2
    refine j_aload_n (pc := 12) C 0 dX2_setWord_12 rfl rfl ?_
    refine j_get (pc := 13) (v := .ref (a 1)) C K inX2_setWord_X2 0 rfl rfl 0 (by decide) lkX2_setWord_9 rfl dX2_setWord_13 ?_
    refine j_iload_n (pc := 16) C 1 dX2_setWord_16 rfl rfl ?_
    refine j_iload_n (pc := 17) C 2 dX2_setWord_17 rfl rfl ?_
    obtain ⟨g3, hF⟩ := gd_some hF
    refine j_iast (pc := 18) (ws' := (gw a k (upd gM x1.toNatClampNeg x2) gnC gbC gnL gbL gnF gbF gnQ gbQ gE gtp glf gtr glh gov)) C K 1 0 rfl rfl g3 rfl dX2_setWord_18 ?_
    refine j_iconst (pc := 19) (v := 1) C dX2_setWord_19 (by decide) ?_
    cases hF
    exact j_zret (pc := 20) C K hr hlk rfl dX2_setWord_20
  · replace hF := ifp hF c2
    refine j_iconst (pc := 10) (v := 0) C dX2_setWord_10 (by decide) ?_
    cases hF
    exact j_zret (pc := 11) C K hr hlk rfl dX2_setWord_11
theorem hdyX2_fill : yX2_fill.cls = RX2 ∧ yX2_fill.cls ≠ "java/lang/invoke/MethodHandle" ∧ yX2_fill.cls ≠ "java/lang/invoke/VarHandle" ∧ (parseMethodDescriptor yX2_fill.desc).map (fun d => d.parameters.length) = some 4 := by decide +kernel
set_option maxHeartbeats 4000000 in
set_option maxRecDepth 100000 in
theorem ctX2_fill (l : Launch) (D : va_G) (a : Nat → Nat) (k : Nat → ClassId) (gM : Nat → Int32) (gnC : Int32) (gbC : Nat → Int32) (gnL : Int32) (gbL : Nat → Int32) (gnF : Int32) (gbF : Nat → Int32) (gnQ : Int32) (gbQ : Nat → Int32) (gE : Nat → Nat → Int32) (gtp : Int32) (glf : Int32) (gtr : Int32) (glh : Int32) (gov : Int32) (x1 x2 x3 x4 : Int32) (r : Int32) (ogM : Nat → Int32) (hF : FX2_fill x1 x2 x3 x4 gM = some (r, ogM)) : ji l yX2_fill wsX2_fill { frames := 2, cells := 0, slots := 0, locals := 43 } D (gt k) [.ref (a 0), .int x1, .int x2, .int x3, .int x4] (gw a k gM gnC gbC gnL gbL gnF gbF gnQ gbQ gE gtp glf gtr glh gov) (gw a k ogM gnC gbC gnL gbL gnF gbF gnQ gbQ gE gtp glf gtr glh gov) r := by
  refine j_mi (cc := cX2_fill) (maxL := 9) (own := RX2) (ret := (some .int)) (by decide) rfl rfl (Nat.le_of_ble_eq_true rfl) ?_
  intro p e s m args below meth c A C K hr hlk
  have K55 : ∀ (n : Nat) (gM : Nat → Int32) (v6 v7 v8 : Int32), FX2_fill_55 x1 x2 x3 x4 n gM v6 v7 v8 = some (r, ogM) → jw p l e ({ frames := 2, cells := 0, slots := 0, locals := 43 } : Room) s m args below meth c 9 D A 0 0 (jqi below D (gt k) args s A (gw a k ogM gnC gbC gnL gbL gnF gbF gnQ gbQ gE gtp glf gtr glh gov) r) (gw a k gM gnC gbC gnL gbL gnF gbF gnQ gbQ gE gtp glf gtr glh gov) [(0, .ref (a 0)), (1, .int x1), (4, .int x4), (6, .int v6), (7, .int v7), (8, .int v8)] 55 [] := by
    intro n
    induction n with
    | zero =>
      intro gM v6 v7 v8 hF
      rw [FX2_fill_55] at hF
      cases hF
    | succ n ih =>
      intro gM v6 v7 v8 hF
      rw [FX2_fill_55] at hF
      refine j_iload (pc := 55) C 5 dX2_fill_55 rfl ?_
      refine j_iload (pc := 57) C 3 dX2_fill_57 rfl ?_
      refine j_icmp_ge (pc := 59) (tgt := 86) C dX2_fill_59 (by decide) (fun c6 => ?_) (fun c6 => ?_)
      · replace hF := ifp hF c6
        refine j_iload (pc := 86) C 3 dX2_fill_86 rfl ?_
        cases hF
        exact j_iret (pc := 88) C K hr hlk dX2_fill_88
      · replace hF := ifn hF c6
        refine j_aload_n (pc := 62) C 0 dX2_fill_62 rfl rfl ?_
        refine j_iload_n (pc := 63) C 1 dX2_fill_63 rfl rfl ?_
        refine j_iload (pc := 64) C 5 dX2_fill_64 rfl ?_
        refine j_iadd (pc := 66) C dX2_fill_66 ?_
        refine j_iload (pc := 67) C 4 dX2_fill_67 rfl ?_
        obtain ⟨rq7, q7gM, hq7, hF⟩ := bd2_some hF
        refine j_callVi (pc := 69) (As := [.int (x1 + v8), .int v7]) (rest := []) (ws' := (gw a k q7gM gnC gbC gnL gbL gnF gbF gnQ gbQ gE gtp glf gtr glh gov)) C K (ci := 2) (q0 := 0) rfl rfl rfl (ctX2_setWord l D a k _ _ _ _ _ _ _ _ _ _ _ _ _ _ _ _ _ _ _ hq7) gX2_fill_X2_setWord rfl rfl rfl hdyX2_setWord ⟨Nat.le_of_ble_eq_true rfl, Nat.le_of_ble_eq_true rfl⟩ (List.range 19) (jrange _) (by decide) (jspF rfl) [0, 1, 2, 3, 4, 5] rfl rfl (Nat.le_of_ble_eq_true rfl) dX2_fill_69 ⟨Nat.zero_le _, Nat.zero_le _⟩ ?_
        refine j_pop (pc := 72) C dX2_fill_72 rfl ?_
        refine j_iload (pc := 73) C 4 dX2_fill_73 rfl ?_
        refine j_iload (pc := 75) C 2 dX2_fill_75 rfl ?_
        refine j_iadd (pc := 77) C dX2_fill_77 ?_
        refine j_istore (pc := 78) (lv' := [(7, .int (v7 + x4)), (0, .ref (a 0)), (1, .int x1), (4, .int x4), (6, .int v6), (8, .int v8)]) C dX2_fill_78 (by decide) rfl ?_
        refine j_iinc (pc := 80) (v := (v8 + 1)) (lv' := [(8, .int (v8 + 1)), (7, .int (v7 + x4)), (0, .ref (a 0)), (1, .int x1), (4, .int x4), (6, .int v6)]) C 5 dX2_fill_80 rfl rfl (by decide) rfl ?_
        refine j_goto (pc := 83) (tgt := 55) C dX2_fill_83 (by decide) ?_
        exact j_lv [2, 3, 4, 5, 1, 0] rfl (ih _ _ _ _ hF)
  have K33 : ∀ (gM : Nat → Int32) (s0 : Int32), FX2_fill_33 x1 x2 x3 x4 gM s0 = some (r, ogM) → jw p l e ({ frames := 2, cells := 0, slots := 0, locals := 43 } : Room) s m args below meth c 9 D A 0 0 (jqi below D (gt k) args s A (gw a k ogM gnC gbC gnL gbL gnF gbF gnQ gbQ gE gtp glf gtr glh gov) r) (gw a k gM gnC gbC gnL gbL gnF gbF gnQ gbQ gE gtp glf gtr glh gov) [(0, .ref (a 0)), (1, .int x1), (2, .int x2), (3, .int x3), (4, .int x4)] 33 [.int s0] := by
    intro gM s0 hF
    unfold FX2_fill_33 at hF
    refine j_istore (pc := 33) (lv' := [(5, .int s0), (0, .ref (a 0)), (1, .int x1), (2, .int x2), (3, .int x3), (4, .int x4)]) C dX2_fill_33 (by decide) rfl ?_
    refine j_iload_n (pc := 35) C 3 dX2_fill_35 rfl rfl ?_
    refine j_iload (pc := 36) C 0 dX2_fill_36 rfl ?_
    refine j_icmp_ge (pc := 38) (tgt := 45) C dX2_fill_38 (by decide) (fun c5 => ?_) (fun c5 => ?_)
    · replace hF := ifp hF c5
      refine j_iload (pc := 45) C 0 dX2_fill_45 rfl ?_
      refine j_istore (pc := 47) (lv' := [(6, .int s0), (5, .int s0), (0, .ref (a 0)), (1, .int x1), (2, .int x2), (3, .int x3), (4, .int x4)]) C dX2_fill_47 (by decide) rfl ?_
      refine j_iload_n (pc := 49) C 5 dX2_fill_49 rfl rfl ?_
      refine j_istore (pc := 50) (lv' := [(7, .int x3), (6, .int s0), (5, .int s0), (0, .ref (a 0)), (1, .int x1), (2, .int x2), (3, .int x3), (4, .int x4)]) C dX2_fill_50 (by decide) rfl ?_
      refine j_iconst (pc := 52) (v := 0) C dX2_fill_52 (by decide) ?_
      refine j_istore (pc := 53) (lv' := [(8, .int 0), (7, .int x3), (6, .int s0), (5, .int s0), (0, .ref (a 0)), (1, .int x1), (2, .int x2), (3, .int x3), (4, .int x4)]) C dX2_fill_53 (by decide) rfl ?_
      exact j_lv [4, 5, 8, 2, 1, 0] rfl (K55 _ _ _ _ _ hF)
    · replace hF := ifn hF c5
      refine j_iload_n (pc := 41) C 3 dX2_fill_41 rfl rfl ?_
      refine j_goto (pc := 42) (tgt := 47) C dX2_fill_42 (by decide) ?_
      refine j_istore (pc := 47) (lv' := [(6, .int x2), (5, .int s0), (0, .ref (a 0)), (1, .int x1), (2, .int x2), (3, .int x3), (4, .int x4)]) C dX2_fill_47 (by decide) rfl ?_
      refine j_iload_n (pc := 49) C 5 dX2_fill_49 rfl rfl ?_
      refine j_istore (pc := 50) (lv' := [(7, .int x3), (6, .int x2), (5, .int s0), (0, .ref (a 0)), (1, .int x1), (2, .int x2), (3, .int x3), (4, .int x4)]) C dX2_fill_50 (by decide) rfl ?_
      refine j_iconst (pc := 52) (v := 0) C dX2_fill_52 (by decide) ?_
      refine j_istore (pc := 53) (lv' := [(8, .int 0), (7, .int x3), (6, .int x2), (5, .int s0), (0, .ref (a 0)), (1, .int x1), (2, .int x2), (3, .int x3), (4, .int x4)]) C dX2_fill_53 (by decide) rfl ?_
      exact j_lv [4, 5, 8, 2, 1, 0] rfl (K55 _ _ _ _ _ hF)
  unfold FX2_fill at hF
  refine j_iload_n (pc := 0) C 1 dX2_fill_0 rfl rfl ?_
  refine j_if_lt (pc := 1) (tgt := 15) C dX2_fill_1 (by decide) (fun c1 => ?_) (fun c1 => ?_)
  · replace hF := ifp hF c1
    refine j_iconst (pc := 15) (v := (-1)) C dX2_fill_15 (by decide) ?_
    cases hF
    exact j_iret (pc := 16) C K hr hlk dX2_fill_16
  · replace hF := ifn hF c1
    refine j_iload_n (pc := 4) C 2 dX2_fill_4 rfl rfl ?_
    refine j_if_lt (pc := 5) (tgt := 15) C dX2_fill_5 (by decide) (fun c2 => ?_) (fun c2 => ?_)
    · replace hF := ifp hF c2
      refine j_iconst (pc := 15) (v := (-1)) C dX2_fill_15 (by decide) ?_
      cases hF
      exact j_iret (pc := 16) C K hr hlk dX2_fill_16
    · replace hF := ifn hF c2
      refine j_iload_n (pc := 8) C 2 dX2_fill_8 rfl rfl ?_
      refine j_sipush (pc := 9) (v := 256) C dX2_fill_9 (by decide) ?_
      refine j_icmp_le (pc := 12) (tgt := 17) C dX2_fill_12 (by decide) (fun c3 => ?_) (fun c3 => ?_)
      · replace hF := ifp hF c3
        refine j_iload_n (pc := 17) C 1 dX2_fill_17 rfl rfl ?_
        refine j_sipush (pc := 18) (v := 16384) C dX2_fill_18 (by decide) ?_
        refine j_icmp_ge (pc := 21) (tgt := 32) C dX2_fill_21 (by decide) (fun c4 => ?_) (fun c4 => ?_)
        · replace hF := ifp hF c4
          refine j_iconst (pc := 32) (v := 0) C dX2_fill_32 (by decide) ?_
          exact j_lv [0, 1, 2, 3, 4] rfl (K33 _ _ hF)
        · replace hF := ifn hF c4
          refine j_sipush (pc := 24) (v := 16384) C dX2_fill_24 (by decide) ?_
          refine j_iload_n (pc := 27) C 1 dX2_fill_27 rfl rfl ?_
          refine j_isub (pc := 28) C dX2_fill_28 ?_
          refine j_goto (pc := 29) (tgt := 33) C dX2_fill_29 (by decide) ?_
          exact j_lv [0, 1, 2, 3, 4] rfl (K33 _ _ hF)
      · replace hF := ifn hF c3
        refine j_iconst (pc := 15) (v := (-1)) C dX2_fill_15 (by decide) ?_
        cases hF
        exact j_iret (pc := 16) C K hr hlk dX2_fill_16
theorem lkX2_table_37 : Cond.fieldLink RX2 37 (TX2 6).1 (TX2 6).2.1 (TX2 6).2.2.1 ∈ wsX2_table := by decide +kernel
theorem inX2_table_X2 : ∀ w ∈ u_ws RX2 TX2 11, w ∈ wsX2_table := by decide +kernel
theorem hdyX2_table : yX2_table.cls = RX2 ∧ yX2_table.cls ≠ "java/lang/invoke/MethodHandle" ∧ yX2_table.cls ≠ "java/lang/invoke/VarHandle" ∧ (parseMethodDescriptor yX2_table.desc).map (fun d => d.parameters.length) = some 1 := by decide +kernel
set_option maxHeartbeats 4000000 in
set_option maxRecDepth 100000 in
theorem ctX2_table (l : Launch) (D : va_G) (a : Nat → Nat) (k : Nat → ClassId) (gM : Nat → Int32) (gnC : Int32) (gbC : Nat → Int32) (gnL : Int32) (gbL : Nat → Int32) (gnF : Int32) (gbF : Nat → Int32) (gnQ : Int32) (gbQ : Nat → Int32) (gE : Nat → Nat → Int32) (gtp : Int32) (glf : Int32) (gtr : Int32) (glh : Int32) (gov : Int32) (x1 : Int32) (r : Int32) (ogtp : Int32) (hF : FX2_table x1 gtp = some (r, ogtp)) : ji l yX2_table wsX2_table { frames := 0, cells := 0, slots := 0, locals := 0 } D (gt k) [.ref (a 0), .int x1] (gw a k gM gnC gbC gnL gbL gnF gbF gnQ gbQ gE gtp glf gtr glh gov) (gw a k gM gnC gbC gnL gbL gnF gbF gnQ gbQ gE ogtp glf gtr glh gov) r := by
  refine j_mi (cc := cX2_table) (maxL := 2) (own := RX2) (ret := (some .boolean)) (by decide) rfl rfl (Nat.le_of_ble_eq_true rfl) ?_
  intro p e s m args below meth c A C K hr hlk
  unfold FX2_table at hF
  refine j_iload_n (pc := 0) C 1 dX2_table_0 rfl rfl ?_
  refine j_if_lt (pc := 1) (tgt := 18) C dX2_table_1 (by decide) (fun c1 => ?_) (fun c1 => ?_)
  · replace hF := ifp hF c1
    refine j_iconst (pc := 18) (v := 0) C dX2_table_18 (by decide) ?_
    cases hF
    exact j_zret (pc := 19) C K hr hlk rfl dX2_table_19
  · replace hF := ifn hF c1
    refine j_iload_n (pc := 4) C 1 dX2_table_4 rfl rfl ?_
    refine j_sipush (pc := 5) (v := 16368) C dX2_table_5 (by decide) ?_
    refine j_icmp_gt (pc := 8) (tgt := 18) C dX2_table_8 (by decide) (fun c2 => ?_) (fun c2 => ?_)
    · replace hF := ifp hF c2
      refine j_iconst (pc := 18) (v := 0) C dX2_table_18 (by decide) ?_
      cases hF
      exact j_zret (pc := 19) C K hr hlk rfl dX2_table_19
    · replace hF := ifn hF c2
      refine j_iload_n (pc := 11) C 1 dX2_table_11 rfl rfl ?_
      refine j_bipush (pc := 12) (v := 15) C dX2_table_12 (by decide) ?_
      refine j_iand (pc := 14) C dX2_table_14 ?_
      refine j_if_eq (pc := 15) (tgt := 20) C dX2_table_15 (by decide) (fun c3 => ?_) (fun c3 => ?_)
      · replace hF := ifp hF c3
        refine j_aload_n (pc := 20) C 0 dX2_table_20 rfl rfl ?_
        refine j_iload_n (pc := 21) C 1 dX2_table_21 rfl rfl ?_
        refine j_put (pc := 22) (ws' := (gw a k gM gnC gbC gnL gbL gnF gbF gnQ gbQ gE x1 glf gtr glh gov)) C K inX2_table_X2 tyX2 tyX2_ok nmX2 0 rfl rfl 6 (by decide) lkX2_table_37 rfl (tyX2_ok 6 (by decide)) rfl rfl (Nat.le_of_ble_eq_true rfl) rfl dX2_table_22 ?_
        refine j_iconst (pc := 25) (v := 1) C dX2_table_25 (by decide) ?_
        cases hF
        exact j_zret (pc := 26) C K hr hlk rfl dX2_table_26
      · replace hF := ifn hF c3
        refine j_iconst (pc := 18) (v := 0) C dX2_table_18 (by decide) ?_
        cases hF
        exact j_zret (pc := 19) C K hr hlk rfl dX2_table_19
theorem hdyX2_context : yX2_context.cls = RX2 ∧ yX2_context.cls ≠ "java/lang/invoke/MethodHandle" ∧ yX2_context.cls ≠ "java/lang/invoke/VarHandle" ∧ (parseMethodDescriptor yX2_context.desc).map (fun d => d.parameters.length) = some 4 := by decide +kernel
set_option maxHeartbeats 4000000 in
set_option maxRecDepth 100000 in
theorem ctX2_context (l : Launch) (D : va_G) (a : Nat → Nat) (k : Nat → ClassId) (gM : Nat → Int32) (gnC : Int32) (gbC : Nat → Int32) (gnL : Int32) (gbL : Nat → Int32) (gnF : Int32) (gbF : Nat → Int32) (gnQ : Int32) (gbQ : Nat → Int32) (gE : Nat → Nat → Int32) (gtp : Int32) (glf : Int32) (gtr : Int32) (glh : Int32) (gov : Int32) (x1 x2 x3 x4 : Int32) (r : Int32) (ogM : Nat → Int32) (hF : FX2_context x1 x2 x3 x4 gM gtp = some (r, ogM)) : ji l yX2_context wsX2_context { frames := 2, cells := 0, slots := 0, locals := 43 } D (gt k) [.ref (a 0), .int x1, .int x2, .int x3, .int x4] (gw a k gM gnC gbC gnL gbL gnF gbF gnQ gbQ gE gtp glf gtr glh gov) (gw a k ogM gnC gbC gnL gbL gnF gbF gnQ gbQ gE gtp glf gtr glh gov) r := by
  refine j_mi (cc := cX2_context) (maxL := 6) (own := RX2) (ret := (some .boolean)) (by decide) rfl rfl (Nat.le_of_ble_eq_true rfl) ?_
  intro p e s m args below meth c A C K hr hlk
  unfold FX2_context at hF
  refine j_iload_n (pc := 0) C 1 dX2_context_0 rfl rfl ?_
  refine j_bipush (pc := 1) (v := 8) C dX2_context_1 (by decide) ?_
  obtain ⟨rq1, hq1, hF⟩ := bd1_some hF
  refine j_callSi (pc := 3) (As := [.int x1, .int 8]) (rest := []) (ws' := (gw a k gM gnC gbC gnL gbL gnF gbF gnQ gbQ gE gtp glf gtr glh gov)) C K (ctX2_isBelow l D  _ _ _ hq1) gX2_context_X2_isBelow rfl rfl rfl hdyX2_isBelow ⟨Nat.le_of_ble_eq_true rfl, Nat.le_of_ble_eq_true rfl⟩ [] rfl rfl jsp0 [] rfl rfl (Nat.le_of_ble_eq_true rfl) dX2_context_3 ⟨Nat.zero_le _, Nat.zero_le _⟩ ?_
  refine j_if_eq (pc := 6) (tgt := 28) C dX2_context_6 (by decide) (fun c2 => ?_) (fun c2 => ?_)
  · replace hF := ifp hF c2
    refine j_iconst (pc := 28) (v := 0) C dX2_context_28 (by decide) ?_
    cases hF
    exact j_zret (pc := 29) C K hr hlk rfl dX2_context_29
  · replace hF := ifn hF c2
    refine j_iload_n (pc := 9) C 3 dX2_context_9 rfl rfl ?_
    refine j_bipush (pc := 10) (v := 64) C dX2_context_10 (by decide) ?_
    obtain ⟨rq3, hq3, hF⟩ := bd1_some hF
    refine j_callSi (pc := 12) (As := [.int x3, .int 64]) (rest := []) (ws' := (gw a k gM gnC gbC gnL gbL gnF gbF gnQ gbQ gE gtp glf gtr glh gov)) C K (ctX2_isBelow l D  _ _ _ hq3) gX2_context_X2_isBelow rfl rfl rfl hdyX2_isBelow ⟨Nat.le_of_ble_eq_true rfl, Nat.le_of_ble_eq_true rfl⟩ [] rfl rfl jsp0 [] rfl rfl (Nat.le_of_ble_eq_true rfl) dX2_context_12 ⟨Nat.zero_le _, Nat.zero_le _⟩ ?_
    refine j_if_eq (pc := 15) (tgt := 28) C dX2_context_15 (by decide) (fun c4 => ?_) (fun c4 => ?_)
    · replace hF := ifp hF c4
      refine j_iconst (pc := 28) (v := 0) C dX2_context_28 (by decide) ?_
      cases hF
      exact j_zret (pc := 29) C K hr hlk rfl dX2_context_29
    · replace hF := ifn hF c4
      refine j_iload (pc := 18) C 4 dX2_context_18 rfl ?_
      refine j_bipush (pc := 20) (v := 16) C dX2_context_20 (by decide) ?_
      obtain ⟨rq5, hq5, hF⟩ := bd1_some hF
      refine j_callSi (pc := 22) (As := [.int x4, .int 16]) (rest := []) (ws' := (gw a k gM gnC gbC gnL gbL gnF gbF gnQ gbQ gE gtp glf gtr glh gov)) C K (ctX2_isBelow l D  _ _ _ hq5) gX2_context_X2_isBelow rfl rfl rfl hdyX2_isBelow ⟨Nat.le_of_ble_eq_true rfl, Nat.le_of_ble_eq_true rfl⟩ [] rfl rfl jsp0 [] rfl rfl (Nat.le_of_ble_eq_true rfl) dX2_context_22 ⟨Nat.zero_le _, Nat.zero_le _⟩ ?_
      refine j_if_ne (pc := 25) (tgt := 30) C dX2_context_25 (by decide) (fun c6 => ?_) (fun c6 => ?_)
      · replace hF := ifn hF c6
        refine j_aload_n (pc := 30) C 0 dX2_context_30 rfl rfl ?_
        refine j_iload_n (pc := 31) C 1 dX2_context_31 rfl rfl ?_
        obtain ⟨rq7, hq7, hF⟩ := bd1_some hF
        refine j_callVi (pc := 32) (As := [.int x1]) (rest := []) (ws' := (gw a k gM gnC gbC gnL gbL gnF gbF gnQ gbQ gE gtp glf gtr glh gov)) C K (ci := 2) (q0 := 0) rfl rfl rfl (ctX2_contextPlace l D a k _ _ _ _ _ _ _ _ _ _ _ _ _ _ _ _ _ hq7) gX2_context_X2_contextPlace rfl rfl rfl hdyX2_contextPlace ⟨Nat.le_of_ble_eq_true rfl, Nat.le_of_ble_eq_true rfl⟩ (List.range 19) (jrange _) (by decide) (jspF rfl) [0, 1, 2, 3, 4, 5] rfl rfl (Nat.le_of_ble_eq_true rfl) dX2_context_32 ⟨Nat.zero_le _, Nat.zero_le _⟩ ?_
        refine j_istore (pc := 35) (lv' := [(5, .int rq7), (0, .ref (a 0)), (1, .int x1), (2, .int x2), (3, .int x3), (4, .int x4)]) C dX2_context_35 (by decide) rfl ?_
        refine j_aload_n (pc := 37) C 1 dX2_context_37 rfl rfl ?_
        refine j_iload (pc := 38) C 0 dX2_context_38 rfl ?_
        refine j_iconst (pc := 40) (v := 1) C dX2_context_40 (by decide) ?_
        refine j_iload_n (pc := 41) C 3 dX2_context_41 rfl rfl ?_
        refine j_if_eq (pc := 42) (tgt := 49) C dX2_context_42 (by decide) (fun c8 => ?_) (fun c8 => ?_)
        · replace hF := ifp hF c8
          refine j_iconst (pc := 49) (v := 0) C dX2_context_49 (by decide) ?_
          refine j_ior (pc := 50) C dX2_context_50 ?_
          refine j_iload_n (pc := 51) C 4 dX2_context_51 rfl rfl ?_
          refine j_bipush (pc := 52) (v := 8) C dX2_context_52 (by decide) ?_
          refine j_ishl (pc := 54) C dX2_context_54 ?_
          refine j_ior (pc := 55) C dX2_context_55 ?_
          obtain ⟨rq9, q9gM, hq9, hF⟩ := bd2_some hF
          refine j_callVi (pc := 56) (As := [.int rq7, .int (((1 : Int32) ||| (0 : Int32)) ||| (x3 <<< ((8 : Int32) &&& 31)))]) (rest := []) (ws' := (gw a k q9gM gnC gbC gnL gbL gnF gbF gnQ gbQ gE gtp glf gtr glh gov)) C K (ci := 2) (q0 := 0) rfl rfl rfl (ctX2_setWord l D a k _ _ _ _ _ _ _ _ _ _ _ _ _ _ _ _ _ _ _ hq9) gX2_context_X2_setWord rfl rfl rfl hdyX2_setWord ⟨Nat.le_of_ble_eq_true rfl, Nat.le_of_ble_eq_true rfl⟩ (List.range 19) (jrange _) (by decide) (jspF rfl) [0, 1, 2, 3, 4, 5] rfl rfl (Nat.le_of_ble_eq_true rfl) dX2_context_56 ⟨Nat.zero_le _, Nat.zero_le _⟩ ?_
          refine j_pop (pc := 59) C dX2_context_59 rfl ?_
          refine j_aload_n (pc := 60) C 1 dX2_context_60 rfl rfl ?_
          refine j_iload (pc := 61) C 0 dX2_context_61 rfl ?_
          refine j_iconst (pc := 63) (v := 1) C dX2_context_63 (by decide) ?_
          refine j_iadd (pc := 64) C dX2_context_64 ?_
          refine j_iload (pc := 65) C 5 dX2_context_65 rfl ?_
          obtain ⟨rq10, q10gM, hq10, hF⟩ := bd2_some hF
          refine j_callVi (pc := 67) (As := [.int (rq7 + 1), .int x4]) (rest := []) (ws' := (gw a k q10gM gnC gbC gnL gbL gnF gbF gnQ gbQ gE gtp glf gtr glh gov)) C K (ci := 2) (q0 := 0) rfl rfl rfl (ctX2_setWord l D a k _ _ _ _ _ _ _ _ _ _ _ _ _ _ _ _ _ _ _ hq10) gX2_context_X2_setWord rfl rfl rfl hdyX2_setWord ⟨Nat.le_of_ble_eq_true rfl, Nat.le_of_ble_eq_true rfl⟩ (List.range 19) (jrange _) (by decide) (jspF rfl) [0, 1, 2, 3, 4, 5] rfl rfl (Nat.le_of_ble_eq_true rfl) dX2_context_67 ⟨Nat.zero_le _, Nat.zero_le _⟩ ?_
          refine j_pop (pc := 70) C dX2_context_70 rfl ?_
          refine j_iconst (pc := 71) (v := 1) C dX2_context_71 (by decide) ?_
          cases hF
          exact j_zret (pc := 72) C K hr hlk rfl dX2_context_72
        · replace hF := ifn hF c8
          refine j_iconst (pc := 45) (v := 2) C dX2_context_45 (by decide) ?_
          refine j_goto (pc := 46) (tgt := 50) C dX2_context_46 (by decide) ?_
          refine j_ior (pc := 50) C dX2_context_50 ?_
          refine j_iload_n (pc := 51) C 4 dX2_context_51 rfl rfl ?_
          refine j_bipush (pc := 52) (v := 8) C dX2_context_52 (by decide) ?_
          refine j_ishl (pc := 54) C dX2_context_54 ?_
          refine j_ior (pc := 55) C dX2_context_55 ?_
          obtain ⟨rq11, q11gM, hq11, hF⟩ := bd2_some hF
          refine j_callVi (pc := 56) (As := [.int rq7, .int (((1 : Int32) ||| (2 : Int32)) ||| (x3 <<< ((8 : Int32) &&& 31)))]) (rest := []) (ws' := (gw a k q11gM gnC gbC gnL gbL gnF gbF gnQ gbQ gE gtp glf gtr glh gov)) C K (ci := 2) (q0 := 0) rfl rfl rfl (ctX2_setWord l D a k _ _ _ _ _ _ _ _ _ _ _ _ _ _ _ _ _ _ _ hq11) gX2_context_X2_setWord rfl rfl rfl hdyX2_setWord ⟨Nat.le_of_ble_eq_true rfl, Nat.le_of_ble_eq_true rfl⟩ (List.range 19) (jrange _) (by decide) (jspF rfl) [0, 1, 2, 3, 4, 5] rfl rfl (Nat.le_of_ble_eq_true rfl) dX2_context_56 ⟨Nat.zero_le _, Nat.zero_le _⟩ ?_
          refine j_pop (pc := 59) C dX2_context_59 rfl ?_
          refine j_aload_n (pc := 60) C 1 dX2_context_60 rfl rfl ?_
          refine j_iload (pc := 61) C 0 dX2_context_61 rfl ?_
          refine j_iconst (pc := 63) (v := 1) C dX2_context_63 (by decide) ?_
          refine j_iadd (pc := 64) C dX2_context_64 ?_
          refine j_iload (pc := 65) C 5 dX2_context_65 rfl ?_
          obtain ⟨rq12, q12gM, hq12, hF⟩ := bd2_some hF
          refine j_callVi (pc := 67) (As := [.int (rq7 + 1), .int x4]) (rest := []) (ws' := (gw a k q12gM gnC gbC gnL gbL gnF gbF gnQ gbQ gE gtp glf gtr glh gov)) C K (ci := 2) (q0 := 0) rfl rfl rfl (ctX2_setWord l D a k _ _ _ _ _ _ _ _ _ _ _ _ _ _ _ _ _ _ _ hq12) gX2_context_X2_setWord rfl rfl rfl hdyX2_setWord ⟨Nat.le_of_ble_eq_true rfl, Nat.le_of_ble_eq_true rfl⟩ (List.range 19) (jrange _) (by decide) (jspF rfl) [0, 1, 2, 3, 4, 5] rfl rfl (Nat.le_of_ble_eq_true rfl) dX2_context_67 ⟨Nat.zero_le _, Nat.zero_le _⟩ ?_
          refine j_pop (pc := 70) C dX2_context_70 rfl ?_
          refine j_iconst (pc := 71) (v := 1) C dX2_context_71 (by decide) ?_
          cases hF
          exact j_zret (pc := 72) C K hr hlk rfl dX2_context_72
      · replace hF := ifp hF c6
        refine j_iconst (pc := 28) (v := 0) C dX2_context_28 (by decide) ?_
        cases hF
        exact j_zret (pc := 29) C K hr hlk rfl dX2_context_29
theorem hdyX2_enter : yX2_enter.cls = RX2 ∧ yX2_enter.cls ≠ "java/lang/invoke/MethodHandle" ∧ yX2_enter.cls ≠ "java/lang/invoke/VarHandle" ∧ (parseMethodDescriptor yX2_enter.desc).map (fun d => d.parameters.length) = some 5 := by decide +kernel
set_option maxHeartbeats 4000000 in
set_option maxRecDepth 100000 in
theorem ctX2_enter (l : Launch) (D : va_G) (a : Nat → Nat) (k : Nat → ClassId) (gM : Nat → Int32) (gnC : Int32) (gbC : Nat → Int32) (gnL : Int32) (gbL : Nat → Int32) (gnF : Int32) (gbF : Nat → Int32) (gnQ : Int32) (gbQ : Nat → Int32) (gE : Nat → Nat → Int32) (gtp : Int32) (glf : Int32) (gtr : Int32) (glh : Int32) (gov : Int32) (x1 x2 x3 x4 x5 : Int32) (r : Int32) (ogM : Nat → Int32) (hF : FX2_enter x1 x2 x3 x4 x5 gM = some (r, ogM)) : ji l yX2_enter wsX2_enter { frames := 2, cells := 0, slots := 0, locals := 43 } D (gt k) [.ref (a 0), .int x1, .int x2, .int x3, .int x4, .int x5] (gw a k gM gnC gbC gnL gbL gnF gbF gnQ gbQ gE gtp glf gtr glh gov) (gw a k ogM gnC gbC gnL gbL gnF gbF gnQ gbQ gE gtp glf gtr glh gov) r := by
  refine j_mi (cc := cX2_enter) (maxL := 6) (own := RX2) (ret := (some .boolean)) (by decide) rfl rfl (Nat.le_of_ble_eq_true rfl) ?_
  intro p e s m args below meth c A C K hr hlk
  unfold FX2_enter at hF
  refine j_iload_n (pc := 0) C 1 dX2_enter_0 rfl rfl ?_
  refine j_bipush (pc := 1) (v := 64) C dX2_enter_1 (by decide) ?_
  obtain ⟨rq1, hq1, hF⟩ := bd1_some hF
  refine j_callSi (pc := 3) (As := [.int x1, .int 64]) (rest := []) (ws' := (gw a k gM gnC gbC gnL gbL gnF gbF gnQ gbQ gE gtp glf gtr glh gov)) C K (ctX2_isBelow l D  _ _ _ hq1) gX2_enter_X2_isBelow rfl rfl rfl hdyX2_isBelow ⟨Nat.le_of_ble_eq_true rfl, Nat.le_of_ble_eq_true rfl⟩ [] rfl rfl jsp0 [] rfl rfl (Nat.le_of_ble_eq_true rfl) dX2_enter_3 ⟨Nat.zero_le _, Nat.zero_le _⟩ ?_
  refine j_if_eq (pc := 6) (tgt := 36) C dX2_enter_6 (by decide) (fun c2 => ?_) (fun c2 => ?_)
  · replace hF := ifp hF c2
    refine j_iconst (pc := 36) (v := 0) C dX2_enter_36 (by decide) ?_
    cases hF
    exact j_zret (pc := 37) C K hr hlk rfl dX2_enter_37
  · replace hF := ifn hF c2
    refine j_iload_n (pc := 9) C 2 dX2_enter_9 rfl rfl ?_
    refine j_bipush (pc := 10) (v := 16) C dX2_enter_10 (by decide) ?_
    obtain ⟨rq3, hq3, hF⟩ := bd1_some hF
    refine j_callSi (pc := 12) (As := [.int x2, .int 16]) (rest := []) (ws' := (gw a k gM gnC gbC gnL gbL gnF gbF gnQ gbQ gE gtp glf gtr glh gov)) C K (ctX2_isBelow l D  _ _ _ hq3) gX2_enter_X2_isBelow rfl rfl rfl hdyX2_isBelow ⟨Nat.le_of_ble_eq_true rfl, Nat.le_of_ble_eq_true rfl⟩ [] rfl rfl jsp0 [] rfl rfl (Nat.le_of_ble_eq_true rfl) dX2_enter_12 ⟨Nat.zero_le _, Nat.zero_le _⟩ ?_
    refine j_if_eq (pc := 15) (tgt := 36) C dX2_enter_15 (by decide) (fun c4 => ?_) (fun c4 => ?_)
    · replace hF := ifp hF c4
      refine j_iconst (pc := 36) (v := 0) C dX2_enter_36 (by decide) ?_
      cases hF
      exact j_zret (pc := 37) C K hr hlk rfl dX2_enter_37
    · replace hF := ifn hF c4
      refine j_iload_n (pc := 18) C 3 dX2_enter_18 rfl rfl ?_
      refine j_iconst (pc := 19) (v := 4) C dX2_enter_19 (by decide) ?_
      obtain ⟨rq5, hq5, hF⟩ := bd1_some hF
      refine j_callSi (pc := 20) (As := [.int x3, .int 4]) (rest := []) (ws' := (gw a k gM gnC gbC gnL gbL gnF gbF gnQ gbQ gE gtp glf gtr glh gov)) C K (ctX2_isBelow l D  _ _ _ hq5) gX2_enter_X2_isBelow rfl rfl rfl hdyX2_isBelow ⟨Nat.le_of_ble_eq_true rfl, Nat.le_of_ble_eq_true rfl⟩ [] rfl rfl jsp0 [] rfl rfl (Nat.le_of_ble_eq_true rfl) dX2_enter_20 ⟨Nat.zero_le _, Nat.zero_le _⟩ ?_
      refine j_if_eq (pc := 23) (tgt := 36) C dX2_enter_23 (by decide) (fun c6 => ?_) (fun c6 => ?_)
      · replace hF := ifp hF c6
        refine j_iconst (pc := 36) (v := 0) C dX2_enter_36 (by decide) ?_
        cases hF
        exact j_zret (pc := 37) C K hr hlk rfl dX2_enter_37
      · replace hF := ifn hF c6
        refine j_iload (pc := 26) C 5 dX2_enter_26 rfl ?_
        refine j_bipush (pc := 28) (v := 64) C dX2_enter_28 (by decide) ?_
        obtain ⟨rq7, hq7, hF⟩ := bd1_some hF
        refine j_callSi (pc := 30) (As := [.int x5, .int 64]) (rest := []) (ws' := (gw a k gM gnC gbC gnL gbL gnF gbF gnQ gbQ gE gtp glf gtr glh gov)) C K (ctX2_isBelow l D  _ _ _ hq7) gX2_enter_X2_isBelow rfl rfl rfl hdyX2_isBelow ⟨Nat.le_of_ble_eq_true rfl, Nat.le_of_ble_eq_true rfl⟩ [] rfl rfl jsp0 [] rfl rfl (Nat.le_of_ble_eq_true rfl) dX2_enter_30 ⟨Nat.zero_le _, Nat.zero_le _⟩ ?_
        refine j_if_ne (pc := 33) (tgt := 38) C dX2_enter_33 (by decide) (fun c8 => ?_) (fun c8 => ?_)
        · replace hF := ifn hF c8
          refine j_aload_n (pc := 38) C 0 dX2_enter_38 rfl rfl ?_
          refine j_iload_n (pc := 39) C 1 dX2_enter_39 rfl rfl ?_
          refine j_iload_n (pc := 40) C 2 dX2_enter_40 rfl rfl ?_
          obtain ⟨rq9, hq9, hF⟩ := bd1_some hF
          refine j_callSi (pc := 41) (As := [.int x1, .int x2]) (rest := [.ref (a 0)]) (ws' := (gw a k gM gnC gbC gnL gbL gnF gbF gnQ gbQ gE gtp glf gtr glh gov)) C K (ctX2_placeIn l D  _ _ _ hq9) gX2_enter_X2_placeIn rfl rfl rfl hdyX2_placeIn ⟨Nat.le_of_ble_eq_true rfl, Nat.le_of_ble_eq_true rfl⟩ [] rfl rfl jsp0 [] rfl rfl (Nat.le_of_ble_eq_true rfl) dX2_enter_41 ⟨Nat.zero_le _, Nat.zero_le _⟩ ?_
          refine j_iconst (pc := 44) (v := 1) C dX2_enter_44 (by decide) ?_
          refine j_iload_n (pc := 45) C 3 dX2_enter_45 rfl rfl ?_
          refine j_iconst (pc := 46) (v := 1) C dX2_enter_46 (by decide) ?_
          refine j_ishl (pc := 47) C dX2_enter_47 ?_
          refine j_ior (pc := 48) C dX2_enter_48 ?_
          refine j_iload (pc := 49) C 4 dX2_enter_49 rfl ?_
          refine j_if_eq (pc := 51) (tgt := 59) C dX2_enter_51 (by decide) (fun c10 => ?_) (fun c10 => ?_)
          · replace hF := ifp hF c10
            refine j_iconst (pc := 59) (v := 0) C dX2_enter_59 (by decide) ?_
            refine j_ior (pc := 60) C dX2_enter_60 ?_
            refine j_iload (pc := 61) C 5 dX2_enter_61 rfl ?_
            refine j_bipush (pc := 63) (v := 8) C dX2_enter_63 (by decide) ?_
            refine j_ishl (pc := 65) C dX2_enter_65 ?_
            refine j_ior (pc := 66) C dX2_enter_66 ?_
            obtain ⟨rq11, q11gM, hq11, hF⟩ := bd2_some hF
            refine j_callVi (pc := 67) (As := [.int rq9, .int ((((1 : Int32) ||| (x3 <<< ((1 : Int32) &&& 31))) ||| (0 : Int32)) ||| (x5 <<< ((8 : Int32) &&& 31)))]) (rest := []) (ws' := (gw a k q11gM gnC gbC gnL gbL gnF gbF gnQ gbQ gE gtp glf gtr glh gov)) C K (ci := 2) (q0 := 0) rfl rfl rfl (ctX2_setWord l D a k _ _ _ _ _ _ _ _ _ _ _ _ _ _ _ _ _ _ _ hq11) gX2_enter_X2_setWord rfl rfl rfl hdyX2_setWord ⟨Nat.le_of_ble_eq_true rfl, Nat.le_of_ble_eq_true rfl⟩ (List.range 19) (jrange _) (by decide) (jspF rfl) [0, 1, 2, 3, 4, 5] rfl rfl (Nat.le_of_ble_eq_true rfl) dX2_enter_67 ⟨Nat.zero_le _, Nat.zero_le _⟩ ?_
            refine j_pop (pc := 70) C dX2_enter_70 rfl ?_
            refine j_iconst (pc := 71) (v := 1) C dX2_enter_71 (by decide) ?_
            cases hF
            exact j_zret (pc := 72) C K hr hlk rfl dX2_enter_72
          · replace hF := ifn hF c10
            refine j_bipush (pc := 54) (v := 8) C dX2_enter_54 (by decide) ?_
            refine j_goto (pc := 56) (tgt := 60) C dX2_enter_56 (by decide) ?_
            refine j_ior (pc := 60) C dX2_enter_60 ?_
            refine j_iload (pc := 61) C 5 dX2_enter_61 rfl ?_
            refine j_bipush (pc := 63) (v := 8) C dX2_enter_63 (by decide) ?_
            refine j_ishl (pc := 65) C dX2_enter_65 ?_
            refine j_ior (pc := 66) C dX2_enter_66 ?_
            obtain ⟨rq12, q12gM, hq12, hF⟩ := bd2_some hF
            refine j_callVi (pc := 67) (As := [.int rq9, .int ((((1 : Int32) ||| (x3 <<< ((1 : Int32) &&& 31))) ||| (8 : Int32)) ||| (x5 <<< ((8 : Int32) &&& 31)))]) (rest := []) (ws' := (gw a k q12gM gnC gbC gnL gbL gnF gbF gnQ gbQ gE gtp glf gtr glh gov)) C K (ci := 2) (q0 := 0) rfl rfl rfl (ctX2_setWord l D a k _ _ _ _ _ _ _ _ _ _ _ _ _ _ _ _ _ _ _ hq12) gX2_enter_X2_setWord rfl rfl rfl hdyX2_setWord ⟨Nat.le_of_ble_eq_true rfl, Nat.le_of_ble_eq_true rfl⟩ (List.range 19) (jrange _) (by decide) (jspF rfl) [0, 1, 2, 3, 4, 5] rfl rfl (Nat.le_of_ble_eq_true rfl) dX2_enter_67 ⟨Nat.zero_le _, Nat.zero_le _⟩ ?_
            refine j_pop (pc := 70) C dX2_enter_70 rfl ?_
            refine j_iconst (pc := 71) (v := 1) C dX2_enter_71 (by decide) ?_
            cases hF
            exact j_zret (pc := 72) C K hr hlk rfl dX2_enter_72
        · replace hF := ifp hF c8
          refine j_iconst (pc := 36) (v := 0) C dX2_enter_36 (by decide) ?_
          cases hF
          exact j_zret (pc := 37) C K hr hlk rfl dX2_enter_37

def FX3_isPlace (x0 : Int32) : Option (Int32) := if x0 < 0 then some 0 else if 16384 ≤ x0 then some 0 else some 1
def FX3_isDevice (x0 : Int32) : Option (Int32) := if x0 < 0 then some 0 else if 8 ≤ x0 then some 0 else some 1
def FX3_poke (x1 x2 : Int32) (mW : Nat → Int32) (mth : Int32) : Option (Int32 × (Nat → Int32) × Int32) := bd1 (FX3_isPlace x1) (fun rq1 => if rq1 = 0 then some (0, mW, 1) else gd (inb x1 16384) (gd (inb x1 16384) (some ((mW x1.toNatClampNeg), (upd mW x1.toNatClampNeg x2), 0))))
def FX3_peek (x1 : Int32) (mW : Nat → Int32) (mth : Int32) : Option (Int32 × Int32) := bd1 (FX3_isPlace x1) (fun rq1 => if rq1 = 0 then some (0, 1) else gd (inb x1 16384) (some ((mW x1.toNatClampNeg), 0)))
def FX3_fill_28 (x1 x2 x3 x4 : Int32) : Nat → (Nat → Int32) → Int32 → Int32 → Int32 → Option (Int32 × (Nat → Int32) × Int32)
  | 0, _, _, _, _ => none
  | n + 1, mW, mth, v5, v6 => if x2 ≤ v5 then some (v5, mW, mth) else if ((16384 : Int32) - v5) ≤ x1 then some (v5, mW, mth) else gd (inb (x1 + v5) 16384) (FX3_fill_28 x1 x2 x3 x4 n (upd mW (x1 + v5).toNatClampNeg v6) mth (v5 + 1) (v6 + x4))
def FX3_fill (x1 x2 x3 x4 : Int32) (mW : Nat → Int32) (mth : Int32) : Option (Int32 × (Nat → Int32) × Int32) := if x1 < 0 then some ((-1), mW, 0) else if x2 < 0 then some ((-1), mW, 0) else if x2 ≤ 256 then FX3_fill_28 x1 x2 x3 x4 fuel mW 0 0 x3 else some ((-1), mW, 0)
def FX3_table (x1 : Int32) (mtb : Int32) (mth : Int32) : Option (Int32 × Int32 × Int32) := if x1 < 0 then some (0, mtb, 0) else if 16368 < x1 then some (0, mtb, 0) else gd (nz 16) (if (x1 - x1 / 16 * 16) = 0 then some (1, x1, 0) else some (0, mtb, 0))
def FX3_context (x1 x2 x3 x4 : Int32) (mW : Nat → Int32) (mtb : Int32) (mth : Int32) : Option (Int32 × (Nat → Int32) × Int32) := bd1 (FX3_isDevice x1) (fun rq1 => if rq1 = 0 then some (0, mW, 0) else if x3 < 0 then some (0, mW, 0) else if 63 < x3 then some (0, mW, 0) else if x4 < 0 then some (0, mW, 0) else if x4 ≤ 15 then if x2 = 0 then gd (inb (mtb + ((2 : Int32) * x1)) 16384) (gd (inb ((mtb + ((2 : Int32) * x1)) + 1) 16384) (some (1, (upd (upd mW (mtb + ((2 : Int32) * x1)).toNatClampNeg (((1 : Int32) + 0) + ((256 : Int32) * x3))) ((mtb + ((2 : Int32) * x1)) + 1).toNatClampNeg x4), 0))) else gd (inb (mtb + ((2 : Int32) * x1)) 16384) (gd (inb ((mtb + ((2 : Int32) * x1)) + 1) 16384) (some (1, (upd (upd mW (mtb + ((2 : Int32) * x1)).toNatClampNeg (((1 : Int32) + 2) + ((256 : Int32) * x3))) ((mtb + ((2 : Int32) * x1)) + 1).toNatClampNeg x4), 0))) else some (0, mW, 0))
def FX3_enter (x1 x2 x3 x4 x5 : Int32) (mW : Nat → Int32) (mth : Int32) : Option (Int32 × (Nat → Int32) × Int32) := if x1 < 0 then some (0, mW, 0) else if 63 < x1 then some (0, mW, 0) else if x2 < 0 then some (0, mW, 0) else if 15 < x2 then some (0, mW, 0) else if x3 < 0 then some (0, mW, 0) else if 3 < x3 then some (0, mW, 0) else if x5 < 0 then some (0, mW, 0) else if x5 ≤ 63 then if x4 = 0 then gd (inb (((256 : Int32) * x1) + x2) 16384) (some (1, (upd mW (((256 : Int32) * x1) + x2).toNatClampNeg ((((1 : Int32) + ((2 : Int32) * x3)) + 0) + ((256 : Int32) * x5))), 0)) else gd (inb (((256 : Int32) * x1) + x2) 16384) (some (1, (upd mW (((256 : Int32) * x1) + x2).toNatClampNeg ((((1 : Int32) + ((2 : Int32) * x3)) + 8) + ((256 : Int32) * x5))), 0)) else some (0, mW, 0)
def FX3_contextOf_2 (x1 : Int32) : Nat → (Nat → Int32) → Int32 → Int32 → Option (Int32)
  | 0, _, _, _ => none
  | n + 1, mC, mnC, v2 => if mnC ≤ v2 then some (-1) else gd (inb ((4 : Int32) * v2) 12) (if (mC ((4 : Int32) * v2).toNatClampNeg) = x1 then some v2 else FX3_contextOf_2 x1 n mC mnC (v2 + 1))
def FX3_contextOf (x1 : Int32) (mC : Nat → Int32) (mnC : Int32) : Option (Int32) := FX3_contextOf_2 x1 fuel mC mnC 0
def FX3_shift_2 (slen : Nat) (x1 x2 : Int32) : Nat → (Nat → Int32) → Int32 → Option ((Nat → Int32))
  | 0, _, _ => none
  | n + 1, sB, v3 => if (x1 * (x2 - 1)) ≤ v3 then some sB else gd (inb (v3 + x1) slen) (gd (inb v3 slen) (FX3_shift_2 slen x1 x2 n (upd sB v3.toNatClampNeg (sB (v3 + x1).toNatClampNeg)) (v3 + 1)))
def FX3_shift (slen : Nat) (x1 x2 : Int32) (sB : Nat → Int32) : Option ((Nat → Int32)) := FX3_shift_2 slen x1 x2 fuel sB 0
def FX3_remember_27 (x1 x2 x3 : Int32) (mC : Nat → Int32) (mnC : Int32) : Option ((Nat → Int32) × Int32) := gd (inb ((4 : Int32) * mnC) 12) (gd (inb (((4 : Int32) * mnC) + 1) 12) (gd (inb (((4 : Int32) * mnC) + 2) 12) (gd (inb (((4 : Int32) * mnC) + 3) 12) (some ((upd (upd (upd (upd mC ((4 : Int32) * mnC).toNatClampNeg x1) (((4 : Int32) * mnC) + 1).toNatClampNeg ((x2 >>> ((1 : Int32) &&& 31)) &&& (1 : Int32))) (((4 : Int32) * mnC) + 2).toNatClampNeg ((x2 >>> ((8 : Int32) &&& 31)) &&& (63 : Int32))) (((4 : Int32) * mnC) + 3).toNatClampNeg (x3 &&& (15 : Int32))), (mnC + 1))))))
def FX3_remember (x1 x2 x3 : Int32) (mC : Nat → Int32) (mnC : Int32) : Option ((Nat → Int32) × Int32) := if mnC = 3 then bd1 (FX3_shift 12 4 3 mC) (fun q2sB => FX3_remember_27 x1 x2 x3 q2sB (mnC - 1)) else FX3_remember_27 x1 x2 x3 mC mnC
def FX3_leafOf_2 (x1 x2 : Int32) : Nat → (Nat → Int32) → Int32 → Int32 → Option (Int32)
  | 0, _, _, _ => none
  | n + 1, mL, mnL, v3 => if mnL ≤ v3 then some (-1) else gd (inb ((5 : Int32) * v3) 30) (if (mL ((5 : Int32) * v3).toNatClampNeg) = x1 then gd (inb (((5 : Int32) * v3) + 2) 30) (gd (inb (((5 : Int32) * v3) + 1) 30) (if (mL (((5 : Int32) * v3) + 2).toNatClampNeg) = (x2 >>> (((4 : Int32) * (mL (((5 : Int32) * v3) + 1).toNatClampNeg)) &&& 31)) then some v3 else FX3_leafOf_2 x1 x2 n mL mnL (v3 + 1))) else FX3_leafOf_2 x1 x2 n mL mnL (v3 + 1))
def FX3_leafOf (x1 x2 : Int32) (mL : Nat → Int32) (mnL : Int32) : Option (Int32) := FX3_leafOf_2 x1 x2 fuel mL mnL 0
def FX3_remember__29 (x1 x2 x3 x4 : Int32) (mL : Nat → Int32) (mnL : Int32) : Option (Int32 × (Nat → Int32) × Int32) := gd (inb ((5 : Int32) * mnL) 30) (gd (inb (((5 : Int32) * mnL) + 1) 30) (gd (inb (((5 : Int32) * mnL) + 2) 30) (gd (inb (((5 : Int32) * mnL) + 3) 30) (gd (inb (((5 : Int32) * mnL) + 4) 30) (some (((mnL + 1) - 1), (upd (upd (upd (upd (upd mL ((5 : Int32) * mnL).toNatClampNeg x1) (((5 : Int32) * mnL) + 1).toNatClampNeg x2) (((5 : Int32) * mnL) + 2).toNatClampNeg (x3 >>> (((4 : Int32) * x2) &&& 31))) (((5 : Int32) * mnL) + 3).toNatClampNeg ((x4 >>> ((8 : Int32) &&& 31)) &&& (63 : Int32))) (((5 : Int32) * mnL) + 4).toNatClampNeg ((x4 >>> ((1 : Int32) &&& 31)) &&& (3 : Int32))), (mnL + 1)))))))
def FX3_remember_ (x1 x2 x3 x4 : Int32) (mL : Nat → Int32) (mnL : Int32) : Option (Int32 × (Nat → Int32) × Int32) := if mnL = 6 then bd1 (FX3_shift 30 5 6 mL) (fun q2sB => FX3_remember__29 x1 x2 x3 x4 q2sB (mnL - 1)) else FX3_remember__29 x1 x2 x3 x4 mL mnL
theorem hdyX3_isPlace : yX3_isPlace.cls ≠ "java/lang/invoke/MethodHandle" ∧ yX3_isPlace.cls ≠ "java/lang/invoke/VarHandle" ∧ (parseMethodDescriptor yX3_isPlace.desc).map (fun d => d.parameters.length) = some 1 := by decide +kernel
set_option maxHeartbeats 4000000 in
set_option maxRecDepth 100000 in
theorem ctX3_isPlace (l : Launch) (D : va_G) (x0 : Int32) (r : Int32) (hF : FX3_isPlace x0 = some r) : ji l yX3_isPlace wsX3_isPlace { frames := 0, cells := 0, slots := 0, locals := 0 } D [] [.int x0] [] [] r := by
  refine j_mi (cc := cX3_isPlace) (maxL := 1) (own := RX3) (ret := (some .boolean)) (by decide) rfl rfl (Nat.le_of_ble_eq_true rfl) ?_
  intro p e s m args below meth c A C K hr hlk
  unfold FX3_isPlace at hF
  refine j_iload_n (pc := 0) C 0 dX3_isPlace_0 rfl rfl ?_
  refine j_if_lt (pc := 1) (tgt := 15) C dX3_isPlace_1 (by decide) (fun c1 => ?_) (fun c1 => ?_)
  · replace hF := ifp hF c1
    refine j_iconst (pc := 15) (v := 0) C dX3_isPlace_15 (by decide) ?_
    cases hF
    exact j_zret (pc := 16) C K hr hlk rfl dX3_isPlace_16
  · replace hF := ifn hF c1
    refine j_iload_n (pc := 4) C 0 dX3_isPlace_4 rfl rfl ?_
    refine j_sipush (pc := 5) (v := 16384) C dX3_isPlace_5 (by decide) ?_
    refine j_icmp_ge (pc := 8) (tgt := 15) C dX3_isPlace_8 (by decide) (fun c2 => ?_) (fun c2 => ?_)
    · replace hF := ifp hF c2
      refine j_iconst (pc := 15) (v := 0) C dX3_isPlace_15 (by decide) ?_
      cases hF
      exact j_zret (pc := 16) C K hr hlk rfl dX3_isPlace_16
    · replace hF := ifn hF c2
      refine j_iconst (pc := 11) (v := 1) C dX3_isPlace_11 (by decide) ?_
      refine j_goto (pc := 12) (tgt := 16) C dX3_isPlace_12 (by decide) ?_
      cases hF
      exact j_zret (pc := 16) C K hr hlk rfl dX3_isPlace_16
theorem hdyX3_isDevice : yX3_isDevice.cls ≠ "java/lang/invoke/MethodHandle" ∧ yX3_isDevice.cls ≠ "java/lang/invoke/VarHandle" ∧ (parseMethodDescriptor yX3_isDevice.desc).map (fun d => d.parameters.length) = some 1 := by decide +kernel
set_option maxHeartbeats 4000000 in
set_option maxRecDepth 100000 in
theorem ctX3_isDevice (l : Launch) (D : va_G) (x0 : Int32) (r : Int32) (hF : FX3_isDevice x0 = some r) : ji l yX3_isDevice wsX3_isDevice { frames := 0, cells := 0, slots := 0, locals := 0 } D [] [.int x0] [] [] r := by
  refine j_mi (cc := cX3_isDevice) (maxL := 1) (own := RX3) (ret := (some .boolean)) (by decide) rfl rfl (Nat.le_of_ble_eq_true rfl) ?_
  intro p e s m args below meth c A C K hr hlk
  unfold FX3_isDevice at hF
  refine j_iload_n (pc := 0) C 0 dX3_isDevice_0 rfl rfl ?_
  refine j_if_lt (pc := 1) (tgt := 14) C dX3_isDevice_1 (by decide) (fun c1 => ?_) (fun c1 => ?_)
  · replace hF := ifp hF c1
    refine j_iconst (pc := 14) (v := 0) C dX3_isDevice_14 (by decide) ?_
    cases hF
    exact j_zret (pc := 15) C K hr hlk rfl dX3_isDevice_15
  · replace hF := ifn hF c1
    refine j_iload_n (pc := 4) C 0 dX3_isDevice_4 rfl rfl ?_
    refine j_bipush (pc := 5) (v := 8) C dX3_isDevice_5 (by decide) ?_
    refine j_icmp_ge (pc := 7) (tgt := 14) C dX3_isDevice_7 (by decide) (fun c2 => ?_) (fun c2 => ?_)
    · replace hF := ifp hF c2
      refine j_iconst (pc := 14) (v := 0) C dX3_isDevice_14 (by decide) ?_
      cases hF
      exact j_zret (pc := 15) C K hr hlk rfl dX3_isDevice_15
    · replace hF := ifn hF c2
      refine j_iconst (pc := 10) (v := 1) C dX3_isDevice_10 (by decide) ?_
      refine j_goto (pc := 11) (tgt := 15) C dX3_isDevice_11 (by decide) ?_
      cases hF
      exact j_zret (pc := 15) C K hr hlk rfl dX3_isDevice_15
theorem lkX3_poke_28 : Cond.fieldLink RX3 28 (TX3 14).1 (TX3 14).2.1 (TX3 14).2.2.1 ∈ wsX3_poke := by decide +kernel
theorem lkX3_poke_9 : Cond.fieldLink RX3 9 (TX3 0).1 (TX3 0).2.1 (TX3 0).2.2.1 ∈ wsX3_poke := by decide +kernel
theorem inX3_poke_X3 : ∀ w ∈ u_ws RX3 TX3 17, w ∈ wsX3_poke := by decide +kernel
theorem hdyX3_poke : yX3_poke.cls = RX3 ∧ yX3_poke.cls ≠ "java/lang/invoke/MethodHandle" ∧ yX3_poke.cls ≠ "java/lang/invoke/VarHandle" ∧ (parseMethodDescriptor yX3_poke.desc).map (fun d => d.parameters.length) = some 2 := by decide +kernel
set_option maxHeartbeats 4000000 in
set_option maxRecDepth 100000 in
theorem ctX3_poke (l : Launch) (D : va_G) (a : Nat → Nat) (k : Nat → ClassId) (mW : Nat → Int32) (mC : Nat → Int32) (mL : Nat → Int32) (mR : Nat → Int32) (mQ : Nat → Int32) (mE : Nat → Int32) (mtb : Int32) (mnC : Int32) (mnL : Int32) (mnR : Int32) (mov : Int32) (mnQ : Int32) (mwr : Int32) (mwl : Int32) (mft : Int32) (mth : Int32) (mpl : Int32) (x1 x2 : Int32) (r : Int32) (omW : Nat → Int32) (omth : Int32) (hF : FX3_poke x1 x2 mW mth = some (r, omW, omth)) : ji l yX3_poke wsX3_poke { frames := 1, cells := 0, slots := 0, locals := 20 } D (mt k) [.ref (a 0), .int x1, .int x2] (mw a k mW mC mL mR mQ mE mtb mnC mnL mnR mov mnQ mwr mwl mft mth mpl) (mw a k omW mC mL mR mQ mE mtb mnC mnL mnR mov mnQ mwr mwl mft omth mpl) r := by
  refine j_mi (cc := cX3_poke) (maxL := 4) (own := RX3) (ret := (some .int)) (by decide) rfl rfl (Nat.le_of_ble_eq_true rfl) ?_
  intro p e s m args below meth c A C K hr hlk
  unfold FX3_poke at hF
  refine j_aload_n (pc := 0) C 0 dX3_poke_0 rfl rfl ?_
  refine j_iconst (pc := 1) (v := 0) C dX3_poke_1 (by decide) ?_
  refine j_put (pc := 2) (ws' := (mw a k mW mC mL mR mQ mE mtb mnC mnL mnR mov mnQ mwr mwl mft 0 mpl)) C K inX3_poke_X3 tyX3 tyX3_ok nmX3 0 rfl rfl 14 (by decide) lkX3_poke_28 rfl (tyX3_ok 14 (by decide)) rfl rfl (Nat.le_of_ble_eq_true rfl) rfl dX3_poke_2 ?_
  refine j_iload_n (pc := 5) C 1 dX3_poke_5 rfl rfl ?_
  obtain ⟨rq1, hq1, hF⟩ := bd1_some hF
  refine j_callSi (pc := 6) (As := [.int x1]) (rest := []) (ws' := (mw a k mW mC mL mR mQ mE mtb mnC mnL mnR mov mnQ mwr mwl mft 0 mpl)) C K (ctX3_isPlace l D  _ _ hq1) gX3_poke_X3_isPlace rfl rfl rfl hdyX3_isPlace ⟨Nat.le_of_ble_eq_true rfl, Nat.le_of_ble_eq_true rfl⟩ [] rfl rfl jsp0 [] rfl rfl (Nat.le_of_ble_eq_true rfl) dX3_poke_6 ⟨Nat.zero_le _, Nat.zero_le _⟩ ?_
  refine j_if_ne (pc := 9) (tgt := 19) C dX3_poke_9 (by decide) (fun c2 => ?_) (fun c2 => ?_)
  · replace hF := ifn hF c2
    refine j_aload_n (pc := 19) C 0 dX3_poke_19 rfl rfl ?_
    refine j_get (pc := 20) (v := .ref (a 1)) C K inX3_poke_X3 0 rfl rfl 0 (by decide) lkX3_poke_9 rfl dX3_poke_20 ?_
    refine j_iload_n (pc := 23) C 1 dX3_poke_23 rfl rfl ?_
    obtain ⟨g3, hF⟩ := gd_some hF
    refine j_iald (pc := 24) C K 1 0 rfl rfl g3 dX3_poke_24 ?_
    refine j_istore_n (pc := 25) (lv' := [(3, .int (mW x1.toNatClampNeg)), (0, .ref (a 0)), (1, .int x1), (2, .int x2)]) C dX3_poke_25 rfl (by decide) rfl ?_
    refine j_aload_n (pc := 26) C 1 dX3_poke_26 rfl rfl ?_
    refine j_get (pc := 27) (v := .ref (a 1)) C K inX3_poke_X3 0 rfl rfl 0 (by decide) lkX3_poke_9 rfl dX3_poke_27 ?_
    refine j_iload_n (pc := 30) C 2 dX3_poke_30 rfl rfl ?_
    refine j_iload_n (pc := 31) C 3 dX3_poke_31 rfl rfl ?_
    obtain ⟨g4, hF⟩ := gd_some hF
    refine j_iast (pc := 32) (ws' := (mw a k (upd mW x1.toNatClampNeg x2) mC mL mR mQ mE mtb mnC mnL mnR mov mnQ mwr mwl mft 0 mpl)) C K 1 0 rfl rfl g4 rfl dX3_poke_32 ?_
    refine j_iload_n (pc := 33) C 0 dX3_poke_33 rfl rfl ?_
    cases hF
    exact j_iret (pc := 34) C K hr hlk dX3_poke_34
  · replace hF := ifp hF c2
    refine j_aload_n (pc := 12) C 0 dX3_poke_12 rfl rfl ?_
    refine j_iconst (pc := 13) (v := 1) C dX3_poke_13 (by decide) ?_
    refine j_put (pc := 14) (ws' := (mw a k mW mC mL mR mQ mE mtb mnC mnL mnR mov mnQ mwr mwl mft 1 mpl)) C K inX3_poke_X3 tyX3 tyX3_ok nmX3 0 rfl rfl 14 (by decide) lkX3_poke_28 rfl (tyX3_ok 14 (by decide)) rfl rfl (Nat.le_of_ble_eq_true rfl) rfl dX3_poke_14 ?_
    refine j_iconst (pc := 17) (v := 0) C dX3_poke_17 (by decide) ?_
    cases hF
    exact j_iret (pc := 18) C K hr hlk dX3_poke_18
theorem lkX3_peek_28 : Cond.fieldLink RX3 28 (TX3 14).1 (TX3 14).2.1 (TX3 14).2.2.1 ∈ wsX3_peek := by decide +kernel
theorem lkX3_peek_9 : Cond.fieldLink RX3 9 (TX3 0).1 (TX3 0).2.1 (TX3 0).2.2.1 ∈ wsX3_peek := by decide +kernel
theorem inX3_peek_X3 : ∀ w ∈ u_ws RX3 TX3 17, w ∈ wsX3_peek := by decide +kernel
theorem hdyX3_peek : yX3_peek.cls = RX3 ∧ yX3_peek.cls ≠ "java/lang/invoke/MethodHandle" ∧ yX3_peek.cls ≠ "java/lang/invoke/VarHandle" ∧ (parseMethodDescriptor yX3_peek.desc).map (fun d => d.parameters.length) = some 1 := by decide +kernel
set_option maxHeartbeats 4000000 in
set_option maxRecDepth 100000 in
theorem ctX3_peek (l : Launch) (D : va_G) (a : Nat → Nat) (k : Nat → ClassId) (mW : Nat → Int32) (mC : Nat → Int32) (mL : Nat → Int32) (mR : Nat → Int32) (mQ : Nat → Int32) (mE : Nat → Int32) (mtb : Int32) (mnC : Int32) (mnL : Int32) (mnR : Int32) (mov : Int32) (mnQ : Int32) (mwr : Int32) (mwl : Int32) (mft : Int32) (mth : Int32) (mpl : Int32) (x1 : Int32) (r : Int32) (omth : Int32) (hF : FX3_peek x1 mW mth = some (r, omth)) : ji l yX3_peek wsX3_peek { frames := 1, cells := 0, slots := 0, locals := 20 } D (mt k) [.ref (a 0), .int x1] (mw a k mW mC mL mR mQ mE mtb mnC mnL mnR mov mnQ mwr mwl mft mth mpl) (mw a k mW mC mL mR mQ mE mtb mnC mnL mnR mov mnQ mwr mwl mft omth mpl) r := by
  refine j_mi (cc := cX3_peek) (maxL := 2) (own := RX3) (ret := (some .int)) (by decide) rfl rfl (Nat.le_of_ble_eq_true rfl) ?_
  intro p e s m args below meth c A C K hr hlk
  unfold FX3_peek at hF
  refine j_aload_n (pc := 0) C 0 dX3_peek_0 rfl rfl ?_
  refine j_iconst (pc := 1) (v := 0) C dX3_peek_1 (by decide) ?_
  refine j_put (pc := 2) (ws' := (mw a k mW mC mL mR mQ mE mtb mnC mnL mnR mov mnQ mwr mwl mft 0 mpl)) C K inX3_peek_X3 tyX3 tyX3_ok nmX3 0 rfl rfl 14 (by decide) lkX3_peek_28 rfl (tyX3_ok 14 (by decide)) rfl rfl (Nat.le_of_ble_eq_true rfl) rfl dX3_peek_2 ?_
  refine j_iload_n (pc := 5) C 1 dX3_peek_5 rfl rfl ?_
  obtain ⟨rq1, hq1, hF⟩ := bd1_some hF
  refine j_callSi (pc := 6) (As := [.int x1]) (rest := []) (ws' := (mw a k mW mC mL mR mQ mE mtb mnC mnL mnR mov mnQ mwr mwl mft 0 mpl)) C K (ctX3_isPlace l D  _ _ hq1) gX3_peek_X3_isPlace rfl rfl rfl hdyX3_isPlace ⟨Nat.le_of_ble_eq_true rfl, Nat.le_of_ble_eq_true rfl⟩ [] rfl rfl jsp0 [] rfl rfl (Nat.le_of_ble_eq_true rfl) dX3_peek_6 ⟨Nat.zero_le _, Nat.zero_le _⟩ ?_
  refine j_if_ne (pc := 9) (tgt := 19) C dX3_peek_9 (by decide) (fun c2 => ?_) (fun c2 => ?_)
  · replace hF := ifn hF c2
    refine j_aload_n (pc := 19) C 0 dX3_peek_19 rfl rfl ?_
    refine j_get (pc := 20) (v := .ref (a 1)) C K inX3_peek_X3 0 rfl rfl 0 (by decide) lkX3_peek_9 rfl dX3_peek_20 ?_
    refine j_iload_n (pc := 23) C 1 dX3_peek_23 rfl rfl ?_
    obtain ⟨g3, hF⟩ := gd_some hF
    refine j_iald (pc := 24) C K 1 0 rfl rfl g3 dX3_peek_24 ?_
    cases hF
    exact j_iret (pc := 25) C K hr hlk dX3_peek_25
  · replace hF := ifp hF c2
    refine j_aload_n (pc := 12) C 0 dX3_peek_12 rfl rfl ?_
    refine j_iconst (pc := 13) (v := 1) C dX3_peek_13 (by decide) ?_
    refine j_put (pc := 14) (ws' := (mw a k mW mC mL mR mQ mE mtb mnC mnL mnR mov mnQ mwr mwl mft 1 mpl)) C K inX3_peek_X3 tyX3 tyX3_ok nmX3 0 rfl rfl 14 (by decide) lkX3_peek_28 rfl (tyX3_ok 14 (by decide)) rfl rfl (Nat.le_of_ble_eq_true rfl) rfl dX3_peek_14 ?_
    refine j_iconst (pc := 17) (v := 0) C dX3_peek_17 (by decide) ?_
    cases hF
    exact j_iret (pc := 18) C K hr hlk dX3_peek_18
theorem lkX3_fill_28 : Cond.fieldLink RX3 28 (TX3 14).1 (TX3 14).2.1 (TX3 14).2.2.1 ∈ wsX3_fill := by decide +kernel
theorem lkX3_fill_9 : Cond.fieldLink RX3 9 (TX3 0).1 (TX3 0).2.1 (TX3 0).2.2.1 ∈ wsX3_fill := by decide +kernel
theorem inX3_fill_X3 : ∀ w ∈ u_ws RX3 TX3 17, w ∈ wsX3_fill := by decide +kernel
theorem hdyX3_fill : yX3_fill.cls = RX3 ∧ yX3_fill.cls ≠ "java/lang/invoke/MethodHandle" ∧ yX3_fill.cls ≠ "java/lang/invoke/VarHandle" ∧ (parseMethodDescriptor yX3_fill.desc).map (fun d => d.parameters.length) = some 4 := by decide +kernel
set_option maxHeartbeats 4000000 in
set_option maxRecDepth 100000 in
theorem ctX3_fill (l : Launch) (D : va_G) (a : Nat → Nat) (k : Nat → ClassId) (mW : Nat → Int32) (mC : Nat → Int32) (mL : Nat → Int32) (mR : Nat → Int32) (mQ : Nat → Int32) (mE : Nat → Int32) (mtb : Int32) (mnC : Int32) (mnL : Int32) (mnR : Int32) (mov : Int32) (mnQ : Int32) (mwr : Int32) (mwl : Int32) (mft : Int32) (mth : Int32) (mpl : Int32) (x1 x2 x3 x4 : Int32) (r : Int32) (omW : Nat → Int32) (omth : Int32) (hF : FX3_fill x1 x2 x3 x4 mW mth = some (r, omW, omth)) : ji l yX3_fill wsX3_fill { frames := 0, cells := 0, slots := 0, locals := 0 } D (mt k) [.ref (a 0), .int x1, .int x2, .int x3, .int x4] (mw a k mW mC mL mR mQ mE mtb mnC mnL mnR mov mnQ mwr mwl mft mth mpl) (mw a k omW mC mL mR mQ mE mtb mnC mnL mnR mov mnQ mwr mwl mft omth mpl) r := by
  refine j_mi (cc := cX3_fill) (maxL := 7) (own := RX3) (ret := (some .int)) (by decide) rfl rfl (Nat.le_of_ble_eq_true rfl) ?_
  intro p e s m args below meth c A C K hr hlk
  have K28 : ∀ (n : Nat) (mW : Nat → Int32) (mth : Int32) (v5 v6 : Int32), FX3_fill_28 x1 x2 x3 x4 n mW mth v5 v6 = some (r, omW, omth) → jw p l e ({ frames := 0, cells := 0, slots := 0, locals := 0 } : Room) s m args below meth c 7 D A 0 0 (jqi below D (mt k) args s A (mw a k omW mC mL mR mQ mE mtb mnC mnL mnR mov mnQ mwr mwl mft omth mpl) r) (mw a k mW mC mL mR mQ mE mtb mnC mnL mnR mov mnQ mwr mwl mft mth mpl) [(0, .ref (a 0)), (1, .int x1), (2, .int x2), (4, .int x4), (5, .int v5), (6, .int v6)] 28 [] := by
    intro n
    induction n with
    | zero =>
      intro mW mth v5 v6 hF
      rw [FX3_fill_28] at hF
      cases hF
    | succ n ih =>
      intro mW mth v5 v6 hF
      rw [FX3_fill_28] at hF
      refine j_iload (pc := 28) C 4 dX3_fill_28 rfl ?_
      refine j_iload_n (pc := 30) C 2 dX3_fill_30 rfl rfl ?_
      refine j_icmp_ge (pc := 31) (tgt := 68) C dX3_fill_31 (by decide) (fun c4 => ?_) (fun c4 => ?_)
      · replace hF := ifp hF c4
        refine j_iload (pc := 68) C 4 dX3_fill_68 rfl ?_
        cases hF
        exact j_iret (pc := 70) C K hr hlk dX3_fill_70
      · replace hF := ifn hF c4
        refine j_iload_n (pc := 34) C 1 dX3_fill_34 rfl rfl ?_
        refine j_sipush (pc := 35) (v := 16384) C dX3_fill_35 (by decide) ?_
        refine j_iload (pc := 38) C 4 dX3_fill_38 rfl ?_
        refine j_isub (pc := 40) C dX3_fill_40 ?_
        refine j_icmp_ge (pc := 41) (tgt := 68) C dX3_fill_41 (by decide) (fun c5 => ?_) (fun c5 => ?_)
        · replace hF := ifp hF c5
          refine j_iload (pc := 68) C 4 dX3_fill_68 rfl ?_
          cases hF
          exact j_iret (pc := 70) C K hr hlk dX3_fill_70
        · replace hF := ifn hF c5
          refine j_aload_n (pc := 44) C 0 dX3_fill_44 rfl rfl ?_
          refine j_get (pc := 45) (v := .ref (a 1)) C K inX3_fill_X3 0 rfl rfl 0 (by decide) lkX3_fill_9 rfl dX3_fill_45 ?_
          refine j_iload_n (pc := 48) C 1 dX3_fill_48 rfl rfl ?_
          refine j_iload (pc := 49) C 4 dX3_fill_49 rfl ?_
          refine j_iadd (pc := 51) C dX3_fill_51 ?_
          refine j_iload (pc := 52) C 5 dX3_fill_52 rfl ?_
          obtain ⟨g6, hF⟩ := gd_some hF
          refine j_iast (pc := 54) (ws' := (mw a k (upd mW (x1 + v5).toNatClampNeg v6) mC mL mR mQ mE mtb mnC mnL mnR mov mnQ mwr mwl mft mth mpl)) C K 1 0 rfl rfl g6 rfl dX3_fill_54 ?_
          refine j_iload (pc := 55) C 5 dX3_fill_55 rfl ?_
          refine j_iload (pc := 57) C 3 dX3_fill_57 rfl ?_
          refine j_iadd (pc := 59) C dX3_fill_59 ?_
          refine j_istore (pc := 60) (lv' := [(6, .int (v6 + x4)), (0, .ref (a 0)), (1, .int x1), (2, .int x2), (4, .int x4), (5, .int v5)]) C dX3_fill_60 (by decide) rfl ?_
          refine j_iinc (pc := 62) (v := (v5 + 1)) (lv' := [(5, .int (v5 + 1)), (6, .int (v6 + x4)), (0, .ref (a 0)), (1, .int x1), (2, .int x2), (4, .int x4)]) C 5 dX3_fill_62 rfl rfl (by decide) rfl ?_
          refine j_goto (pc := 65) (tgt := 28) C dX3_fill_65 (by decide) ?_
          exact j_lv [2, 3, 4, 5, 0, 1] rfl (ih _ _ _ _ hF)
  unfold FX3_fill at hF
  refine j_aload_n (pc := 0) C 0 dX3_fill_0 rfl rfl ?_
  refine j_iconst (pc := 1) (v := 0) C dX3_fill_1 (by decide) ?_
  refine j_put (pc := 2) (ws' := (mw a k mW mC mL mR mQ mE mtb mnC mnL mnR mov mnQ mwr mwl mft 0 mpl)) C K inX3_fill_X3 tyX3 tyX3_ok nmX3 0 rfl rfl 14 (by decide) lkX3_fill_28 rfl (tyX3_ok 14 (by decide)) rfl rfl (Nat.le_of_ble_eq_true rfl) rfl dX3_fill_2 ?_
  refine j_iload_n (pc := 5) C 1 dX3_fill_5 rfl rfl ?_
  refine j_if_lt (pc := 6) (tgt := 20) C dX3_fill_6 (by decide) (fun c1 => ?_) (fun c1 => ?_)
  · replace hF := ifp hF c1
    refine j_iconst (pc := 20) (v := (-1)) C dX3_fill_20 (by decide) ?_
    cases hF
    exact j_iret (pc := 21) C K hr hlk dX3_fill_21
  · replace hF := ifn hF c1
    refine j_iload_n (pc := 9) C 2 dX3_fill_9 rfl rfl ?_
    refine j_if_lt (pc := 10) (tgt := 20) C dX3_fill_10 (by decide) (fun c2 => ?_) (fun c2 => ?_)
    · replace hF := ifp hF c2
      refine j_iconst (pc := 20) (v := (-1)) C dX3_fill_20 (by decide) ?_
      cases hF
      exact j_iret (pc := 21) C K hr hlk dX3_fill_21
    · replace hF := ifn hF c2
      refine j_iload_n (pc := 13) C 2 dX3_fill_13 rfl rfl ?_
      refine j_sipush (pc := 14) (v := 256) C dX3_fill_14 (by decide) ?_
      refine j_icmp_le (pc := 17) (tgt := 22) C dX3_fill_17 (by decide) (fun c3 => ?_) (fun c3 => ?_)
      · replace hF := ifp hF c3
        refine j_iconst (pc := 22) (v := 0) C dX3_fill_22 (by decide) ?_
        refine j_istore (pc := 23) (lv' := [(5, .int 0), (0, .ref (a 0)), (1, .int x1), (2, .int x2), (3, .int x3), (4, .int x4)]) C dX3_fill_23 (by decide) rfl ?_
        refine j_iload_n (pc := 25) C 4 dX3_fill_25 rfl rfl ?_
        refine j_istore (pc := 26) (lv' := [(6, .int x3), (5, .int 0), (0, .ref (a 0)), (1, .int x1), (2, .int x2), (3, .int x3), (4, .int x4)]) C dX3_fill_26 (by decide) rfl ?_
        exact j_lv [2, 3, 4, 6, 1, 0] rfl (K28 _ _ _ _ _ hF)
      · replace hF := ifn hF c3
        refine j_iconst (pc := 20) (v := (-1)) C dX3_fill_20 (by decide) ?_
        cases hF
        exact j_iret (pc := 21) C K hr hlk dX3_fill_21
theorem lkX3_table_28 : Cond.fieldLink RX3 28 (TX3 14).1 (TX3 14).2.1 (TX3 14).2.2.1 ∈ wsX3_table := by decide +kernel
theorem lkX3_table_36 : Cond.fieldLink RX3 36 (TX3 1).1 (TX3 1).2.1 (TX3 1).2.2.1 ∈ wsX3_table := by decide +kernel
theorem inX3_table_X3 : ∀ w ∈ u_ws RX3 TX3 17, w ∈ wsX3_table := by decide +kernel
theorem hdyX3_table : yX3_table.cls = RX3 ∧ yX3_table.cls ≠ "java/lang/invoke/MethodHandle" ∧ yX3_table.cls ≠ "java/lang/invoke/VarHandle" ∧ (parseMethodDescriptor yX3_table.desc).map (fun d => d.parameters.length) = some 1 := by decide +kernel
set_option maxHeartbeats 4000000 in
set_option maxRecDepth 100000 in
theorem ctX3_table (l : Launch) (D : va_G) (a : Nat → Nat) (k : Nat → ClassId) (mW : Nat → Int32) (mC : Nat → Int32) (mL : Nat → Int32) (mR : Nat → Int32) (mQ : Nat → Int32) (mE : Nat → Int32) (mtb : Int32) (mnC : Int32) (mnL : Int32) (mnR : Int32) (mov : Int32) (mnQ : Int32) (mwr : Int32) (mwl : Int32) (mft : Int32) (mth : Int32) (mpl : Int32) (x1 : Int32) (r : Int32) (omtb : Int32) (omth : Int32) (hF : FX3_table x1 mtb mth = some (r, omtb, omth)) : ji l yX3_table wsX3_table { frames := 0, cells := 0, slots := 0, locals := 0 } D (mt k) [.ref (a 0), .int x1] (mw a k mW mC mL mR mQ mE mtb mnC mnL mnR mov mnQ mwr mwl mft mth mpl) (mw a k mW mC mL mR mQ mE omtb mnC mnL mnR mov mnQ mwr mwl mft omth mpl) r := by
  refine j_mi (cc := cX3_table) (maxL := 2) (own := RX3) (ret := (some .boolean)) (by decide) rfl rfl (Nat.le_of_ble_eq_true rfl) ?_
  intro p e s m args below meth c A C K hr hlk
  unfold FX3_table at hF
  refine j_aload_n (pc := 0) C 0 dX3_table_0 rfl rfl ?_
  refine j_iconst (pc := 1) (v := 0) C dX3_table_1 (by decide) ?_
  refine j_put (pc := 2) (ws' := (mw a k mW mC mL mR mQ mE mtb mnC mnL mnR mov mnQ mwr mwl mft 0 mpl)) C K inX3_table_X3 tyX3 tyX3_ok nmX3 0 rfl rfl 14 (by decide) lkX3_table_28 rfl (tyX3_ok 14 (by decide)) rfl rfl (Nat.le_of_ble_eq_true rfl) rfl dX3_table_2 ?_
  refine j_iload_n (pc := 5) C 1 dX3_table_5 rfl rfl ?_
  refine j_if_lt (pc := 6) (tgt := 23) C dX3_table_6 (by decide) (fun c1 => ?_) (fun c1 => ?_)
  · replace hF := ifp hF c1
    refine j_iconst (pc := 23) (v := 0) C dX3_table_23 (by decide) ?_
    cases hF
    exact j_zret (pc := 24) C K hr hlk rfl dX3_table_24
  · replace hF := ifn hF c1
    refine j_iload_n (pc := 9) C 1 dX3_table_9 rfl rfl ?_
    refine j_sipush (pc := 10) (v := 16368) C dX3_table_10 (by decide) ?_
    refine j_icmp_gt (pc := 13) (tgt := 23) C dX3_table_13 (by decide) (fun c2 => ?_) (fun c2 => ?_)
    · replace hF := ifp hF c2
      refine j_iconst (pc := 23) (v := 0) C dX3_table_23 (by decide) ?_
      cases hF
      exact j_zret (pc := 24) C K hr hlk rfl dX3_table_24
    · replace hF := ifn hF c2
      refine j_iload_n (pc := 16) C 1 dX3_table_16 rfl rfl ?_
      refine j_bipush (pc := 17) (v := 16) C dX3_table_17 (by decide) ?_
      obtain ⟨g3, hF⟩ := gd_some hF
      refine j_irem (pc := 19) C dX3_table_19 (nz_ne g3) ?_
      refine j_if_eq (pc := 20) (tgt := 25) C dX3_table_20 (by decide) (fun c4 => ?_) (fun c4 => ?_)
      · replace hF := ifp hF c4
        refine j_aload_n (pc := 25) C 0 dX3_table_25 rfl rfl ?_
        refine j_iload_n (pc := 26) C 1 dX3_table_26 rfl rfl ?_
        refine j_put (pc := 27) (ws' := (mw a k mW mC mL mR mQ mE x1 mnC mnL mnR mov mnQ mwr mwl mft 0 mpl)) C K inX3_table_X3 tyX3 tyX3_ok nmX3 0 rfl rfl 1 (by decide) lkX3_table_36 rfl (tyX3_ok 1 (by decide)) rfl rfl (Nat.le_of_ble_eq_true rfl) rfl dX3_table_27 ?_
        refine j_iconst (pc := 30) (v := 1) C dX3_table_30 (by decide) ?_
        cases hF
        exact j_zret (pc := 31) C K hr hlk rfl dX3_table_31
      · replace hF := ifn hF c4
        refine j_iconst (pc := 23) (v := 0) C dX3_table_23 (by decide) ?_
        cases hF
        exact j_zret (pc := 24) C K hr hlk rfl dX3_table_24
theorem lkX3_context_28 : Cond.fieldLink RX3 28 (TX3 14).1 (TX3 14).2.1 (TX3 14).2.2.1 ∈ wsX3_context := by decide +kernel
theorem lkX3_context_9 : Cond.fieldLink RX3 9 (TX3 0).1 (TX3 0).2.1 (TX3 0).2.2.1 ∈ wsX3_context := by decide +kernel
theorem lkX3_context_36 : Cond.fieldLink RX3 36 (TX3 1).1 (TX3 1).2.1 (TX3 1).2.2.1 ∈ wsX3_context := by decide +kernel
theorem inX3_context_X3 : ∀ w ∈ u_ws RX3 TX3 17, w ∈ wsX3_context := by decide +kernel
theorem hdyX3_context : yX3_context.cls = RX3 ∧ yX3_context.cls ≠ "java/lang/invoke/MethodHandle" ∧ yX3_context.cls ≠ "java/lang/invoke/VarHandle" ∧ (parseMethodDescriptor yX3_context.desc).map (fun d => d.parameters.length) = some 4 := by decide +kernel
set_option maxHeartbeats 4000000 in
set_option maxRecDepth 100000 in
theorem ctX3_context (l : Launch) (D : va_G) (a : Nat → Nat) (k : Nat → ClassId) (mW : Nat → Int32) (mC : Nat → Int32) (mL : Nat → Int32) (mR : Nat → Int32) (mQ : Nat → Int32) (mE : Nat → Int32) (mtb : Int32) (mnC : Int32) (mnL : Int32) (mnR : Int32) (mov : Int32) (mnQ : Int32) (mwr : Int32) (mwl : Int32) (mft : Int32) (mth : Int32) (mpl : Int32) (x1 x2 x3 x4 : Int32) (r : Int32) (omW : Nat → Int32) (omth : Int32) (hF : FX3_context x1 x2 x3 x4 mW mtb mth = some (r, omW, omth)) : ji l yX3_context wsX3_context { frames := 1, cells := 0, slots := 0, locals := 20 } D (mt k) [.ref (a 0), .int x1, .int x2, .int x3, .int x4] (mw a k mW mC mL mR mQ mE mtb mnC mnL mnR mov mnQ mwr mwl mft mth mpl) (mw a k omW mC mL mR mQ mE mtb mnC mnL mnR mov mnQ mwr mwl mft omth mpl) r := by
  refine j_mi (cc := cX3_context) (maxL := 5) (own := RX3) (ret := (some .boolean)) (by decide) rfl rfl (Nat.le_of_ble_eq_true rfl) ?_
  intro p e s m args below meth c A C K hr hlk
  unfold FX3_context at hF
  refine j_aload_n (pc := 0) C 0 dX3_context_0 rfl rfl ?_
  refine j_iconst (pc := 1) (v := 0) C dX3_context_1 (by decide) ?_
  refine j_put (pc := 2) (ws' := (mw a k mW mC mL mR mQ mE mtb mnC mnL mnR mov mnQ mwr mwl mft 0 mpl)) C K inX3_context_X3 tyX3 tyX3_ok nmX3 0 rfl rfl 14 (by decide) lkX3_context_28 rfl (tyX3_ok 14 (by decide)) rfl rfl (Nat.le_of_ble_eq_true rfl) rfl dX3_context_2 ?_
  refine j_iload_n (pc := 5) C 1 dX3_context_5 rfl rfl ?_
  obtain ⟨rq1, hq1, hF⟩ := bd1_some hF
  refine j_callSi (pc := 6) (As := [.int x1]) (rest := []) (ws' := (mw a k mW mC mL mR mQ mE mtb mnC mnL mnR mov mnQ mwr mwl mft 0 mpl)) C K (ctX3_isDevice l D  _ _ hq1) gX3_context_X3_isDevice rfl rfl rfl hdyX3_isDevice ⟨Nat.le_of_ble_eq_true rfl, Nat.le_of_ble_eq_true rfl⟩ [] rfl rfl jsp0 [] rfl rfl (Nat.le_of_ble_eq_true rfl) dX3_context_6 ⟨Nat.zero_le _, Nat.zero_le _⟩ ?_
  refine j_if_eq (pc := 9) (tgt := 34) C dX3_context_9 (by decide) (fun c2 => ?_) (fun c2 => ?_)
  · replace hF := ifp hF c2
    refine j_iconst (pc := 34) (v := 0) C dX3_context_34 (by decide) ?_
    cases hF
    exact j_zret (pc := 35) C K hr hlk rfl dX3_context_35
  · replace hF := ifn hF c2
    refine j_iload_n (pc := 12) C 3 dX3_context_12 rfl rfl ?_
    refine j_if_lt (pc := 13) (tgt := 34) C dX3_context_13 (by decide) (fun c3 => ?_) (fun c3 => ?_)
    · replace hF := ifp hF c3
      refine j_iconst (pc := 34) (v := 0) C dX3_context_34 (by decide) ?_
      cases hF
      exact j_zret (pc := 35) C K hr hlk rfl dX3_context_35
    · replace hF := ifn hF c3
      refine j_iload_n (pc := 16) C 3 dX3_context_16 rfl rfl ?_
      refine j_bipush (pc := 17) (v := 63) C dX3_context_17 (by decide) ?_
      refine j_icmp_gt (pc := 19) (tgt := 34) C dX3_context_19 (by decide) (fun c4 => ?_) (fun c4 => ?_)
      · replace hF := ifp hF c4
        refine j_iconst (pc := 34) (v := 0) C dX3_context_34 (by decide) ?_
        cases hF
        exact j_zret (pc := 35) C K hr hlk rfl dX3_context_35
      · replace hF := ifn hF c4
        refine j_iload (pc := 22) C 4 dX3_context_22 rfl ?_
        refine j_if_lt (pc := 24) (tgt := 34) C dX3_context_24 (by decide) (fun c5 => ?_) (fun c5 => ?_)
        · replace hF := ifp hF c5
          refine j_iconst (pc := 34) (v := 0) C dX3_context_34 (by decide) ?_
          cases hF
          exact j_zret (pc := 35) C K hr hlk rfl dX3_context_35
        · replace hF := ifn hF c5
          refine j_iload (pc := 27) C 4 dX3_context_27 rfl ?_
          refine j_bipush (pc := 29) (v := 15) C dX3_context_29 (by decide) ?_
          refine j_icmp_le (pc := 31) (tgt := 36) C dX3_context_31 (by decide) (fun c6 => ?_) (fun c6 => ?_)
          · replace hF := ifp hF c6
            refine j_aload_n (pc := 36) C 0 dX3_context_36 rfl rfl ?_
            refine j_get (pc := 37) (v := .ref (a 1)) C K inX3_context_X3 0 rfl rfl 0 (by decide) lkX3_context_9 rfl dX3_context_37 ?_
            refine j_aload_n (pc := 40) C 0 dX3_context_40 rfl rfl ?_
            refine j_get (pc := 41) (v := .int mtb) C K inX3_context_X3 0 rfl rfl 1 (by decide) lkX3_context_36 rfl dX3_context_41 ?_
            refine j_iconst (pc := 44) (v := 2) C dX3_context_44 (by decide) ?_
            refine j_iload_n (pc := 45) C 1 dX3_context_45 rfl rfl ?_
            refine j_imul (pc := 46) C dX3_context_46 ?_
            refine j_iadd (pc := 47) C dX3_context_47 ?_
            refine j_iconst (pc := 48) (v := 1) C dX3_context_48 (by decide) ?_
            refine j_iload_n (pc := 49) C 2 dX3_context_49 rfl rfl ?_
            refine j_if_eq (pc := 50) (tgt := 57) C dX3_context_50 (by decide) (fun c7 => ?_) (fun c7 => ?_)
            · replace hF := ifp hF c7
              refine j_iconst (pc := 57) (v := 0) C dX3_context_57 (by decide) ?_
              refine j_iadd (pc := 58) C dX3_context_58 ?_
              refine j_sipush (pc := 59) (v := 256) C dX3_context_59 (by decide) ?_
              refine j_iload_n (pc := 62) C 3 dX3_context_62 rfl rfl ?_
              refine j_imul (pc := 63) C dX3_context_63 ?_
              refine j_iadd (pc := 64) C dX3_context_64 ?_
              obtain ⟨g8, hF⟩ := gd_some hF
              refine j_iast (pc := 65) (ws' := (mw a k (upd mW (mtb + ((2 : Int32) * x1)).toNatClampNeg (((1 : Int32) + 0) + ((256 : Int32) * x3))) mC mL mR mQ mE mtb mnC mnL mnR mov mnQ mwr mwl mft 0 mpl)) C K 1 0 rfl rfl g8 rfl dX3_context_65 ?_
              refine j_aload_n (pc := 66) C 0 dX3_context_66 rfl rfl ?_
              refine j_get (pc := 67) (v := .ref (a 1)) C K inX3_context_X3 0 rfl rfl 0 (by decide) lkX3_context_9 rfl dX3_context_67 ?_
              refine j_aload_n (pc := 70) C 0 dX3_context_70 rfl rfl ?_
              refine j_get (pc := 71) (v := .int mtb) C K inX3_context_X3 0 rfl rfl 1 (by decide) lkX3_context_36 rfl dX3_context_71 ?_
              refine j_iconst (pc := 74) (v := 2) C dX3_context_74 (by decide) ?_
              refine j_iload_n (pc := 75) C 1 dX3_context_75 rfl rfl ?_
              refine j_imul (pc := 76) C dX3_context_76 ?_
              refine j_iadd (pc := 77) C dX3_context_77 ?_
              refine j_iconst (pc := 78) (v := 1) C dX3_context_78 (by decide) ?_
              refine j_iadd (pc := 79) C dX3_context_79 ?_
              refine j_iload (pc := 80) C 4 dX3_context_80 rfl ?_
              obtain ⟨g9, hF⟩ := gd_some hF
              refine j_iast (pc := 82) (ws' := (mw a k (upd (upd mW (mtb + ((2 : Int32) * x1)).toNatClampNeg (((1 : Int32) + 0) + ((256 : Int32) * x3))) ((mtb + ((2 : Int32) * x1)) + 1).toNatClampNeg x4) mC mL mR mQ mE mtb mnC mnL mnR mov mnQ mwr mwl mft 0 mpl)) C K 1 0 rfl rfl g9 rfl dX3_context_82 ?_
              refine j_iconst (pc := 83) (v := 1) C dX3_context_83 (by decide) ?_
              cases hF
              exact j_zret (pc := 84) C K hr hlk rfl dX3_context_84
            · replace hF := ifn hF c7
              refine j_iconst (pc := 53) (v := 2) C dX3_context_53 (by decide) ?_
              refine j_goto (pc := 54) (tgt := 58) C dX3_context_54 (by decide) ?_
              refine j_iadd (pc := 58) C dX3_context_58 ?_
              refine j_sipush (pc := 59) (v := 256) C dX3_context_59 (by decide) ?_
              refine j_iload_n (pc := 62) C 3 dX3_context_62 rfl rfl ?_
              refine j_imul (pc := 63) C dX3_context_63 ?_
              refine j_iadd (pc := 64) C dX3_context_64 ?_
              obtain ⟨g10, hF⟩ := gd_some hF
              refine j_iast (pc := 65) (ws' := (mw a k (upd mW (mtb + ((2 : Int32) * x1)).toNatClampNeg (((1 : Int32) + 2) + ((256 : Int32) * x3))) mC mL mR mQ mE mtb mnC mnL mnR mov mnQ mwr mwl mft 0 mpl)) C K 1 0 rfl rfl g10 rfl dX3_context_65 ?_
              refine j_aload_n (pc := 66) C 0 dX3_context_66 rfl rfl ?_
              refine j_get (pc := 67) (v := .ref (a 1)) C K inX3_context_X3 0 rfl rfl 0 (by decide) lkX3_context_9 rfl dX3_context_67 ?_
              refine j_aload_n (pc := 70) C 0 dX3_context_70 rfl rfl ?_
              refine j_get (pc := 71) (v := .int mtb) C K inX3_context_X3 0 rfl rfl 1 (by decide) lkX3_context_36 rfl dX3_context_71 ?_
              refine j_iconst (pc := 74) (v := 2) C dX3_context_74 (by decide) ?_
              refine j_iload_n (pc := 75) C 1 dX3_context_75 rfl rfl ?_
              refine j_imul (pc := 76) C dX3_context_76 ?_
              refine j_iadd (pc := 77) C dX3_context_77 ?_
              refine j_iconst (pc := 78) (v := 1) C dX3_context_78 (by decide) ?_
              refine j_iadd (pc := 79) C dX3_context_79 ?_
              refine j_iload (pc := 80) C 4 dX3_context_80 rfl ?_
              obtain ⟨g11, hF⟩ := gd_some hF
              refine j_iast (pc := 82) (ws' := (mw a k (upd (upd mW (mtb + ((2 : Int32) * x1)).toNatClampNeg (((1 : Int32) + 2) + ((256 : Int32) * x3))) ((mtb + ((2 : Int32) * x1)) + 1).toNatClampNeg x4) mC mL mR mQ mE mtb mnC mnL mnR mov mnQ mwr mwl mft 0 mpl)) C K 1 0 rfl rfl g11 rfl dX3_context_82 ?_
              refine j_iconst (pc := 83) (v := 1) C dX3_context_83 (by decide) ?_
              cases hF
              exact j_zret (pc := 84) C K hr hlk rfl dX3_context_84
          · replace hF := ifn hF c6
            refine j_iconst (pc := 34) (v := 0) C dX3_context_34 (by decide) ?_
            cases hF
            exact j_zret (pc := 35) C K hr hlk rfl dX3_context_35
theorem lkX3_enter_28 : Cond.fieldLink RX3 28 (TX3 14).1 (TX3 14).2.1 (TX3 14).2.2.1 ∈ wsX3_enter := by decide +kernel
theorem lkX3_enter_9 : Cond.fieldLink RX3 9 (TX3 0).1 (TX3 0).2.1 (TX3 0).2.2.1 ∈ wsX3_enter := by decide +kernel
theorem inX3_enter_X3 : ∀ w ∈ u_ws RX3 TX3 17, w ∈ wsX3_enter := by decide +kernel
theorem hdyX3_enter : yX3_enter.cls = RX3 ∧ yX3_enter.cls ≠ "java/lang/invoke/MethodHandle" ∧ yX3_enter.cls ≠ "java/lang/invoke/VarHandle" ∧ (parseMethodDescriptor yX3_enter.desc).map (fun d => d.parameters.length) = some 5 := by decide +kernel
set_option maxHeartbeats 4000000 in
set_option maxRecDepth 100000 in
theorem ctX3_enter (l : Launch) (D : va_G) (a : Nat → Nat) (k : Nat → ClassId) (mW : Nat → Int32) (mC : Nat → Int32) (mL : Nat → Int32) (mR : Nat → Int32) (mQ : Nat → Int32) (mE : Nat → Int32) (mtb : Int32) (mnC : Int32) (mnL : Int32) (mnR : Int32) (mov : Int32) (mnQ : Int32) (mwr : Int32) (mwl : Int32) (mft : Int32) (mth : Int32) (mpl : Int32) (x1 x2 x3 x4 x5 : Int32) (r : Int32) (omW : Nat → Int32) (omth : Int32) (hF : FX3_enter x1 x2 x3 x4 x5 mW mth = some (r, omW, omth)) : ji l yX3_enter wsX3_enter { frames := 0, cells := 0, slots := 0, locals := 0 } D (mt k) [.ref (a 0), .int x1, .int x2, .int x3, .int x4, .int x5] (mw a k mW mC mL mR mQ mE mtb mnC mnL mnR mov mnQ mwr mwl mft mth mpl) (mw a k omW mC mL mR mQ mE mtb mnC mnL mnR mov mnQ mwr mwl mft omth mpl) r := by
  refine j_mi (cc := cX3_enter) (maxL := 6) (own := RX3) (ret := (some .boolean)) (by decide) rfl rfl (Nat.le_of_ble_eq_true rfl) ?_
  intro p e s m args below meth c A C K hr hlk
  unfold FX3_enter at hF
  refine j_aload_n (pc := 0) C 0 dX3_enter_0 rfl rfl ?_
  refine j_iconst (pc := 1) (v := 0) C dX3_enter_1 (by decide) ?_
  refine j_put (pc := 2) (ws' := (mw a k mW mC mL mR mQ mE mtb mnC mnL mnR mov mnQ mwr mwl mft 0 mpl)) C K inX3_enter_X3 tyX3 tyX3_ok nmX3 0 rfl rfl 14 (by decide) lkX3_enter_28 rfl (tyX3_ok 14 (by decide)) rfl rfl (Nat.le_of_ble_eq_true rfl) rfl dX3_enter_2 ?_
  refine j_iload_n (pc := 5) C 1 dX3_enter_5 rfl rfl ?_
  refine j_if_lt (pc := 6) (tgt := 46) C dX3_enter_6 (by decide) (fun c1 => ?_) (fun c1 => ?_)
  · replace hF := ifp hF c1
    refine j_iconst (pc := 46) (v := 0) C dX3_enter_46 (by decide) ?_
    cases hF
    exact j_zret (pc := 47) C K hr hlk rfl dX3_enter_47
  · replace hF := ifn hF c1
    refine j_iload_n (pc := 9) C 1 dX3_enter_9 rfl rfl ?_
    refine j_bipush (pc := 10) (v := 63) C dX3_enter_10 (by decide) ?_
    refine j_icmp_gt (pc := 12) (tgt := 46) C dX3_enter_12 (by decide) (fun c2 => ?_) (fun c2 => ?_)
    · replace hF := ifp hF c2
      refine j_iconst (pc := 46) (v := 0) C dX3_enter_46 (by decide) ?_
      cases hF
      exact j_zret (pc := 47) C K hr hlk rfl dX3_enter_47
    · replace hF := ifn hF c2
      refine j_iload_n (pc := 15) C 2 dX3_enter_15 rfl rfl ?_
      refine j_if_lt (pc := 16) (tgt := 46) C dX3_enter_16 (by decide) (fun c3 => ?_) (fun c3 => ?_)
      · replace hF := ifp hF c3
        refine j_iconst (pc := 46) (v := 0) C dX3_enter_46 (by decide) ?_
        cases hF
        exact j_zret (pc := 47) C K hr hlk rfl dX3_enter_47
      · replace hF := ifn hF c3
        refine j_iload_n (pc := 19) C 2 dX3_enter_19 rfl rfl ?_
        refine j_bipush (pc := 20) (v := 15) C dX3_enter_20 (by decide) ?_
        refine j_icmp_gt (pc := 22) (tgt := 46) C dX3_enter_22 (by decide) (fun c4 => ?_) (fun c4 => ?_)
        · replace hF := ifp hF c4
          refine j_iconst (pc := 46) (v := 0) C dX3_enter_46 (by decide) ?_
          cases hF
          exact j_zret (pc := 47) C K hr hlk rfl dX3_enter_47
        · replace hF := ifn hF c4
          refine j_iload_n (pc := 25) C 3 dX3_enter_25 rfl rfl ?_
          refine j_if_lt (pc := 26) (tgt := 46) C dX3_enter_26 (by decide) (fun c5 => ?_) (fun c5 => ?_)
          · replace hF := ifp hF c5
            refine j_iconst (pc := 46) (v := 0) C dX3_enter_46 (by decide) ?_
            cases hF
            exact j_zret (pc := 47) C K hr hlk rfl dX3_enter_47
          · replace hF := ifn hF c5
            refine j_iload_n (pc := 29) C 3 dX3_enter_29 rfl rfl ?_
            refine j_iconst (pc := 30) (v := 3) C dX3_enter_30 (by decide) ?_
            refine j_icmp_gt (pc := 31) (tgt := 46) C dX3_enter_31 (by decide) (fun c6 => ?_) (fun c6 => ?_)
            · replace hF := ifp hF c6
              refine j_iconst (pc := 46) (v := 0) C dX3_enter_46 (by decide) ?_
              cases hF
              exact j_zret (pc := 47) C K hr hlk rfl dX3_enter_47
            · replace hF := ifn hF c6
              refine j_iload (pc := 34) C 5 dX3_enter_34 rfl ?_
              refine j_if_lt (pc := 36) (tgt := 46) C dX3_enter_36 (by decide) (fun c7 => ?_) (fun c7 => ?_)
              · replace hF := ifp hF c7
                refine j_iconst (pc := 46) (v := 0) C dX3_enter_46 (by decide) ?_
                cases hF
                exact j_zret (pc := 47) C K hr hlk rfl dX3_enter_47
              · replace hF := ifn hF c7
                refine j_iload (pc := 39) C 5 dX3_enter_39 rfl ?_
                refine j_bipush (pc := 41) (v := 63) C dX3_enter_41 (by decide) ?_
                refine j_icmp_le (pc := 43) (tgt := 48) C dX3_enter_43 (by decide) (fun c8 => ?_) (fun c8 => ?_)
                · replace hF := ifp hF c8
                  refine j_aload_n (pc := 48) C 0 dX3_enter_48 rfl rfl ?_
                  refine j_get (pc := 49) (v := .ref (a 1)) C K inX3_enter_X3 0 rfl rfl 0 (by decide) lkX3_enter_9 rfl dX3_enter_49 ?_
                  refine j_sipush (pc := 52) (v := 256) C dX3_enter_52 (by decide) ?_
                  refine j_iload_n (pc := 55) C 1 dX3_enter_55 rfl rfl ?_
                  refine j_imul (pc := 56) C dX3_enter_56 ?_
                  refine j_iload_n (pc := 57) C 2 dX3_enter_57 rfl rfl ?_
                  refine j_iadd (pc := 58) C dX3_enter_58 ?_
                  refine j_iconst (pc := 59) (v := 1) C dX3_enter_59 (by decide) ?_
                  refine j_iconst (pc := 60) (v := 2) C dX3_enter_60 (by decide) ?_
                  refine j_iload_n (pc := 61) C 3 dX3_enter_61 rfl rfl ?_
                  refine j_imul (pc := 62) C dX3_enter_62 ?_
                  refine j_iadd (pc := 63) C dX3_enter_63 ?_
                  refine j_iload (pc := 64) C 4 dX3_enter_64 rfl ?_
                  refine j_if_eq (pc := 66) (tgt := 74) C dX3_enter_66 (by decide) (fun c9 => ?_) (fun c9 => ?_)
                  · replace hF := ifp hF c9
                    refine j_iconst (pc := 74) (v := 0) C dX3_enter_74 (by decide) ?_
                    refine j_iadd (pc := 75) C dX3_enter_75 ?_
                    refine j_sipush (pc := 76) (v := 256) C dX3_enter_76 (by decide) ?_
                    refine j_iload (pc := 79) C 5 dX3_enter_79 rfl ?_
                    refine j_imul (pc := 81) C dX3_enter_81 ?_
                    refine j_iadd (pc := 82) C dX3_enter_82 ?_
                    obtain ⟨g10, hF⟩ := gd_some hF
                    refine j_iast (pc := 83) (ws' := (mw a k (upd mW (((256 : Int32) * x1) + x2).toNatClampNeg ((((1 : Int32) + ((2 : Int32) * x3)) + 0) + ((256 : Int32) * x5))) mC mL mR mQ mE mtb mnC mnL mnR mov mnQ mwr mwl mft 0 mpl)) C K 1 0 rfl rfl g10 rfl dX3_enter_83 ?_
                    refine j_iconst (pc := 84) (v := 1) C dX3_enter_84 (by decide) ?_
                    cases hF
                    exact j_zret (pc := 85) C K hr hlk rfl dX3_enter_85
                  · replace hF := ifn hF c9
                    refine j_bipush (pc := 69) (v := 8) C dX3_enter_69 (by decide) ?_
                    refine j_goto (pc := 71) (tgt := 75) C dX3_enter_71 (by decide) ?_
                    refine j_iadd (pc := 75) C dX3_enter_75 ?_
                    refine j_sipush (pc := 76) (v := 256) C dX3_enter_76 (by decide) ?_
                    refine j_iload (pc := 79) C 5 dX3_enter_79 rfl ?_
                    refine j_imul (pc := 81) C dX3_enter_81 ?_
                    refine j_iadd (pc := 82) C dX3_enter_82 ?_
                    obtain ⟨g11, hF⟩ := gd_some hF
                    refine j_iast (pc := 83) (ws' := (mw a k (upd mW (((256 : Int32) * x1) + x2).toNatClampNeg ((((1 : Int32) + ((2 : Int32) * x3)) + 8) + ((256 : Int32) * x5))) mC mL mR mQ mE mtb mnC mnL mnR mov mnQ mwr mwl mft 0 mpl)) C K 1 0 rfl rfl g11 rfl dX3_enter_83 ?_
                    refine j_iconst (pc := 84) (v := 1) C dX3_enter_84 (by decide) ?_
                    cases hF
                    exact j_zret (pc := 85) C K hr hlk rfl dX3_enter_85
                · replace hF := ifn hF c8
                  refine j_iconst (pc := 46) (v := 0) C dX3_enter_46 (by decide) ?_
                  cases hF
                  exact j_zret (pc := 47) C K hr hlk rfl dX3_enter_47
theorem lkX3_contextOf_42 : Cond.fieldLink RX3 42 (TX3 3).1 (TX3 3).2.1 (TX3 3).2.2.1 ∈ wsX3_contextOf := by decide +kernel
theorem lkX3_contextOf_13 : Cond.fieldLink RX3 13 (TX3 2).1 (TX3 2).2.1 (TX3 2).2.2.1 ∈ wsX3_contextOf := by decide +kernel
theorem inX3_contextOf_X3 : ∀ w ∈ u_ws RX3 TX3 17, w ∈ wsX3_contextOf := by decide +kernel
theorem hdyX3_contextOf : yX3_contextOf.cls = RX3 ∧ yX3_contextOf.cls ≠ "java/lang/invoke/MethodHandle" ∧ yX3_contextOf.cls ≠ "java/lang/invoke/VarHandle" ∧ (parseMethodDescriptor yX3_contextOf.desc).map (fun d => d.parameters.length) = some 1 := by decide +kernel
set_option maxHeartbeats 4000000 in
set_option maxRecDepth 100000 in
theorem ctX3_contextOf (l : Launch) (D : va_G) (a : Nat → Nat) (k : Nat → ClassId) (mW : Nat → Int32) (mC : Nat → Int32) (mL : Nat → Int32) (mR : Nat → Int32) (mQ : Nat → Int32) (mE : Nat → Int32) (mtb : Int32) (mnC : Int32) (mnL : Int32) (mnR : Int32) (mov : Int32) (mnQ : Int32) (mwr : Int32) (mwl : Int32) (mft : Int32) (mth : Int32) (mpl : Int32) (x1 : Int32) (r : Int32) (hF : FX3_contextOf x1 mC mnC = some r) : ji l yX3_contextOf wsX3_contextOf { frames := 0, cells := 0, slots := 0, locals := 0 } D (mt k) [.ref (a 0), .int x1] (mw a k mW mC mL mR mQ mE mtb mnC mnL mnR mov mnQ mwr mwl mft mth mpl) (mw a k mW mC mL mR mQ mE mtb mnC mnL mnR mov mnQ mwr mwl mft mth mpl) r := by
  refine j_mi (cc := cX3_contextOf) (maxL := 3) (own := RX3) (ret := (some .int)) (by decide) rfl rfl (Nat.le_of_ble_eq_true rfl) ?_
  intro p e s m args below meth c A C K hr hlk
  have K2 : ∀ (n : Nat) (mC : Nat → Int32) (mnC : Int32) (v2 : Int32), FX3_contextOf_2 x1 n mC mnC v2 = some r → jw p l e ({ frames := 0, cells := 0, slots := 0, locals := 0 } : Room) s m args below meth c 3 D A 0 0 (jqi below D (mt k) args s A (mw a k mW mC mL mR mQ mE mtb mnC mnL mnR mov mnQ mwr mwl mft mth mpl) r) (mw a k mW mC mL mR mQ mE mtb mnC mnL mnR mov mnQ mwr mwl mft mth mpl) [(0, .ref (a 0)), (1, .int x1), (2, .int v2)] 2 [] := by
    intro n
    induction n with
    | zero =>
      intro mC mnC v2 hF
      rw [FX3_contextOf_2] at hF
      cases hF
    | succ n ih =>
      intro mC mnC v2 hF
      rw [FX3_contextOf_2] at hF
      refine j_iload_n (pc := 2) C 2 dX3_contextOf_2 rfl rfl ?_
      refine j_aload_n (pc := 3) C 0 dX3_contextOf_3 rfl rfl ?_
      refine j_get (pc := 4) (v := .int mnC) C K inX3_contextOf_X3 0 rfl rfl 3 (by decide) lkX3_contextOf_42 rfl dX3_contextOf_4 ?_
      refine j_icmp_ge (pc := 7) (tgt := 30) C dX3_contextOf_7 (by decide) (fun c1 => ?_) (fun c1 => ?_)
      · replace hF := ifp hF c1
        refine j_iconst (pc := 30) (v := (-1)) C dX3_contextOf_30 (by decide) ?_
        cases hF
        exact j_iret (pc := 31) C K hr hlk dX3_contextOf_31
      · replace hF := ifn hF c1
        refine j_aload_n (pc := 10) C 0 dX3_contextOf_10 rfl rfl ?_
        refine j_get (pc := 11) (v := .ref (a 2)) C K inX3_contextOf_X3 0 rfl rfl 2 (by decide) lkX3_contextOf_13 rfl dX3_contextOf_11 ?_
        refine j_iconst (pc := 14) (v := 4) C dX3_contextOf_14 (by decide) ?_
        refine j_iload_n (pc := 15) C 2 dX3_contextOf_15 rfl rfl ?_
        refine j_imul (pc := 16) C dX3_contextOf_16 ?_
        obtain ⟨g2, hF⟩ := gd_some hF
        refine j_iald (pc := 17) C K 2 1 rfl rfl g2 dX3_contextOf_17 ?_
        refine j_iload_n (pc := 18) C 1 dX3_contextOf_18 rfl rfl ?_
        refine j_icmp_ne (pc := 19) (tgt := 24) C dX3_contextOf_19 (by decide) (fun c3 => ?_) (fun c3 => ?_)
        · replace hF := ifn hF c3
          refine j_iinc (pc := 24) (v := (v2 + 1)) (lv' := [(2, .int (v2 + 1)), (0, .ref (a 0)), (1, .int x1)]) C 2 dX3_contextOf_24 rfl rfl (by decide) rfl ?_
          refine j_goto (pc := 27) (tgt := 2) C dX3_contextOf_27 (by decide) ?_
          exact j_lv [1, 2, 0] rfl (ih _ _ _ hF)
        · replace hF := ifp hF c3
          refine j_iload_n (pc := 22) C 2 dX3_contextOf_22 rfl rfl ?_
          cases hF
          exact j_iret (pc := 23) C K hr hlk dX3_contextOf_23
  unfold FX3_contextOf at hF
  refine j_iconst (pc := 0) (v := 0) C dX3_contextOf_0 (by decide) ?_
  refine j_istore_n (pc := 1) (lv' := [(2, .int 0), (0, .ref (a 0)), (1, .int x1)]) C dX3_contextOf_1 rfl (by decide) rfl ?_
  exact j_lv [1, 2, 0] rfl (K2 _ _ _ _ hF)
theorem hdyX3_shift : yX3_shift.cls ≠ "java/lang/invoke/MethodHandle" ∧ yX3_shift.cls ≠ "java/lang/invoke/VarHandle" ∧ (parseMethodDescriptor yX3_shift.desc).map (fun d => d.parameters.length) = some 3 := by decide +kernel
set_option maxHeartbeats 4000000 in
set_option maxRecDepth 100000 in
theorem ctX3_shift (l : Launch) (D : va_G) (ha : Nat) (kA : ClassId) (slen : Nat) (sB : Nat → Int32) (x1 x2 : Int32) (osB : Nat → Int32) (hF : FX3_shift slen x1 x2 sB = some osB) : jv l yX3_shift wsX3_shift { frames := 0, cells := 0, slots := 0, locals := 0 } D [(kA, .int)] [.ref ha, .int x1, .int x2] (sww ha kA slen sB) (sww ha kA slen osB) := by
  refine j_mv (cc := cX3_shift) (maxL := 4) (own := RX3) (by decide) rfl rfl (Nat.le_of_ble_eq_true rfl) ?_
  intro p e s m args below meth c A C K hr hlk
  have K2 : ∀ (n : Nat) (sB : Nat → Int32) (v3 : Int32), FX3_shift_2 slen x1 x2 n sB v3 = some osB → jw p l e ({ frames := 0, cells := 0, slots := 0, locals := 0 } : Room) s m args below meth c 4 D A 0 0 (jqv below D [(kA, .int)] args s A (sww ha kA slen osB)) (sww ha kA slen sB) [(0, .ref ha), (1, .int x1), (2, .int x2), (3, .int v3)] 2 [] := by
    intro n
    induction n with
    | zero =>
      intro sB v3 hF
      rw [FX3_shift_2] at hF
      cases hF
    | succ n ih =>
      intro sB v3 hF
      rw [FX3_shift_2] at hF
      refine j_iload_n (pc := 2) C 3 dX3_shift_2 rfl rfl ?_
      refine j_iload_n (pc := 3) C 1 dX3_shift_3 rfl rfl ?_
      refine j_iload_n (pc := 4) C 2 dX3_shift_4 rfl rfl ?_
      refine j_iconst (pc := 5) (v := 1) C dX3_shift_5 (by decide) ?_
      refine j_isub (pc := 6) C dX3_shift_6 ?_
      refine j_imul (pc := 7) C dX3_shift_7 ?_
      refine j_icmp_ge (pc := 8) (tgt := 25) C dX3_shift_8 (by decide) (fun c1 => ?_) (fun c1 => ?_)
      · replace hF := ifp hF c1
        cases hF
        exact j_vret (pc := 25) C K hr hlk dX3_shift_25
      · replace hF := ifn hF c1
        refine j_aload_n (pc := 11) C 0 dX3_shift_11 rfl rfl ?_
        refine j_iload_n (pc := 12) C 3 dX3_shift_12 rfl rfl ?_
        refine j_aload_n (pc := 13) C 0 dX3_shift_13 rfl rfl ?_
        refine j_iload_n (pc := 14) C 3 dX3_shift_14 rfl rfl ?_
        refine j_iload_n (pc := 15) C 1 dX3_shift_15 rfl rfl ?_
        refine j_iadd (pc := 16) C dX3_shift_16 ?_
        obtain ⟨g2, hF⟩ := gd_some hF
        refine j_iald (pc := 17) C K 0 0 rfl rfl g2 dX3_shift_17 ?_
        obtain ⟨g3, hF⟩ := gd_some hF
        refine j_iast (pc := 18) (ws' := (sww ha kA slen (upd sB v3.toNatClampNeg (sB (v3 + x1).toNatClampNeg)))) C K 0 0 rfl rfl g3 rfl dX3_shift_18 ?_
        refine j_iinc (pc := 19) (v := (v3 + 1)) (lv' := [(3, .int (v3 + 1)), (0, .ref ha), (1, .int x1), (2, .int x2)]) C 3 dX3_shift_19 rfl rfl (by decide) rfl ?_
        refine j_goto (pc := 22) (tgt := 2) C dX3_shift_22 (by decide) ?_
        exact j_lv [1, 2, 3, 0] rfl (ih _ _ hF)
  unfold FX3_shift at hF
  refine j_iconst (pc := 0) (v := 0) C dX3_shift_0 (by decide) ?_
  refine j_istore_n (pc := 1) (lv' := [(3, .int 0), (0, .ref ha), (1, .int x1), (2, .int x2)]) C dX3_shift_1 rfl (by decide) rfl ?_
  exact j_lv [1, 2, 3, 0] rfl (K2 _ _ _ hF)
theorem lkX3_remember_42 : Cond.fieldLink RX3 42 (TX3 3).1 (TX3 3).2.1 (TX3 3).2.2.1 ∈ wsX3_remember := by decide +kernel
theorem lkX3_remember_13 : Cond.fieldLink RX3 13 (TX3 2).1 (TX3 2).2.1 (TX3 2).2.2.1 ∈ wsX3_remember := by decide +kernel
theorem inX3_remember_X3 : ∀ w ∈ u_ws RX3 TX3 17, w ∈ wsX3_remember := by decide +kernel
theorem hdyX3_remember : yX3_remember.cls = RX3 ∧ yX3_remember.cls ≠ "java/lang/invoke/MethodHandle" ∧ yX3_remember.cls ≠ "java/lang/invoke/VarHandle" ∧ (parseMethodDescriptor yX3_remember.desc).map (fun d => d.parameters.length) = some 3 := by decide +kernel
set_option maxHeartbeats 4000000 in
set_option maxRecDepth 100000 in
theorem ctX3_remember (l : Launch) (D : va_G) (a : Nat → Nat) (k : Nat → ClassId) (mW : Nat → Int32) (mC : Nat → Int32) (mL : Nat → Int32) (mR : Nat → Int32) (mQ : Nat → Int32) (mE : Nat → Int32) (mtb : Int32) (mnC : Int32) (mnL : Int32) (mnR : Int32) (mov : Int32) (mnQ : Int32) (mwr : Int32) (mwl : Int32) (mft : Int32) (mth : Int32) (mpl : Int32) (x1 x2 x3 : Int32) (omC : Nat → Int32) (omnC : Int32) (hF : FX3_remember x1 x2 x3 mC mnC = some (omC, omnC)) : jv l yX3_remember wsX3_remember { frames := 1, cells := 0, slots := 0, locals := 23 } D (mt k) [.ref (a 0), .int x1, .int x2, .int x3] (mw a k mW mC mL mR mQ mE mtb mnC mnL mnR mov mnQ mwr mwl mft mth mpl) (mw a k mW omC mL mR mQ mE mtb omnC mnL mnR mov mnQ mwr mwl mft mth mpl) := by
  refine j_mv (cc := cX3_remember) (maxL := 5) (own := RX3) (by decide) rfl rfl (Nat.le_of_ble_eq_true rfl) ?_
  intro p e s m args below meth c A C K hr hlk
  have K27 : ∀ (mC : Nat → Int32) (mnC : Int32), FX3_remember_27 x1 x2 x3 mC mnC = some (omC, omnC) → jw p l e ({ frames := 1, cells := 0, slots := 0, locals := 23 } : Room) s m args below meth c 5 D A 0 0 (jqv below D (mt k) args s A (mw a k mW omC mL mR mQ mE mtb omnC mnL mnR mov mnQ mwr mwl mft mth mpl)) (mw a k mW mC mL mR mQ mE mtb mnC mnL mnR mov mnQ mwr mwl mft mth mpl) [(0, .ref (a 0)), (1, .int x1), (2, .int x2), (3, .int x3)] 27 [] := by
    intro mC mnC hF
    unfold FX3_remember_27 at hF
    refine j_iconst (pc := 27) (v := 4) C dX3_remember_27 (by decide) ?_
    refine j_aload_n (pc := 28) C 0 dX3_remember_28 rfl rfl ?_
    refine j_get (pc := 29) (v := .int mnC) C K inX3_remember_X3 0 rfl rfl 3 (by decide) lkX3_remember_42 rfl dX3_remember_29 ?_
    refine j_imul (pc := 32) C dX3_remember_32 ?_
    refine j_istore (pc := 33) (lv' := [(4, .int ((4 : Int32) * mnC)), (0, .ref (a 0)), (1, .int x1), (2, .int x2), (3, .int x3)]) C dX3_remember_33 (by decide) rfl ?_
    refine j_aload_n (pc := 35) C 1 dX3_remember_35 rfl rfl ?_
    refine j_get (pc := 36) (v := .ref (a 2)) C K inX3_remember_X3 0 rfl rfl 2 (by decide) lkX3_remember_13 rfl dX3_remember_36 ?_
    refine j_iload (pc := 39) C 0 dX3_remember_39 rfl ?_
    refine j_iload_n (pc := 41) C 2 dX3_remember_41 rfl rfl ?_
    obtain ⟨g3, hF⟩ := gd_some hF
    refine j_iast (pc := 42) (ws' := (mw a k mW (upd mC ((4 : Int32) * mnC).toNatClampNeg x1) mL mR mQ mE mtb mnC mnL mnR mov mnQ mwr mwl mft mth mpl)) C K 2 1 rfl rfl g3 rfl dX3_remember_42 ?_
    refine j_aload_n (pc := 43) C 1 dX3_remember_43 rfl rfl ?_
    refine j_get (pc := 44) (v := .ref (a 2)) C K inX3_remember_X3 0 rfl rfl 2 (by decide) lkX3_remember_13 rfl dX3_remember_44 ?_
    refine j_iload (pc := 47) C 0 dX3_remember_47 rfl ?_
    refine j_iconst (pc := 49) (v := 1) C dX3_remember_49 (by decide) ?_
    refine j_iadd (pc := 50) C dX3_remember_50 ?_
    refine j_iload_n (pc := 51) C 3 dX3_remember_51 rfl rfl ?_
    refine j_iconst (pc := 52) (v := 1) C dX3_remember_52 (by decide) ?_
    refine j_ishr (pc := 53) C dX3_remember_53 ?_
    refine j_iconst (pc := 54) (v := 1) C dX3_remember_54 (by decide) ?_
    refine j_iand (pc := 55) C dX3_remember_55 ?_
    obtain ⟨g4, hF⟩ := gd_some hF
    refine j_iast (pc := 56) (ws' := (mw a k mW (upd (upd mC ((4 : Int32) * mnC).toNatClampNeg x1) (((4 : Int32) * mnC) + 1).toNatClampNeg ((x2 >>> ((1 : Int32) &&& 31)) &&& (1 : Int32))) mL mR mQ mE mtb mnC mnL mnR mov mnQ mwr mwl mft mth mpl)) C K 2 1 rfl rfl g4 rfl dX3_remember_56 ?_
    refine j_aload_n (pc := 57) C 1 dX3_remember_57 rfl rfl ?_
    refine j_get (pc := 58) (v := .ref (a 2)) C K inX3_remember_X3 0 rfl rfl 2 (by decide) lkX3_remember_13 rfl dX3_remember_58 ?_
    refine j_iload (pc := 61) C 0 dX3_remember_61 rfl ?_
    refine j_iconst (pc := 63) (v := 2) C dX3_remember_63 (by decide) ?_
    refine j_iadd (pc := 64) C dX3_remember_64 ?_
    refine j_iload_n (pc := 65) C 3 dX3_remember_65 rfl rfl ?_
    refine j_bipush (pc := 66) (v := 8) C dX3_remember_66 (by decide) ?_
    refine j_ishr (pc := 68) C dX3_remember_68 ?_
    refine j_bipush (pc := 69) (v := 63) C dX3_remember_69 (by decide) ?_
    refine j_iand (pc := 71) C dX3_remember_71 ?_
    obtain ⟨g5, hF⟩ := gd_some hF
    refine j_iast (pc := 72) (ws' := (mw a k mW (upd (upd (upd mC ((4 : Int32) * mnC).toNatClampNeg x1) (((4 : Int32) * mnC) + 1).toNatClampNeg ((x2 >>> ((1 : Int32) &&& 31)) &&& (1 : Int32))) (((4 : Int32) * mnC) + 2).toNatClampNeg ((x2 >>> ((8 : Int32) &&& 31)) &&& (63 : Int32))) mL mR mQ mE mtb mnC mnL mnR mov mnQ mwr mwl mft mth mpl)) C K 2 1 rfl rfl g5 rfl dX3_remember_72 ?_
    refine j_aload_n (pc := 73) C 1 dX3_remember_73 rfl rfl ?_
    refine j_get (pc := 74) (v := .ref (a 2)) C K inX3_remember_X3 0 rfl rfl 2 (by decide) lkX3_remember_13 rfl dX3_remember_74 ?_
    refine j_iload (pc := 77) C 0 dX3_remember_77 rfl ?_
    refine j_iconst (pc := 79) (v := 3) C dX3_remember_79 (by decide) ?_
    refine j_iadd (pc := 80) C dX3_remember_80 ?_
    refine j_iload_n (pc := 81) C 4 dX3_remember_81 rfl rfl ?_
    refine j_bipush (pc := 82) (v := 15) C dX3_remember_82 (by decide) ?_
    refine j_iand (pc := 84) C dX3_remember_84 ?_
    obtain ⟨g6, hF⟩ := gd_some hF
    refine j_iast (pc := 85) (ws' := (mw a k mW (upd (upd (upd (upd mC ((4 : Int32) * mnC).toNatClampNeg x1) (((4 : Int32) * mnC) + 1).toNatClampNeg ((x2 >>> ((1 : Int32) &&& 31)) &&& (1 : Int32))) (((4 : Int32) * mnC) + 2).toNatClampNeg ((x2 >>> ((8 : Int32) &&& 31)) &&& (63 : Int32))) (((4 : Int32) * mnC) + 3).toNatClampNeg (x3 &&& (15 : Int32))) mL mR mQ mE mtb mnC mnL mnR mov mnQ mwr mwl mft mth mpl)) C K 2 1 rfl rfl g6 rfl dX3_remember_85 ?_
    refine j_aload_n (pc := 86) C 1 dX3_remember_86 rfl rfl ?_
    refine j_dup (pc := 87) C dX3_remember_87 rfl ?_
    refine j_get (pc := 88) (v := .int mnC) C K inX3_remember_X3 0 rfl rfl 3 (by decide) lkX3_remember_42 rfl dX3_remember_88 ?_
    refine j_iconst (pc := 91) (v := 1) C dX3_remember_91 (by decide) ?_
    refine j_iadd (pc := 92) C dX3_remember_92 ?_
    refine j_put (pc := 93) (ws' := (mw a k mW (upd (upd (upd (upd mC ((4 : Int32) * mnC).toNatClampNeg x1) (((4 : Int32) * mnC) + 1).toNatClampNeg ((x2 >>> ((1 : Int32) &&& 31)) &&& (1 : Int32))) (((4 : Int32) * mnC) + 2).toNatClampNeg ((x2 >>> ((8 : Int32) &&& 31)) &&& (63 : Int32))) (((4 : Int32) * mnC) + 3).toNatClampNeg (x3 &&& (15 : Int32))) mL mR mQ mE mtb (mnC + 1) mnL mnR mov mnQ mwr mwl mft mth mpl)) C K inX3_remember_X3 tyX3 tyX3_ok nmX3 0 rfl rfl 3 (by decide) lkX3_remember_42 rfl (tyX3_ok 3 (by decide)) rfl rfl (Nat.le_of_ble_eq_true rfl) rfl dX3_remember_93 ?_
    cases hF
    exact j_vret (pc := 96) C K hr hlk dX3_remember_96
  unfold FX3_remember at hF
  refine j_aload_n (pc := 0) C 0 dX3_remember_0 rfl rfl ?_
  refine j_get (pc := 1) (v := .int mnC) C K inX3_remember_X3 0 rfl rfl 3 (by decide) lkX3_remember_42 rfl dX3_remember_1 ?_
  refine j_iconst (pc := 4) (v := 3) C dX3_remember_4 (by decide) ?_
  refine j_icmp_ne (pc := 5) (tgt := 27) C dX3_remember_5 (by decide) (fun c1 => ?_) (fun c1 => ?_)
  · replace hF := ifn hF c1
    exact j_lv [0, 1, 2, 3] rfl (K27 _ _ hF)
  · replace hF := ifp hF c1
    refine j_aload_n (pc := 8) C 0 dX3_remember_8 rfl rfl ?_
    refine j_get (pc := 9) (v := .ref (a 2)) C K inX3_remember_X3 0 rfl rfl 2 (by decide) lkX3_remember_13 rfl dX3_remember_9 ?_
    refine j_iconst (pc := 12) (v := 4) C dX3_remember_12 (by decide) ?_
    refine j_iconst (pc := 13) (v := 3) C dX3_remember_13 (by decide) ?_
    obtain ⟨q2sB, hq2, hF⟩ := bd1_some hF
    refine j_callSv (pc := 14) (As := [.ref (a 2), .int 4, .int 3]) (rest := []) (ws' := (mw a k mW q2sB mL mR mQ mE mtb mnC mnL mnR mov mnQ mwr mwl mft mth mpl)) C K (ctX3_shift l D (a 2) (k 2) 12 _ _ _ _ hq2) gX3_remember_X3_shift rfl rfl rfl hdyX3_shift ⟨Nat.le_of_ble_eq_true rfl, Nat.le_of_ble_eq_true rfl⟩ [2] rfl (nd1 _) (jsp_eq (jsp1 (Nat.le_of_ble_eq_true rfl)) rfl) [1] rfl rfl (Nat.le_of_ble_eq_true rfl) dX3_remember_14 ⟨Nat.zero_le _, Nat.zero_le _⟩ ?_
    refine j_aload_n (pc := 17) C 0 dX3_remember_17 rfl rfl ?_
    refine j_dup (pc := 18) C dX3_remember_18 rfl ?_
    refine j_get (pc := 19) (v := .int mnC) C K inX3_remember_X3 0 rfl rfl 3 (by decide) lkX3_remember_42 rfl dX3_remember_19 ?_
    refine j_iconst (pc := 22) (v := 1) C dX3_remember_22 (by decide) ?_
    refine j_isub (pc := 23) C dX3_remember_23 ?_
    refine j_put (pc := 24) (ws' := (mw a k mW q2sB mL mR mQ mE mtb (mnC - 1) mnL mnR mov mnQ mwr mwl mft mth mpl)) C K inX3_remember_X3 tyX3 tyX3_ok nmX3 0 rfl rfl 3 (by decide) lkX3_remember_42 rfl (tyX3_ok 3 (by decide)) rfl rfl (Nat.le_of_ble_eq_true rfl) rfl dX3_remember_24 ?_
    exact j_lv [0, 1, 2, 3] rfl (K27 _ _ hF)
theorem lkX3_leafOf_49 : Cond.fieldLink RX3 49 (TX3 5).1 (TX3 5).2.1 (TX3 5).2.2.1 ∈ wsX3_leafOf := by decide +kernel
theorem lkX3_leafOf_16 : Cond.fieldLink RX3 16 (TX3 4).1 (TX3 4).2.1 (TX3 4).2.2.1 ∈ wsX3_leafOf := by decide +kernel
theorem inX3_leafOf_X3 : ∀ w ∈ u_ws RX3 TX3 17, w ∈ wsX3_leafOf := by decide +kernel
theorem hdyX3_leafOf : yX3_leafOf.cls = RX3 ∧ yX3_leafOf.cls ≠ "java/lang/invoke/MethodHandle" ∧ yX3_leafOf.cls ≠ "java/lang/invoke/VarHandle" ∧ (parseMethodDescriptor yX3_leafOf.desc).map (fun d => d.parameters.length) = some 2 := by decide +kernel
set_option maxHeartbeats 4000000 in
set_option maxRecDepth 100000 in
theorem ctX3_leafOf (l : Launch) (D : va_G) (a : Nat → Nat) (k : Nat → ClassId) (mW : Nat → Int32) (mC : Nat → Int32) (mL : Nat → Int32) (mR : Nat → Int32) (mQ : Nat → Int32) (mE : Nat → Int32) (mtb : Int32) (mnC : Int32) (mnL : Int32) (mnR : Int32) (mov : Int32) (mnQ : Int32) (mwr : Int32) (mwl : Int32) (mft : Int32) (mth : Int32) (mpl : Int32) (x1 x2 : Int32) (r : Int32) (hF : FX3_leafOf x1 x2 mL mnL = some r) : ji l yX3_leafOf wsX3_leafOf { frames := 0, cells := 0, slots := 0, locals := 0 } D (mt k) [.ref (a 0), .int x1, .int x2] (mw a k mW mC mL mR mQ mE mtb mnC mnL mnR mov mnQ mwr mwl mft mth mpl) (mw a k mW mC mL mR mQ mE mtb mnC mnL mnR mov mnQ mwr mwl mft mth mpl) r := by
  refine j_mi (cc := cX3_leafOf) (maxL := 5) (own := RX3) (ret := (some .int)) (by decide) rfl rfl (Nat.le_of_ble_eq_true rfl) ?_
  intro p e s m args below meth c A C K hr hlk
  have K2 : ∀ (n : Nat) (mL : Nat → Int32) (mnL : Int32) (v3 : Int32), FX3_leafOf_2 x1 x2 n mL mnL v3 = some r → jw p l e ({ frames := 0, cells := 0, slots := 0, locals := 0 } : Room) s m args below meth c 5 D A 0 0 (jqi below D (mt k) args s A (mw a k mW mC mL mR mQ mE mtb mnC mnL mnR mov mnQ mwr mwl mft mth mpl) r) (mw a k mW mC mL mR mQ mE mtb mnC mnL mnR mov mnQ mwr mwl mft mth mpl) [(0, .ref (a 0)), (1, .int x1), (2, .int x2), (3, .int v3)] 2 [] := by
    intro n
    induction n with
    | zero =>
      intro mL mnL v3 hF
      rw [FX3_leafOf_2] at hF
      cases hF
    | succ n ih =>
      intro mL mnL v3 hF
      rw [FX3_leafOf_2] at hF
      refine j_iload_n (pc := 2) C 3 dX3_leafOf_2 rfl rfl ?_
      refine j_aload_n (pc := 3) C 0 dX3_leafOf_3 rfl rfl ?_
      refine j_get (pc := 4) (v := .int mnL) C K inX3_leafOf_X3 0 rfl rfl 5 (by decide) lkX3_leafOf_49 rfl dX3_leafOf_4 ?_
      refine j_icmp_ge (pc := 7) (tgt := 59) C dX3_leafOf_7 (by decide) (fun c1 => ?_) (fun c1 => ?_)
      · replace hF := ifp hF c1
        refine j_iconst (pc := 59) (v := (-1)) C dX3_leafOf_59 (by decide) ?_
        cases hF
        exact j_iret (pc := 60) C K hr hlk dX3_leafOf_60
      · replace hF := ifn hF c1
        refine j_iconst (pc := 10) (v := 5) C dX3_leafOf_10 (by decide) ?_
        refine j_iload_n (pc := 11) C 3 dX3_leafOf_11 rfl rfl ?_
        refine j_imul (pc := 12) C dX3_leafOf_12 ?_
        refine j_istore (pc := 13) (lv' := [(4, .int ((5 : Int32) * v3)), (0, .ref (a 0)), (1, .int x1), (2, .int x2), (3, .int v3)]) C dX3_leafOf_13 (by decide) rfl ?_
        refine j_aload_n (pc := 15) C 1 dX3_leafOf_15 rfl rfl ?_
        refine j_get (pc := 16) (v := .ref (a 3)) C K inX3_leafOf_X3 0 rfl rfl 4 (by decide) lkX3_leafOf_16 rfl dX3_leafOf_16 ?_
        refine j_iload (pc := 19) C 0 dX3_leafOf_19 rfl ?_
        obtain ⟨g2, hF⟩ := gd_some hF
        refine j_iald (pc := 21) C K 3 2 rfl rfl g2 dX3_leafOf_21 ?_
        refine j_iload_n (pc := 22) C 2 dX3_leafOf_22 rfl rfl ?_
        refine j_icmp_ne (pc := 23) (tgt := 53) C dX3_leafOf_23 (by decide) (fun c3 => ?_) (fun c3 => ?_)
        · replace hF := ifn hF c3
          refine j_iinc (pc := 53) (v := (v3 + 1)) (lv' := [(3, .int (v3 + 1)), (4, .int ((5 : Int32) * v3)), (0, .ref (a 0)), (1, .int x1), (2, .int x2)]) C 4 dX3_leafOf_53 rfl rfl (by decide) rfl ?_
          refine j_goto (pc := 56) (tgt := 2) C dX3_leafOf_56 (by decide) ?_
          exact j_lv [2, 3, 4, 0] rfl (ih _ _ _ hF)
        · replace hF := ifp hF c3
          refine j_aload_n (pc := 26) C 1 dX3_leafOf_26 rfl rfl ?_
          refine j_get (pc := 27) (v := .ref (a 3)) C K inX3_leafOf_X3 0 rfl rfl 4 (by decide) lkX3_leafOf_16 rfl dX3_leafOf_27 ?_
          refine j_iload (pc := 30) C 0 dX3_leafOf_30 rfl ?_
          refine j_iconst (pc := 32) (v := 2) C dX3_leafOf_32 (by decide) ?_
          refine j_iadd (pc := 33) C dX3_leafOf_33 ?_
          obtain ⟨g4, hF⟩ := gd_some hF
          refine j_iald (pc := 34) C K 3 2 rfl rfl g4 dX3_leafOf_34 ?_
          refine j_iload_n (pc := 35) C 3 dX3_leafOf_35 rfl rfl ?_
          refine j_iconst (pc := 36) (v := 4) C dX3_leafOf_36 (by decide) ?_
          refine j_aload_n (pc := 37) C 1 dX3_leafOf_37 rfl rfl ?_
          refine j_get (pc := 38) (v := .ref (a 3)) C K inX3_leafOf_X3 0 rfl rfl 4 (by decide) lkX3_leafOf_16 rfl dX3_leafOf_38 ?_
          refine j_iload (pc := 41) C 0 dX3_leafOf_41 rfl ?_
          refine j_iconst (pc := 43) (v := 1) C dX3_leafOf_43 (by decide) ?_
          refine j_iadd (pc := 44) C dX3_leafOf_44 ?_
          obtain ⟨g5, hF⟩ := gd_some hF
          refine j_iald (pc := 45) C K 3 2 rfl rfl g5 dX3_leafOf_45 ?_
          refine j_imul (pc := 46) C dX3_leafOf_46 ?_
          refine j_ishr (pc := 47) C dX3_leafOf_47 ?_
          refine j_icmp_ne (pc := 48) (tgt := 53) C dX3_leafOf_48 (by decide) (fun c6 => ?_) (fun c6 => ?_)
          · replace hF := ifn hF c6
            refine j_iinc (pc := 53) (v := (v3 + 1)) (lv' := [(3, .int (v3 + 1)), (4, .int ((5 : Int32) * v3)), (0, .ref (a 0)), (1, .int x1), (2, .int x2)]) C 4 dX3_leafOf_53 rfl rfl (by decide) rfl ?_
            refine j_goto (pc := 56) (tgt := 2) C dX3_leafOf_56 (by decide) ?_
            exact j_lv [2, 3, 4, 0] rfl (ih _ _ _ hF)
          · replace hF := ifp hF c6
            refine j_iload_n (pc := 51) C 4 dX3_leafOf_51 rfl rfl ?_
            cases hF
            exact j_iret (pc := 52) C K hr hlk dX3_leafOf_52
  unfold FX3_leafOf at hF
  refine j_iconst (pc := 0) (v := 0) C dX3_leafOf_0 (by decide) ?_
  refine j_istore_n (pc := 1) (lv' := [(3, .int 0), (0, .ref (a 0)), (1, .int x1), (2, .int x2)]) C dX3_leafOf_1 rfl (by decide) rfl ?_
  exact j_lv [1, 2, 3, 0] rfl (K2 _ _ _ _ hF)
theorem lkX3_remember__49 : Cond.fieldLink RX3 49 (TX3 5).1 (TX3 5).2.1 (TX3 5).2.2.1 ∈ wsX3_remember_ := by decide +kernel
theorem lkX3_remember__16 : Cond.fieldLink RX3 16 (TX3 4).1 (TX3 4).2.1 (TX3 4).2.2.1 ∈ wsX3_remember_ := by decide +kernel
theorem inX3_remember__X3 : ∀ w ∈ u_ws RX3 TX3 17, w ∈ wsX3_remember_ := by decide +kernel
theorem hdyX3_remember_ : yX3_remember_.cls = RX3 ∧ yX3_remember_.cls ≠ "java/lang/invoke/MethodHandle" ∧ yX3_remember_.cls ≠ "java/lang/invoke/VarHandle" ∧ (parseMethodDescriptor yX3_remember_.desc).map (fun d => d.parameters.length) = some 4 := by decide +kernel
set_option maxHeartbeats 4000000 in
set_option maxRecDepth 100000 in
theorem ctX3_remember_ (l : Launch) (D : va_G) (a : Nat → Nat) (k : Nat → ClassId) (mW : Nat → Int32) (mC : Nat → Int32) (mL : Nat → Int32) (mR : Nat → Int32) (mQ : Nat → Int32) (mE : Nat → Int32) (mtb : Int32) (mnC : Int32) (mnL : Int32) (mnR : Int32) (mov : Int32) (mnQ : Int32) (mwr : Int32) (mwl : Int32) (mft : Int32) (mth : Int32) (mpl : Int32) (x1 x2 x3 x4 : Int32) (r : Int32) (omL : Nat → Int32) (omnL : Int32) (hF : FX3_remember_ x1 x2 x3 x4 mL mnL = some (r, omL, omnL)) : ji l yX3_remember_ wsX3_remember_ { frames := 1, cells := 0, slots := 0, locals := 23 } D (mt k) [.ref (a 0), .int x1, .int x2, .int x3, .int x4] (mw a k mW mC mL mR mQ mE mtb mnC mnL mnR mov mnQ mwr mwl mft mth mpl) (mw a k mW mC omL mR mQ mE mtb mnC omnL mnR mov mnQ mwr mwl mft mth mpl) r := by
  refine j_mi (cc := cX3_remember_) (maxL := 6) (own := RX3) (ret := (some .int)) (by decide) rfl rfl (Nat.le_of_ble_eq_true rfl) ?_
  intro p e s m args below meth c A C K hr hlk
  have K29 : ∀ (mL : Nat → Int32) (mnL : Int32), FX3_remember__29 x1 x2 x3 x4 mL mnL = some (r, omL, omnL) → jw p l e ({ frames := 1, cells := 0, slots := 0, locals := 23 } : Room) s m args below meth c 6 D A 0 0 (jqi below D (mt k) args s A (mw a k mW mC omL mR mQ mE mtb mnC omnL mnR mov mnQ mwr mwl mft mth mpl) r) (mw a k mW mC mL mR mQ mE mtb mnC mnL mnR mov mnQ mwr mwl mft mth mpl) [(0, .ref (a 0)), (1, .int x1), (2, .int x2), (3, .int x3), (4, .int x4)] 29 [] := by
    intro mL mnL hF
    unfold FX3_remember__29 at hF
    refine j_iconst (pc := 29) (v := 5) C dX3_remember__29 (by decide) ?_
    refine j_aload_n (pc := 30) C 0 dX3_remember__30 rfl rfl ?_
    refine j_get (pc := 31) (v := .int mnL) C K inX3_remember__X3 0 rfl rfl 5 (by decide) lkX3_remember__49 rfl dX3_remember__31 ?_
    refine j_imul (pc := 34) C dX3_remember__34 ?_
    refine j_istore (pc := 35) (lv' := [(5, .int ((5 : Int32) * mnL)), (0, .ref (a 0)), (1, .int x1), (2, .int x2), (3, .int x3), (4, .int x4)]) C dX3_remember__35 (by decide) rfl ?_
    refine j_aload_n (pc := 37) C 1 dX3_remember__37 rfl rfl ?_
    refine j_get (pc := 38) (v := .ref (a 3)) C K inX3_remember__X3 0 rfl rfl 4 (by decide) lkX3_remember__16 rfl dX3_remember__38 ?_
    refine j_iload (pc := 41) C 0 dX3_remember__41 rfl ?_
    refine j_iload_n (pc := 43) C 2 dX3_remember__43 rfl rfl ?_
    obtain ⟨g3, hF⟩ := gd_some hF
    refine j_iast (pc := 44) (ws' := (mw a k mW mC (upd mL ((5 : Int32) * mnL).toNatClampNeg x1) mR mQ mE mtb mnC mnL mnR mov mnQ mwr mwl mft mth mpl)) C K 3 2 rfl rfl g3 rfl dX3_remember__44 ?_
    refine j_aload_n (pc := 45) C 1 dX3_remember__45 rfl rfl ?_
    refine j_get (pc := 46) (v := .ref (a 3)) C K inX3_remember__X3 0 rfl rfl 4 (by decide) lkX3_remember__16 rfl dX3_remember__46 ?_
    refine j_iload (pc := 49) C 0 dX3_remember__49 rfl ?_
    refine j_iconst (pc := 51) (v := 1) C dX3_remember__51 (by decide) ?_
    refine j_iadd (pc := 52) C dX3_remember__52 ?_
    refine j_iload_n (pc := 53) C 3 dX3_remember__53 rfl rfl ?_
    obtain ⟨g4, hF⟩ := gd_some hF
    refine j_iast (pc := 54) (ws' := (mw a k mW mC (upd (upd mL ((5 : Int32) * mnL).toNatClampNeg x1) (((5 : Int32) * mnL) + 1).toNatClampNeg x2) mR mQ mE mtb mnC mnL mnR mov mnQ mwr mwl mft mth mpl)) C K 3 2 rfl rfl g4 rfl dX3_remember__54 ?_
    refine j_aload_n (pc := 55) C 1 dX3_remember__55 rfl rfl ?_
    refine j_get (pc := 56) (v := .ref (a 3)) C K inX3_remember__X3 0 rfl rfl 4 (by decide) lkX3_remember__16 rfl dX3_remember__56 ?_
    refine j_iload (pc := 59) C 0 dX3_remember__59 rfl ?_
    refine j_iconst (pc := 61) (v := 2) C dX3_remember__61 (by decide) ?_
    refine j_iadd (pc := 62) C dX3_remember__62 ?_
    refine j_iload_n (pc := 63) C 4 dX3_remember__63 rfl rfl ?_
    refine j_iconst (pc := 64) (v := 4) C dX3_remember__64 (by decide) ?_
    refine j_iload_n (pc := 65) C 3 dX3_remember__65 rfl rfl ?_
    refine j_imul (pc := 66) C dX3_remember__66 ?_
    refine j_ishr (pc := 67) C dX3_remember__67 ?_
    obtain ⟨g5, hF⟩ := gd_some hF
    refine j_iast (pc := 68) (ws' := (mw a k mW mC (upd (upd (upd mL ((5 : Int32) * mnL).toNatClampNeg x1) (((5 : Int32) * mnL) + 1).toNatClampNeg x2) (((5 : Int32) * mnL) + 2).toNatClampNeg (x3 >>> (((4 : Int32) * x2) &&& 31))) mR mQ mE mtb mnC mnL mnR mov mnQ mwr mwl mft mth mpl)) C K 3 2 rfl rfl g5 rfl dX3_remember__68 ?_
    refine j_aload_n (pc := 69) C 1 dX3_remember__69 rfl rfl ?_
    refine j_get (pc := 70) (v := .ref (a 3)) C K inX3_remember__X3 0 rfl rfl 4 (by decide) lkX3_remember__16 rfl dX3_remember__70 ?_
    refine j_iload (pc := 73) C 0 dX3_remember__73 rfl ?_
    refine j_iconst (pc := 75) (v := 3) C dX3_remember__75 (by decide) ?_
    refine j_iadd (pc := 76) C dX3_remember__76 ?_
    refine j_iload (pc := 77) C 5 dX3_remember__77 rfl ?_
    refine j_bipush (pc := 79) (v := 8) C dX3_remember__79 (by decide) ?_
    refine j_ishr (pc := 81) C dX3_remember__81 ?_
    refine j_bipush (pc := 82) (v := 63) C dX3_remember__82 (by decide) ?_
    refine j_iand (pc := 84) C dX3_remember__84 ?_
    obtain ⟨g6, hF⟩ := gd_some hF
    refine j_iast (pc := 85) (ws' := (mw a k mW mC (upd (upd (upd (upd mL ((5 : Int32) * mnL).toNatClampNeg x1) (((5 : Int32) * mnL) + 1).toNatClampNeg x2) (((5 : Int32) * mnL) + 2).toNatClampNeg (x3 >>> (((4 : Int32) * x2) &&& 31))) (((5 : Int32) * mnL) + 3).toNatClampNeg ((x4 >>> ((8 : Int32) &&& 31)) &&& (63 : Int32))) mR mQ mE mtb mnC mnL mnR mov mnQ mwr mwl mft mth mpl)) C K 3 2 rfl rfl g6 rfl dX3_remember__85 ?_
    refine j_aload_n (pc := 86) C 1 dX3_remember__86 rfl rfl ?_
    refine j_get (pc := 87) (v := .ref (a 3)) C K inX3_remember__X3 0 rfl rfl 4 (by decide) lkX3_remember__16 rfl dX3_remember__87 ?_
    refine j_iload (pc := 90) C 0 dX3_remember__90 rfl ?_
    refine j_iconst (pc := 92) (v := 4) C dX3_remember__92 (by decide) ?_
    refine j_iadd (pc := 93) C dX3_remember__93 ?_
    refine j_iload (pc := 94) C 5 dX3_remember__94 rfl ?_
    refine j_iconst (pc := 96) (v := 1) C dX3_remember__96 (by decide) ?_
    refine j_ishr (pc := 97) C dX3_remember__97 ?_
    refine j_iconst (pc := 98) (v := 3) C dX3_remember__98 (by decide) ?_
    refine j_iand (pc := 99) C dX3_remember__99 ?_
    obtain ⟨g7, hF⟩ := gd_some hF
    refine j_iast (pc := 100) (ws' := (mw a k mW mC (upd (upd (upd (upd (upd mL ((5 : Int32) * mnL).toNatClampNeg x1) (((5 : Int32) * mnL) + 1).toNatClampNeg x2) (((5 : Int32) * mnL) + 2).toNatClampNeg (x3 >>> (((4 : Int32) * x2) &&& 31))) (((5 : Int32) * mnL) + 3).toNatClampNeg ((x4 >>> ((8 : Int32) &&& 31)) &&& (63 : Int32))) (((5 : Int32) * mnL) + 4).toNatClampNeg ((x4 >>> ((1 : Int32) &&& 31)) &&& (3 : Int32))) mR mQ mE mtb mnC mnL mnR mov mnQ mwr mwl mft mth mpl)) C K 3 2 rfl rfl g7 rfl dX3_remember__100 ?_
    refine j_aload_n (pc := 101) C 1 dX3_remember__101 rfl rfl ?_
    refine j_dup (pc := 102) C dX3_remember__102 rfl ?_
    refine j_get (pc := 103) (v := .int mnL) C K inX3_remember__X3 0 rfl rfl 5 (by decide) lkX3_remember__49 rfl dX3_remember__103 ?_
    refine j_iconst (pc := 106) (v := 1) C dX3_remember__106 (by decide) ?_
    refine j_iadd (pc := 107) C dX3_remember__107 ?_
    refine j_put (pc := 108) (ws' := (mw a k mW mC (upd (upd (upd (upd (upd mL ((5 : Int32) * mnL).toNatClampNeg x1) (((5 : Int32) * mnL) + 1).toNatClampNeg x2) (((5 : Int32) * mnL) + 2).toNatClampNeg (x3 >>> (((4 : Int32) * x2) &&& 31))) (((5 : Int32) * mnL) + 3).toNatClampNeg ((x4 >>> ((8 : Int32) &&& 31)) &&& (63 : Int32))) (((5 : Int32) * mnL) + 4).toNatClampNeg ((x4 >>> ((1 : Int32) &&& 31)) &&& (3 : Int32))) mR mQ mE mtb mnC (mnL + 1) mnR mov mnQ mwr mwl mft mth mpl)) C K inX3_remember__X3 tyX3 tyX3_ok nmX3 0 rfl rfl 5 (by decide) lkX3_remember__49 rfl (tyX3_ok 5 (by decide)) rfl rfl (Nat.le_of_ble_eq_true rfl) rfl dX3_remember__108 ?_
    refine j_aload_n (pc := 111) C 1 dX3_remember__111 rfl rfl ?_
    refine j_get (pc := 112) (v := .int (mnL + 1)) C K inX3_remember__X3 0 rfl rfl 5 (by decide) lkX3_remember__49 rfl dX3_remember__112 ?_
    refine j_iconst (pc := 115) (v := 1) C dX3_remember__115 (by decide) ?_
    refine j_isub (pc := 116) C dX3_remember__116 ?_
    cases hF
    exact j_iret (pc := 117) C K hr hlk dX3_remember__117
  unfold FX3_remember_ at hF
  refine j_aload_n (pc := 0) C 0 dX3_remember__0 rfl rfl ?_
  refine j_get (pc := 1) (v := .int mnL) C K inX3_remember__X3 0 rfl rfl 5 (by decide) lkX3_remember__49 rfl dX3_remember__1 ?_
  refine j_bipush (pc := 4) (v := 6) C dX3_remember__4 (by decide) ?_
  refine j_icmp_ne (pc := 6) (tgt := 29) C dX3_remember__6 (by decide) (fun c1 => ?_) (fun c1 => ?_)
  · replace hF := ifn hF c1
    exact j_lv [0, 1, 2, 3, 4] rfl (K29 _ _ hF)
  · replace hF := ifp hF c1
    refine j_aload_n (pc := 9) C 0 dX3_remember__9 rfl rfl ?_
    refine j_get (pc := 10) (v := .ref (a 3)) C K inX3_remember__X3 0 rfl rfl 4 (by decide) lkX3_remember__16 rfl dX3_remember__10 ?_
    refine j_iconst (pc := 13) (v := 5) C dX3_remember__13 (by decide) ?_
    refine j_bipush (pc := 14) (v := 6) C dX3_remember__14 (by decide) ?_
    obtain ⟨q2sB, hq2, hF⟩ := bd1_some hF
    refine j_callSv (pc := 16) (As := [.ref (a 3), .int 5, .int 6]) (rest := []) (ws' := (mw a k mW mC q2sB mR mQ mE mtb mnC mnL mnR mov mnQ mwr mwl mft mth mpl)) C K (ctX3_shift l D (a 3) (k 3) 30 _ _ _ _ hq2) gX3_remember__X3_shift rfl rfl rfl hdyX3_shift ⟨Nat.le_of_ble_eq_true rfl, Nat.le_of_ble_eq_true rfl⟩ [3] rfl (nd1 _) (jsp_eq (jsp1 (Nat.le_of_ble_eq_true rfl)) rfl) [2] rfl rfl (Nat.le_of_ble_eq_true rfl) dX3_remember__16 ⟨Nat.zero_le _, Nat.zero_le _⟩ ?_
    refine j_aload_n (pc := 19) C 0 dX3_remember__19 rfl rfl ?_
    refine j_dup (pc := 20) C dX3_remember__20 rfl ?_
    refine j_get (pc := 21) (v := .int mnL) C K inX3_remember__X3 0 rfl rfl 5 (by decide) lkX3_remember__49 rfl dX3_remember__21 ?_
    refine j_iconst (pc := 24) (v := 1) C dX3_remember__24 (by decide) ?_
    refine j_isub (pc := 25) C dX3_remember__25 ?_
    refine j_put (pc := 26) (ws' := (mw a k mW mC q2sB mR mQ mE mtb mnC (mnL - 1) mnR mov mnQ mwr mwl mft mth mpl)) C K inX3_remember__X3 tyX3 tyX3_ok nmX3 0 rfl rfl 5 (by decide) lkX3_remember__49 rfl (tyX3_ok 5 (by decide)) rfl rfl (Nat.le_of_ble_eq_true rfl) rfl dX3_remember__26 ?_
    exact j_lv [0, 1, 2, 3, 4] rfl (K29 _ _ hF)

def FX0_begin (x1 x2 : Int32) (ex : Nat → Int32) : Option ((Nat → Int32)) := some (upd (upd (upd (upd (upd (upd ex 0 x1) 1 x2) 2 0) 3 0) 4 0) 6 0)
def FX0_descriptorAddress (ex : Nat → Int32) : Option (Int32) := some ((ex 0) + ((4 : Int32) * (ex 2)))
def FX0_take (x1 x2 : Int32) (ex : Nat → Int32) : Option ((Nat → Int32)) := if x1 = 0 then some (upd ex 7 x2) else if x1 = 1 then some (upd ex 8 x2) else if x1 = 2 then some (upd ex 9 (x2 &&& (255 : Int32))) else some (upd ex 10 x2)
def FX0_goOn (ex : Nat → Int32) : Option ((Nat → Int32)) := if (ex 1) ≤ ((ex 2) + 1) then if ((upd (upd (upd ex 2 0) 6 0) 5 (((upd (upd ex 2 0) 6 0) 5) + 1)) 2) = ((upd (upd (upd ex 2 0) 6 0) 5 (((upd (upd ex 2 0) 6 0) 5) + 1)) 3) then some (upd (upd (upd (upd ex 2 0) 6 0) 5 (((upd (upd ex 2 0) 6 0) 5) + 1)) 4 0) else some (upd (upd (upd ex 2 0) 6 0) 5 (((upd (upd ex 2 0) 6 0) 5) + 1)) else if ((upd (upd (upd ex 2 ((ex 2) + 1)) 6 0) 5 (((upd (upd ex 2 ((ex 2) + 1)) 6 0) 5) + 1)) 2) = ((upd (upd (upd ex 2 ((ex 2) + 1)) 6 0) 5 (((upd (upd ex 2 ((ex 2) + 1)) 6 0) 5) + 1)) 3) then some (upd (upd (upd (upd ex 2 ((ex 2) + 1)) 6 0) 5 (((upd (upd ex 2 ((ex 2) + 1)) 6 0) 5) + 1)) 4 0) else some (upd (upd (upd ex 2 ((ex 2) + 1)) 6 0) 5 (((upd (upd ex 2 ((ex 2) + 1)) 6 0) 5) + 1))
theorem lkX0_begin_9 : Cond.fieldLink RX0 9 (TX0 0).1 (TX0 0).2.1 (TX0 0).2.2.1 ∈ wsX0_begin := by decide +kernel
theorem lkX0_begin_15 : Cond.fieldLink RX0 15 (TX0 1).1 (TX0 1).2.1 (TX0 1).2.2.1 ∈ wsX0_begin := by decide +kernel
theorem lkX0_begin_18 : Cond.fieldLink RX0 18 (TX0 2).1 (TX0 2).2.1 (TX0 2).2.2.1 ∈ wsX0_begin := by decide +kernel
theorem lkX0_begin_21 : Cond.fieldLink RX0 21 (TX0 3).1 (TX0 3).2.1 (TX0 3).2.2.1 ∈ wsX0_begin := by decide +kernel
theorem lkX0_begin_24 : Cond.fieldLink RX0 24 (TX0 4).1 (TX0 4).2.1 (TX0 4).2.2.1 ∈ wsX0_begin := by decide +kernel
theorem lkX0_begin_30 : Cond.fieldLink RX0 30 (TX0 6).1 (TX0 6).2.1 (TX0 6).2.2.1 ∈ wsX0_begin := by decide +kernel
theorem inX0_begin_X0 : ∀ w ∈ u_ws RX0 TX0 12, w ∈ wsX0_begin := by decide +kernel
theorem hdyX0_begin : yX0_begin.cls = RX0 ∧ yX0_begin.cls ≠ "java/lang/invoke/MethodHandle" ∧ yX0_begin.cls ≠ "java/lang/invoke/VarHandle" ∧ (parseMethodDescriptor yX0_begin.desc).map (fun d => d.parameters.length) = some 2 := by decide +kernel
set_option maxHeartbeats 4000000 in
set_option maxRecDepth 100000 in
theorem ctX0_begin (l : Launch) (D : va_G) (h : Nat) (ex : Nat → Int32) (x1 x2 : Int32) (oex : Nat → Int32) (hF : FX0_begin x1 x2 ex = some oex) : jv l yX0_begin wsX0_begin { frames := 0, cells := 0, slots := 0, locals := 0 } D [] [.ref h, .int x1, .int x2] (eww h ex) (eww h oex) := by
  refine j_mv (cc := cX0_begin) (maxL := 3) (own := RX0) (by decide) rfl rfl (Nat.le_of_ble_eq_true rfl) ?_
  intro p e s m args below meth c A C K hr hlk
  unfold FX0_begin at hF
  refine j_aload_n (pc := 0) C 0 dX0_begin_0 rfl rfl ?_
  refine j_iload_n (pc := 1) C 1 dX0_begin_1 rfl rfl ?_
  refine j_put (pc := 2) (ws' := (eww h (upd ex 0 x1))) C K inX0_begin_X0 tyX0 tyX0_ok nmX0 0 rfl rfl 0 (by decide) lkX0_begin_9 rfl (tyX0_ok 0 (by decide)) rfl rfl (Nat.le_of_ble_eq_true rfl) rfl dX0_begin_2 ?_
  refine j_aload_n (pc := 5) C 0 dX0_begin_5 rfl rfl ?_
  refine j_iload_n (pc := 6) C 2 dX0_begin_6 rfl rfl ?_
  refine j_put (pc := 7) (ws' := (eww h (upd (upd ex 0 x1) 1 x2))) C K inX0_begin_X0 tyX0 tyX0_ok nmX0 0 rfl rfl 1 (by decide) lkX0_begin_15 rfl (tyX0_ok 1 (by decide)) rfl rfl (Nat.le_of_ble_eq_true rfl) rfl dX0_begin_7 ?_
  refine j_aload_n (pc := 10) C 0 dX0_begin_10 rfl rfl ?_
  refine j_iconst (pc := 11) (v := 0) C dX0_begin_11 (by decide) ?_
  refine j_put (pc := 12) (ws' := (eww h (upd (upd (upd ex 0 x1) 1 x2) 2 0))) C K inX0_begin_X0 tyX0 tyX0_ok nmX0 0 rfl rfl 2 (by decide) lkX0_begin_18 rfl (tyX0_ok 2 (by decide)) rfl rfl (Nat.le_of_ble_eq_true rfl) rfl dX0_begin_12 ?_
  refine j_aload_n (pc := 15) C 0 dX0_begin_15 rfl rfl ?_
  refine j_iconst (pc := 16) (v := 0) C dX0_begin_16 (by decide) ?_
  refine j_put (pc := 17) (ws' := (eww h (upd (upd (upd (upd ex 0 x1) 1 x2) 2 0) 3 0))) C K inX0_begin_X0 tyX0 tyX0_ok nmX0 0 rfl rfl 3 (by decide) lkX0_begin_21 rfl (tyX0_ok 3 (by decide)) rfl rfl (Nat.le_of_ble_eq_true rfl) rfl dX0_begin_17 ?_
  refine j_aload_n (pc := 20) C 0 dX0_begin_20 rfl rfl ?_
  refine j_iconst (pc := 21) (v := 0) C dX0_begin_21 (by decide) ?_
  refine j_put (pc := 22) (ws' := (eww h (upd (upd (upd (upd (upd ex 0 x1) 1 x2) 2 0) 3 0) 4 0))) C K inX0_begin_X0 tyX0 tyX0_ok nmX0 0 rfl rfl 4 (by decide) lkX0_begin_24 rfl (tyX0_ok 4 (by decide)) rfl rfl (Nat.le_of_ble_eq_true rfl) rfl dX0_begin_22 ?_
  refine j_aload_n (pc := 25) C 0 dX0_begin_25 rfl rfl ?_
  refine j_iconst (pc := 26) (v := 0) C dX0_begin_26 (by decide) ?_
  refine j_put (pc := 27) (ws' := (eww h (upd (upd (upd (upd (upd (upd ex 0 x1) 1 x2) 2 0) 3 0) 4 0) 6 0))) C K inX0_begin_X0 tyX0 tyX0_ok nmX0 0 rfl rfl 6 (by decide) lkX0_begin_30 rfl (tyX0_ok 6 (by decide)) rfl rfl (Nat.le_of_ble_eq_true rfl) rfl dX0_begin_27 ?_
  cases hF
  exact j_vret (pc := 30) C K hr hlk dX0_begin_30
theorem lkX0_descriptorAddress_9 : Cond.fieldLink RX0 9 (TX0 0).1 (TX0 0).2.1 (TX0 0).2.2.1 ∈ wsX0_descriptorAddress := by decide +kernel
theorem lkX0_descriptorAddress_18 : Cond.fieldLink RX0 18 (TX0 2).1 (TX0 2).2.1 (TX0 2).2.2.1 ∈ wsX0_descriptorAddress := by decide +kernel
theorem inX0_descriptorAddress_X0 : ∀ w ∈ u_ws RX0 TX0 12, w ∈ wsX0_descriptorAddress := by decide +kernel
theorem hdyX0_descriptorAddress : yX0_descriptorAddress.cls = RX0 ∧ yX0_descriptorAddress.cls ≠ "java/lang/invoke/MethodHandle" ∧ yX0_descriptorAddress.cls ≠ "java/lang/invoke/VarHandle" ∧ (parseMethodDescriptor yX0_descriptorAddress.desc).map (fun d => d.parameters.length) = some 0 := by decide +kernel
set_option maxHeartbeats 4000000 in
set_option maxRecDepth 100000 in
theorem ctX0_descriptorAddress (l : Launch) (D : va_G) (h : Nat) (ex : Nat → Int32) (r : Int32) (hF : FX0_descriptorAddress ex = some r) : ji l yX0_descriptorAddress wsX0_descriptorAddress { frames := 0, cells := 0, slots := 0, locals := 0 } D [] [.ref h] (eww h ex) (eww h ex) r := by
  refine j_mi (cc := cX0_descriptorAddress) (maxL := 1) (own := RX0) (ret := (some .int)) (by decide) rfl rfl (Nat.le_of_ble_eq_true rfl) ?_
  intro p e s m args below meth c A C K hr hlk
  unfold FX0_descriptorAddress at hF
  refine j_aload_n (pc := 0) C 0 dX0_descriptorAddress_0 rfl rfl ?_
  refine j_get (pc := 1) (v := .int (ex 0)) C K inX0_descriptorAddress_X0 0 rfl rfl 0 (by decide) lkX0_descriptorAddress_9 rfl dX0_descriptorAddress_1 ?_
  refine j_iconst (pc := 4) (v := 4) C dX0_descriptorAddress_4 (by decide) ?_
  refine j_aload_n (pc := 5) C 0 dX0_descriptorAddress_5 rfl rfl ?_
  refine j_get (pc := 6) (v := .int (ex 2)) C K inX0_descriptorAddress_X0 0 rfl rfl 2 (by decide) lkX0_descriptorAddress_18 rfl dX0_descriptorAddress_6 ?_
  refine j_imul (pc := 9) C dX0_descriptorAddress_9 ?_
  refine j_iadd (pc := 10) C dX0_descriptorAddress_10 ?_
  cases hF
  exact j_iret (pc := 11) C K hr hlk dX0_descriptorAddress_11
theorem lkX0_take_34 : Cond.fieldLink RX0 34 (TX0 7).1 (TX0 7).2.1 (TX0 7).2.2.1 ∈ wsX0_take := by decide +kernel
theorem lkX0_take_37 : Cond.fieldLink RX0 37 (TX0 8).1 (TX0 8).2.1 (TX0 8).2.2.1 ∈ wsX0_take := by decide +kernel
theorem lkX0_take_40 : Cond.fieldLink RX0 40 (TX0 9).1 (TX0 9).2.1 (TX0 9).2.2.1 ∈ wsX0_take := by decide +kernel
theorem lkX0_take_43 : Cond.fieldLink RX0 43 (TX0 10).1 (TX0 10).2.1 (TX0 10).2.2.1 ∈ wsX0_take := by decide +kernel
theorem inX0_take_X0 : ∀ w ∈ u_ws RX0 TX0 12, w ∈ wsX0_take := by decide +kernel
theorem hdyX0_take : yX0_take.cls = RX0 ∧ yX0_take.cls ≠ "java/lang/invoke/MethodHandle" ∧ yX0_take.cls ≠ "java/lang/invoke/VarHandle" ∧ (parseMethodDescriptor yX0_take.desc).map (fun d => d.parameters.length) = some 2 := by decide +kernel
set_option maxHeartbeats 4000000 in
set_option maxRecDepth 100000 in
theorem ctX0_take (l : Launch) (D : va_G) (h : Nat) (ex : Nat → Int32) (x1 x2 : Int32) (oex : Nat → Int32) (hF : FX0_take x1 x2 ex = some oex) : jv l yX0_take wsX0_take { frames := 0, cells := 0, slots := 0, locals := 0 } D [] [.ref h, .int x1, .int x2] (eww h ex) (eww h oex) := by
  refine j_mv (cc := cX0_take) (maxL := 3) (own := RX0) (by decide) rfl rfl (Nat.le_of_ble_eq_true rfl) ?_
  intro p e s m args below meth c A C K hr hlk
  unfold FX0_take at hF
  refine j_iload_n (pc := 0) C 1 dX0_take_0 rfl rfl ?_
  by_cases c1 : x1 = 0
  · replace hF := ifp hF c1
    refine j_tin (pc := 1) (tgt := 28) (off := 27) C dX0_take_1 (by rw [c1]; decide) (by rw [c1]; decide) (by rw [c1]; rfl) (by decide) ?_
    refine j_aload_n (pc := 28) C 0 dX0_take_28 rfl rfl ?_
    refine j_iload_n (pc := 29) C 2 dX0_take_29 rfl rfl ?_
    refine j_put (pc := 30) (ws' := (eww h (upd ex 7 x2))) C K inX0_take_X0 tyX0 tyX0_ok nmX0 0 rfl rfl 7 (by decide) lkX0_take_34 rfl (tyX0_ok 7 (by decide)) rfl rfl (Nat.le_of_ble_eq_true rfl) rfl dX0_take_30 ?_
    refine j_goto (pc := 33) (tgt := 61) C dX0_take_33 (by decide) ?_
    cases hF
    exact j_vret (pc := 61) C K hr hlk dX0_take_61
  · replace hF := ifn hF c1
    by_cases c2 : x1 = 1
    · replace hF := ifp hF c2
      refine j_tin (pc := 1) (tgt := 36) (off := 35) C dX0_take_1 (by rw [c2]; decide) (by rw [c2]; decide) (by rw [c2]; rfl) (by decide) ?_
      refine j_aload_n (pc := 36) C 0 dX0_take_36 rfl rfl ?_
      refine j_iload_n (pc := 37) C 2 dX0_take_37 rfl rfl ?_
      refine j_put (pc := 38) (ws' := (eww h (upd ex 8 x2))) C K inX0_take_X0 tyX0 tyX0_ok nmX0 0 rfl rfl 8 (by decide) lkX0_take_37 rfl (tyX0_ok 8 (by decide)) rfl rfl (Nat.le_of_ble_eq_true rfl) rfl dX0_take_38 ?_
      refine j_goto (pc := 41) (tgt := 61) C dX0_take_41 (by decide) ?_
      cases hF
      exact j_vret (pc := 61) C K hr hlk dX0_take_61
    · replace hF := ifn hF c2
      by_cases c3 : x1 = 2
      · replace hF := ifp hF c3
        refine j_tin (pc := 1) (tgt := 44) (off := 43) C dX0_take_1 (by rw [c3]; decide) (by rw [c3]; decide) (by rw [c3]; rfl) (by decide) ?_
        refine j_aload_n (pc := 44) C 0 dX0_take_44 rfl rfl ?_
        refine j_iload_n (pc := 45) C 2 dX0_take_45 rfl rfl ?_
        refine j_sipush (pc := 46) (v := 255) C dX0_take_46 (by decide) ?_
        refine j_iand (pc := 49) C dX0_take_49 ?_
        refine j_put (pc := 50) (ws' := (eww h (upd ex 9 (x2 &&& (255 : Int32))))) C K inX0_take_X0 tyX0 tyX0_ok nmX0 0 rfl rfl 9 (by decide) lkX0_take_40 rfl (tyX0_ok 9 (by decide)) rfl rfl (Nat.le_of_ble_eq_true rfl) rfl dX0_take_50 ?_
        refine j_goto (pc := 53) (tgt := 61) C dX0_take_53 (by decide) ?_
        cases hF
        exact j_vret (pc := 61) C K hr hlk dX0_take_61
      · replace hF := ifn hF c3
        have ec1 : x1.toInt ≠ 0 := i32_ne c1
        have ec2 : x1.toInt ≠ 1 := i32_ne c2
        have ec3 : x1.toInt ≠ 2 := i32_ne c3
        refine j_tout (pc := 1) (tgt := 56) C dX0_take_1 (by omega) (by decide) ?_
        refine j_aload_n (pc := 56) C 0 dX0_take_56 rfl rfl ?_
        refine j_iload_n (pc := 57) C 2 dX0_take_57 rfl rfl ?_
        refine j_put (pc := 58) (ws' := (eww h (upd ex 10 x2))) C K inX0_take_X0 tyX0 tyX0_ok nmX0 0 rfl rfl 10 (by decide) lkX0_take_43 rfl (tyX0_ok 10 (by decide)) rfl rfl (Nat.le_of_ble_eq_true rfl) rfl dX0_take_58 ?_
        cases hF
        exact j_vret (pc := 61) C K hr hlk dX0_take_61
theorem lkX0_goOn_18 : Cond.fieldLink RX0 18 (TX0 2).1 (TX0 2).2.1 (TX0 2).2.2.1 ∈ wsX0_goOn := by decide +kernel
theorem lkX0_goOn_15 : Cond.fieldLink RX0 15 (TX0 1).1 (TX0 1).2.1 (TX0 1).2.2.1 ∈ wsX0_goOn := by decide +kernel
theorem lkX0_goOn_30 : Cond.fieldLink RX0 30 (TX0 6).1 (TX0 6).2.1 (TX0 6).2.2.1 ∈ wsX0_goOn := by decide +kernel
theorem lkX0_goOn_27 : Cond.fieldLink RX0 27 (TX0 5).1 (TX0 5).2.1 (TX0 5).2.2.1 ∈ wsX0_goOn := by decide +kernel
theorem lkX0_goOn_21 : Cond.fieldLink RX0 21 (TX0 3).1 (TX0 3).2.1 (TX0 3).2.2.1 ∈ wsX0_goOn := by decide +kernel
theorem lkX0_goOn_24 : Cond.fieldLink RX0 24 (TX0 4).1 (TX0 4).2.1 (TX0 4).2.2.1 ∈ wsX0_goOn := by decide +kernel
theorem inX0_goOn_X0 : ∀ w ∈ u_ws RX0 TX0 12, w ∈ wsX0_goOn := by decide +kernel
theorem hdyX0_goOn : yX0_goOn.cls = RX0 ∧ yX0_goOn.cls ≠ "java/lang/invoke/MethodHandle" ∧ yX0_goOn.cls ≠ "java/lang/invoke/VarHandle" ∧ (parseMethodDescriptor yX0_goOn.desc).map (fun d => d.parameters.length) = some 0 := by decide +kernel
set_option maxHeartbeats 4000000 in
set_option maxRecDepth 100000 in
theorem ctX0_goOn (l : Launch) (D : va_G) (h : Nat) (ex : Nat → Int32) (oex : Nat → Int32) (hF : FX0_goOn ex = some oex) : jv l yX0_goOn wsX0_goOn { frames := 0, cells := 0, slots := 0, locals := 0 } D [] [.ref h] (eww h ex) (eww h oex) := by
  refine j_mv (cc := cX0_goOn) (maxL := 1) (own := RX0) (by decide) rfl rfl (Nat.le_of_ble_eq_true rfl) ?_
  intro p e s m args below meth c A C K hr hlk
  unfold FX0_goOn at hF
  refine j_aload_n (pc := 0) C 0 dX0_goOn_0 rfl rfl ?_
  refine j_aload_n (pc := 1) C 0 dX0_goOn_1 rfl rfl ?_
  refine j_get (pc := 2) (v := .int (ex 2)) C K inX0_goOn_X0 0 rfl rfl 2 (by decide) lkX0_goOn_18 rfl dX0_goOn_2 ?_
  refine j_iconst (pc := 5) (v := 1) C dX0_goOn_5 (by decide) ?_
  refine j_iadd (pc := 6) C dX0_goOn_6 ?_
  refine j_aload_n (pc := 7) C 0 dX0_goOn_7 rfl rfl ?_
  refine j_get (pc := 8) (v := .int (ex 1)) C K inX0_goOn_X0 0 rfl rfl 1 (by decide) lkX0_goOn_15 rfl dX0_goOn_8 ?_
  refine j_icmp_ge (pc := 11) (tgt := 23) C dX0_goOn_11 (by decide) (fun c1 => ?_) (fun c1 => ?_)
  · replace hF := ifp hF c1
    refine j_iconst (pc := 23) (v := 0) C dX0_goOn_23 (by decide) ?_
    refine j_put (pc := 24) (ws' := (eww h (upd ex 2 0))) C K inX0_goOn_X0 tyX0 tyX0_ok nmX0 0 rfl rfl 2 (by decide) lkX0_goOn_18 rfl (tyX0_ok 2 (by decide)) rfl rfl (Nat.le_of_ble_eq_true rfl) rfl dX0_goOn_24 ?_
    refine j_aload_n (pc := 27) C 0 dX0_goOn_27 rfl rfl ?_
    refine j_iconst (pc := 28) (v := 0) C dX0_goOn_28 (by decide) ?_
    refine j_put (pc := 29) (ws' := (eww h (upd (upd ex 2 0) 6 0))) C K inX0_goOn_X0 tyX0 tyX0_ok nmX0 0 rfl rfl 6 (by decide) lkX0_goOn_30 rfl (tyX0_ok 6 (by decide)) rfl rfl (Nat.le_of_ble_eq_true rfl) rfl dX0_goOn_29 ?_
    refine j_aload_n (pc := 32) C 0 dX0_goOn_32 rfl rfl ?_
    refine j_dup (pc := 33) C dX0_goOn_33 rfl ?_
    refine j_get (pc := 34) (v := .int ((upd (upd ex 2 0) 6 0) 5)) C K inX0_goOn_X0 0 rfl rfl 5 (by decide) lkX0_goOn_27 rfl dX0_goOn_34 ?_
    refine j_iconst (pc := 37) (v := 1) C dX0_goOn_37 (by decide) ?_
    refine j_iadd (pc := 38) C dX0_goOn_38 ?_
    refine j_put (pc := 39) (ws' := (eww h (upd (upd (upd ex 2 0) 6 0) 5 (((upd (upd ex 2 0) 6 0) 5) + 1)))) C K inX0_goOn_X0 tyX0 tyX0_ok nmX0 0 rfl rfl 5 (by decide) lkX0_goOn_27 rfl (tyX0_ok 5 (by decide)) rfl rfl (Nat.le_of_ble_eq_true rfl) rfl dX0_goOn_39 ?_
    refine j_aload_n (pc := 42) C 0 dX0_goOn_42 rfl rfl ?_
    refine j_get (pc := 43) (v := .int ((upd (upd (upd ex 2 0) 6 0) 5 (((upd (upd ex 2 0) 6 0) 5) + 1)) 2)) C K inX0_goOn_X0 0 rfl rfl 2 (by decide) lkX0_goOn_18 rfl dX0_goOn_43 ?_
    refine j_aload_n (pc := 46) C 0 dX0_goOn_46 rfl rfl ?_
    refine j_get (pc := 47) (v := .int ((upd (upd (upd ex 2 0) 6 0) 5 (((upd (upd ex 2 0) 6 0) 5) + 1)) 3)) C K inX0_goOn_X0 0 rfl rfl 3 (by decide) lkX0_goOn_21 rfl dX0_goOn_47 ?_
    refine j_icmp_ne (pc := 50) (tgt := 58) C dX0_goOn_50 (by decide) (fun c2 => ?_) (fun c2 => ?_)
    · replace hF := ifn hF c2
      cases hF
      exact j_vret (pc := 58) C K hr hlk dX0_goOn_58
    · replace hF := ifp hF c2
      refine j_aload_n (pc := 53) C 0 dX0_goOn_53 rfl rfl ?_
      refine j_iconst (pc := 54) (v := 0) C dX0_goOn_54 (by decide) ?_
      refine j_put (pc := 55) (ws' := (eww h (upd (upd (upd (upd ex 2 0) 6 0) 5 (((upd (upd ex 2 0) 6 0) 5) + 1)) 4 0))) C K inX0_goOn_X0 tyX0 tyX0_ok nmX0 0 rfl rfl 4 (by decide) lkX0_goOn_24 rfl (tyX0_ok 4 (by decide)) rfl rfl (Nat.le_of_ble_eq_true rfl) rfl dX0_goOn_55 ?_
      cases hF
      exact j_vret (pc := 58) C K hr hlk dX0_goOn_58
  · replace hF := ifn hF c1
    refine j_aload_n (pc := 14) C 0 dX0_goOn_14 rfl rfl ?_
    refine j_get (pc := 15) (v := .int (ex 2)) C K inX0_goOn_X0 0 rfl rfl 2 (by decide) lkX0_goOn_18 rfl dX0_goOn_15 ?_
    refine j_iconst (pc := 18) (v := 1) C dX0_goOn_18 (by decide) ?_
    refine j_iadd (pc := 19) C dX0_goOn_19 ?_
    refine j_goto (pc := 20) (tgt := 24) C dX0_goOn_20 (by decide) ?_
    refine j_put (pc := 24) (ws' := (eww h (upd ex 2 ((ex 2) + 1)))) C K inX0_goOn_X0 tyX0 tyX0_ok nmX0 0 rfl rfl 2 (by decide) lkX0_goOn_18 rfl (tyX0_ok 2 (by decide)) rfl rfl (Nat.le_of_ble_eq_true rfl) rfl dX0_goOn_24 ?_
    refine j_aload_n (pc := 27) C 0 dX0_goOn_27 rfl rfl ?_
    refine j_iconst (pc := 28) (v := 0) C dX0_goOn_28 (by decide) ?_
    refine j_put (pc := 29) (ws' := (eww h (upd (upd ex 2 ((ex 2) + 1)) 6 0))) C K inX0_goOn_X0 tyX0 tyX0_ok nmX0 0 rfl rfl 6 (by decide) lkX0_goOn_30 rfl (tyX0_ok 6 (by decide)) rfl rfl (Nat.le_of_ble_eq_true rfl) rfl dX0_goOn_29 ?_
    refine j_aload_n (pc := 32) C 0 dX0_goOn_32 rfl rfl ?_
    refine j_dup (pc := 33) C dX0_goOn_33 rfl ?_
    refine j_get (pc := 34) (v := .int ((upd (upd ex 2 ((ex 2) + 1)) 6 0) 5)) C K inX0_goOn_X0 0 rfl rfl 5 (by decide) lkX0_goOn_27 rfl dX0_goOn_34 ?_
    refine j_iconst (pc := 37) (v := 1) C dX0_goOn_37 (by decide) ?_
    refine j_iadd (pc := 38) C dX0_goOn_38 ?_
    refine j_put (pc := 39) (ws' := (eww h (upd (upd (upd ex 2 ((ex 2) + 1)) 6 0) 5 (((upd (upd ex 2 ((ex 2) + 1)) 6 0) 5) + 1)))) C K inX0_goOn_X0 tyX0 tyX0_ok nmX0 0 rfl rfl 5 (by decide) lkX0_goOn_27 rfl (tyX0_ok 5 (by decide)) rfl rfl (Nat.le_of_ble_eq_true rfl) rfl dX0_goOn_39 ?_
    refine j_aload_n (pc := 42) C 0 dX0_goOn_42 rfl rfl ?_
    refine j_get (pc := 43) (v := .int ((upd (upd (upd ex 2 ((ex 2) + 1)) 6 0) 5 (((upd (upd ex 2 ((ex 2) + 1)) 6 0) 5) + 1)) 2)) C K inX0_goOn_X0 0 rfl rfl 2 (by decide) lkX0_goOn_18 rfl dX0_goOn_43 ?_
    refine j_aload_n (pc := 46) C 0 dX0_goOn_46 rfl rfl ?_
    refine j_get (pc := 47) (v := .int ((upd (upd (upd ex 2 ((ex 2) + 1)) 6 0) 5 (((upd (upd ex 2 ((ex 2) + 1)) 6 0) 5) + 1)) 3)) C K inX0_goOn_X0 0 rfl rfl 3 (by decide) lkX0_goOn_21 rfl dX0_goOn_47 ?_
    refine j_icmp_ne (pc := 50) (tgt := 58) C dX0_goOn_50 (by decide) (fun c3 => ?_) (fun c3 => ?_)
    · replace hF := ifn hF c3
      cases hF
      exact j_vret (pc := 58) C K hr hlk dX0_goOn_58
    · replace hF := ifp hF c3
      refine j_aload_n (pc := 53) C 0 dX0_goOn_53 rfl rfl ?_
      refine j_iconst (pc := 54) (v := 0) C dX0_goOn_54 (by decide) ?_
      refine j_put (pc := 55) (ws' := (eww h (upd (upd (upd (upd ex 2 ((ex 2) + 1)) 6 0) 5 (((upd (upd ex 2 ((ex 2) + 1)) 6 0) 5) + 1)) 4 0))) C K inX0_goOn_X0 tyX0 tyX0_ok nmX0 0 rfl rfl 4 (by decide) lkX0_goOn_24 rfl (tyX0_ok 4 (by decide)) rfl rfl (Nat.le_of_ble_eq_true rfl) rfl dX0_goOn_55 ?_
      cases hF
      exact j_vret (pc := 58) C K hr hlk dX0_goOn_58

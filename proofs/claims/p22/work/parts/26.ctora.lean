def FX0_init (ex : Nat → Int32) : Option ((Nat → Int32)) := some (upd (upd (upd (upd (upd (upd (upd (upd (upd (upd (upd (upd ex 0 0) 1 1) 2 0) 3 0) 4 0) 5 0) 6 0) 7 0) 8 0) 9 0) 10 0) 11 0)
theorem lkX0_init_9 : Cond.fieldLink RX0 9 (TX0 0).1 (TX0 0).2.1 (TX0 0).2.2.1 ∈ wsX0_init := by decide +kernel
theorem lkX0_init_15 : Cond.fieldLink RX0 15 (TX0 1).1 (TX0 1).2.1 (TX0 1).2.2.1 ∈ wsX0_init := by decide +kernel
theorem lkX0_init_18 : Cond.fieldLink RX0 18 (TX0 2).1 (TX0 2).2.1 (TX0 2).2.2.1 ∈ wsX0_init := by decide +kernel
theorem lkX0_init_21 : Cond.fieldLink RX0 21 (TX0 3).1 (TX0 3).2.1 (TX0 3).2.2.1 ∈ wsX0_init := by decide +kernel
theorem lkX0_init_24 : Cond.fieldLink RX0 24 (TX0 4).1 (TX0 4).2.1 (TX0 4).2.2.1 ∈ wsX0_init := by decide +kernel
theorem lkX0_init_27 : Cond.fieldLink RX0 27 (TX0 5).1 (TX0 5).2.1 (TX0 5).2.2.1 ∈ wsX0_init := by decide +kernel
theorem lkX0_init_30 : Cond.fieldLink RX0 30 (TX0 6).1 (TX0 6).2.1 (TX0 6).2.2.1 ∈ wsX0_init := by decide +kernel
theorem lkX0_init_34 : Cond.fieldLink RX0 34 (TX0 7).1 (TX0 7).2.1 (TX0 7).2.2.1 ∈ wsX0_init := by decide +kernel
theorem lkX0_init_37 : Cond.fieldLink RX0 37 (TX0 8).1 (TX0 8).2.1 (TX0 8).2.2.1 ∈ wsX0_init := by decide +kernel
theorem lkX0_init_40 : Cond.fieldLink RX0 40 (TX0 9).1 (TX0 9).2.1 (TX0 9).2.2.1 ∈ wsX0_init := by decide +kernel
theorem lkX0_init_43 : Cond.fieldLink RX0 43 (TX0 10).1 (TX0 10).2.1 (TX0 10).2.2.1 ∈ wsX0_init := by decide +kernel
theorem lkX0_init_46 : Cond.fieldLink RX0 46 (TX0 11).1 (TX0 11).2.1 (TX0 11).2.2.1 ∈ wsX0_init := by decide +kernel
theorem inX0_init_X0 : ∀ w ∈ u_ws RX0 TX0 12, w ∈ wsX0_init := by decide +kernel
theorem hdyX0_init : yX0_init.cls = RX0 ∧ yX0_init.cls ≠ "java/lang/invoke/MethodHandle" ∧ yX0_init.cls ≠ "java/lang/invoke/VarHandle" ∧ (parseMethodDescriptor yX0_init.desc).map (fun d => d.parameters.length) = some 0 := by decide +kernel
set_option maxHeartbeats 4000000 in
set_option maxRecDepth 100000 in
theorem ctX0_init (l : Launch) (D : va_G) (h : Nat) (ex : Nat → Int32) (oex : Nat → Int32) (hF : FX0_init ex = some oex) : jv l yX0_init wsX0_init { frames := 1, cells := 0, slots := 0, locals := 12 } D [] [.ref h] (eww h ex) (eww h oex) := by
  refine j_mv (cc := cX0_init) (maxL := 1) (own := RX0) (by decide) rfl rfl (Nat.le_of_ble_eq_true rfl) ?_
  intro p e s m args below meth c A C K hr hlk
  unfold FX0_init at hF
  refine j_aload_n (pc := 0) C 0 dX0_init_0 rfl rfl ?_
  refine j_objInit (pc := 1) C (by decide +kernel) (by decide +kernel) (by decide +kernel) dX0_init_1 (Nat.le_of_ble_eq_true rfl) (Nat.le_of_ble_eq_true rfl) ?_
  refine j_aload_n (pc := 4) C 0 dX0_init_4 rfl rfl ?_
  refine j_iconst (pc := 5) (v := 0) C dX0_init_5 (by decide) ?_
  refine j_put (pc := 6) (ws' := (eww h (upd ex 0 0))) C K inX0_init_X0 tyX0 tyX0_ok nmX0 0 rfl rfl 0 (by decide) lkX0_init_9 rfl (tyX0_ok 0 (by decide)) rfl rfl (Nat.le_of_ble_eq_true rfl) rfl dX0_init_6 ?_
  refine j_aload_n (pc := 9) C 0 dX0_init_9 rfl rfl ?_
  refine j_iconst (pc := 10) (v := 1) C dX0_init_10 (by decide) ?_
  refine j_put (pc := 11) (ws' := (eww h (upd (upd ex 0 0) 1 1))) C K inX0_init_X0 tyX0 tyX0_ok nmX0 0 rfl rfl 1 (by decide) lkX0_init_15 rfl (tyX0_ok 1 (by decide)) rfl rfl (Nat.le_of_ble_eq_true rfl) rfl dX0_init_11 ?_
  refine j_aload_n (pc := 14) C 0 dX0_init_14 rfl rfl ?_
  refine j_iconst (pc := 15) (v := 0) C dX0_init_15 (by decide) ?_
  refine j_put (pc := 16) (ws' := (eww h (upd (upd (upd ex 0 0) 1 1) 2 0))) C K inX0_init_X0 tyX0 tyX0_ok nmX0 0 rfl rfl 2 (by decide) lkX0_init_18 rfl (tyX0_ok 2 (by decide)) rfl rfl (Nat.le_of_ble_eq_true rfl) rfl dX0_init_16 ?_
  refine j_aload_n (pc := 19) C 0 dX0_init_19 rfl rfl ?_
  refine j_iconst (pc := 20) (v := 0) C dX0_init_20 (by decide) ?_
  refine j_put (pc := 21) (ws' := (eww h (upd (upd (upd (upd ex 0 0) 1 1) 2 0) 3 0))) C K inX0_init_X0 tyX0 tyX0_ok nmX0 0 rfl rfl 3 (by decide) lkX0_init_21 rfl (tyX0_ok 3 (by decide)) rfl rfl (Nat.le_of_ble_eq_true rfl) rfl dX0_init_21 ?_
  refine j_aload_n (pc := 24) C 0 dX0_init_24 rfl rfl ?_
  refine j_iconst (pc := 25) (v := 0) C dX0_init_25 (by decide) ?_
  refine j_put (pc := 26) (ws' := (eww h (upd (upd (upd (upd (upd ex 0 0) 1 1) 2 0) 3 0) 4 0))) C K inX0_init_X0 tyX0 tyX0_ok nmX0 0 rfl rfl 4 (by decide) lkX0_init_24 rfl (tyX0_ok 4 (by decide)) rfl rfl (Nat.le_of_ble_eq_true rfl) rfl dX0_init_26 ?_
  refine j_aload_n (pc := 29) C 0 dX0_init_29 rfl rfl ?_
  refine j_iconst (pc := 30) (v := 0) C dX0_init_30 (by decide) ?_
  refine j_put (pc := 31) (ws' := (eww h (upd (upd (upd (upd (upd (upd ex 0 0) 1 1) 2 0) 3 0) 4 0) 5 0))) C K inX0_init_X0 tyX0 tyX0_ok nmX0 0 rfl rfl 5 (by decide) lkX0_init_27 rfl (tyX0_ok 5 (by decide)) rfl rfl (Nat.le_of_ble_eq_true rfl) rfl dX0_init_31 ?_
  refine j_aload_n (pc := 34) C 0 dX0_init_34 rfl rfl ?_
  refine j_iconst (pc := 35) (v := 0) C dX0_init_35 (by decide) ?_
  refine j_put (pc := 36) (ws' := (eww h (upd (upd (upd (upd (upd (upd (upd ex 0 0) 1 1) 2 0) 3 0) 4 0) 5 0) 6 0))) C K inX0_init_X0 tyX0 tyX0_ok nmX0 0 rfl rfl 6 (by decide) lkX0_init_30 rfl (tyX0_ok 6 (by decide)) rfl rfl (Nat.le_of_ble_eq_true rfl) rfl dX0_init_36 ?_
  refine j_aload_n (pc := 39) C 0 dX0_init_39 rfl rfl ?_
  refine j_iconst (pc := 40) (v := 0) C dX0_init_40 (by decide) ?_
  refine j_put (pc := 41) (ws' := (eww h (upd (upd (upd (upd (upd (upd (upd (upd ex 0 0) 1 1) 2 0) 3 0) 4 0) 5 0) 6 0) 7 0))) C K inX0_init_X0 tyX0 tyX0_ok nmX0 0 rfl rfl 7 (by decide) lkX0_init_34 rfl (tyX0_ok 7 (by decide)) rfl rfl (Nat.le_of_ble_eq_true rfl) rfl dX0_init_41 ?_
  refine j_aload_n (pc := 44) C 0 dX0_init_44 rfl rfl ?_
  refine j_iconst (pc := 45) (v := 0) C dX0_init_45 (by decide) ?_
  refine j_put (pc := 46) (ws' := (eww h (upd (upd (upd (upd (upd (upd (upd (upd (upd ex 0 0) 1 1) 2 0) 3 0) 4 0) 5 0) 6 0) 7 0) 8 0))) C K inX0_init_X0 tyX0 tyX0_ok nmX0 0 rfl rfl 8 (by decide) lkX0_init_37 rfl (tyX0_ok 8 (by decide)) rfl rfl (Nat.le_of_ble_eq_true rfl) rfl dX0_init_46 ?_
  refine j_aload_n (pc := 49) C 0 dX0_init_49 rfl rfl ?_
  refine j_iconst (pc := 50) (v := 0) C dX0_init_50 (by decide) ?_
  refine j_put (pc := 51) (ws' := (eww h (upd (upd (upd (upd (upd (upd (upd (upd (upd (upd ex 0 0) 1 1) 2 0) 3 0) 4 0) 5 0) 6 0) 7 0) 8 0) 9 0))) C K inX0_init_X0 tyX0 tyX0_ok nmX0 0 rfl rfl 9 (by decide) lkX0_init_40 rfl (tyX0_ok 9 (by decide)) rfl rfl (Nat.le_of_ble_eq_true rfl) rfl dX0_init_51 ?_
  refine j_aload_n (pc := 54) C 0 dX0_init_54 rfl rfl ?_
  refine j_iconst (pc := 55) (v := 0) C dX0_init_55 (by decide) ?_
  refine j_put (pc := 56) (ws' := (eww h (upd (upd (upd (upd (upd (upd (upd (upd (upd (upd (upd ex 0 0) 1 1) 2 0) 3 0) 4 0) 5 0) 6 0) 7 0) 8 0) 9 0) 10 0))) C K inX0_init_X0 tyX0 tyX0_ok nmX0 0 rfl rfl 10 (by decide) lkX0_init_43 rfl (tyX0_ok 10 (by decide)) rfl rfl (Nat.le_of_ble_eq_true rfl) rfl dX0_init_56 ?_
  refine j_aload_n (pc := 59) C 0 dX0_init_59 rfl rfl ?_
  refine j_iconst (pc := 60) (v := 0) C dX0_init_60 (by decide) ?_
  refine j_put (pc := 61) (ws' := (eww h (upd (upd (upd (upd (upd (upd (upd (upd (upd (upd (upd (upd ex 0 0) 1 1) 2 0) 3 0) 4 0) 5 0) 6 0) 7 0) 8 0) 9 0) 10 0) 11 0))) C K inX0_init_X0 tyX0 tyX0_ok nmX0 0 rfl rfl 11 (by decide) lkX0_init_46 rfl (tyX0_ok 11 (by decide)) rfl rfl (Nat.le_of_ble_eq_true rfl) rfl dX0_init_61 ?_
  cases hF
  exact j_vret (pc := 64) C K hr hlk dX0_init_64

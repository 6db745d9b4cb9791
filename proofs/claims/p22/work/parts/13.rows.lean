def FX1_isFull (rlim : Int32) (rn : Int32) : Option (Int32) := if rn < rlim then some 0 else some 1
def FX1_has (rwid : Int32) (x1 x2 : Int32) (rn : Int32) : Option (Int32) := if x1 < 0 then some 0 else if rn ≤ x1 then some 0 else if x2 < 0 then some 0 else if rwid ≤ x2 then some 0 else some 1
def FX1_remove_32 (rwid : Int32) (rlen : Nat) (x1 : Int32) : Nat → Int32 → (Nat → Int32) → Int32 → Int32 → Option (Int32 × (Nat → Int32))
  | 0, _, _, _, _ => none
  | n + 1, rn, rB, v2, v3 => if v2 ≤ v3 then some ((rn - 1), rB) else gd (inb (v3 + rwid) rlen) (gd (inb v3 rlen) (FX1_remove_32 rwid rlen x1 n rn (upd rB v3.toNatClampNeg (rB (v3 + rwid).toNatClampNeg)) v2 (v3 + 1)))
def FX1_remove (rwid : Int32) (rlen : Nat) (x1 : Int32) (rn : Int32) (rB : Nat → Int32) : Option (Int32 × (Nat → Int32)) := if x1 < 0 then some (rn, rB) else if x1 < rn then FX1_remove_32 rwid rlen x1 fuel rn rB ((rn - 1) * rwid) (x1 * rwid) else some (rn, rB)
def FX1_open (rlim : Int32) (rwid : Int32) (rlen : Nat) (rn : Int32) (rB : Nat → Int32) : Option (Int32 × Int32 × (Nat → Int32)) := bd1 (FX1_isFull rlim rn) (fun rq1 => if rq1 = 0 then some (((rn + 1) - 1), (rn + 1), rB) else bd2 (FX1_remove rwid rlen 0 rn rB) (fun q3rn q3rB => some (((q3rn + 1) - 1), (q3rn + 1), q3rB)))
def FX1_put (rwid : Int32) (rlen : Nat) (x1 x2 x3 : Int32) (rn : Int32) (rB : Nat → Int32) : Option ((Nat → Int32)) := bd1 (FX1_has rwid x1 x2 rn) (fun rq1 => if rq1 = 0 then some rB else gd (inb ((x1 * rwid) + x2) rlen) (some (upd rB ((x1 * rwid) + x2).toNatClampNeg x3)))
def FX1_cell (rwid : Int32) (rlen : Nat) (x1 x2 : Int32) (rn : Int32) (rB : Nat → Int32) : Option (Int32) := bd1 (FX1_has rwid x1 x2 rn) (fun rq1 => if rq1 = 0 then some (-1) else gd (inb ((x1 * rwid) + x2) rlen) (some (rB ((x1 * rwid) + x2).toNatClampNeg)))
def FX1_removeAll (rn : Int32) : Option (Int32) := some 0
theorem lkX1_isFull_9 : Cond.fieldLink RX1 9 (TX1 3).1 (TX1 3).2.1 (TX1 3).2.2.1 ∈ wsX1_isFull := by decide +kernel
theorem lkX1_isFull_15 : Cond.fieldLink RX1 15 (TX1 0).1 (TX1 0).2.1 (TX1 0).2.2.1 ∈ wsX1_isFull := by decide +kernel
theorem inX1_isFull_X1 : ∀ w ∈ u_ws RX1 TX1 4, w ∈ wsX1_isFull := by decide +kernel
theorem hdyX1_isFull : yX1_isFull.cls = RX1 ∧ yX1_isFull.cls ≠ "java/lang/invoke/MethodHandle" ∧ yX1_isFull.cls ≠ "java/lang/invoke/VarHandle" ∧ (parseMethodDescriptor yX1_isFull.desc).map (fun d => d.parameters.length) = some 0 := by decide +kernel
set_option maxHeartbeats 4000000 in
set_option maxRecDepth 100000 in
theorem ctX1_isFull (l : Launch) (D : va_G) (h : Nat) (ha : Nat) (kA : ClassId) (rlim : Int32) (rwid : Int32) (rlen : Nat) (rn : Int32) (rB : Nat → Int32) (r : Int32) (hF : FX1_isFull rlim rn = some r) : ji l yX1_isFull wsX1_isFull { frames := 0, cells := 0, slots := 0, locals := 0 } D [(kA, .int)] [.ref h] (rww h ha kA rlim rwid rlen rn rB) (rww h ha kA rlim rwid rlen rn rB) r := by
  refine j_mi (cc := cX1_isFull) (maxL := 1) (own := RX1) (ret := (some .boolean)) (by decide) rfl rfl (Nat.le_of_ble_eq_true rfl) ?_
  intro p e s m args below meth c A C K hr hlk
  unfold FX1_isFull at hF
  refine j_aload_n (pc := 0) C 0 dX1_isFull_0 rfl rfl ?_
  refine j_get (pc := 1) (v := .int rn) C K inX1_isFull_X1 0 rfl rfl 3 (by decide) lkX1_isFull_9 rfl dX1_isFull_1 ?_
  refine j_aload_n (pc := 4) C 0 dX1_isFull_4 rfl rfl ?_
  refine j_get (pc := 5) (v := .int rlim) C K inX1_isFull_X1 0 rfl rfl 0 (by decide) lkX1_isFull_15 rfl dX1_isFull_5 ?_
  refine j_icmp_lt (pc := 8) (tgt := 15) C dX1_isFull_8 (by decide) (fun c1 => ?_) (fun c1 => ?_)
  · replace hF := ifp hF c1
    refine j_iconst (pc := 15) (v := 0) C dX1_isFull_15 (by decide) ?_
    cases hF
    exact j_zret (pc := 16) C K hr hlk rfl dX1_isFull_16
  · replace hF := ifn hF c1
    refine j_iconst (pc := 11) (v := 1) C dX1_isFull_11 (by decide) ?_
    refine j_goto (pc := 12) (tgt := 16) C dX1_isFull_12 (by decide) ?_
    cases hF
    exact j_zret (pc := 16) C K hr hlk rfl dX1_isFull_16
theorem lkX1_has_9 : Cond.fieldLink RX1 9 (TX1 3).1 (TX1 3).2.1 (TX1 3).2.2.1 ∈ wsX1_has := by decide +kernel
theorem lkX1_has_18 : Cond.fieldLink RX1 18 (TX1 1).1 (TX1 1).2.1 (TX1 1).2.2.1 ∈ wsX1_has := by decide +kernel
theorem inX1_has_X1 : ∀ w ∈ u_ws RX1 TX1 4, w ∈ wsX1_has := by decide +kernel
theorem hdyX1_has : yX1_has.cls = RX1 ∧ yX1_has.cls ≠ "java/lang/invoke/MethodHandle" ∧ yX1_has.cls ≠ "java/lang/invoke/VarHandle" ∧ (parseMethodDescriptor yX1_has.desc).map (fun d => d.parameters.length) = some 2 := by decide +kernel
set_option maxHeartbeats 4000000 in
set_option maxRecDepth 100000 in
theorem ctX1_has (l : Launch) (D : va_G) (h : Nat) (ha : Nat) (kA : ClassId) (rlim : Int32) (rwid : Int32) (rlen : Nat) (rn : Int32) (rB : Nat → Int32) (x1 x2 : Int32) (r : Int32) (hF : FX1_has rwid x1 x2 rn = some r) : ji l yX1_has wsX1_has { frames := 0, cells := 0, slots := 0, locals := 0 } D [(kA, .int)] [.ref h, .int x1, .int x2] (rww h ha kA rlim rwid rlen rn rB) (rww h ha kA rlim rwid rlen rn rB) r := by
  refine j_mi (cc := cX1_has) (maxL := 3) (own := RX1) (ret := (some .boolean)) (by decide) rfl rfl (Nat.le_of_ble_eq_true rfl) ?_
  intro p e s m args below meth c A C K hr hlk
  unfold FX1_has at hF
  refine j_iload_n (pc := 0) C 1 dX1_has_0 rfl rfl ?_
  refine j_if_lt (pc := 1) (tgt := 28) C dX1_has_1 (by decide) (fun c1 => ?_) (fun c1 => ?_)
  · replace hF := ifp hF c1
    refine j_iconst (pc := 28) (v := 0) C dX1_has_28 (by decide) ?_
    cases hF
    exact j_zret (pc := 29) C K hr hlk rfl dX1_has_29
  · replace hF := ifn hF c1
    refine j_iload_n (pc := 4) C 1 dX1_has_4 rfl rfl ?_
    refine j_aload_n (pc := 5) C 0 dX1_has_5 rfl rfl ?_
    refine j_get (pc := 6) (v := .int rn) C K inX1_has_X1 0 rfl rfl 3 (by decide) lkX1_has_9 rfl dX1_has_6 ?_
    refine j_icmp_ge (pc := 9) (tgt := 28) C dX1_has_9 (by decide) (fun c2 => ?_) (fun c2 => ?_)
    · replace hF := ifp hF c2
      refine j_iconst (pc := 28) (v := 0) C dX1_has_28 (by decide) ?_
      cases hF
      exact j_zret (pc := 29) C K hr hlk rfl dX1_has_29
    · replace hF := ifn hF c2
      refine j_iload_n (pc := 12) C 2 dX1_has_12 rfl rfl ?_
      refine j_if_lt (pc := 13) (tgt := 28) C dX1_has_13 (by decide) (fun c3 => ?_) (fun c3 => ?_)
      · replace hF := ifp hF c3
        refine j_iconst (pc := 28) (v := 0) C dX1_has_28 (by decide) ?_
        cases hF
        exact j_zret (pc := 29) C K hr hlk rfl dX1_has_29
      · replace hF := ifn hF c3
        refine j_iload_n (pc := 16) C 2 dX1_has_16 rfl rfl ?_
        refine j_aload_n (pc := 17) C 0 dX1_has_17 rfl rfl ?_
        refine j_get (pc := 18) (v := .int rwid) C K inX1_has_X1 0 rfl rfl 1 (by decide) lkX1_has_18 rfl dX1_has_18 ?_
        refine j_icmp_ge (pc := 21) (tgt := 28) C dX1_has_21 (by decide) (fun c4 => ?_) (fun c4 => ?_)
        · replace hF := ifp hF c4
          refine j_iconst (pc := 28) (v := 0) C dX1_has_28 (by decide) ?_
          cases hF
          exact j_zret (pc := 29) C K hr hlk rfl dX1_has_29
        · replace hF := ifn hF c4
          refine j_iconst (pc := 24) (v := 1) C dX1_has_24 (by decide) ?_
          refine j_goto (pc := 25) (tgt := 29) C dX1_has_25 (by decide) ?_
          cases hF
          exact j_zret (pc := 29) C K hr hlk rfl dX1_has_29
theorem lkX1_remove_9 : Cond.fieldLink RX1 9 (TX1 3).1 (TX1 3).2.1 (TX1 3).2.2.1 ∈ wsX1_remove := by decide +kernel
theorem lkX1_remove_18 : Cond.fieldLink RX1 18 (TX1 1).1 (TX1 1).2.1 (TX1 1).2.2.1 ∈ wsX1_remove := by decide +kernel
theorem lkX1_remove_21 : Cond.fieldLink RX1 21 (TX1 2).1 (TX1 2).2.1 (TX1 2).2.2.1 ∈ wsX1_remove := by decide +kernel
theorem inX1_remove_X1 : ∀ w ∈ u_ws RX1 TX1 4, w ∈ wsX1_remove := by decide +kernel
theorem hdyX1_remove : yX1_remove.cls = RX1 ∧ yX1_remove.cls ≠ "java/lang/invoke/MethodHandle" ∧ yX1_remove.cls ≠ "java/lang/invoke/VarHandle" ∧ (parseMethodDescriptor yX1_remove.desc).map (fun d => d.parameters.length) = some 1 := by decide +kernel
set_option maxHeartbeats 4000000 in
set_option maxRecDepth 100000 in
theorem ctX1_remove (l : Launch) (D : va_G) (h : Nat) (ha : Nat) (kA : ClassId) (rlim : Int32) (rwid : Int32) (rlen : Nat) (rn : Int32) (rB : Nat → Int32) (x1 : Int32) (orn : Int32) (orB : Nat → Int32) (hF : FX1_remove rwid rlen x1 rn rB = some (orn, orB)) : jv l yX1_remove wsX1_remove { frames := 0, cells := 0, slots := 0, locals := 0 } D [(kA, .int)] [.ref h, .int x1] (rww h ha kA rlim rwid rlen rn rB) (rww h ha kA rlim rwid rlen orn orB) := by
  refine j_mv (cc := cX1_remove) (maxL := 4) (own := RX1) (by decide) rfl rfl (Nat.le_of_ble_eq_true rfl) ?_
  intro p e s m args below meth c A C K hr hlk
  have K32 : ∀ (n : Nat) (rn : Int32) (rB : Nat → Int32) (v2 v3 : Int32), FX1_remove_32 rwid rlen x1 n rn rB v2 v3 = some (orn, orB) → jw p l e ({ frames := 0, cells := 0, slots := 0, locals := 0 } : Room) s m args below meth c 4 D A 0 0 (jqv below D [(kA, .int)] args s A (rww h ha kA rlim rwid rlen orn orB)) (rww h ha kA rlim rwid rlen rn rB) [(0, .ref h), (2, .int v2), (3, .int v3)] 32 [] := by
    intro n
    induction n with
    | zero =>
      intro rn rB v2 v3 hF
      rw [FX1_remove_32] at hF
      cases hF
    | succ n ih =>
      intro rn rB v2 v3 hF
      rw [FX1_remove_32] at hF
      refine j_iload_n (pc := 32) C 2 dX1_remove_32 rfl rfl ?_
      refine j_iload_n (pc := 33) C 1 dX1_remove_33 rfl rfl ?_
      refine j_icmp_ge (pc := 34) (tgt := 60) C dX1_remove_34 (by decide) (fun c3 => ?_) (fun c3 => ?_)
      · replace hF := ifp hF c3
        refine j_aload_n (pc := 60) C 0 dX1_remove_60 rfl rfl ?_
        refine j_dup (pc := 61) C dX1_remove_61 rfl ?_
        refine j_get (pc := 62) (v := .int rn) C K inX1_remove_X1 0 rfl rfl 3 (by decide) lkX1_remove_9 rfl dX1_remove_62 ?_
        refine j_iconst (pc := 65) (v := 1) C dX1_remove_65 (by decide) ?_
        refine j_isub (pc := 66) C dX1_remove_66 ?_
        refine j_put (pc := 67) (ws' := (rww h ha kA rlim rwid rlen (rn - 1) rB)) C K inX1_remove_X1 tyX1 tyX1_ok nmX1 0 rfl rfl 3 (by decide) lkX1_remove_9 rfl (tyX1_ok 3 (by decide)) rfl rfl (Nat.le_of_ble_eq_true rfl) rfl dX1_remove_67 ?_
        cases hF
        exact j_vret (pc := 70) C K hr hlk dX1_remove_70
      · replace hF := ifn hF c3
        refine j_aload_n (pc := 37) C 0 dX1_remove_37 rfl rfl ?_
        refine j_get (pc := 38) (v := .ref ha) C K inX1_remove_X1 0 rfl rfl 2 (by decide) lkX1_remove_21 rfl dX1_remove_38 ?_
        refine j_iload_n (pc := 41) C 2 dX1_remove_41 rfl rfl ?_
        refine j_aload_n (pc := 42) C 0 dX1_remove_42 rfl rfl ?_
        refine j_get (pc := 43) (v := .ref ha) C K inX1_remove_X1 0 rfl rfl 2 (by decide) lkX1_remove_21 rfl dX1_remove_43 ?_
        refine j_iload_n (pc := 46) C 2 dX1_remove_46 rfl rfl ?_
        refine j_aload_n (pc := 47) C 0 dX1_remove_47 rfl rfl ?_
        refine j_get (pc := 48) (v := .int rwid) C K inX1_remove_X1 0 rfl rfl 1 (by decide) lkX1_remove_18 rfl dX1_remove_48 ?_
        refine j_iadd (pc := 51) C dX1_remove_51 ?_
        obtain ⟨g4, hF⟩ := gd_some hF
        refine j_iald (pc := 52) C K 1 0 rfl rfl g4 dX1_remove_52 ?_
        obtain ⟨g5, hF⟩ := gd_some hF
        refine j_iast (pc := 53) (ws' := (rww h ha kA rlim rwid rlen rn (upd rB v3.toNatClampNeg (rB (v3 + rwid).toNatClampNeg)))) C K 1 0 rfl rfl g5 rfl dX1_remove_53 ?_
        refine j_iinc (pc := 54) (v := (v3 + 1)) (lv' := [(3, .int (v3 + 1)), (0, .ref h), (2, .int v2)]) C 2 dX1_remove_54 rfl rfl (by decide) rfl ?_
        refine j_goto (pc := 57) (tgt := 32) C dX1_remove_57 (by decide) ?_
        exact j_lv [1, 2, 0] rfl (ih _ _ _ _ hF)
  unfold FX1_remove at hF
  refine j_iload_n (pc := 0) C 1 dX1_remove_0 rfl rfl ?_
  refine j_if_lt (pc := 1) (tgt := 12) C dX1_remove_1 (by decide) (fun c1 => ?_) (fun c1 => ?_)
  · replace hF := ifp hF c1
    cases hF
    exact j_vret (pc := 12) C K hr hlk dX1_remove_12
  · replace hF := ifn hF c1
    refine j_iload_n (pc := 4) C 1 dX1_remove_4 rfl rfl ?_
    refine j_aload_n (pc := 5) C 0 dX1_remove_5 rfl rfl ?_
    refine j_get (pc := 6) (v := .int rn) C K inX1_remove_X1 0 rfl rfl 3 (by decide) lkX1_remove_9 rfl dX1_remove_6 ?_
    refine j_icmp_lt (pc := 9) (tgt := 13) C dX1_remove_9 (by decide) (fun c2 => ?_) (fun c2 => ?_)
    · replace hF := ifp hF c2
      refine j_aload_n (pc := 13) C 0 dX1_remove_13 rfl rfl ?_
      refine j_get (pc := 14) (v := .int rn) C K inX1_remove_X1 0 rfl rfl 3 (by decide) lkX1_remove_9 rfl dX1_remove_14 ?_
      refine j_iconst (pc := 17) (v := 1) C dX1_remove_17 (by decide) ?_
      refine j_isub (pc := 18) C dX1_remove_18 ?_
      refine j_aload_n (pc := 19) C 0 dX1_remove_19 rfl rfl ?_
      refine j_get (pc := 20) (v := .int rwid) C K inX1_remove_X1 0 rfl rfl 1 (by decide) lkX1_remove_18 rfl dX1_remove_20 ?_
      refine j_imul (pc := 23) C dX1_remove_23 ?_
      refine j_istore_n (pc := 24) (lv' := [(2, .int ((rn - 1) * rwid)), (0, .ref h), (1, .int x1)]) C dX1_remove_24 rfl (by decide) rfl ?_
      refine j_iload_n (pc := 25) C 2 dX1_remove_25 rfl rfl ?_
      refine j_aload_n (pc := 26) C 1 dX1_remove_26 rfl rfl ?_
      refine j_get (pc := 27) (v := .int rwid) C K inX1_remove_X1 0 rfl rfl 1 (by decide) lkX1_remove_18 rfl dX1_remove_27 ?_
      refine j_imul (pc := 30) C dX1_remove_30 ?_
      refine j_istore_n (pc := 31) (lv' := [(3, .int (x1 * rwid)), (2, .int ((rn - 1) * rwid)), (0, .ref h), (1, .int x1)]) C dX1_remove_31 rfl (by decide) rfl ?_
      exact j_lv [2, 1, 0] rfl (K32 _ _ _ _ _ hF)
    · replace hF := ifn hF c2
      cases hF
      exact j_vret (pc := 12) C K hr hlk dX1_remove_12
theorem lkX1_open_9 : Cond.fieldLink RX1 9 (TX1 3).1 (TX1 3).2.1 (TX1 3).2.2.1 ∈ wsX1_open := by decide +kernel
theorem inX1_open_X1 : ∀ w ∈ u_ws RX1 TX1 4, w ∈ wsX1_open := by decide +kernel
theorem hdyX1_open : yX1_open.cls = RX1 ∧ yX1_open.cls ≠ "java/lang/invoke/MethodHandle" ∧ yX1_open.cls ≠ "java/lang/invoke/VarHandle" ∧ (parseMethodDescriptor yX1_open.desc).map (fun d => d.parameters.length) = some 0 := by decide +kernel
set_option maxHeartbeats 4000000 in
set_option maxRecDepth 100000 in
theorem ctX1_open (l : Launch) (D : va_G) (h : Nat) (ha : Nat) (kA : ClassId) (rlim : Int32) (rwid : Int32) (rlen : Nat) (rn : Int32) (rB : Nat → Int32) (r : Int32) (orn : Int32) (orB : Nat → Int32) (hF : FX1_open rlim rwid rlen rn rB = some (r, orn, orB)) : ji l yX1_open wsX1_open { frames := 1, cells := 0, slots := 0, locals := 23 } D [(kA, .int)] [.ref h] (rww h ha kA rlim rwid rlen rn rB) (rww h ha kA rlim rwid rlen orn orB) r := by
  refine j_mi (cc := cX1_open) (maxL := 1) (own := RX1) (ret := (some .int)) (by decide) rfl rfl (Nat.le_of_ble_eq_true rfl) ?_
  intro p e s m args below meth c A C K hr hlk
  unfold FX1_open at hF
  refine j_aload_n (pc := 0) C 0 dX1_open_0 rfl rfl ?_
  obtain ⟨rq1, hq1, hF⟩ := bd1_some hF
  refine j_callVi (pc := 1) (As := []) (rest := []) (ws' := (rww h ha kA rlim rwid rlen rn rB)) C K (ci := 1) (q0 := 0) rfl rfl rfl (ctX1_isFull l D h ha kA rlim rwid rlen _ _ _ hq1) gX1_open_X1_isFull rfl rfl rfl hdyX1_isFull ⟨Nat.le_of_ble_eq_true rfl, Nat.le_of_ble_eq_true rfl⟩ (List.range 2) (jrange _) (by decide) (jspF rfl) [0] rfl rfl (Nat.le_of_ble_eq_true rfl) dX1_open_1 ⟨Nat.zero_le _, Nat.zero_le _⟩ ?_
  refine j_if_eq (pc := 4) (tgt := 12) C dX1_open_4 (by decide) (fun c2 => ?_) (fun c2 => ?_)
  · replace hF := ifp hF c2
    refine j_aload_n (pc := 12) C 0 dX1_open_12 rfl rfl ?_
    refine j_dup (pc := 13) C dX1_open_13 rfl ?_
    refine j_get (pc := 14) (v := .int rn) C K inX1_open_X1 0 rfl rfl 3 (by decide) lkX1_open_9 rfl dX1_open_14 ?_
    refine j_iconst (pc := 17) (v := 1) C dX1_open_17 (by decide) ?_
    refine j_iadd (pc := 18) C dX1_open_18 ?_
    refine j_put (pc := 19) (ws' := (rww h ha kA rlim rwid rlen (rn + 1) rB)) C K inX1_open_X1 tyX1 tyX1_ok nmX1 0 rfl rfl 3 (by decide) lkX1_open_9 rfl (tyX1_ok 3 (by decide)) rfl rfl (Nat.le_of_ble_eq_true rfl) rfl dX1_open_19 ?_
    refine j_aload_n (pc := 22) C 0 dX1_open_22 rfl rfl ?_
    refine j_get (pc := 23) (v := .int (rn + 1)) C K inX1_open_X1 0 rfl rfl 3 (by decide) lkX1_open_9 rfl dX1_open_23 ?_
    refine j_iconst (pc := 26) (v := 1) C dX1_open_26 (by decide) ?_
    refine j_isub (pc := 27) C dX1_open_27 ?_
    cases hF
    exact j_iret (pc := 28) C K hr hlk dX1_open_28
  · replace hF := ifn hF c2
    refine j_aload_n (pc := 7) C 0 dX1_open_7 rfl rfl ?_
    refine j_iconst (pc := 8) (v := 0) C dX1_open_8 (by decide) ?_
    obtain ⟨q3rn, q3rB, hq3, hF⟩ := bd2_some hF
    refine j_callVv (pc := 9) (As := [.int 0]) (rest := []) (ws' := (rww h ha kA rlim rwid rlen q3rn q3rB)) C K (ci := 1) (q0 := 0) rfl rfl rfl (ctX1_remove l D h ha kA rlim rwid rlen _ _ _ _ _ hq3) gX1_open_X1_remove rfl rfl rfl hdyX1_remove ⟨Nat.le_of_ble_eq_true rfl, Nat.le_of_ble_eq_true rfl⟩ (List.range 2) (jrange _) (by decide) (jspF rfl) [0] rfl rfl (Nat.le_of_ble_eq_true rfl) dX1_open_9 ⟨Nat.zero_le _, Nat.zero_le _⟩ ?_
    refine j_aload_n (pc := 12) C 0 dX1_open_12 rfl rfl ?_
    refine j_dup (pc := 13) C dX1_open_13 rfl ?_
    refine j_get (pc := 14) (v := .int q3rn) C K inX1_open_X1 0 rfl rfl 3 (by decide) lkX1_open_9 rfl dX1_open_14 ?_
    refine j_iconst (pc := 17) (v := 1) C dX1_open_17 (by decide) ?_
    refine j_iadd (pc := 18) C dX1_open_18 ?_
    refine j_put (pc := 19) (ws' := (rww h ha kA rlim rwid rlen (q3rn + 1) q3rB)) C K inX1_open_X1 tyX1 tyX1_ok nmX1 0 rfl rfl 3 (by decide) lkX1_open_9 rfl (tyX1_ok 3 (by decide)) rfl rfl (Nat.le_of_ble_eq_true rfl) rfl dX1_open_19 ?_
    refine j_aload_n (pc := 22) C 0 dX1_open_22 rfl rfl ?_
    refine j_get (pc := 23) (v := .int (q3rn + 1)) C K inX1_open_X1 0 rfl rfl 3 (by decide) lkX1_open_9 rfl dX1_open_23 ?_
    refine j_iconst (pc := 26) (v := 1) C dX1_open_26 (by decide) ?_
    refine j_isub (pc := 27) C dX1_open_27 ?_
    cases hF
    exact j_iret (pc := 28) C K hr hlk dX1_open_28
theorem lkX1_put_21 : Cond.fieldLink RX1 21 (TX1 2).1 (TX1 2).2.1 (TX1 2).2.2.1 ∈ wsX1_put := by decide +kernel
theorem lkX1_put_18 : Cond.fieldLink RX1 18 (TX1 1).1 (TX1 1).2.1 (TX1 1).2.2.1 ∈ wsX1_put := by decide +kernel
theorem inX1_put_X1 : ∀ w ∈ u_ws RX1 TX1 4, w ∈ wsX1_put := by decide +kernel
theorem hdyX1_put : yX1_put.cls = RX1 ∧ yX1_put.cls ≠ "java/lang/invoke/MethodHandle" ∧ yX1_put.cls ≠ "java/lang/invoke/VarHandle" ∧ (parseMethodDescriptor yX1_put.desc).map (fun d => d.parameters.length) = some 3 := by decide +kernel
set_option maxHeartbeats 4000000 in
set_option maxRecDepth 100000 in
theorem ctX1_put (l : Launch) (D : va_G) (h : Nat) (ha : Nat) (kA : ClassId) (rlim : Int32) (rwid : Int32) (rlen : Nat) (rn : Int32) (rB : Nat → Int32) (x1 x2 x3 : Int32) (orB : Nat → Int32) (hF : FX1_put rwid rlen x1 x2 x3 rn rB = some orB) : jv l yX1_put wsX1_put { frames := 1, cells := 0, slots := 0, locals := 22 } D [(kA, .int)] [.ref h, .int x1, .int x2, .int x3] (rww h ha kA rlim rwid rlen rn rB) (rww h ha kA rlim rwid rlen rn orB) := by
  refine j_mv (cc := cX1_put) (maxL := 4) (own := RX1) (by decide) rfl rfl (Nat.le_of_ble_eq_true rfl) ?_
  intro p e s m args below meth c A C K hr hlk
  unfold FX1_put at hF
  refine j_aload_n (pc := 0) C 0 dX1_put_0 rfl rfl ?_
  refine j_iload_n (pc := 1) C 1 dX1_put_1 rfl rfl ?_
  refine j_iload_n (pc := 2) C 2 dX1_put_2 rfl rfl ?_
  obtain ⟨rq1, hq1, hF⟩ := bd1_some hF
  refine j_callVi (pc := 3) (As := [.int x1, .int x2]) (rest := []) (ws' := (rww h ha kA rlim rwid rlen rn rB)) C K (ci := 1) (q0 := 0) rfl rfl rfl (ctX1_has l D h ha kA rlim rwid rlen _ _ _ _ _ hq1) gX1_put_X1_has rfl rfl rfl hdyX1_has ⟨Nat.le_of_ble_eq_true rfl, Nat.le_of_ble_eq_true rfl⟩ (List.range 2) (jrange _) (by decide) (jspF rfl) [0] rfl rfl (Nat.le_of_ble_eq_true rfl) dX1_put_3 ⟨Nat.zero_le _, Nat.zero_le _⟩ ?_
  refine j_if_eq (pc := 6) (tgt := 23) C dX1_put_6 (by decide) (fun c2 => ?_) (fun c2 => ?_)
  · replace hF := ifp hF c2
    cases hF
    exact j_vret (pc := 23) C K hr hlk dX1_put_23
  · replace hF := ifn hF c2
    refine j_aload_n (pc := 9) C 0 dX1_put_9 rfl rfl ?_
    refine j_get (pc := 10) (v := .ref ha) C K inX1_put_X1 0 rfl rfl 2 (by decide) lkX1_put_21 rfl dX1_put_10 ?_
    refine j_iload_n (pc := 13) C 1 dX1_put_13 rfl rfl ?_
    refine j_aload_n (pc := 14) C 0 dX1_put_14 rfl rfl ?_
    refine j_get (pc := 15) (v := .int rwid) C K inX1_put_X1 0 rfl rfl 1 (by decide) lkX1_put_18 rfl dX1_put_15 ?_
    refine j_imul (pc := 18) C dX1_put_18 ?_
    refine j_iload_n (pc := 19) C 2 dX1_put_19 rfl rfl ?_
    refine j_iadd (pc := 20) C dX1_put_20 ?_
    refine j_iload_n (pc := 21) C 3 dX1_put_21 rfl rfl ?_
    obtain ⟨g3, hF⟩ := gd_some hF
    refine j_iast (pc := 22) (ws' := (rww h ha kA rlim rwid rlen rn (upd rB ((x1 * rwid) + x2).toNatClampNeg x3))) C K 1 0 rfl rfl g3 rfl dX1_put_22 ?_
    cases hF
    exact j_vret (pc := 23) C K hr hlk dX1_put_23
theorem lkX1_cell_21 : Cond.fieldLink RX1 21 (TX1 2).1 (TX1 2).2.1 (TX1 2).2.2.1 ∈ wsX1_cell := by decide +kernel
theorem lkX1_cell_18 : Cond.fieldLink RX1 18 (TX1 1).1 (TX1 1).2.1 (TX1 1).2.2.1 ∈ wsX1_cell := by decide +kernel
theorem inX1_cell_X1 : ∀ w ∈ u_ws RX1 TX1 4, w ∈ wsX1_cell := by decide +kernel
theorem hdyX1_cell : yX1_cell.cls = RX1 ∧ yX1_cell.cls ≠ "java/lang/invoke/MethodHandle" ∧ yX1_cell.cls ≠ "java/lang/invoke/VarHandle" ∧ (parseMethodDescriptor yX1_cell.desc).map (fun d => d.parameters.length) = some 2 := by decide +kernel
set_option maxHeartbeats 4000000 in
set_option maxRecDepth 100000 in
theorem ctX1_cell (l : Launch) (D : va_G) (h : Nat) (ha : Nat) (kA : ClassId) (rlim : Int32) (rwid : Int32) (rlen : Nat) (rn : Int32) (rB : Nat → Int32) (x1 x2 : Int32) (r : Int32) (hF : FX1_cell rwid rlen x1 x2 rn rB = some r) : ji l yX1_cell wsX1_cell { frames := 1, cells := 0, slots := 0, locals := 22 } D [(kA, .int)] [.ref h, .int x1, .int x2] (rww h ha kA rlim rwid rlen rn rB) (rww h ha kA rlim rwid rlen rn rB) r := by
  refine j_mi (cc := cX1_cell) (maxL := 3) (own := RX1) (ret := (some .int)) (by decide) rfl rfl (Nat.le_of_ble_eq_true rfl) ?_
  intro p e s m args below meth c A C K hr hlk
  unfold FX1_cell at hF
  refine j_aload_n (pc := 0) C 0 dX1_cell_0 rfl rfl ?_
  refine j_iload_n (pc := 1) C 1 dX1_cell_1 rfl rfl ?_
  refine j_iload_n (pc := 2) C 2 dX1_cell_2 rfl rfl ?_
  obtain ⟨rq1, hq1, hF⟩ := bd1_some hF
  refine j_callVi (pc := 3) (As := [.int x1, .int x2]) (rest := []) (ws' := (rww h ha kA rlim rwid rlen rn rB)) C K (ci := 1) (q0 := 0) rfl rfl rfl (ctX1_has l D h ha kA rlim rwid rlen _ _ _ _ _ hq1) gX1_cell_X1_has rfl rfl rfl hdyX1_has ⟨Nat.le_of_ble_eq_true rfl, Nat.le_of_ble_eq_true rfl⟩ (List.range 2) (jrange _) (by decide) (jspF rfl) [0] rfl rfl (Nat.le_of_ble_eq_true rfl) dX1_cell_3 ⟨Nat.zero_le _, Nat.zero_le _⟩ ?_
  refine j_if_eq (pc := 6) (tgt := 25) C dX1_cell_6 (by decide) (fun c2 => ?_) (fun c2 => ?_)
  · replace hF := ifp hF c2
    refine j_iconst (pc := 25) (v := (-1)) C dX1_cell_25 (by decide) ?_
    cases hF
    exact j_iret (pc := 26) C K hr hlk dX1_cell_26
  · replace hF := ifn hF c2
    refine j_aload_n (pc := 9) C 0 dX1_cell_9 rfl rfl ?_
    refine j_get (pc := 10) (v := .ref ha) C K inX1_cell_X1 0 rfl rfl 2 (by decide) lkX1_cell_21 rfl dX1_cell_10 ?_
    refine j_iload_n (pc := 13) C 1 dX1_cell_13 rfl rfl ?_
    refine j_aload_n (pc := 14) C 0 dX1_cell_14 rfl rfl ?_
    refine j_get (pc := 15) (v := .int rwid) C K inX1_cell_X1 0 rfl rfl 1 (by decide) lkX1_cell_18 rfl dX1_cell_15 ?_
    refine j_imul (pc := 18) C dX1_cell_18 ?_
    refine j_iload_n (pc := 19) C 2 dX1_cell_19 rfl rfl ?_
    refine j_iadd (pc := 20) C dX1_cell_20 ?_
    obtain ⟨g3, hF⟩ := gd_some hF
    refine j_iald (pc := 21) C K 1 0 rfl rfl g3 dX1_cell_21 ?_
    refine j_goto (pc := 22) (tgt := 26) C dX1_cell_22 (by decide) ?_
    cases hF
    exact j_iret (pc := 26) C K hr hlk dX1_cell_26
theorem lkX1_removeAll_9 : Cond.fieldLink RX1 9 (TX1 3).1 (TX1 3).2.1 (TX1 3).2.2.1 ∈ wsX1_removeAll := by decide +kernel
theorem inX1_removeAll_X1 : ∀ w ∈ u_ws RX1 TX1 4, w ∈ wsX1_removeAll := by decide +kernel
theorem hdyX1_removeAll : yX1_removeAll.cls = RX1 ∧ yX1_removeAll.cls ≠ "java/lang/invoke/MethodHandle" ∧ yX1_removeAll.cls ≠ "java/lang/invoke/VarHandle" ∧ (parseMethodDescriptor yX1_removeAll.desc).map (fun d => d.parameters.length) = some 0 := by decide +kernel
set_option maxHeartbeats 4000000 in
set_option maxRecDepth 100000 in
theorem ctX1_removeAll (l : Launch) (D : va_G) (h : Nat) (ha : Nat) (kA : ClassId) (rlim : Int32) (rwid : Int32) (rlen : Nat) (rn : Int32) (rB : Nat → Int32) (orn : Int32) (hF : FX1_removeAll rn = some orn) : jv l yX1_removeAll wsX1_removeAll { frames := 0, cells := 0, slots := 0, locals := 0 } D [(kA, .int)] [.ref h] (rww h ha kA rlim rwid rlen rn rB) (rww h ha kA rlim rwid rlen orn rB) := by
  refine j_mv (cc := cX1_removeAll) (maxL := 1) (own := RX1) (by decide) rfl rfl (Nat.le_of_ble_eq_true rfl) ?_
  intro p e s m args below meth c A C K hr hlk
  unfold FX1_removeAll at hF
  refine j_aload_n (pc := 0) C 0 dX1_removeAll_0 rfl rfl ?_
  refine j_iconst (pc := 1) (v := 0) C dX1_removeAll_1 (by decide) ?_
  refine j_put (pc := 2) (ws' := (rww h ha kA rlim rwid rlen 0 rB)) C K inX1_removeAll_X1 tyX1 tyX1_ok nmX1 0 rfl rfl 3 (by decide) lkX1_removeAll_9 rfl (tyX1_ok 3 (by decide)) rfl rfl (Nat.le_of_ble_eq_true rfl) rfl dX1_removeAll_2 ?_
  cases hF
  exact j_vret (pc := 5) C K hr hlk dX1_removeAll_5

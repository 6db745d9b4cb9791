/-- a search that ends at the only row of the table -/
theorem jx_find {e : Env} {S : State} {f : JFrame} {q : Addr} {meth : Method} {c : Code} (hm : S.vm.method? f.method = some meth) (hc : meth.code = some c) {x : ExceptionTableEntry} (hone : c.exceptionTable.toList = [x]) (hx : covers x f.pc = true) (h0 : x.catchType ≠ 0) {k : ClassId} {ce : Cell} (hl : S.vm.ClassLinks e.platform f.method.cls x.catchType k) (hcell : S.heap[q]? = some ce) (hobj : ∀ z, ce.vm ≠ .statics z) (hk : ∃ z, S.vm.classes[ce.cls]? = some z) (hcl : ∃ z, S.vm.classes[k]? = some z) (hfit : S.vm.assignable ce.cls k = true) (P : Handler → Jvm.Pre) (E : Jvm.CtlPost) (d : Bool) (acts : List Action) :
    Sem.wp (findHandler f q) P E e d acts S ↔ P (.found x.handlerPc) d acts (S.setVm (S.vm.noted f.method.cls x.catchType (.cls k))) := by
  have hal : S.vm.Alike (S.vm.noted f.method.cls x.catchType (.cls k)) := (Vm.Alike.refl S.vm).noted _ _ _
  obtain ⟨z1, hz1⟩ := hk
  obtain ⟨z2, hz2⟩ := hcl
  obtain ⟨y1, hy1, -⟩ := hal.2.2 _ _ hz1
  obtain ⟨y2, hy2, -⟩ := hal.2.2 _ _ hz2
  have hfit2 : (S.vm.noted f.method.cls x.catchType (.cls k)).assignable ce.cls k = true := by rw [hal.assignable]; exact hfit
  obtain ⟨ha, ht⟩ := (resolveClass_links e.toSetting hl).op (op := VmOp.resolveClass f.method.cls x.catchType) rfl
  rw [Jvm.W.findHandler_eq hm hc, hone]
  simp only [covers] at hx
  simp [findHandler.go, hx, h0, ha, ht, hcell, hobj, hy1, hy2, hfit2, VmOp.dirties, VmOp.acts]
theorem jx_go {tb : Tables} {e : Env} {T target : State} {g : JFrame} {c : Code} {below : List Frame} {q : Addr} (h : At T g.method c below) {pc : Nat} {vm' : Vm}
    (hfind : ∀ (P : Handler → Jvm.Pre) (E : Jvm.CtlPost) (d : Bool) (acts : List Action), Sem.wp (findHandler g q) P E e d acts ((T.setTop g).pushFrame (.throwing q)) ↔ P (.found pc) d acts (((T.setTop g).pushFrame (.throwing q)).setVm vm'))
    (hrest : Steps tb e below ((T.setVm vm').setTop { g with pc := pc, stack := [.ref q] }) target) : Steps tb e below ((T.setTop g).pushFrame (.throwing q)) target := by
  obtain ⟨hgo, hw⟩ := h.throwing q
  refine Steps.head hgo hw ?_
  have hs : (stepThrowing e ((T.setTop g).pushFrame (.throwing q)) q (.java g :: T.frames.tail)).1 = (((T.setTop g).pushFrame (.throwing q)).setVm vm').setFrames (.java { g with pc := pc, stack := [.ref q] } :: T.frames.tail) := by
    simp only [stepThrowing, searchFrame, vmDo]
    generalize hr : Sem.go _ e false [] ((T.setTop g).pushFrame (.throwing q)) = res
    obtain ⟨as, rfl, ha⟩ := Sem.eq_ok_of hr (a := Handler.found pc) (s' := ((T.setTop g).pushFrame (.throwing q)).setVm vm') (acts' := []) (by simp [hfind _ _ _ _])
    rfl
  rw [stepThread_throwing (frames_entered h.top _), hs]
  obtain ⟨g0, hg0⟩ := Option.isSome_iff_exists.mp h.top
  obtain ⟨r, hr⟩ := State.topJava?_eq_some.mp hg0
  have hr2 : (T.setVm vm').frames = .java g0 :: r := hr
  rw [State.setTop_of_frames _ hr2] at hrest
  have sw : ∀ (u : State) (F G : List Frame), ((u.setFrames F).setVm vm').setFrames G = (u.setVm vm').setFrames G := fun u F G => by
    rw [show (u.setFrames F).setVm vm' = (u.setVm vm').setFrames F from rfl, State.setFrames_setFrames]
  rw [hr, List.tail_cons, State.pushFrame, sw, State.setTop_of_frames _ hr, sw]
  exact hrest
section JX
variable {p : Program} {l : Launch} {e : Env} {R : Room} {s : State} {m : MethodId} {args : Array Value} {below : List Frame} {meth : Method} {c : Code} {nL : Nat} {D : va_G} {tys : List (ClassId × FieldType)} {A : Nat → Prop} {cells slots : Nat} {Q : State → Prop} {cc : ByteArray} {own : String} {Ts : List Cond} {ws : va_W} {lv : List (Nat × Value)} {pc : Nat} {st : List Value} {H : Heap} {locs : List Loc} {ls : Array Slot} {rest : List Value}
theorem jx_catch {name E : String} {ce : Cell} {q : Addr} (hown : s.vm.findClass own = some m.cls) {x : ExceptionTableEntry} (hone : c.exceptionTable.toList = [x]) (hx : covers x pc = true) (h0 : x.catchType ≠ 0) (hlink : (Cond.classLink own x.catchType name).before args s = true) (hcast : (Cond.castable E name).before args s = true) (hcell : H[q]? = some ce) (hv : ce.vm = .none) (hcl : s.vm.findClass E = some ce.cls)
    (kk : W p l e R s m args below meth c H locs cells slots Q (F0 m x.handlerPc ls [.ref q])) : vx_W p l e R s m args below meth c H locs cells slots Q (F0 m pc ls rest) q := by
  intro T hT X
  have hpl : e.platform.magicAccessors = ({} : Platform).magicAccessors := by rw [X.admits.platform]
  obtain ⟨c3, c4, hc3, hc4, hasg⟩ := Cond.castable_spec hcast
  cases Option.some.inj (hc3.symm.trans hcl)
  obtain ⟨c5, hc5, hcl5⟩ := Cond.classLink_spec hown hlink e.platform hpl
  cases Option.some.inj (hc4.symm.trans hc5)
  obtain ⟨dk, _, _, kt, hd, _, _, _, _, hkt, _, hopn⟩ := hcl5.here
  have hW2 : s.WarmedH (T.vm.noted m.cls x.catchType (.cls c4)) := X.warmed.noted hd hopn (State.rightAt_cls hcl5)
  have hal := X.warmed.alike
  obtain ⟨kt2, hkt2, -⟩ := hal.2.2 _ _ hkt
  obtain ⟨k9, h9, -⟩ := Vm.findClass_spec hcl
  obtain ⟨k8, h8, -⟩ := hal.2.2 _ _ h9
  obtain ⟨t, a1, b1⟩ := kk (T.setVm (T.vm.noted m.cls x.catchType (.cls c4))) hT (X.noted hW2)
  refine ⟨t, ?_, b1⟩
  exact jx_go (g := F0 m pc ls rest) X.here (fun P E d acts => jx_find (e := e) (f := F0 m pc ls rest) (S := (T.setTop (F0 m pc ls rest)).pushFrame (.throwing q)) (meth := meth) (c := c) X.method' X.code hone hx h0 (k := c4) (ce := ce) (X.warmed.classLinks hcl5) (show T.heap[q]? = some ce by rw [hT]; exact hcell) (VmData.ne_statics_of (by rw [hv]; rfl)) ⟨k8, h8⟩ ⟨kt2, hkt2⟩ (show T.vm.assignable ce.cls c4 = true by rw [hal.assignable]; exact hasg) P E d acts) a1
/-- the words of the throw that a warm-up may not carry by itself -/
def xB : List Cond := [.declares (Bundle.init0 "java/lang/RuntimeException"), .declares (Bundle.init0 "java/lang/Exception"), .declares (Bundle.init0 Bundle.tN), .castable "java/util/NoSuchElementException" "java/util/NoSuchElementException"]
theorem xB_all : ∀ w ∈ (vx_at0 RX2 61 "java/util/NoSuchElementException" ["java/lang/RuntimeException", "java/lang/Exception"]).filter (fun w => !goodWord w), w ∈ xB := by decide +kernel
def xw (U : State) : Prop := ∀ w ∈ xB, va_Nw w U
theorem xw.warm {s U : State} (hW : s.WarmedH U.vm) (h : xw s) : xw U := by
  have key : ∀ w ∈ xB, (∃ x, w = .declares x) ∨ (∃ a b, w = .castable a b) := by
    intro w hw
    simp only [xB, List.mem_cons, List.not_mem_nil, or_false] at hw
    rcases hw with h | h | h | h <;> first | exact Or.inl ⟨_, h⟩ | exact Or.inr ⟨_, _, h⟩
  intro w hw
  have h1 := h w hw
  rcases key w hw with ⟨x, rfl⟩ | ⟨a, b, rfl⟩
  · exact va_Nw.warmD hW h1
  · exact va_Nw.warmC hW h1
theorem xw.call {U : State} (g : JFrame) (mk : MethodId) (a : Array Value) (h : xw U) : xw (U.calling g mk a) := by
  have key : ∀ w ∈ xB, w.onTables = true := by decide +kernel
  intro w hw
  exact va_Nw.same (u := U) (U := U.calling g mk a) (key w hw) rfl (h w hw)
/-- what a throw needs of the heap: two statics of Throwable lie where nothing is written -/
def xz (A : Nat → Prop) (U : State) (H : Heap) : Prop := vx_Zq Bundle.tN "UNASSIGNED_STACK" Bundle.steD A U H ∧ vx_Zq Bundle.tN "SUPPRESSED_SENTINEL" Bundle.listD A U H
theorem xz.moved {A : Nat → Prop} {u U : State} {H : Heap} (hvm : u.vm.Alike U.vm) (h : xz A u H) : xz A U H := ⟨h.1.moved hvm, h.2.moved hvm⟩
theorem xz.kept {A : Nat → Prop} {U : State} {H H1 : Heap} (h : xz A U H) (hq : ∀ a : Nat, a < H.size → ¬ A a → H1[a]? = H[a]?) : xz A U H1 := ⟨h.1.kept hq, h.2.kept hq⟩
theorem xz.narrow {A B : Nat → Prop} {U : State} {H : Heap} (h : xz A U H) (hAB : ∀ q, B q → A q) : xz B U H := ⟨h.1.narrow hAB, h.2.narrow hAB⟩
def jpreX (D : va_G) (tys : List (ClassId × FieldType)) (ws : va_W) (sz : Nat) (U : State) : Prop := jpre D tys ws sz U ∧ xw U ∧ xz (va_A ws sz) U U.heap
theorem jpreX_blind {D : va_G} {tys : List (ClassId × FieldType)} {ws : va_W} {sz : Nat} {av : List Value} : FrameBlind (va_Pc av (jpreX D tys ws sz)) := fun a U g mk q => by
  obtain ⟨q0, q1, q2, q3⟩ := q
  have h := jpre_blind (D := D) (tys := tys) (ws := ws) (sz := sz) (av := av) a U g mk ⟨q0, q1⟩
  exact ⟨h.1, h.2, q2.call g mk a, xz.moved (u := U) (U := U.calling g mk a) (Vm.Alike.refl U.vm) q3⟩
/-- what is known where the exception leaves -/
def xX (D : va_G) (tys : List (ClassId × FieldType)) (ws' : va_W) (A : Nat → Prop) : String → State → State → Prop := vx_X (fun (_ : Unit) => True) (fun E u t => E = "java/util/NoSuchElementException" ∧ jpost D tys ws' A u t) A
/-- THE CONTRACT OF A METHOD THAT THROWS: its world is ws' then -/
def jx (l : Launch) (y : MethodName) (wy : List Cond) (rm : Room) (D : va_G) (tys : List (ClassId × FieldType)) (av : List Value) (ws ws' : va_W) : Prop :=
  ∀ sz : Nat, vx_Met l y wy rm (va_Pc av (jpreX D tys ws sz)) (va_Qi (fun _ (_ : Unit) => False) (fun _ _ => True) (va_A ws sz)) (xX D tys ws' (va_A ws sz)) 1 6 (va_A ws sz)
def jqx (below : List Frame) (D : va_G) (tys : List (ClassId × FieldType)) (args : Array Value) (s : State) (A : Nat → Prop) (ws' : va_W) : State → Prop := vx_MQ below (va_Qi (fun _ (_ : Unit) => False) (fun _ _ => True) A) (xX D tys ws' A) args s 1 6 A
theorem j_mx {y : MethodName} {wy wy' : List Cond} {rm : Room} {maxL : Nat} {av : List Value} {ws ws' : va_W} {ret : Option FieldType} (hy : plainName y.cls = true) (hw : wy = Cond.code y cc maxL ret :: wy') (hcls : y.cls = own) (hlen : (lg_sl av).length ≤ maxL)
    (body : ∀ (p : Program) (e : Env) (s : State) (m : MethodId) (args : Array Value) (below : List Frame) (meth : Method) (c : Code) (A : Nat → Prop), jc p s m args c cc maxL own wy A → jk D tys s → meth.locks = false → (∀ x ∈ c.exceptionTable.toList, False) → xw s → xz A s s.heap → jw p l e rm s m args below meth c maxL D A 0 0 (jqx below D tys args s A ws') ws (lv_args 0 av) 0 []) : jx l y wy rm D tys av ws ws' := by
  intro sz
  refine vx_ofW (cc := cc) (maxL := maxL) (ret := ret) hy hw ?_
  intro p e s m args below meth c s₁ B hml htb hv
  obtain ⟨rfl, ⟨hsz, hP, hK, hD0⟩, hxw, hxz⟩ := hv
  subst hsz
  have hown : s.vm.findClass own = some m.cls := by rw [← hcls]; exact findClass_of_methodNamed B.named
  have hl := lv_entry av (n := maxL) hlen
  rw [lg_entry_eq]
  exact body p e s m _ below meth c _ ⟨B.exec, B.bytes, hml, hown, atoms_spec (ws := wy) B.pre, fun q h => Or.inr h⟩ hK B.notSynchronized htb hxw hxz s.heap [] _ hP (hD0.self (sz := s.heap.size)) va_S.rf hl
theorem xg : ∀ w ∈ Cond.classLink RX2 59 "java/util/NoSuchElementException" :: Cond.initialized "java/util/NoSuchElementException" :: vx_at0 RX2 61 "java/util/NoSuchElementException" ["java/lang/RuntimeException", "java/lang/Exception"], vx_ot w = true := by decide +kernel
/-- the throw itself -/
theorem j_throw (C : jc p s m args c cc nL RX2 Ts A) (K : jk D tys s) (hlt : l.stackTraces = false) (hk : Cond.classLink RX2 59 "java/util/NoSuchElementException" ∈ Ts) (hini : Cond.initialized "java/util/NoSuchElementException" ∈ Ts) (hgw : ∀ w ∈ (vx_at0 RX2 61 "java/util/NoSuchElementException" ["java/lang/RuntimeException", "java/lang/Exception"]).filter goodWord, w ∈ Ts) (hlk : meth.locks = false) (htb : ∀ x ∈ c.exceptionTable.toList, False) (hxw : xw s) (hxz : xz A s s.heap)
    (d0 : decode cc pc = .ok (.new 59, 3)) (d3 : decode cc (pc + 3) = .ok (.dup, 1)) (d4 : decode cc (pc + 4) = .ok (.invokespecial 61, 3)) (d7 : decode cc (pc + 7) = .ok (.athrow, 1)) (hRf : 5 < R.frames) (hRl : (st.map fun v => v.category).sum + 81 ≤ R.locals) (hRc : 1 ≤ R.cells) (hRs : 6 ≤ R.slots) : jw p l e R s m args below meth c nL D A 0 0 (jqx below D tys args s A ws) ws lv pc st := by
  intro H locs ls hP hD hS hl
  have hat : ∀ w ∈ vx_at0 RX2 61 "java/util/NoSuchElementException" ["java/lang/RuntimeException", "java/lang/Exception"], w.before args s = true := vx_hat (fun w hw => C.2.2.2.2.1 w (hgw w hw)) xB_all (fun w hw => va_Nw.use ((by decide +kernel : ∀ w ∈ xB, w.onTables = true) w hw) (hxw w hw))
  refine vx_throw0 C.1 C.2.1 hlt C.2.2.2.1 (by decide +kernel) (by decide +kernel) (C.2.2.2.2.1 _ hk) (C.2.2.2.2.1 _ hini) hat xg hxz.1 hxz.2 hS (by rw [C.2.2.1]; exact hl.1) d0 d3 d4 d7 (fun x hx => absurd hx (fun h => htb x h)) hRf hRl (by omega) (by omega) hlk ?_ hS.2.2 (Nat.le_refl _) (Nat.le_refl _)
  intro t hal hz hsame
  refine ⟨(), trivial, ⟨rfl, ?_, va_K.moved hal K.1, hD⟩, ?_⟩
  · exact hP.kept (fun k q hq => hsame q.1 (hP k q hq).lt)
  · exact ⟨Nat.le_trans hS.1 hz, fun q h1 h2 => (hsame q (Nat.lt_of_lt_of_le h1 hS.1)).trans (hS.2.1 q h1 h2)⟩
/-- a contract that may make cells -/
def jim (l : Launch) (y : MethodName) (wy : List Cond) (rm : Room) (D : va_G) (tys : List (ClassId × FieldType)) (av : List Value) (ws ws' : va_W) (r : Int32) (mc ms : Nat) : Prop :=
  ∀ sz : Nat, Met l y wy rm (va_Pc av (jpreX D tys ws sz)) (va_Qi (fun x (_ : Unit) => x = r) (jpost D tys ws' (va_A ws sz)) (va_A ws sz)) mc ms (va_A ws sz)
def jqm (below : List Frame) (D : va_G) (tys : List (ClassId × FieldType)) (args : Array Value) (s : State) (A : Nat → Prop) (ws' : va_W) (r : Int32) (mc ms : Nat) : State → Prop := MQ below (va_Qi (fun x (_ : Unit) => x = r) (jpost D tys ws' A) A) args s mc ms A
theorem j_mm {y : MethodName} {wy wy' : List Cond} {rm : Room} {maxL mc ms : Nat} {av : List Value} {ws ws' : va_W} {r : Int32} {hh : List (Nat × Nat × Nat × Nat)} (hy : plainName y.cls = true) (hw : wy = Cond.codeWith y cc maxL (some .int) hh :: wy') (hcls : y.cls = own) (hlen : (lg_sl av).length ≤ maxL)
    (body : ∀ (p : Program) (e : Env) (s : State) (m : MethodId) (args : Array Value) (below : List Frame) (meth : Method) (c : Code) (A : Nat → Prop), jc p s m args c cc maxL own wy A → jk D tys s → meth.sig.returnType = some .int → meth.locks = false → c.exceptionTable.toList = tableOf hh → xw s → xz A s s.heap → jw p l e rm s m args below meth c maxL D A 0 0 (jqm below D tys args s A ws' r mc ms) ws (lv_args 0 av) 0 []) : jim l y wy rm D tys av ws ws' r mc ms := by
  intro sz
  refine va_MetW (cc := cc) (maxL := maxL) (ret := some .int) (hh := hh) hy hw ?_
  intro p e s m args below meth c s₁ B hml hv
  obtain ⟨rfl, ⟨hsz, hP, hK, hD0⟩, hxw, hxz⟩ := hv
  subst hsz
  have hown : s.vm.findClass own = some m.cls := by rw [← hcls]; exact findClass_of_methodNamed B.named
  have hl := lv_entry av (n := maxL) hlen
  have hts := atoms_spec (ws := wy) B.pre
  rw [lg_entry_eq]
  exact body p e s m _ below meth c _ ⟨B.exec, B.bytes, hml, hown, hts, fun q h => Or.inr h⟩ hK B.returns B.notSynchronized (vx_table (x := y) B (hts _ (by rw [hw]; exact List.mem_cons_self))) hxw hxz s.heap [] _ hP (hD0.self (sz := s.heap.size)) va_S.rf hl
theorem j_mret (C : jc p s m args c cc nL own Ts A) (K : jk D tys s) (hr : meth.sig.returnType = some .int) (hlk : meth.locks = false) {r : Int32} {mc ms : Nat} (hc : cells ≤ mc) (hs : slots ≤ ms) (hd : decode cc pc = .ok (.ireturn, 1)) : jw p l e R s m args below meth c nL D A (cells) (slots) (jqm below D tys args s A ws r mc ms) ws lv pc [.int r] := fun H locs ls hP hD hS hl => W.widen hc hs (W.iret C.1 C.2.1 hr (fun t ht hW => ⟨⟨r, (), rfl, rfl, by rw [ht]; exact hP, va_K.moved hW.alike K.1, hD⟩, hS.F ht⟩) hS.2.2 hd hlk)
theorem j_lastore (C : jc p s m args c cc nL own Ts A) (K : jk D tys s) (q0 t0 : Nat) {a : Nat} {cA : ClassId} {n : Nat} {f : Nat → Int64} (ha : ws[q0]? = some (a, .inl (cA, n, .inr (.inl f)))) (ht : tys[t0]? = some (cA, .long)) {i : Int32} {x : Int64} (hin : inb i n = true) {ws' : va_W} (hset : ws.set q0 (a, .inl (cA, n, .inr (.inl (vp_updL f i.toNatClampNeg x)))) = ws') (hd : decode cc pc = .ok (.lastore, 1)) (kk : jw p l e R s m args below meth c nL D A (cells) (slots) Q ws' lv (pc + 1) st) : jw p l e R s m args below meth c nL D A (cells) (slots) Q ws lv pc (.long x :: .int i :: .ref a :: st) := by
  subst hset
  exact fun H locs ls hP hD hS hl => va_last C.1 C.2.1 K.1 hP hD hS q0 t0 ha ht (inb_in hin) hd (fun H1 locs1 hP1 hD1 hS1 => kk H1 locs1 ls hP1 hD1 hS1 hl)
/-- a call that throws, caught here -/
theorem j_callX (C : jc p s m args c cc nL own Ts A) (K : jk D tys s) (hxw : xw s) (hxz : xz A s s.heap) {y : MethodName} {wy wy' : List Cond} {rm : Room} {bytes : ByteArray} {maxL index : Nat} {ret : Option FieldType} {tysc : List (ClassId × FieldType)} {As rest : List Value} {wc w1 ws' : va_W} {Cn name : String} {b ci q0 : Nat} {fs : List Value} {q : vw_C} (hc : vwCl[ci]? = some q) (hq : q.1 = Cn) (hq0 : wc[q0]? = some (b, .inr (ci, fs))) (hM : jx l y wy rm D tysc (.ref b :: As) wc w1) (hT : GoodIn Ts (wsV own index Cn y wy)) (hw : wy = Cond.code y bytes maxL ret :: wy') (hrc : rm.cells = 1) (hrs : rm.slots = 6) (hdy : y.cls = Cn ∧ y.cls ≠ "java/lang/invoke/MethodHandle" ∧ y.cls ≠ "java/lang/invoke/VarHandle" ∧ (parseMethodDescriptor y.desc).map (fun d => d.parameters.length) = some As.length) (hR : rm.frames + 1 ≤ R.frames ∧ 8 + (maxL + 11) + rm.locals ≤ R.locals)
    (isC : List Nat) (hC : isC.map (fun i => ws[i]?) = wc.map some) (hnd : va_nd isC = true) (hsp : jsp isC ws w1 ws') (ist : List Nat) (hts : ist.filterMap (fun i => tys[i]?) = tysc) (hst : As.reverse ++ .ref b :: rest = st) (hroom : (rest.map fun v => v.category).sum ≤ 8) (hd : decode cc pc = .ok (.invokevirtual index, 3)) (hf : cells + 1 ≤ R.cells ∧ slots + 6 ≤ R.slots)
    {x : ExceptionTableEntry} (hone : c.exceptionTable.toList = [x]) (hx : covers x pc = true) (h0 : x.catchType ≠ 0) (hlink : Cond.classLink own x.catchType "java/util/NoSuchElementException" ∈ Ts) {hpc : Nat} (hh : x.handlerPc = hpc) (kk : ∀ qx : Nat, jw p l e R s m args below meth c nL D A (cells + 1) (slots + 6) Q ws' lv hpc [.ref qx]) : jw p l e R s m args below meth c nL D A (cells) (slots) Q ws lv pc st := by
  subst hst
  intro H locs ls hP hD hS hl
  have hPc : va_P D vwCl wc H := fun k q hq => by
    obtain ⟨i, -, h2⟩ := va_in_of isC hC hq
    exact hP i q h2
  have hDc : va_D A wc := hD.sub isC hnd hC
  have hKc := K.1.sub ist hts
  have hFc := va_free (wc := wc) hD hS C.2.2.2.2.2 isC hC
  have hpre : ∀ U : State, U.heap = H → s.WarmedH U.vm → va_Pc (.ref b :: As) (jpreX D tysc wc H.size) (Value.ref b :: As).toArray U := fun U hU hW => ⟨rfl, ⟨by rw [hU], by rw [hU]; exact hPc, ⟨va_K.moved hW.alike hKc, K.2.warm hW⟩, hDc.weaken (fun _ _ _ _ => trivial)⟩, hxw.warm hW, by rw [hU]; exact ((hxz.kept hS.2.1).narrow hFc).moved hW.alike⟩
  refine vx_calli (vx_runV (As := As) (rest := rest) ⟨C.1, C.2.1, C.2.2.1, C.2.2.2.1, C.2.2.2.2.1⟩ (hM H.size) (cwV (R := R) As.length C.2.2.2.2.1 hT hw hrc hrs hdy hR) ⟨jpreX_blind, by rw [← hq]; exact va_recv K.1 hPc hc hq0, hpre⟩ rfl rfl hl.1 rfl (lv_room hroom) hd hf) hS (fun q _ h => hFc q h) hFc (fun q _ h => hFc q h) (fun E ce q9 u t H1 locs1 ht hvm _ hB hz1 hk1 hS1 hce hcv hcl => ?_) (fun r2 u t H1 locs1 ht hvm hw hB hz1 hk1 hS1 => hw.elim)
  obtain ⟨rfl, hP1, hK1, hD1⟩ := hB
  rw [ht] at hP1
  obtain ⟨hP2, hD2⟩ := jn isC hP hD hC hsp hk1 hFc hP1 hD1
  subst hh
  exact jx_catch C.2.2.2.1 hone hx h0 (C.2.2.2.2.1 _ hlink) (va_Nw.use rfl (hxw _ (by decide +kernel))) hce hcv hcl (kk q9 H1 locs1 ls hP2 hD2 hS1 hl)
end JX

section JNEW
variable {p : Program} {l : Launch} {e : Env} {R : Room} {s : State} {m : MethodId} {args : Array Value} {below : List Frame} {meth : Method} {c : Code} {nL : Nat} {D : va_G} {tys : List (ClassId × FieldType)} {A : Nat → Prop} {cells slots : Nat} {Q : State → Prop} {cc : ByteArray} {own : String} {Ts : List Cond} {ws : va_W} {lv : List (Nat × Value)} {pc : Nat} {st : List Value}
theorem j_objInit (C : jc p s m args c cc nL own Ts A) {idx a : Nat} (h1 : Cond.methodLink own idx objectInit ∈ Ts) (h2 : Cond.instanceMethod objectInit ∈ Ts) (h3 : Cond.code objectInit ⟨#[0xb1]⟩ 1 none ∈ Ts) (hd : decode cc pc = .ok (.invokespecial idx, 3)) (hfr : 1 ≤ R.frames) (hlo : (st.map fun v => v.category).sum + 12 ≤ R.locals) (k : jw p l e R s m args below meth c nL D A (cells) (slots) Q ws lv (pc + 3) st) : jw p l e R s m args below meth c nL D A (cells) (slots) Q ws lv pc (.ref a :: st) := fun H locs ls hP hD hS hl => W.objInit C.1 C.2.1 C.2.2.2.1 (C.2.2.2.2.1 _ h1) (C.2.2.2.2.1 _ h2) (C.2.2.2.2.1 _ h3) rfl (by rw [C.2.2.1]; exact hl.1) rfl hd hfr (by show 2 * 0 + _ + 12 ≤ _; omega) (k H locs ls hP hD hS hl)
theorem j_new (C : jc p s m args c cc nL own Ts A) (K : jk D tys s) {Cn : String} {T : u_T} {N ci index : Nat} (hin : ∀ w ∈ u_ws Cn T N, w ∈ Ts) (ty : Nat → FieldType) (hty : ∀ k, k < N → parseFieldDescriptor (T k).2.2.1 = some (ty k)) (hcl : Cond.classLink own index Cn ∈ Ts) (hins : Cond.instantiable Cn N ∈ Ts) (hini : Cond.initialized Cn ∈ Ts) (hc : vwCl[ci]? = some (Cn, T, N)) {fs : List Value} (hfs : ∀ j, j < N → defaultValue (ty j) = vp_V fs j) (hcells : cells + 1 ≤ R.cells) (hslots : slots + N ≤ R.slots) (hd : decode cc pc = .ok (.new index, 3)) (kk : ∀ q : Nat, jw p l e R s m args below meth c nL D A (cells + 1) (slots + N) Q (ws ++ [(q, .inr (ci, fs))]) lv (pc + 3) (.ref q :: st)) : jw p l e R s m args below meth c nL D A (cells) (slots) Q ws lv pc st := fun H locs ls hP hD hS hl => va_new C.1 C.2.1 C.2.2.2.2.1 hin ty hty C.2.2.2.1 (C.2.2.2.2.1 _ hcl) (C.2.2.2.2.1 _ hins) (C.2.2.2.2.1 _ hini) K.1 hP hD hS C.2.2.2.2.2 hc hfs hcells hslots hd (fun q H1 hP1 hD1 hS1 => kk q H1 locs ls hP1 hD1 hS1 hl)
theorem j_newa (C : jc p s m args c cc nL own Ts A) (K : jk D tys s) {atype : ArrayType} (harr : Cond.arrayClass (newarray.typeOf atype) ∈ Ts) {ty : FieldType} (hty : newarray.typeOf atype = ty) {n : Int32} {N : Nat} {a0 : vp_A} (ha : ∀ cA : ClassId, vp_cell cA a0 = arrV cA N (fun _ => defaultValue ty)) (hn : ¬ n < 0) (hN : n.toNatClampNeg = N) (hbytes : N * componentBytes ty ≤ 536870912) (hcells : cells + 1 ≤ R.cells) (hslots : slots + N ≤ R.slots) (hd : decode cc pc = .ok (.newarray atype, 2)) (kk : ∀ (q : Nat) (cA : ClassId), jk D (tys ++ [(cA, ty)]) s → jw p l e R s m args below meth c nL D A (cells + 1) (slots + N) Q (ws ++ [(q, .inl (cA, a0))]) lv (pc + 2) (.ref q :: st)) : jw p l e R s m args below meth c nL D A (cells) (slots) Q ws lv pc (.int n :: st) := fun H locs ls hP hD hS hl => va_newa C.1 C.2.1 (C.2.2.2.2.1 _ harr) hty K.1 hP hD hS C.2.2.2.2.2 ha hn hN hbytes hcells hslots hd (fun q cA H1 hK1 hP1 hD1 hS1 => kk q cA ⟨hK1, K.2⟩ H1 locs ls hP1 hD1 hS1 hl)
theorem j_newq (C : jc p s m args c cc nL own Ts A) (K : jk D tys s) {Cn : String} {index : Nat} (hcl : Cond.classLink own index Cn ∈ Ts) (hov : Cond.arrayOver (.object Cn) ∈ nwL) {n : Int32} {N : Nat} (hn : ¬ n < 0) (hN : n.toNatClampNeg = N) (hbytes : N * 4 ≤ 536870912) (hcells : cells + 1 ≤ R.cells) (hslots : slots + N ≤ R.slots) (hd : decode cc pc = .ok (.anewarray index, 3)) (kk : ∀ (q : Nat) (cA : ClassId), jk D (tys ++ [(cA, .object Cn)]) s → jw p l e R s m args below meth c nL D A (cells + 1) (slots + N) Q (ws ++ [(q, .inl (cA, N, .inr (.inr (.inr (.inr (fun _ => none))))))]) lv (pc + 3) (.ref q :: st)) : jw p l e R s m args below meth c nL D A (cells) (slots) Q ws lv pc (.int n :: st) := fun H locs ls hP hD hS hl => va_newq C.1 C.2.1 C.2.2.2.1 (C.2.2.2.2.1 _ hcl) (K.2 _ hov) K.1 hP hD hS C.2.2.2.2.2 hn hN hbytes hcells hslots hd (fun q cA H1 hK1 hP1 hD1 hS1 => kk q cA ⟨hK1, K.2⟩ H1 locs ls hP1 hD1 hS1 hl)
theorem j_putF (C : jc p s m args c cc nL own Ts A) (K : jk D tys s) (hnm0 : meth.name = "<init>") {Cn : String} {T : u_T} {N ci index a : Nat} (hin : ∀ w ∈ u_ws Cn T N, w ∈ Ts) (ty0 : Nat → FieldType) (hty : ∀ k, k < N → parseFieldDescriptor (T k).2.2.1 = some (ty0 k)) (hnm : ∀ a, a < N → ∀ b, b < N → a ≠ b → (T a).2.1 ≠ (T b).2.1) (q0 : Nat) {fs : List Value} (he : ws[q0]? = some (a, .inr (ci, fs))) (hc : vwCl[ci]? = some (Cn, T, N)) (k : Nat) (hk : k < N) (hlink : Cond.fieldLink own index (T k).1 (T k).2.1 (T k).2.2.1 ∈ Ts) (hfin : (T k).2.2.2 = true) (hdecl : (T k).1 = own) {ty : FieldType} {v : Value} (hdt : parseFieldDescriptor (T k).2.2.1 = some ty) (hn : narrow ty v = v) (hfit : fits ty v = true) (hlen : k < fs.length) {ws' : va_W} (hset : ws.set q0 (a, .inr (ci, fs.set k v)) = ws') (hd : decode cc pc = .ok (.putfield index, 3)) (kk : jw p l e R s m args below meth c nL D A (cells) (slots) Q ws' lv (pc + 3) st) : jw p l e R s m args below meth c nL D A (cells) (slots) Q ws lv pc (v :: .ref a :: st) := by
  subst hset
  exact fun H locs ls hP hD hS hl => va_putF C.1 C.2.1 C.2.2.2.2.1 hin ty0 hty hnm C.2.2.2.1 K.1 hP hD hS q0 he hc k hk (C.2.2.2.2.1 _ hlink) (fun _ h => h) hfin hnm0 hdecl hdt hn hfit hlen hd (fun H1 locs1 hP1 hD1 hS1 => kk H1 locs1 ls hP1 hD1 hS1 hl)
theorem j_aast (C : jc p s m args c cc nL own Ts A) (K : jk D tys s) (q0 t0 qk ci : Nat) {a : Nat} {cA : ClassId} {r : vw_C} {n v : Nat} {vs : List Value} {f : Nat → Option Nat} (ha : ws[q0]? = some (a, .inl (cA, n, .inr (.inr (.inr (.inr f)))))) (ht : tys[t0]? = some (cA, .object r.1)) (hv : ws[qk]? = some (v, .inr (ci, vs))) (hc : vwCl[ci]? = some r) {i : Int32} (hin : inb i n = true) {ws' : va_W} (hset : ws.set q0 (a, .inl (cA, n, .inr (.inr (.inr (.inr (va_up f i.toNatClampNeg (some v))))))) = ws') (hd : decode cc pc = .ok (.aastore, 1)) (kk : jw p l e R s m args below meth c nL D A (cells) (slots) Q ws' lv (pc + 1) st) : jw p l e R s m args below meth c nL D A (cells) (slots) Q ws lv pc (.ref v :: .int i :: .ref a :: st) := by
  subst hset
  exact fun H locs ls hP hD hS hl => va_astq C.1 C.2.1 K.1 hP hD hS q0 t0 qk ci ha ht hv hc (inb_in hin) hd (fun H1 locs1 hP1 hD1 hS1 => kk H1 locs1 ls hP1 hD1 hS1 hl)
theorem j_widen {k n : Nat} (h1 : cells ≤ k) (h2 : slots ≤ n) (kk : jw p l e R s m args below meth c nL D A (k) (n) Q ws lv pc st) : jw p l e R s m args below meth c nL D A (cells) (slots) Q ws lv pc st := fun H locs ls hP hD hS hl => W.widen h1 h2 (kk H locs ls hP hD hS hl)
/-- an array of references told by another function -/
theorem j_wsq (i : Nat) {a : Nat} {cA : ClassId} {n : Nat} {f g : Nat → Option Nat} (hi : ws[i]? = some (a, .inl (cA, n, .inr (.inr (.inr (.inr f)))))) (hfg : ∀ j, j < n → f j = g j) {ws' : va_W} (hset : ws.set i (a, .inl (cA, n, .inr (.inr (.inr (.inr g))))) = ws') (k : jw p l e R s m args below meth c nL D A (cells) (slots) Q ws' lv pc st) : jw p l e R s m args below meth c nL D A (cells) (slots) Q ws lv pc st := by
  subst hset
  intro H locs ls hP hD hS hl
  have h1 : H[a]? = some (vp_cell cA (n, .inr (.inr (.inr (.inr f))))) := hP i _ hi
  have h2 : vp_cell cA (n, .inr (.inr (.inr (.inr f)))) = vp_cell cA (n, .inr (.inr (.inr (.inr g)))) := by
    rw [vp_cell_q, vp_cell_q]
    unfold arrV
    congr 1
    congr 1
    funext j
    show va_rf (f j.val) = va_rf (g j.val)
    rw [hfg j.val j.isLt]
  refine k H locs ls (hP.set hD hi ?_ (fun _ _ => rfl)) (hD.set hi) hS hl
  show H[a]? = some (vp_cell cA (n, .inr (.inr (.inr (.inr g)))))
  rw [h1, h2]
/-- THE CONTRACT OF A CONSTRUCTOR that makes cells -/
def jcn (l : Launch) (y : MethodName) (wy : List Cond) (rm : Room) (D : va_G) (tys : List (ClassId × FieldType)) (av : List Value) (ws : va_W) (mc ms : Nat) {S : Type} (px : S → Prop) (Wf : S → va_W) (Tf : S → List (ClassId × FieldType)) : Prop :=
  ∀ sz : Nat, Met l y wy rm (va_Pc av (jpre D tys ws sz)) (va_Qv px (fun u t => va_P D vwCl (Wf u) t.heap ∧ va_K D vwCl (Tf u) t ∧ va_D (va_A ws sz) (Wf u)) (va_A ws sz)) mc ms (va_A ws sz)
def jqn (below : List Frame) (D : va_G) (args : Array Value) (s : State) (A : Nat → Prop) (mc ms : Nat) {S : Type} (px : S → Prop) (Wf : S → va_W) (Tf : S → List (ClassId × FieldType)) : State → Prop := MQ below (va_Qv px (fun u t => va_P D vwCl (Wf u) t.heap ∧ va_K D vwCl (Tf u) t ∧ va_D A (Wf u)) A) args s mc ms A
theorem j_nret (C : jc p s m args c cc nL own Ts A) (K : jk D tys s) (hr : meth.sig.returnType = none) (hlk : meth.locks = false) (hd : decode cc pc = .ok (.return_, 1)) {mc ms : Nat} {S : Type} {px : S → Prop} {Wf : S → va_W} {Tf : S → List (ClassId × FieldType)} (u : S) (hu : px u) (hW0 : Wf u = ws) (hT0 : Tf u = tys) (hc : cells ≤ mc) (hs : slots ≤ ms) : jw p l e R s m args below meth c nL D A (cells) (slots) (jqn below D args s A mc ms px Wf Tf) ws lv pc [] := by
  subst hW0
  subst hT0
  intro H locs ls hP hD hS hl
  refine W.widen hc hs ?_
  exact W.vret C.1 C.2.1 hr (fun t ht hW => ⟨⟨u, rfl, hu, by rw [ht]; exact hP, va_K.moved hW.alike K.1, hD⟩, hS.F ht⟩) hS.2.2 hd hlk
theorem j_mn {y : MethodName} {wy wy' : List Cond} {rm : Room} {maxL mc ms : Nat} {av : List Value} {S : Type} {px : S → Prop} {Wf : S → va_W} {Tf : S → List (ClassId × FieldType)} (hy : plainName y.cls = true) (hw : wy = Cond.code y cc maxL none :: wy') (hcls : y.cls = own) (hnm : y.name = "<init>") (hlen : (lg_sl av).length ≤ maxL)
    (body : ∀ (p : Program) (e : Env) (s : State) (m : MethodId) (args : Array Value) (below : List Frame) (meth : Method) (c : Code) (A : Nat → Prop), jc p s m args c cc maxL own wy A → jk D tys s → meth.sig.returnType = none → meth.locks = false → meth.name = "<init>" → jw p l e rm s m args below meth c maxL D A 0 0 (jqn below D args s A mc ms px Wf Tf) ws (lv_args 0 av) 0 []) : jcn l y wy rm D tys av ws mc ms px Wf Tf := by
  intro sz
  refine Met.ofW (cc := cc) (maxL := maxL) (ret := none) hy hw ?_
  intro p e s m args below meth c s₁ B hml hv
  obtain ⟨rfl, hsz, hP, hK, hD0⟩ := hv
  subst hsz
  have hown : s.vm.findClass own = some m.cls := by rw [← hcls]; exact findClass_of_methodNamed B.named
  have hl := lv_entry av (n := maxL) hlen
  rw [lg_entry_eq]
  exact body p e s m _ below meth c _ ⟨B.exec, B.bytes, hml, hown, atoms_spec (ws := wy) B.pre, fun q h => Or.inr h⟩ hK B.returns B.notSynchronized (by rw [← hnm]; exact (name_of_methodNamed B.named B.method).1) s.heap [] _ hP (hD0.self (sz := s.heap.size)) va_S.rf hl
theorem jnd : ∀ (l : List Nat), l.Nodup → va_nd l = true
  | [], _ => rfl
  | a :: l, h => by
    have h1 := List.nodup_cons.mp h
    simp only [va_nd, Bool.and_eq_true, decide_eq_true_eq]
    exact ⟨h1.1, jnd l h1.2⟩
theorem jnA {A0 : Nat → Prop} {wr w1 : va_W} {x : Nat × va_E} {H H1 : Heap} (hP : va_P D vwCl (wr ++ [x]) H) (hD : va_D A0 (wr ++ [x])) (hk : ∀ q : Nat, q < H.size → ¬ va_A [x] H.size q → H1[q]? = H[q]?) (hF : ∀ q, va_A [x] H.size q → A0 q) (hP1 : va_P D vwCl w1 H1) (hD1 : va_D (va_A [x] H.size) w1) : va_P D vwCl (wr ++ w1) H1 ∧ va_D A0 (wr ++ w1) := by
  refine va_join hP hD [wr.length] (List.range wr.length) ?_ ?_ (jnd _ List.nodup_range) (fun i hi => ?_) hk hF hP1 hD1
  · show [(wr ++ [x])[wr.length]?] = [some x]
    rw [List.getElem?_append_right (Nat.le_refl _), Nat.sub_self]
    rfl
  · rw [← jrange wr]
    apply List.map_congr_left
    intro i hi
    rw [List.getElem?_append_left (List.mem_range.mp hi)]
  · have := List.mem_range.mp hi
    simp only [List.mem_singleton]
    omega
theorem jlast {wr : va_W} {x : Nat × va_E} : (wr ++ [x])[wr.length]? = some x := by
  rw [List.getElem?_append_right (Nat.le_refl _), Nat.sub_self]
  rfl
theorem jPlast {wr : va_W} {x : Nat × va_E} {H : Heap} (hP : va_P D vwCl (wr ++ [x]) H) : va_P D vwCl [x] H := fun k q hq => by
  have hk : k < 1 := (List.getElem?_eq_some_iff.mp hq).1
  rw [show k = 0 by omega] at hq
  cases hq
  exact hP _ _ jlast
theorem jDlast {B : Nat → Prop} {wr : va_W} {x : Nat × va_E} (hD : va_D B (wr ++ [x])) : va_D (fun _ => True) [x] := ⟨fun i j _ _ hi hj _ => by
  have h1 : i < 1 := (List.getElem?_eq_some_iff.mp hi).1
  have h2 : j < 1 := (List.getElem?_eq_some_iff.mp hj).1
  omega, fun _ _ _ => trivial⟩
theorem jFlast {A0 : Nat → Prop} {wr : va_W} {x : Nat × va_E} {H0 H : Heap} {locs : List Loc} (hD : va_D A0 (wr ++ [x])) (hS : va_S A0 H0 H locs) (hA : ∀ q, H0.size ≤ q → A0 q) : ∀ q, va_A [x] H.size q → A0 q := va_free (wc := [x]) hD hS hA [wr.length] (by
  show [(wr ++ [x])[wr.length]?] = [some x]
  rw [jlast])
/-- a constructor that makes cells is called on the last cell -/
theorem j_callI (C : jc p s m args c cc nL own Ts A) (K : jk D tys s) {y : MethodName} {wy wy' : List Cond} {rm : Room} {bytes : ByteArray} {maxL index mc ms b : Nat} {As rest : List Value} {wr : va_W} {e0 : va_E} {S : Type} {px : S → Prop} {Wf : S → va_W} {Tf : S → List (ClassId × FieldType)} (hM : jcn l y wy rm D [] (.ref b :: As) [(b, e0)] mc ms px Wf Tf) (hG : GoodIn Ts wy) (hw : wy = Cond.code y bytes maxL none :: wy') (hrc : rm.cells = mc) (hrs : rm.slots = ms) (hini : Cond.initialized y.cls ∈ Ts) (hlk : Cond.methodLink own index y ∈ Ts) (hins : Cond.instanceMethod y ∈ Ts) (hy1 : y.name = "<init>") (hdy : y.cls ≠ "java/lang/invoke/MethodHandle" ∧ y.cls ≠ "java/lang/invoke/VarHandle" ∧ (parseMethodDescriptor y.desc).map (fun d => d.parameters.length) = some As.length) (hR : rm.frames + 1 ≤ R.frames ∧ 8 + (maxL + 11) + rm.locals ≤ R.locals)
    (hws : ws = wr ++ [(b, e0)]) (hst : As.reverse ++ .ref b :: rest = st) (hroom : (rest.map fun v => v.category).sum ≤ 8) (hd : decode cc pc = .ok (.invokespecial index, 3)) (hf : cells + mc ≤ R.cells ∧ slots + ms ≤ R.slots) (kk : ∀ u : S, px u → jk D (tys ++ Tf u) s → jw p l e R s m args below meth c nL D A (cells + mc) (slots + ms) Q (wr ++ Wf u) lv (pc + 3) rest) : jw p l e R s m args below meth c nL D A (cells) (slots) Q ws lv pc st := by
  subst hst
  subst hws
  intro H locs ls hP hD hS hl
  have hPc := jPlast hP
  have hDc := jDlast hD
  have hFc := jFlast hD hS C.2.2.2.2.2
  have hKc := K.1.sub (tys' := []) [] rfl
  refine va_callv (va_runI (As := As) (rest := rest) ⟨C.1, C.2.1, C.2.2.1, C.2.2.2.1, C.2.2.2.2.1⟩ (hM H.size) (cwI (R := R) As.length C.2.2.2.2.1 hG hw hrc hrs (C.2.2.2.2.1 _ hini) (C.2.2.2.2.1 _ hlk) (C.2.2.2.2.1 _ hins) hy1 hdy hR) ⟨jpre_blind, fun U hU hW => ⟨rfl, by rw [hU], by rw [hU]; exact hPc, ⟨va_K.moved hW.alike hKc, K.2.warm hW⟩, hDc⟩⟩ rfl rfl hl.1 rfl (lv_room hroom) hd hf) hS (fun q _ h => hFc q h) hFc (fun u t H1 locs1 ht hvm hu hB hz1 hk1 hS1 => ?_)
  obtain ⟨hP1, hK1, hD1⟩ := hB
  rw [ht] at hP1
  have hK1 := va_K.moved hvm.symm hK1
  obtain ⟨hP2, hD2⟩ := jnA hP hD hk1 hFc hP1 hD1
  exact kk u hu ⟨K.1.app hK1, K.2⟩ H1 locs1 ls hP2 hD2 hS1 hl
/-- a nest mate's constructor that makes nothing -/
theorem j_callIN (C : jc p s m args c cc nL own Ts A) (K : jk D tys s) {y : MethodName} {wy wy' : List Cond} {rm : Room} {bytes : ByteArray} {maxL index b : Nat} {host : String} {As rest : List Value} {wr w1 : va_W} {e0 : va_E} (hM : jv l y wy rm D [] (.ref b :: As) [(b, e0)] w1) (hG : GoodIn Ts wy) (hw : wy = Cond.code y bytes maxL none :: wy') (hrc : rm.cells = 0) (hrs : rm.slots = 0) (hini : Cond.initialized y.cls ∈ Ts) (hlk : Cond.methodLinkNest own index y host ∈ nwL) (hins : Cond.instanceMethod y ∈ Ts) (hy1 : y.name = "<init>") (hdy : y.cls ≠ "java/lang/invoke/MethodHandle" ∧ y.cls ≠ "java/lang/invoke/VarHandle" ∧ (parseMethodDescriptor y.desc).map (fun d => d.parameters.length) = some As.length) (hR : rm.frames + 1 ≤ R.frames ∧ 8 + (maxL + 11) + rm.locals ≤ R.locals)
    (hws : ws = wr ++ [(b, e0)]) (hst : As.reverse ++ .ref b :: rest = st) (hroom : (rest.map fun v => v.category).sum ≤ 8) (hd : decode cc pc = .ok (.invokespecial index, 3)) (hf : cells ≤ R.cells ∧ slots ≤ R.slots) (kk : jw p l e R s m args below meth c nL D A (cells) (slots) Q (wr ++ w1) lv (pc + 3) rest) : jw p l e R s m args below meth c nL D A (cells) (slots) Q ws lv pc st := by
  subst hst
  subst hws
  intro H locs ls hP hD hS hl
  have hPc := jPlast hP
  have hDc := jDlast hD
  have hFc := jFlast hD hS C.2.2.2.2.2
  have hKc := K.1.sub (tys' := []) [] rfl
  refine va_callv (va_runIN (As := As) (rest := rest) ⟨C.1, C.2.1, C.2.2.1, C.2.2.2.1, C.2.2.2.2.1⟩ (hM H.size) ⟨va_cnB (R := R) As.length C.2.2.2.2.1 hG hw hrc hrs (K.2 _ hlk) (C.2.2.2.2.1 _ hini) hdy hR, hy1, C.2.2.2.2.1 _ hins⟩ ⟨jpre_blind, fun U hU hW => ⟨rfl, by rw [hU], by rw [hU]; exact hPc, ⟨va_K.moved hW.alike hKc, K.2.warm hW⟩, hDc⟩⟩ rfl rfl hl.1 rfl (lv_room hroom) hd hf) hS (fun q _ h => hFc q h) hFc (fun u t H1 locs1 ht hvm hu hB hz1 hk1 hS1 => ?_)
  obtain ⟨hP1, hK1, hD1⟩ := hB
  rw [ht] at hP1
  obtain ⟨hP2, hD2⟩ := jnA hP hD hk1 hFc hP1 hD1
  exact kk H1 locs1 ls hP2 hD2 hS1 hl
end JNEW

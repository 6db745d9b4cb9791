/-- the links to nest mates that the tables have -/
def nwL : List Cond := [.fieldLinkNest RX2 130 RX1 "size" "I" RX2, .fieldLinkNest RX2 84 RX0 "slots" "I" RX2, .fieldLinkNest RX2 93 RX0 "head" "I" RX2, .fieldLinkNest RX2 87 RX0 "tail" "I" RX2, .fieldLinkNest RX2 90 RX0 "state" "I" RX2, .fieldLinkNest RX2 115 RX0 "done" "I" RX2, .fieldLinkNest RX2 96 RX0 "atHand" "Z" RX2, .fieldLinkNest RX2 182 RX0 "source" "I" RX2, .fieldLinkNest RX2 185 RX0 "target" "I" RX2, .fieldLinkNest RX2 106 RX0 "length" "I" RX2, .fieldLinkNest RX2 188 RX0 "mark" "I" RX2, .fieldLinkNest RX2 103 RX0 "copied" "I" RX2, .methodLinkNest RX2 54 yX0_init RX2, .arrayOver (.object RX0)]
def nwA (U : State) : Prop := ∀ w ∈ nwL, va_Nw w U
theorem nwA.warm {s U : State} (hW : s.WarmedH U.vm) (h : nwA s) : nwA U := by
  have key : ∀ w ∈ nwL, (∃ a i b n d x, w = .fieldLinkNest a i b n d x) ∨ (∃ a i x y, w = .methodLinkNest a i x y) ∨ w = .arrayOver (.object RX0) := by
    intro w hw
    simp only [nwL, List.mem_cons, List.not_mem_nil, or_false] at hw
    rcases hw with h | h | h | h | h | h | h | h | h | h | h | h | h | h <;> first | exact Or.inl ⟨_, _, _, _, _, _, h⟩ | exact Or.inr (Or.inl ⟨_, _, _, _, h⟩) | exact Or.inr (Or.inr h)
  intro w hw
  have h1 := h w hw
  rcases key w hw with ⟨a, i, b, n, d, x, rfl⟩ | ⟨a, i, x, y, rfl⟩ | rfl
  · exact va_Nw.warmF hW h1
  · exact va_Nw.warmM hW h1
  · exact va_AO.moved hW.alike h1
theorem nwA.call {U : State} (g : JFrame) (mk : MethodId) (a : Array Value) (h : nwA U) : nwA (U.calling g mk a) := by
  have key : ∀ w ∈ nwL, w.onTables = true ∨ w = .arrayOver (.object RX0) := by decide +kernel
  intro w hw
  have h1 := h w hw
  rcases key w hw with k | rfl
  · exact va_Nw.same (u := U) (U := U.calling g mk a) k rfl h1
  · exact va_AO.moved (u := U) (U := U.calling g mk a) (Vm.Alike.refl U.vm) h1
def jk (D : va_G) (tys : List (ClassId × FieldType)) (s : State) : Prop := va_K D vwCl tys s ∧ nwA s
def jc (p : Program) (s : State) (m : MethodId) (args : Array Value) (c : Code) (cc : ByteArray) (nL : Nat) (own : String) (Ts : List Cond) (A : Nat → Prop) : Prop :=
  p.tables.exec = Jvm.exec ∧ c.code = cc ∧ c.maxLocals = nL ∧ s.vm.findClass own = some m.cls ∧ (∀ w ∈ Ts, w.before args s = true) ∧ (∀ q : Nat, s.heap.size ≤ q → A q)
/-- from the world ws, the locals lv, the stack st at pc the machine comes to Q -/
def jw (p : Program) (l : Launch) (e : Env) (R : Room) (s : State) (m : MethodId) (args : Array Value) (below : List Frame) (meth : Method) (c : Code) (nL : Nat) (D : va_G) (A : Nat → Prop) (cells slots : Nat) (Q : State → Prop) (ws : va_W) (lv : List (Nat × Value)) (pc : Nat) (st : List Value) : Prop :=
  ∀ (H : Heap) (locs : List Loc) (ls : Array Slot), va_P D vwCl ws H → va_D A ws → va_S A s.heap H locs → lv_has ls nL lv → W p l e R s m args below meth c H locs cells slots Q (F0 m pc ls st)
/-- a place of a row -/
def inb (i : Int32) (n : Nat) : Bool := decide (0 ≤ i.toInt ∧ i.toInt < (n : Int))
theorem inb_in {i : Int32} {n : Nat} (h : inb i n = true) : vp_in i n := vp_in_iff.mpr (of_decide_eq_true h)
theorem inb_lt {i : Int32} {n : Nat} (h : inb i n = true) : i.toNatClampNeg < n := Nat.not_le.mp fun q => inb_in h (Or.inr q)
def nz (y : Int32) : Bool := decide (¬ y = 0)
theorem nz_ne {y : Int32} (h : nz y = true) : ¬ y = 0 := of_decide_eq_true h
def gd {α : Type} (b : Bool) (x : Option α) : Option α := if b = true then x else none
theorem gd_some {α : Type} {b : Bool} {x : Option α} {v : α} (h : gd b x = some v) : b = true ∧ x = some v := by
  unfold gd at h
  by_cases hb : b = true
  · rw [if_pos hb] at h; exact ⟨hb, h⟩
  · rw [if_neg hb] at h; cases h
theorem ifp {α : Type} {c : Prop} [Decidable c] {a b v : α} (h : (if c then a else b) = v) (hc : c) : a = v := by rw [if_pos hc] at h; exact h
theorem ifn {α : Type} {c : Prop} [Decidable c] {a b v : α} (h : (if c then a else b) = v) (hc : ¬ c) : b = v := by rw [if_neg hc] at h; exact h
def bd0 {γ : Type} (o : Option Unit) (f : Option γ) : Option γ := o.bind (fun _ => f)
theorem bd0_some {γ : Type} {o : Option Unit} {f : Option γ} {v : γ} (h : bd0 o f = some v) : o = some () ∧ f = some v := by
  obtain ⟨q, h1, h2⟩ := Option.bind_eq_some_iff.mp h
  exact ⟨h1, h2⟩
def bd1 {α γ : Type} (o : Option α) (f : α → Option γ) : Option γ := o.bind f
theorem bd1_some {α γ : Type} {o : Option α} {f : α → Option γ} {v : γ} (h : bd1 o f = some v) : ∃ x, o = some x ∧ f x = some v := Option.bind_eq_some_iff.mp h
def bd2 {α1 α2 γ : Type} (o : Option (α1 × α2)) (f : α1 → α2 → Option γ) : Option γ := o.bind (fun q => f q.1 q.2)
theorem bd2_some {α1 α2 γ : Type} {o : Option (α1 × α2)} {f : α1 → α2 → Option γ} {v : γ} (h : bd2 o f = some v) : ∃ x0 x1, o = some (x0, x1) ∧ f x0 x1 = some v := by
  obtain ⟨⟨x0, x1⟩, h1, h2⟩ := Option.bind_eq_some_iff.mp h
  exact ⟨x0, x1, h1, h2⟩
def bd3 {α1 α2 α3 γ : Type} (o : Option (α1 × α2 × α3)) (f : α1 → α2 → α3 → Option γ) : Option γ := o.bind (fun q => f q.1 q.2.1 q.2.2)
theorem bd3_some {α1 α2 α3 γ : Type} {o : Option (α1 × α2 × α3)} {f : α1 → α2 → α3 → Option γ} {v : γ} (h : bd3 o f = some v) : ∃ x0 x1 x2, o = some (x0, x1, x2) ∧ f x0 x1 x2 = some v := by
  obtain ⟨⟨x0, x1, x2⟩, h1, h2⟩ := Option.bind_eq_some_iff.mp h
  exact ⟨x0, x1, x2, h1, h2⟩
def bd4 {α1 α2 α3 α4 γ : Type} (o : Option (α1 × α2 × α3 × α4)) (f : α1 → α2 → α3 → α4 → Option γ) : Option γ := o.bind (fun q => f q.1 q.2.1 q.2.2.1 q.2.2.2)
theorem bd4_some {α1 α2 α3 α4 γ : Type} {o : Option (α1 × α2 × α3 × α4)} {f : α1 → α2 → α3 → α4 → Option γ} {v : γ} (h : bd4 o f = some v) : ∃ x0 x1 x2 x3, o = some (x0, x1, x2, x3) ∧ f x0 x1 x2 x3 = some v := by
  obtain ⟨⟨x0, x1, x2, x3⟩, h1, h2⟩ := Option.bind_eq_some_iff.mp h
  exact ⟨x0, x1, x2, x3, h1, h2⟩
def bd5 {α1 α2 α3 α4 α5 γ : Type} (o : Option (α1 × α2 × α3 × α4 × α5)) (f : α1 → α2 → α3 → α4 → α5 → Option γ) : Option γ := o.bind (fun q => f q.1 q.2.1 q.2.2.1 q.2.2.2.1 q.2.2.2.2)
theorem bd5_some {α1 α2 α3 α4 α5 γ : Type} {o : Option (α1 × α2 × α3 × α4 × α5)} {f : α1 → α2 → α3 → α4 → α5 → Option γ} {v : γ} (h : bd5 o f = some v) : ∃ x0 x1 x2 x3 x4, o = some (x0, x1, x2, x3, x4) ∧ f x0 x1 x2 x3 x4 = some v := by
  obtain ⟨⟨x0, x1, x2, x3, x4⟩, h1, h2⟩ := Option.bind_eq_some_iff.mp h
  exact ⟨x0, x1, x2, x3, x4, h1, h2⟩
def bd6 {α1 α2 α3 α4 α5 α6 γ : Type} (o : Option (α1 × α2 × α3 × α4 × α5 × α6)) (f : α1 → α2 → α3 → α4 → α5 → α6 → Option γ) : Option γ := o.bind (fun q => f q.1 q.2.1 q.2.2.1 q.2.2.2.1 q.2.2.2.2.1 q.2.2.2.2.2)
theorem bd6_some {α1 α2 α3 α4 α5 α6 γ : Type} {o : Option (α1 × α2 × α3 × α4 × α5 × α6)} {f : α1 → α2 → α3 → α4 → α5 → α6 → Option γ} {v : γ} (h : bd6 o f = some v) : ∃ x0 x1 x2 x3 x4 x5, o = some (x0, x1, x2, x3, x4, x5) ∧ f x0 x1 x2 x3 x4 x5 = some v := by
  obtain ⟨⟨x0, x1, x2, x3, x4, x5⟩, h1, h2⟩ := Option.bind_eq_some_iff.mp h
  exact ⟨x0, x1, x2, x3, x4, x5, h1, h2⟩
def bd7 {α1 α2 α3 α4 α5 α6 α7 γ : Type} (o : Option (α1 × α2 × α3 × α4 × α5 × α6 × α7)) (f : α1 → α2 → α3 → α4 → α5 → α6 → α7 → Option γ) : Option γ := o.bind (fun q => f q.1 q.2.1 q.2.2.1 q.2.2.2.1 q.2.2.2.2.1 q.2.2.2.2.2.1 q.2.2.2.2.2.2)
theorem bd7_some {α1 α2 α3 α4 α5 α6 α7 γ : Type} {o : Option (α1 × α2 × α3 × α4 × α5 × α6 × α7)} {f : α1 → α2 → α3 → α4 → α5 → α6 → α7 → Option γ} {v : γ} (h : bd7 o f = some v) : ∃ x0 x1 x2 x3 x4 x5 x6, o = some (x0, x1, x2, x3, x4, x5, x6) ∧ f x0 x1 x2 x3 x4 x5 x6 = some v := by
  obtain ⟨⟨x0, x1, x2, x3, x4, x5, x6⟩, h1, h2⟩ := Option.bind_eq_some_iff.mp h
  exact ⟨x0, x1, x2, x3, x4, x5, x6, h1, h2⟩
def bd8 {α1 α2 α3 α4 α5 α6 α7 α8 γ : Type} (o : Option (α1 × α2 × α3 × α4 × α5 × α6 × α7 × α8)) (f : α1 → α2 → α3 → α4 → α5 → α6 → α7 → α8 → Option γ) : Option γ := o.bind (fun q => f q.1 q.2.1 q.2.2.1 q.2.2.2.1 q.2.2.2.2.1 q.2.2.2.2.2.1 q.2.2.2.2.2.2.1 q.2.2.2.2.2.2.2)
theorem bd8_some {α1 α2 α3 α4 α5 α6 α7 α8 γ : Type} {o : Option (α1 × α2 × α3 × α4 × α5 × α6 × α7 × α8)} {f : α1 → α2 → α3 → α4 → α5 → α6 → α7 → α8 → Option γ} {v : γ} (h : bd8 o f = some v) : ∃ x0 x1 x2 x3 x4 x5 x6 x7, o = some (x0, x1, x2, x3, x4, x5, x6, x7) ∧ f x0 x1 x2 x3 x4 x5 x6 x7 = some v := by
  obtain ⟨⟨x0, x1, x2, x3, x4, x5, x6, x7⟩, h1, h2⟩ := Option.bind_eq_some_iff.mp h
  exact ⟨x0, x1, x2, x3, x4, x5, x6, x7, h1, h2⟩
def bd9 {α1 α2 α3 α4 α5 α6 α7 α8 α9 γ : Type} (o : Option (α1 × α2 × α3 × α4 × α5 × α6 × α7 × α8 × α9)) (f : α1 → α2 → α3 → α4 → α5 → α6 → α7 → α8 → α9 → Option γ) : Option γ := o.bind (fun q => f q.1 q.2.1 q.2.2.1 q.2.2.2.1 q.2.2.2.2.1 q.2.2.2.2.2.1 q.2.2.2.2.2.2.1 q.2.2.2.2.2.2.2.1 q.2.2.2.2.2.2.2.2)
theorem bd9_some {α1 α2 α3 α4 α5 α6 α7 α8 α9 γ : Type} {o : Option (α1 × α2 × α3 × α4 × α5 × α6 × α7 × α8 × α9)} {f : α1 → α2 → α3 → α4 → α5 → α6 → α7 → α8 → α9 → Option γ} {v : γ} (h : bd9 o f = some v) : ∃ x0 x1 x2 x3 x4 x5 x6 x7 x8, o = some (x0, x1, x2, x3, x4, x5, x6, x7, x8) ∧ f x0 x1 x2 x3 x4 x5 x6 x7 x8 = some v := by
  obtain ⟨⟨x0, x1, x2, x3, x4, x5, x6, x7, x8⟩, h1, h2⟩ := Option.bind_eq_some_iff.mp h
  exact ⟨x0, x1, x2, x3, x4, x5, x6, x7, x8, h1, h2⟩
def bd10 {α1 α2 α3 α4 α5 α6 α7 α8 α9 α10 γ : Type} (o : Option (α1 × α2 × α3 × α4 × α5 × α6 × α7 × α8 × α9 × α10)) (f : α1 → α2 → α3 → α4 → α5 → α6 → α7 → α8 → α9 → α10 → Option γ) : Option γ := o.bind (fun q => f q.1 q.2.1 q.2.2.1 q.2.2.2.1 q.2.2.2.2.1 q.2.2.2.2.2.1 q.2.2.2.2.2.2.1 q.2.2.2.2.2.2.2.1 q.2.2.2.2.2.2.2.2.1 q.2.2.2.2.2.2.2.2.2)
theorem bd10_some {α1 α2 α3 α4 α5 α6 α7 α8 α9 α10 γ : Type} {o : Option (α1 × α2 × α3 × α4 × α5 × α6 × α7 × α8 × α9 × α10)} {f : α1 → α2 → α3 → α4 → α5 → α6 → α7 → α8 → α9 → α10 → Option γ} {v : γ} (h : bd10 o f = some v) : ∃ x0 x1 x2 x3 x4 x5 x6 x7 x8 x9, o = some (x0, x1, x2, x3, x4, x5, x6, x7, x8, x9) ∧ f x0 x1 x2 x3 x4 x5 x6 x7 x8 x9 = some v := by
  obtain ⟨⟨x0, x1, x2, x3, x4, x5, x6, x7, x8, x9⟩, h1, h2⟩ := Option.bind_eq_some_iff.mp h
  exact ⟨x0, x1, x2, x3, x4, x5, x6, x7, x8, x9, h1, h2⟩
def bd11 {α1 α2 α3 α4 α5 α6 α7 α8 α9 α10 α11 γ : Type} (o : Option (α1 × α2 × α3 × α4 × α5 × α6 × α7 × α8 × α9 × α10 × α11)) (f : α1 → α2 → α3 → α4 → α5 → α6 → α7 → α8 → α9 → α10 → α11 → Option γ) : Option γ := o.bind (fun q => f q.1 q.2.1 q.2.2.1 q.2.2.2.1 q.2.2.2.2.1 q.2.2.2.2.2.1 q.2.2.2.2.2.2.1 q.2.2.2.2.2.2.2.1 q.2.2.2.2.2.2.2.2.1 q.2.2.2.2.2.2.2.2.2.1 q.2.2.2.2.2.2.2.2.2.2)
theorem bd11_some {α1 α2 α3 α4 α5 α6 α7 α8 α9 α10 α11 γ : Type} {o : Option (α1 × α2 × α3 × α4 × α5 × α6 × α7 × α8 × α9 × α10 × α11)} {f : α1 → α2 → α3 → α4 → α5 → α6 → α7 → α8 → α9 → α10 → α11 → Option γ} {v : γ} (h : bd11 o f = some v) : ∃ x0 x1 x2 x3 x4 x5 x6 x7 x8 x9 x10, o = some (x0, x1, x2, x3, x4, x5, x6, x7, x8, x9, x10) ∧ f x0 x1 x2 x3 x4 x5 x6 x7 x8 x9 x10 = some v := by
  obtain ⟨⟨x0, x1, x2, x3, x4, x5, x6, x7, x8, x9, x10⟩, h1, h2⟩ := Option.bind_eq_some_iff.mp h
  exact ⟨x0, x1, x2, x3, x4, x5, x6, x7, x8, x9, x10, h1, h2⟩
def bd12 {α1 α2 α3 α4 α5 α6 α7 α8 α9 α10 α11 α12 γ : Type} (o : Option (α1 × α2 × α3 × α4 × α5 × α6 × α7 × α8 × α9 × α10 × α11 × α12)) (f : α1 → α2 → α3 → α4 → α5 → α6 → α7 → α8 → α9 → α10 → α11 → α12 → Option γ) : Option γ := o.bind (fun q => f q.1 q.2.1 q.2.2.1 q.2.2.2.1 q.2.2.2.2.1 q.2.2.2.2.2.1 q.2.2.2.2.2.2.1 q.2.2.2.2.2.2.2.1 q.2.2.2.2.2.2.2.2.1 q.2.2.2.2.2.2.2.2.2.1 q.2.2.2.2.2.2.2.2.2.2.1 q.2.2.2.2.2.2.2.2.2.2.2)
theorem bd12_some {α1 α2 α3 α4 α5 α6 α7 α8 α9 α10 α11 α12 γ : Type} {o : Option (α1 × α2 × α3 × α4 × α5 × α6 × α7 × α8 × α9 × α10 × α11 × α12)} {f : α1 → α2 → α3 → α4 → α5 → α6 → α7 → α8 → α9 → α10 → α11 → α12 → Option γ} {v : γ} (h : bd12 o f = some v) : ∃ x0 x1 x2 x3 x4 x5 x6 x7 x8 x9 x10 x11, o = some (x0, x1, x2, x3, x4, x5, x6, x7, x8, x9, x10, x11) ∧ f x0 x1 x2 x3 x4 x5 x6 x7 x8 x9 x10 x11 = some v := by
  obtain ⟨⟨x0, x1, x2, x3, x4, x5, x6, x7, x8, x9, x10, x11⟩, h1, h2⟩ := Option.bind_eq_some_iff.mp h
  exact ⟨x0, x1, x2, x3, x4, x5, x6, x7, x8, x9, x10, x11, h1, h2⟩
def bd13 {α1 α2 α3 α4 α5 α6 α7 α8 α9 α10 α11 α12 α13 γ : Type} (o : Option (α1 × α2 × α3 × α4 × α5 × α6 × α7 × α8 × α9 × α10 × α11 × α12 × α13)) (f : α1 → α2 → α3 → α4 → α5 → α6 → α7 → α8 → α9 → α10 → α11 → α12 → α13 → Option γ) : Option γ := o.bind (fun q => f q.1 q.2.1 q.2.2.1 q.2.2.2.1 q.2.2.2.2.1 q.2.2.2.2.2.1 q.2.2.2.2.2.2.1 q.2.2.2.2.2.2.2.1 q.2.2.2.2.2.2.2.2.1 q.2.2.2.2.2.2.2.2.2.1 q.2.2.2.2.2.2.2.2.2.2.1 q.2.2.2.2.2.2.2.2.2.2.2.1 q.2.2.2.2.2.2.2.2.2.2.2.2)
theorem bd13_some {α1 α2 α3 α4 α5 α6 α7 α8 α9 α10 α11 α12 α13 γ : Type} {o : Option (α1 × α2 × α3 × α4 × α5 × α6 × α7 × α8 × α9 × α10 × α11 × α12 × α13)} {f : α1 → α2 → α3 → α4 → α5 → α6 → α7 → α8 → α9 → α10 → α11 → α12 → α13 → Option γ} {v : γ} (h : bd13 o f = some v) : ∃ x0 x1 x2 x3 x4 x5 x6 x7 x8 x9 x10 x11 x12, o = some (x0, x1, x2, x3, x4, x5, x6, x7, x8, x9, x10, x11, x12) ∧ f x0 x1 x2 x3 x4 x5 x6 x7 x8 x9 x10 x11 x12 = some v := by
  obtain ⟨⟨x0, x1, x2, x3, x4, x5, x6, x7, x8, x9, x10, x11, x12⟩, h1, h2⟩ := Option.bind_eq_some_iff.mp h
  exact ⟨x0, x1, x2, x3, x4, x5, x6, x7, x8, x9, x10, x11, x12, h1, h2⟩
def bd14 {α1 α2 α3 α4 α5 α6 α7 α8 α9 α10 α11 α12 α13 α14 γ : Type} (o : Option (α1 × α2 × α3 × α4 × α5 × α6 × α7 × α8 × α9 × α10 × α11 × α12 × α13 × α14)) (f : α1 → α2 → α3 → α4 → α5 → α6 → α7 → α8 → α9 → α10 → α11 → α12 → α13 → α14 → Option γ) : Option γ := o.bind (fun q => f q.1 q.2.1 q.2.2.1 q.2.2.2.1 q.2.2.2.2.1 q.2.2.2.2.2.1 q.2.2.2.2.2.2.1 q.2.2.2.2.2.2.2.1 q.2.2.2.2.2.2.2.2.1 q.2.2.2.2.2.2.2.2.2.1 q.2.2.2.2.2.2.2.2.2.2.1 q.2.2.2.2.2.2.2.2.2.2.2.1 q.2.2.2.2.2.2.2.2.2.2.2.2.1 q.2.2.2.2.2.2.2.2.2.2.2.2.2)
theorem bd14_some {α1 α2 α3 α4 α5 α6 α7 α8 α9 α10 α11 α12 α13 α14 γ : Type} {o : Option (α1 × α2 × α3 × α4 × α5 × α6 × α7 × α8 × α9 × α10 × α11 × α12 × α13 × α14)} {f : α1 → α2 → α3 → α4 → α5 → α6 → α7 → α8 → α9 → α10 → α11 → α12 → α13 → α14 → Option γ} {v : γ} (h : bd14 o f = some v) : ∃ x0 x1 x2 x3 x4 x5 x6 x7 x8 x9 x10 x11 x12 x13, o = some (x0, x1, x2, x3, x4, x5, x6, x7, x8, x9, x10, x11, x12, x13) ∧ f x0 x1 x2 x3 x4 x5 x6 x7 x8 x9 x10 x11 x12 x13 = some v := by
  obtain ⟨⟨x0, x1, x2, x3, x4, x5, x6, x7, x8, x9, x10, x11, x12, x13⟩, h1, h2⟩ := Option.bind_eq_some_iff.mp h
  exact ⟨x0, x1, x2, x3, x4, x5, x6, x7, x8, x9, x10, x11, x12, x13, h1, h2⟩
def bd15 {α1 α2 α3 α4 α5 α6 α7 α8 α9 α10 α11 α12 α13 α14 α15 γ : Type} (o : Option (α1 × α2 × α3 × α4 × α5 × α6 × α7 × α8 × α9 × α10 × α11 × α12 × α13 × α14 × α15)) (f : α1 → α2 → α3 → α4 → α5 → α6 → α7 → α8 → α9 → α10 → α11 → α12 → α13 → α14 → α15 → Option γ) : Option γ := o.bind (fun q => f q.1 q.2.1 q.2.2.1 q.2.2.2.1 q.2.2.2.2.1 q.2.2.2.2.2.1 q.2.2.2.2.2.2.1 q.2.2.2.2.2.2.2.1 q.2.2.2.2.2.2.2.2.1 q.2.2.2.2.2.2.2.2.2.1 q.2.2.2.2.2.2.2.2.2.2.1 q.2.2.2.2.2.2.2.2.2.2.2.1 q.2.2.2.2.2.2.2.2.2.2.2.2.1 q.2.2.2.2.2.2.2.2.2.2.2.2.2.1 q.2.2.2.2.2.2.2.2.2.2.2.2.2.2)
theorem bd15_some {α1 α2 α3 α4 α5 α6 α7 α8 α9 α10 α11 α12 α13 α14 α15 γ : Type} {o : Option (α1 × α2 × α3 × α4 × α5 × α6 × α7 × α8 × α9 × α10 × α11 × α12 × α13 × α14 × α15)} {f : α1 → α2 → α3 → α4 → α5 → α6 → α7 → α8 → α9 → α10 → α11 → α12 → α13 → α14 → α15 → Option γ} {v : γ} (h : bd15 o f = some v) : ∃ x0 x1 x2 x3 x4 x5 x6 x7 x8 x9 x10 x11 x12 x13 x14, o = some (x0, x1, x2, x3, x4, x5, x6, x7, x8, x9, x10, x11, x12, x13, x14) ∧ f x0 x1 x2 x3 x4 x5 x6 x7 x8 x9 x10 x11 x12 x13 x14 = some v := by
  obtain ⟨⟨x0, x1, x2, x3, x4, x5, x6, x7, x8, x9, x10, x11, x12, x13, x14⟩, h1, h2⟩ := Option.bind_eq_some_iff.mp h
  exact ⟨x0, x1, x2, x3, x4, x5, x6, x7, x8, x9, x10, x11, x12, x13, x14, h1, h2⟩
def bd16 {α1 α2 α3 α4 α5 α6 α7 α8 α9 α10 α11 α12 α13 α14 α15 α16 γ : Type} (o : Option (α1 × α2 × α3 × α4 × α5 × α6 × α7 × α8 × α9 × α10 × α11 × α12 × α13 × α14 × α15 × α16)) (f : α1 → α2 → α3 → α4 → α5 → α6 → α7 → α8 → α9 → α10 → α11 → α12 → α13 → α14 → α15 → α16 → Option γ) : Option γ := o.bind (fun q => f q.1 q.2.1 q.2.2.1 q.2.2.2.1 q.2.2.2.2.1 q.2.2.2.2.2.1 q.2.2.2.2.2.2.1 q.2.2.2.2.2.2.2.1 q.2.2.2.2.2.2.2.2.1 q.2.2.2.2.2.2.2.2.2.1 q.2.2.2.2.2.2.2.2.2.2.1 q.2.2.2.2.2.2.2.2.2.2.2.1 q.2.2.2.2.2.2.2.2.2.2.2.2.1 q.2.2.2.2.2.2.2.2.2.2.2.2.2.1 q.2.2.2.2.2.2.2.2.2.2.2.2.2.2.1 q.2.2.2.2.2.2.2.2.2.2.2.2.2.2.2)
theorem bd16_some {α1 α2 α3 α4 α5 α6 α7 α8 α9 α10 α11 α12 α13 α14 α15 α16 γ : Type} {o : Option (α1 × α2 × α3 × α4 × α5 × α6 × α7 × α8 × α9 × α10 × α11 × α12 × α13 × α14 × α15 × α16)} {f : α1 → α2 → α3 → α4 → α5 → α6 → α7 → α8 → α9 → α10 → α11 → α12 → α13 → α14 → α15 → α16 → Option γ} {v : γ} (h : bd16 o f = some v) : ∃ x0 x1 x2 x3 x4 x5 x6 x7 x8 x9 x10 x11 x12 x13 x14 x15, o = some (x0, x1, x2, x3, x4, x5, x6, x7, x8, x9, x10, x11, x12, x13, x14, x15) ∧ f x0 x1 x2 x3 x4 x5 x6 x7 x8 x9 x10 x11 x12 x13 x14 x15 = some v := by
  obtain ⟨⟨x0, x1, x2, x3, x4, x5, x6, x7, x8, x9, x10, x11, x12, x13, x14, x15⟩, h1, h2⟩ := Option.bind_eq_some_iff.mp h
  exact ⟨x0, x1, x2, x3, x4, x5, x6, x7, x8, x9, x10, x11, x12, x13, x14, x15, h1, h2⟩
theorem i32_ne {x c : Int32} (h : ¬ x = c) : x.toInt ≠ c.toInt := fun e => h (Int32.toInt_inj.mp e)
section JJ
variable {p : Program} {l : Launch} {e : Env} {R : Room} {s : State} {m : MethodId} {args : Array Value} {below : List Frame} {meth : Method} {c : Code} {nL : Nat} {D : va_G} {tys : List (ClassId × FieldType)} {A : Nat → Prop} {cells slots : Nat} {Q : State → Prop} {cc : ByteArray} {own : String} {Ts : List Cond} {ws : va_W} {lv : List (Nat × Value)} {pc : Nat} {st : List Value}
theorem j_iconst (C : jc p s m args c cc nL own Ts A) {n : Int} {v : Int32} (hd : decode cc pc = .ok (.iconst n, 1)) (hv : Int32.ofInt n = v) (k : jw p l e R s m args below meth c nL D A cells slots Q ws lv (pc + 1) (.int v :: st)) : jw p l e R s m args below meth c nL D A cells slots Q ws lv pc st := fun H locs ls hP hD hS hl => lv_iconst C.1 C.2.1 hd hv (k H locs ls hP hD hS hl)
theorem j_bipush (C : jc p s m args c cc nL own Ts A) {n : Int} {v : Int32} (hd : decode cc pc = .ok (.bipush n, 2)) (hv : (Int8.ofInt n).toInt32 = v) (k : jw p l e R s m args below meth c nL D A cells slots Q ws lv (pc + 2) (.int v :: st)) : jw p l e R s m args below meth c nL D A cells slots Q ws lv pc st := fun H locs ls hP hD hS hl => lv_bipush C.1 C.2.1 hd hv (k H locs ls hP hD hS hl)
theorem j_sipush (C : jc p s m args c cc nL own Ts A) {n : Int} {v : Int32} (hd : decode cc pc = .ok (.sipush n, 3)) (hv : (Int16.ofInt n).toInt32 = v) (k : jw p l e R s m args below meth c nL D A cells slots Q ws lv (pc + 3) (.int v :: st)) : jw p l e R s m args below meth c nL D A cells slots Q ws lv pc st := fun H locs ls hP hD hS hl => lv_sipush C.1 C.2.1 hd hv (k H locs ls hP hD hS hl)
theorem j_ldc (C : jc p s m args c cc nL own Ts A) {index : Nat} {v : Int32} (hc : Cond.constant own index v ∈ Ts) (hd : decode cc pc = .ok (.ldc index, 2)) (k : jw p l e R s m args below meth c nL D A cells slots Q ws lv (pc + 2) (.int v :: st)) : jw p l e R s m args below meth c nL D A cells slots Q ws lv pc st := fun H locs ls hP hD hS hl => lv_ldc C.1 C.2.1 C.2.2.2.1 (C.2.2.2.2.1 _ hc) hd (k H locs ls hP hD hS hl)
theorem j_iload_n (C : jc p s m args c cc nL own Ts A) {kf : Fin 4} {i : Nat} {x : Int32} (j : Nat) (hd : decode cc pc = .ok (.iload_n kf, 1)) (hi : (kf : Nat) = i) (hj : lv[j]? = some (i, .int x)) (k : jw p l e R s m args below meth c nL D A cells slots Q ws lv (pc + 1) (.int x :: st)) : jw p l e R s m args below meth c nL D A cells slots Q ws lv pc st := fun H locs ls hP hD hS hl => lv_iload_n C.1 C.2.1 hd hi (lv_at hl j hj) (k H locs ls hP hD hS hl)
theorem j_iload (C : jc p s m args c cc nL own Ts A) {i : Nat} {x : Int32} (j : Nat) (hd : decode cc pc = .ok (.iload i, 2)) (hj : lv[j]? = some (i, .int x)) (k : jw p l e R s m args below meth c nL D A cells slots Q ws lv (pc + 2) (.int x :: st)) : jw p l e R s m args below meth c nL D A cells slots Q ws lv pc st := fun H locs ls hP hD hS hl => lv_iload C.1 C.2.1 hd (lv_at hl j hj) (k H locs ls hP hD hS hl)
theorem j_aload_n (C : jc p s m args c cc nL own Ts A) {kf : Fin 4} {i : Nat} {x : Nat} (j : Nat) (hd : decode cc pc = .ok (.aload_n kf, 1)) (hi : (kf : Nat) = i) (hj : lv[j]? = some (i, .ref x)) (k : jw p l e R s m args below meth c nL D A cells slots Q ws lv (pc + 1) (.ref x :: st)) : jw p l e R s m args below meth c nL D A cells slots Q ws lv pc st := fun H locs ls hP hD hS hl => lv_aload_n C.1 C.2.1 hd hi (lv_at hl j hj) (k H locs ls hP hD hS hl)
theorem j_aload (C : jc p s m args c cc nL own Ts A) {i : Nat} {x : Nat} (j : Nat) (hd : decode cc pc = .ok (.aload i, 2)) (hj : lv[j]? = some (i, .ref x)) (k : jw p l e R s m args below meth c nL D A cells slots Q ws lv (pc + 2) (.ref x :: st)) : jw p l e R s m args below meth c nL D A cells slots Q ws lv pc st := fun H locs ls hP hD hS hl => lv_aload C.1 C.2.1 hd (lv_at hl j hj) (k H locs ls hP hD hS hl)
theorem j_istore_n (C : jc p s m args c cc nL own Ts A) {kf : Fin 4} {i : Nat} {x : Int32} {lv' : List (Nat × Value)} (hd : decode cc pc = .ok (.istore_n kf, 1)) (hi : (kf : Nat) = i) (hn : i < nL) (hf : (i, Value.int x) :: lv.filter (fun q => !(q.1 == i) && !(q.1 + 1 == i && q.2.category == 2)) = lv') (k : jw p l e R s m args below meth c nL D A cells slots Q ws lv' (pc + 1) st) : jw p l e R s m args below meth c nL D A cells slots Q ws lv pc (.int x :: st) := fun H locs ls hP hD hS hl => lv_istore_n C.1 C.2.1 hd hi hl hn hf (fun ls2 hl2 => k H locs ls2 hP hD hS hl2)
theorem j_istore (C : jc p s m args c cc nL own Ts A) {i : Nat} {x : Int32} {lv' : List (Nat × Value)} (hd : decode cc pc = .ok (.istore i, 2)) (hn : i < nL) (hf : (i, Value.int x) :: lv.filter (fun q => !(q.1 == i) && !(q.1 + 1 == i && q.2.category == 2)) = lv') (k : jw p l e R s m args below meth c nL D A cells slots Q ws lv' (pc + 2) st) : jw p l e R s m args below meth c nL D A cells slots Q ws lv pc (.int x :: st) := fun H locs ls hP hD hS hl => lv_istore C.1 C.2.1 hd hl hn hf (fun ls2 hl2 => k H locs ls2 hP hD hS hl2)
theorem j_astore_n (C : jc p s m args c cc nL own Ts A) {kf : Fin 4} {i : Nat} {x : Nat} {lv' : List (Nat × Value)} (hd : decode cc pc = .ok (.astore_n kf, 1)) (hi : (kf : Nat) = i) (hn : i < nL) (hf : (i, Value.ref x) :: lv.filter (fun q => !(q.1 == i) && !(q.1 + 1 == i && q.2.category == 2)) = lv') (k : jw p l e R s m args below meth c nL D A cells slots Q ws lv' (pc + 1) st) : jw p l e R s m args below meth c nL D A cells slots Q ws lv pc (.ref x :: st) := fun H locs ls hP hD hS hl => lv_astore_n C.1 C.2.1 hd hi hl hn hf (fun ls2 hl2 => k H locs ls2 hP hD hS hl2)
theorem j_astore (C : jc p s m args c cc nL own Ts A) {i : Nat} {x : Nat} {lv' : List (Nat × Value)} (hd : decode cc pc = .ok (.astore i, 2)) (hn : i < nL) (hf : (i, Value.ref x) :: lv.filter (fun q => !(q.1 == i) && !(q.1 + 1 == i && q.2.category == 2)) = lv') (k : jw p l e R s m args below meth c nL D A cells slots Q ws lv' (pc + 2) st) : jw p l e R s m args below meth c nL D A cells slots Q ws lv pc (.ref x :: st) := fun H locs ls hP hD hS hl => lv_astore C.1 C.2.1 hd hl hn hf (fun ls2 hl2 => k H locs ls2 hP hD hS hl2)
theorem j_iinc (C : jc p s m args c cc nL own Ts A) {i : Nat} {n : Int} {x v : Int32} {lv' : List (Nat × Value)} (j : Nat) (hd : decode cc pc = .ok (.iinc i n, 3)) (hj : lv[j]? = some (i, .int x)) (hv : x + Int32.ofInt n = v) (hn : i < nL) (hf : (i, Value.int v) :: lv.filter (fun q => !(q.1 == i) && !(q.1 + 1 == i && q.2.category == 2)) = lv') (k : jw p l e R s m args below meth c nL D A cells slots Q ws lv' (pc + 3) st) : jw p l e R s m args below meth c nL D A cells slots Q ws lv pc st := fun H locs ls hP hD hS hl => lv_iinc C.1 C.2.1 hd hl hj hv hn hf (fun ls2 hl2 => k H locs ls2 hP hD hS hl2)
theorem j_iadd (C : jc p s m args c cc nL own Ts A) {x y : Int32} (hd : decode cc pc = .ok (.iadd, 1)) (k : jw p l e R s m args below meth c nL D A cells slots Q ws lv (pc + 1) (.int (x + y) :: st)) : jw p l e R s m args below meth c nL D A cells slots Q ws lv pc (.int y :: .int x :: st) := fun H locs ls hP hD hS hl => lv_iadd C.1 C.2.1 hd (k H locs ls hP hD hS hl)
theorem j_isub (C : jc p s m args c cc nL own Ts A) {x y : Int32} (hd : decode cc pc = .ok (.isub, 1)) (k : jw p l e R s m args below meth c nL D A cells slots Q ws lv (pc + 1) (.int (x - y) :: st)) : jw p l e R s m args below meth c nL D A cells slots Q ws lv pc (.int y :: .int x :: st) := fun H locs ls hP hD hS hl => lv_isub C.1 C.2.1 hd (k H locs ls hP hD hS hl)
theorem j_imul (C : jc p s m args c cc nL own Ts A) {x y : Int32} (hd : decode cc pc = .ok (.imul, 1)) (k : jw p l e R s m args below meth c nL D A cells slots Q ws lv (pc + 1) (.int (x * y) :: st)) : jw p l e R s m args below meth c nL D A cells slots Q ws lv pc (.int y :: .int x :: st) := fun H locs ls hP hD hS hl => lv_imul C.1 C.2.1 hd (k H locs ls hP hD hS hl)
theorem j_iand (C : jc p s m args c cc nL own Ts A) {x y : Int32} (hd : decode cc pc = .ok (.iand, 1)) (k : jw p l e R s m args below meth c nL D A cells slots Q ws lv (pc + 1) (.int (x &&& y) :: st)) : jw p l e R s m args below meth c nL D A cells slots Q ws lv pc (.int y :: .int x :: st) := fun H locs ls hP hD hS hl => lv_iand C.1 C.2.1 hd (k H locs ls hP hD hS hl)
theorem j_ior (C : jc p s m args c cc nL own Ts A) {x y : Int32} (hd : decode cc pc = .ok (.ior, 1)) (k : jw p l e R s m args below meth c nL D A cells slots Q ws lv (pc + 1) (.int (x ||| y) :: st)) : jw p l e R s m args below meth c nL D A cells slots Q ws lv pc (.int y :: .int x :: st) := fun H locs ls hP hD hS hl => lv_ior C.1 C.2.1 hd (k H locs ls hP hD hS hl)
theorem j_ishl (C : jc p s m args c cc nL own Ts A) {x y : Int32} (hd : decode cc pc = .ok (.ishl, 1)) (k : jw p l e R s m args below meth c nL D A cells slots Q ws lv (pc + 1) (.int (x <<< (y &&& 31)) :: st)) : jw p l e R s m args below meth c nL D A cells slots Q ws lv pc (.int y :: .int x :: st) := fun H locs ls hP hD hS hl => lv_ishl C.1 C.2.1 hd (k H locs ls hP hD hS hl)
theorem j_ishr (C : jc p s m args c cc nL own Ts A) {x y : Int32} (hd : decode cc pc = .ok (.ishr, 1)) (k : jw p l e R s m args below meth c nL D A cells slots Q ws lv (pc + 1) (.int (x >>> (y &&& 31)) :: st)) : jw p l e R s m args below meth c nL D A cells slots Q ws lv pc (.int y :: .int x :: st) := fun H locs ls hP hD hS hl => lv_ishr C.1 C.2.1 hd (k H locs ls hP hD hS hl)
theorem j_irem (C : jc p s m args c cc nL own Ts A) {x y : Int32} (hd : decode cc pc = .ok (.irem, 1)) (hne : ¬ y = 0) (k : jw p l e R s m args below meth c nL D A cells slots Q ws lv (pc + 1) (.int (x - x / y * y) :: st)) : jw p l e R s m args below meth c nL D A cells slots Q ws lv pc (.int y :: .int x :: st) := fun H locs ls hP hD hS hl => lv_irem C.1 C.2.1 hd hne (k H locs ls hP hD hS hl)
theorem j_ineg (C : jc p s m args c cc nL own Ts A) {x : Int32} (hd : decode cc pc = .ok (.ineg, 1)) (k : jw p l e R s m args below meth c nL D A cells slots Q ws lv (pc + 1) (.int (-x) :: st)) : jw p l e R s m args below meth c nL D A cells slots Q ws lv pc (.int x :: st) := fun H locs ls hP hD hS hl => lv_ineg C.1 C.2.1 hd (k H locs ls hP hD hS hl)
theorem j_i2l (C : jc p s m args c cc nL own Ts A) {x : Int32} (hd : decode cc pc = .ok (.i2l, 1)) (k : jw p l e R s m args below meth c nL D A cells slots Q ws lv (pc + 1) (.long x.toInt64 :: st)) : jw p l e R s m args below meth c nL D A cells slots Q ws lv pc (.int x :: st) := fun H locs ls hP hD hS hl => lv_i2l C.1 C.2.1 hd rfl (k H locs ls hP hD hS hl)
theorem j_dup (C : jc p s m args c cc nL own Ts A) {va : Value} (hd : decode cc pc = .ok (.dup, 1)) (h1 : va.category = 1) (k : jw p l e R s m args below meth c nL D A cells slots Q ws lv (pc + 1) (va :: va :: st)) : jw p l e R s m args below meth c nL D A cells slots Q ws lv pc (va :: st) := fun H locs ls hP hD hS hl => lv_dup C.1 C.2.1 hd h1 (k H locs ls hP hD hS hl)
theorem j_dup2 (C : jc p s m args c cc nL own Ts A) {va vb : Value} (hd : decode cc pc = .ok (.dup2, 1)) (h1 : va.category = 1) (h2 : vb.category = 1) (k : jw p l e R s m args below meth c nL D A cells slots Q ws lv (pc + 1) (va :: vb :: va :: vb :: st)) : jw p l e R s m args below meth c nL D A cells slots Q ws lv pc (va :: vb :: st) := fun H locs ls hP hD hS hl => lv_dup2_11 C.1 C.2.1 hd h1 h2 (k H locs ls hP hD hS hl)
theorem j_pop (C : jc p s m args c cc nL own Ts A) {va : Value} (hd : decode cc pc = .ok (.pop, 1)) (h1 : va.category = 1) (k : jw p l e R s m args below meth c nL D A cells slots Q ws lv (pc + 1) st) : jw p l e R s m args below meth c nL D A cells slots Q ws lv pc (va :: st) := fun H locs ls hP hD hS hl => lv_pop C.1 C.2.1 hd h1 (k H locs ls hP hD hS hl)
theorem j_if_eq (C : jc p s m args c cc nL own Ts A) {x : Int32} {off : Int} {tgt : Nat} (hd : decode cc pc = .ok (.ifCond .eq off, 3)) (ht : (pc : Int) + off = (tgt : Int)) (kt : x = 0 → jw p l e R s m args below meth c nL D A cells slots Q ws lv tgt st) (kf : ¬ x = 0 → jw p l e R s m args below meth c nL D A cells slots Q ws lv (pc + 3) st) : jw p l e R s m args below meth c nL D A cells slots Q ws lv pc (.int x :: st) := fun H locs ls hP hD hS hl => lv_if_eq C.1 C.2.1 hd ht (fun h => kt h H locs ls hP hD hS hl) (fun h => kf h H locs ls hP hD hS hl)
theorem j_if_ne (C : jc p s m args c cc nL own Ts A) {x : Int32} {off : Int} {tgt : Nat} (hd : decode cc pc = .ok (.ifCond .ne off, 3)) (ht : (pc : Int) + off = (tgt : Int)) (kt : ¬ x = 0 → jw p l e R s m args below meth c nL D A cells slots Q ws lv tgt st) (kf : x = 0 → jw p l e R s m args below meth c nL D A cells slots Q ws lv (pc + 3) st) : jw p l e R s m args below meth c nL D A cells slots Q ws lv pc (.int x :: st) := fun H locs ls hP hD hS hl => lv_if_ne C.1 C.2.1 hd ht (fun h => kt h H locs ls hP hD hS hl) (fun h => kf h H locs ls hP hD hS hl)
theorem j_if_lt (C : jc p s m args c cc nL own Ts A) {x : Int32} {off : Int} {tgt : Nat} (hd : decode cc pc = .ok (.ifCond .lt off, 3)) (ht : (pc : Int) + off = (tgt : Int)) (kt : x < 0 → jw p l e R s m args below meth c nL D A cells slots Q ws lv tgt st) (kf : ¬ x < 0 → jw p l e R s m args below meth c nL D A cells slots Q ws lv (pc + 3) st) : jw p l e R s m args below meth c nL D A cells slots Q ws lv pc (.int x :: st) := fun H locs ls hP hD hS hl => lv_if_lt C.1 C.2.1 hd ht (fun h => kt h H locs ls hP hD hS hl) (fun h => kf h H locs ls hP hD hS hl)
theorem j_if_ge (C : jc p s m args c cc nL own Ts A) {x : Int32} {off : Int} {tgt : Nat} (hd : decode cc pc = .ok (.ifCond .ge off, 3)) (ht : (pc : Int) + off = (tgt : Int)) (kt : 0 ≤ x → jw p l e R s m args below meth c nL D A cells slots Q ws lv tgt st) (kf : ¬ 0 ≤ x → jw p l e R s m args below meth c nL D A cells slots Q ws lv (pc + 3) st) : jw p l e R s m args below meth c nL D A cells slots Q ws lv pc (.int x :: st) := fun H locs ls hP hD hS hl => lv_if_ge C.1 C.2.1 hd ht (fun h => kt h H locs ls hP hD hS hl) (fun h => kf h H locs ls hP hD hS hl)
theorem j_if_gt (C : jc p s m args c cc nL own Ts A) {x : Int32} {off : Int} {tgt : Nat} (hd : decode cc pc = .ok (.ifCond .gt off, 3)) (ht : (pc : Int) + off = (tgt : Int)) (kt : 0 < x → jw p l e R s m args below meth c nL D A cells slots Q ws lv tgt st) (kf : ¬ 0 < x → jw p l e R s m args below meth c nL D A cells slots Q ws lv (pc + 3) st) : jw p l e R s m args below meth c nL D A cells slots Q ws lv pc (.int x :: st) := fun H locs ls hP hD hS hl => lv_if_gt C.1 C.2.1 hd ht (fun h => kt h H locs ls hP hD hS hl) (fun h => kf h H locs ls hP hD hS hl)
theorem j_if_le (C : jc p s m args c cc nL own Ts A) {x : Int32} {off : Int} {tgt : Nat} (hd : decode cc pc = .ok (.ifCond .le off, 3)) (ht : (pc : Int) + off = (tgt : Int)) (kt : x ≤ 0 → jw p l e R s m args below meth c nL D A cells slots Q ws lv tgt st) (kf : ¬ x ≤ 0 → jw p l e R s m args below meth c nL D A cells slots Q ws lv (pc + 3) st) : jw p l e R s m args below meth c nL D A cells slots Q ws lv pc (.int x :: st) := fun H locs ls hP hD hS hl => lv_if_le C.1 C.2.1 hd ht (fun h => kt h H locs ls hP hD hS hl) (fun h => kf h H locs ls hP hD hS hl)
theorem j_icmp_eq (C : jc p s m args c cc nL own Ts A) {x y : Int32} {off : Int} {tgt : Nat} (hd : decode cc pc = .ok (.if_icmp .eq off, 3)) (ht : (pc : Int) + off = (tgt : Int)) (kt : x = y → jw p l e R s m args below meth c nL D A cells slots Q ws lv tgt st) (kf : ¬ x = y → jw p l e R s m args below meth c nL D A cells slots Q ws lv (pc + 3) st) : jw p l e R s m args below meth c nL D A cells slots Q ws lv pc (.int y :: .int x :: st) := fun H locs ls hP hD hS hl => lv_icmp_eq C.1 C.2.1 hd ht (fun h => kt h H locs ls hP hD hS hl) (fun h => kf h H locs ls hP hD hS hl)
theorem j_icmp_ne (C : jc p s m args c cc nL own Ts A) {x y : Int32} {off : Int} {tgt : Nat} (hd : decode cc pc = .ok (.if_icmp .ne off, 3)) (ht : (pc : Int) + off = (tgt : Int)) (kt : ¬ x = y → jw p l e R s m args below meth c nL D A cells slots Q ws lv tgt st) (kf : x = y → jw p l e R s m args below meth c nL D A cells slots Q ws lv (pc + 3) st) : jw p l e R s m args below meth c nL D A cells slots Q ws lv pc (.int y :: .int x :: st) := fun H locs ls hP hD hS hl => lv_icmp_ne C.1 C.2.1 hd ht (fun h => kt h H locs ls hP hD hS hl) (fun h => kf h H locs ls hP hD hS hl)
theorem j_icmp_lt (C : jc p s m args c cc nL own Ts A) {x y : Int32} {off : Int} {tgt : Nat} (hd : decode cc pc = .ok (.if_icmp .lt off, 3)) (ht : (pc : Int) + off = (tgt : Int)) (kt : x < y → jw p l e R s m args below meth c nL D A cells slots Q ws lv tgt st) (kf : ¬ x < y → jw p l e R s m args below meth c nL D A cells slots Q ws lv (pc + 3) st) : jw p l e R s m args below meth c nL D A cells slots Q ws lv pc (.int y :: .int x :: st) := fun H locs ls hP hD hS hl => lv_icmp_lt C.1 C.2.1 hd ht (fun h => kt h H locs ls hP hD hS hl) (fun h => kf h H locs ls hP hD hS hl)
theorem j_icmp_ge (C : jc p s m args c cc nL own Ts A) {x y : Int32} {off : Int} {tgt : Nat} (hd : decode cc pc = .ok (.if_icmp .ge off, 3)) (ht : (pc : Int) + off = (tgt : Int)) (kt : y ≤ x → jw p l e R s m args below meth c nL D A cells slots Q ws lv tgt st) (kf : ¬ y ≤ x → jw p l e R s m args below meth c nL D A cells slots Q ws lv (pc + 3) st) : jw p l e R s m args below meth c nL D A cells slots Q ws lv pc (.int y :: .int x :: st) := fun H locs ls hP hD hS hl => lv_icmp_ge C.1 C.2.1 hd ht (fun h => kt h H locs ls hP hD hS hl) (fun h => kf h H locs ls hP hD hS hl)
theorem j_icmp_gt (C : jc p s m args c cc nL own Ts A) {x y : Int32} {off : Int} {tgt : Nat} (hd : decode cc pc = .ok (.if_icmp .gt off, 3)) (ht : (pc : Int) + off = (tgt : Int)) (kt : y < x → jw p l e R s m args below meth c nL D A cells slots Q ws lv tgt st) (kf : ¬ y < x → jw p l e R s m args below meth c nL D A cells slots Q ws lv (pc + 3) st) : jw p l e R s m args below meth c nL D A cells slots Q ws lv pc (.int y :: .int x :: st) := fun H locs ls hP hD hS hl => lv_icmp_gt C.1 C.2.1 hd ht (fun h => kt h H locs ls hP hD hS hl) (fun h => kf h H locs ls hP hD hS hl)
theorem j_icmp_le (C : jc p s m args c cc nL own Ts A) {x y : Int32} {off : Int} {tgt : Nat} (hd : decode cc pc = .ok (.if_icmp .le off, 3)) (ht : (pc : Int) + off = (tgt : Int)) (kt : x ≤ y → jw p l e R s m args below meth c nL D A cells slots Q ws lv tgt st) (kf : ¬ x ≤ y → jw p l e R s m args below meth c nL D A cells slots Q ws lv (pc + 3) st) : jw p l e R s m args below meth c nL D A cells slots Q ws lv pc (.int y :: .int x :: st) := fun H locs ls hP hD hS hl => lv_icmp_le C.1 C.2.1 hd ht (fun h => kt h H locs ls hP hD hS hl) (fun h => kf h H locs ls hP hD hS hl)
theorem j_goto (C : jc p s m args c cc nL own Ts A) {off : Int} {tgt : Nat} (hd : decode cc pc = .ok (.goto off, 3)) (ht : (pc : Int) + off = (tgt : Int)) (k : jw p l e R s m args below meth c nL D A cells slots Q ws lv tgt st) : jw p l e R s m args below meth c nL D A cells slots Q ws lv pc st := fun H locs ls hP hD hS hl => lv_goto C.1 C.2.1 hd ht (k H locs ls hP hD hS hl)
theorem j_tin (C : jc p s m args c cc nL own Ts A) {x : Int32} {dflt lo hi : Int} {offs : Array Int} {len : Nat} {off : Int} {tgt : Nat} (hd : decode cc pc = .ok (.tableswitch dflt lo hi offs, len)) (h1 : ¬ x.toInt < lo) (h2 : ¬ hi < x.toInt) (ho : offs[(x.toInt - lo).toNat]? = some off) (ht : (pc : Int) + off = (tgt : Int)) (k : jw p l e R s m args below meth c nL D A cells slots Q ws lv tgt st) : jw p l e R s m args below meth c nL D A cells slots Q ws lv pc (.int x :: st) := fun H locs ls hP hD hS hl => lv_tableIn C.1 C.2.1 hd h1 h2 ho ht (k H locs ls hP hD hS hl)
theorem j_tout (C : jc p s m args c cc nL own Ts A) {x : Int32} {dflt lo hi : Int} {offs : Array Int} {len : Nat} {tgt : Nat} (hd : decode cc pc = .ok (.tableswitch dflt lo hi offs, len)) (h : x.toInt < lo ∨ hi < x.toInt) (ht : (pc : Int) + dflt = (tgt : Int)) (k : jw p l e R s m args below meth c nL D A cells slots Q ws lv tgt st) : jw p l e R s m args below meth c nL D A cells slots Q ws lv pc (.int x :: st) := fun H locs ls hP hD hS hl => lv_tableOut C.1 C.2.1 hd h ht (k H locs ls hP hD hS hl)
theorem j_get (C : jc p s m args c cc nL own Ts A) (K : jk D tys s) {Cn : String} {T : u_T} {N ci index a : Nat} (hin : ∀ w ∈ u_ws Cn T N, w ∈ Ts) (q0 : Nat) {fs : List Value} (he : ws[q0]? = some (a, .inr (ci, fs))) (hc : vwCl[ci]? = some (Cn, T, N)) (k : Nat) (hk : k < N) (hlink : Cond.fieldLink own index (T k).1 (T k).2.1 (T k).2.2.1 ∈ Ts) {v : Value} (hv : fs[k]? = some v) (hd : decode cc pc = .ok (.getfield index, 3)) (kk : jw p l e R s m args below meth c nL D A cells slots Q ws lv (pc + 3) (v :: st)) : jw p l e R s m args below meth c nL D A cells slots Q ws lv pc (.ref a :: st) := fun H locs ls hP hD hS hl => va_get C.1 C.2.1 C.2.2.2.2.1 hin C.2.2.2.1 K.1 hP q0 he hc k hk (C.2.2.2.2.1 _ hlink) (fun _ h => h) hv hd (kk H locs ls hP hD hS hl)
theorem j_getN (C : jc p s m args c cc nL own Ts A) (K : jk D tys s) {Cn : String} {T : u_T} {N ci index a : Nat} (hin : ∀ w ∈ u_ws Cn T N, w ∈ Ts) (q0 : Nat) {fs : List Value} (he : ws[q0]? = some (a, .inr (ci, fs))) (hc : vwCl[ci]? = some (Cn, T, N)) (k : Nat) (hk : k < N) {host : String} (hlink : Cond.fieldLinkNest own index (T k).1 (T k).2.1 (T k).2.2.1 host ∈ nwL) {v : Value} (hv : fs[k]? = some v) (hd : decode cc pc = .ok (.getfield index, 3)) (kk : jw p l e R s m args below meth c nL D A cells slots Q ws lv (pc + 3) (v :: st)) : jw p l e R s m args below meth c nL D A cells slots Q ws lv pc (.ref a :: st) := fun H locs ls hP hD hS hl => va_getN C.1 C.2.1 C.2.2.2.2.1 hin C.2.2.2.1 K.1 hP q0 he hc k hk (va_Nw.use rfl (K.2 _ hlink)) (fun _ h => h) hv hd (kk H locs ls hP hD hS hl)
theorem j_put (C : jc p s m args c cc nL own Ts A) (K : jk D tys s) {Cn : String} {T : u_T} {N ci index a : Nat} (hin : ∀ w ∈ u_ws Cn T N, w ∈ Ts) (ty0 : Nat → FieldType) (hty : ∀ k, k < N → parseFieldDescriptor (T k).2.2.1 = some (ty0 k)) (hnm : ∀ a, a < N → ∀ b, b < N → a ≠ b → (T a).2.1 ≠ (T b).2.1) (q0 : Nat) {fs : List Value} (he : ws[q0]? = some (a, .inr (ci, fs))) (hc : vwCl[ci]? = some (Cn, T, N)) (k : Nat) (hk : k < N) (hlink : Cond.fieldLink own index (T k).1 (T k).2.1 (T k).2.2.1 ∈ Ts) (hfin : (T k).2.2.2 = false) {ty : FieldType} {v : Value} (hdt : parseFieldDescriptor (T k).2.2.1 = some ty) (hn : narrow ty v = v) (hfit : fits ty v = true) (hlen : k < fs.length) {ws' : va_W} (hset : ws.set q0 (a, .inr (ci, fs.set k v)) = ws') (hd : decode cc pc = .ok (.putfield index, 3)) (kk : jw p l e R s m args below meth c nL D A cells slots Q ws' lv (pc + 3) st) : jw p l e R s m args below meth c nL D A cells slots Q ws lv pc (v :: .ref a :: st) := by
  subst hset
  exact fun H locs ls hP hD hS hl => va_put C.1 C.2.1 C.2.2.2.2.1 hin ty0 hty hnm C.2.2.2.1 K.1 hP hD hS q0 he hc k hk (C.2.2.2.2.1 _ hlink) (fun _ h => h) hfin hdt hn hfit hlen hd (fun H1 locs1 hP1 hD1 hS1 => kk H1 locs1 ls hP1 hD1 hS1 hl)
theorem j_putN (C : jc p s m args c cc nL own Ts A) (K : jk D tys s) {Cn : String} {T : u_T} {N ci index a : Nat} (hin : ∀ w ∈ u_ws Cn T N, w ∈ Ts) (ty0 : Nat → FieldType) (hty : ∀ k, k < N → parseFieldDescriptor (T k).2.2.1 = some (ty0 k)) (hnm : ∀ a, a < N → ∀ b, b < N → a ≠ b → (T a).2.1 ≠ (T b).2.1) (q0 : Nat) {fs : List Value} (he : ws[q0]? = some (a, .inr (ci, fs))) (hc : vwCl[ci]? = some (Cn, T, N)) (k : Nat) (hk : k < N) {host : String} (hlink : Cond.fieldLinkNest own index (T k).1 (T k).2.1 (T k).2.2.1 host ∈ nwL) (hfin : (T k).2.2.2 = false) {ty : FieldType} {v : Value} (hdt : parseFieldDescriptor (T k).2.2.1 = some ty) (hn : narrow ty v = v) (hfit : fits ty v = true) (hlen : k < fs.length) {ws' : va_W} (hset : ws.set q0 (a, .inr (ci, fs.set k v)) = ws') (hd : decode cc pc = .ok (.putfield index, 3)) (kk : jw p l e R s m args below meth c nL D A cells slots Q ws' lv (pc + 3) st) : jw p l e R s m args below meth c nL D A cells slots Q ws lv pc (v :: .ref a :: st) := by
  subst hset
  exact fun H locs ls hP hD hS hl => va_putN C.1 C.2.1 C.2.2.2.2.1 hin ty0 hty hnm C.2.2.2.1 K.1 hP hD hS q0 he hc k hk (va_Nw.use rfl (K.2 _ hlink)) (fun _ h => h) hfin hdt hn hfit hlen hd (fun H1 locs1 hP1 hD1 hS1 => kk H1 locs1 ls hP1 hD1 hS1 hl)
theorem j_iald (C : jc p s m args c cc nL own Ts A) (K : jk D tys s) (q0 t0 : Nat) {a : Nat} {cA : ClassId} {n : Nat} {f : Nat → Int32} (ha : ws[q0]? = some (a, .inl (cA, n, .inl f))) (ht : tys[t0]? = some (cA, .int)) {i : Int32} (hin : inb i n = true) (hd : decode cc pc = .ok (.iaload, 1)) (kk : jw p l e R s m args below meth c nL D A cells slots Q ws lv (pc + 1) (.int (f i.toNatClampNeg) :: st)) : jw p l e R s m args below meth c nL D A cells slots Q ws lv pc (.int i :: .ref a :: st) := fun H locs ls hP hD hS hl => va_iald C.1 C.2.1 K.1 hP q0 t0 ha ht (inb_in hin) hd (kk H locs ls hP hD hS hl)
theorem j_iast (C : jc p s m args c cc nL own Ts A) (K : jk D tys s) (q0 t0 : Nat) {a : Nat} {cA : ClassId} {n : Nat} {f : Nat → Int32} (ha : ws[q0]? = some (a, .inl (cA, n, .inl f))) (ht : tys[t0]? = some (cA, .int)) {i x : Int32} (hin : inb i n = true) {ws' : va_W} (hset : ws.set q0 (a, .inl (cA, n, .inl (upd f i.toNatClampNeg x))) = ws') (hd : decode cc pc = .ok (.iastore, 1)) (kk : jw p l e R s m args below meth c nL D A cells slots Q ws' lv (pc + 1) st) : jw p l e R s m args below meth c nL D A cells slots Q ws lv pc (.int x :: .int i :: .ref a :: st) := by
  subst hset
  exact fun H locs ls hP hD hS hl => va_iast C.1 C.2.1 K.1 hP hD hS q0 t0 ha ht (inb_in hin) hd (fun H1 locs1 hP1 hD1 hS1 => kk H1 locs1 ls hP1 hD1 hS1 hl)
theorem j_aald (C : jc p s m args c cc nL own Ts A) (K : jk D tys s) (q0 t0 : Nat) {a : Nat} {cA : ClassId} {Cn : String} {n : Nat} {f : Nat → Option Nat} (ha : ws[q0]? = some (a, .inl (cA, n, .inr (.inr (.inr (.inr f)))))) (ht : tys[t0]? = some (cA, .object Cn)) {i : Int32} (hin : inb i n = true) {b : Nat} (hb : f i.toNatClampNeg = some b) (hd : decode cc pc = .ok (.aaload, 1)) (kk : jw p l e R s m args below meth c nL D A cells slots Q ws lv (pc + 1) (.ref b :: st)) : jw p l e R s m args below meth c nL D A cells slots Q ws lv pc (.int i :: .ref a :: st) := fun H locs ls hP hD hS hl => va_aldq C.1 C.2.1 K.1 hP q0 t0 ha ht (inb_in hin) hd (by rw [hb]; exact kk H locs ls hP hD hS hl)
theorem j_lv {lv' : List (Nat × Value)} (ks : List Nat) (h : lv_pick lv ks = lv') (k : jw p l e R s m args below meth c nL D A cells slots Q ws lv' pc st) : jw p l e R s m args below meth c nL D A cells slots Q ws lv pc st := fun H locs ls hP hD hS hl => k H locs ls hP hD hS (lv_sub hl ks h)
theorem j_ws {ws' : va_W} (h : ws = ws') (k : jw p l e R s m args below meth c nL D A cells slots Q ws' lv pc st) : jw p l e R s m args below meth c nL D A cells slots Q ws lv pc st := by rw [h]; exact k
/-- a method's start -/
def jpre (D : va_G) (tys : List (ClassId × FieldType)) (ws : va_W) (sz : Nat) (U : State) : Prop := U.heap.size = sz ∧ va_P D vwCl ws U.heap ∧ jk D tys U ∧ va_D (fun _ => True) ws
/-- a method's world behind it -/
def jpost (D : va_G) (tys : List (ClassId × FieldType)) (ws : va_W) (A : Nat → Prop) (_ : Unit) (t : State) : Prop := va_P D vwCl ws t.heap ∧ va_K D vwCl tys t ∧ va_D A ws
/-- THE CONTRACTS: from ws with the arguments av the method answers r (nothing), its world is ws' then -/
def ji (l : Launch) (y : MethodName) (wy : List Cond) (rm : Room) (D : va_G) (tys : List (ClassId × FieldType)) (av : List Value) (ws ws' : va_W) (r : Int32) : Prop :=
  ∀ sz : Nat, Met l y wy rm (va_Pc av (jpre D tys ws sz)) (va_Qi (fun x (_ : Unit) => x = r) (jpost D tys ws' (va_A ws sz)) (va_A ws sz)) 0 0 (va_A ws sz)
def jv (l : Launch) (y : MethodName) (wy : List Cond) (rm : Room) (D : va_G) (tys : List (ClassId × FieldType)) (av : List Value) (ws ws' : va_W) : Prop :=
  ∀ sz : Nat, Met l y wy rm (va_Pc av (jpre D tys ws sz)) (va_Qv (fun (_ : Unit) => True) (jpost D tys ws' (va_A ws sz)) (va_A ws sz)) 0 0 (va_A ws sz)
theorem jpre_blind {D : va_G} {tys : List (ClassId × FieldType)} {ws : va_W} {sz : Nat} {av : List Value} : FrameBlind (va_Pc av (jpre D tys ws sz)) := fun a U g mk q => by
  obtain ⟨q0, q1, qP, qK, qD⟩ := q
  exact ⟨q0, q1, qP, ⟨va_K.moved (u := U) (U := U.calling g mk a) (Vm.Alike.refl U.vm) qK.1, qK.2.call g mk a⟩, qD⟩
/-- where a method ends: its answer, its world -/
def jqi (below : List Frame) (D : va_G) (tys : List (ClassId × FieldType)) (args : Array Value) (s : State) (A : Nat → Prop) (ws' : va_W) (r : Int32) : State → Prop := MQ below (va_Qi (fun x (_ : Unit) => x = r) (jpost D tys ws' A) A) args s 0 0 A
def jqv (below : List Frame) (D : va_G) (tys : List (ClassId × FieldType)) (args : Array Value) (s : State) (A : Nat → Prop) (ws' : va_W) : State → Prop := MQ below (va_Qv (fun (_ : Unit) => True) (jpost D tys ws' A) A) args s 0 0 A
theorem j_iret (C : jc p s m args c cc nL own Ts A) (K : jk D tys s) (hr : meth.sig.returnType = some .int) (hlk : meth.locks = false) {r : Int32} (hd : decode cc pc = .ok (.ireturn, 1)) : jw p l e R s m args below meth c nL D A 0 0 (jqi below D tys args s A ws r) ws lv pc [.int r] := fun H locs ls hP hD hS hl => W.iret C.1 C.2.1 hr (fun t ht hW => ⟨⟨r, (), rfl, rfl, by rw [ht]; exact hP, va_K.moved hW.alike K.1, hD⟩, hS.F ht⟩) hS.2.2 hd hlk
theorem j_zret (C : jc p s m args c cc nL own Ts A) (K : jk D tys s) (hr : meth.sig.returnType = some .boolean) (hlk : meth.locks = false) {r : Int32} (hn : narrow .boolean (.int r) = .int r) (hd : decode cc pc = .ok (.ireturn, 1)) : jw p l e R s m args below meth c nL D A 0 0 (jqi below D tys args s A ws r) ws lv pc [.int r] := fun H locs ls hP hD hS hl => W.zret C.1 C.2.1 hr hn (fun t ht hW => ⟨⟨r, (), rfl, rfl, by rw [ht]; exact hP, va_K.moved hW.alike K.1, hD⟩, hS.F ht⟩) hS.2.2 hd hlk
theorem j_vret (C : jc p s m args c cc nL own Ts A) (K : jk D tys s) (hr : meth.sig.returnType = none) (hlk : meth.locks = false) (hd : decode cc pc = .ok (.return_, 1)) : jw p l e R s m args below meth c nL D A 0 0 (jqv below D tys args s A ws) ws lv pc [] := fun H locs ls hP hD hS hl => W.vret C.1 C.2.1 hr (fun t ht hW => ⟨⟨(), rfl, trivial, by rw [ht]; exact hP, va_K.moved hW.alike K.1, hD⟩, hS.F ht⟩) hS.2.2 hd hlk
theorem j_mi {y : MethodName} {wy wy' : List Cond} {rm : Room} {maxL : Nat} {av : List Value} {ws ws' : va_W} {ret : Option FieldType} {r : Int32} (hy : plainName y.cls = true) (hw : wy = Cond.code y cc maxL ret :: wy') (hcls : y.cls = own) (hlen : (lg_sl av).length ≤ maxL)
    (body : ∀ (p : Program) (e : Env) (s : State) (m : MethodId) (args : Array Value) (below : List Frame) (meth : Method) (c : Code) (A : Nat → Prop), jc p s m args c cc maxL own wy A → jk D tys s → meth.sig.returnType = ret → meth.locks = false → jw p l e rm s m args below meth c maxL D A 0 0 (jqi below D tys args s A ws' r) ws (lv_args 0 av) 0 []) : ji l y wy rm D tys av ws ws' r := by
  intro sz
  refine Met.ofW (cc := cc) (maxL := maxL) (ret := ret) hy hw ?_
  intro p e s m args below meth c s₁ B hml hv
  obtain ⟨rfl, hsz, hP, hK, hD0⟩ := hv
  subst hsz
  have hown : s.vm.findClass own = some m.cls := by rw [← hcls]; exact findClass_of_methodNamed B.named
  have hl := lv_entry av (n := maxL) hlen
  rw [lg_entry_eq]
  exact body p e s m _ below meth c _ ⟨B.exec, B.bytes, hml, hown, atoms_spec (ws := wy) B.pre, fun q h => Or.inr h⟩ hK B.returns B.notSynchronized s.heap [] _ hP (hD0.self (sz := s.heap.size)) va_S.rf hl
theorem j_mv {y : MethodName} {wy wy' : List Cond} {rm : Room} {maxL : Nat} {av : List Value} {ws ws' : va_W} (hy : plainName y.cls = true) (hw : wy = Cond.code y cc maxL none :: wy') (hcls : y.cls = own) (hlen : (lg_sl av).length ≤ maxL)
    (body : ∀ (p : Program) (e : Env) (s : State) (m : MethodId) (args : Array Value) (below : List Frame) (meth : Method) (c : Code) (A : Nat → Prop), jc p s m args c cc maxL own wy A → jk D tys s → meth.sig.returnType = none → meth.locks = false → jw p l e rm s m args below meth c maxL D A 0 0 (jqv below D tys args s A ws') ws (lv_args 0 av) 0 []) : jv l y wy rm D tys av ws ws' := by
  intro sz
  refine Met.ofW (cc := cc) (maxL := maxL) (ret := none) hy hw ?_
  intro p e s m args below meth c s₁ B hml hv
  obtain ⟨rfl, hsz, hP, hK, hD0⟩ := hv
  subst hsz
  have hown : s.vm.findClass own = some m.cls := by rw [← hcls]; exact findClass_of_methodNamed B.named
  have hl := lv_entry av (n := maxL) hlen
  rw [lg_entry_eq]
  exact body p e s m _ below meth c _ ⟨B.exec, B.bytes, hml, hown, atoms_spec (ws := wy) B.pre, fun q h => Or.inr h⟩ hK B.returns B.notSynchronized s.heap [] _ hP (hD0.self (sz := s.heap.size)) va_S.rf hl
/-- behind a call: which cells are the callee's, which the rest -/
def jsp (isC : List Nat) (ws w1 ws' : va_W) : Prop := ∀ (k : Nat) (q : Nat × va_E), ws'[k]? = some q → (k ∉ isC ∧ ws[k]? = some q) ∨ (∃ i : Nat, isC[i]? = some k ∧ w1[i]? = some q)
theorem jn {A0 : Nat → Prop} {D : va_G} {ws wc w1 ws' : va_W} {H H1 : Heap} (isC : List Nat) (hP : va_P D vwCl ws H) (hD : va_D A0 ws) (hC : isC.map (fun i => ws[i]?) = wc.map some) (hsp : jsp isC ws w1 ws') (hk : ∀ q : Nat, q < H.size → ¬ va_A wc H.size q → H1[q]? = H[q]?) (hF : ∀ q, va_A wc H.size q → A0 q) (hP1 : va_P D vwCl w1 H1) (hD1 : va_D (va_A wc H.size) w1) : va_P D vwCl ws' H1 ∧ va_D A0 ws' := by
  have apart : ∀ (k : Nat) (q : Nat × va_E), k ∉ isC → ws[k]? = some q → q.1 < H.size ∧ ¬ va_A wc H.size q.1 := by
    intro k q hk hq
    have hl := (hP k q hq).lt
    refine ⟨hl, fun h => ?_⟩
    rcases h with ⟨k2, e, h⟩ | h
    · obtain ⟨j, h5, h6⟩ := va_in_of isC hC h
      have hij := hD.1 k j q (q.1, e) hq h6 rfl
      subst hij
      exact hk (List.mem_of_getElem? h5)
    · omega
  refine ⟨fun k q hq => ?_, fun i j x y hx hy hxy => ?_, fun k q hq => ?_⟩
  · rcases hsp k q hq with ⟨h1, h2⟩ | ⟨i, h1, h2⟩
    · obtain ⟨g1, g2⟩ := apart k q h1 h2
      exact (hP k q h2).kept (hk q.1 g1 g2)
    · exact hP1 i q h2
  · rcases hsp i x hx with ⟨h1, h2⟩ | ⟨i1, h1, h2⟩ <;> rcases hsp j y hy with ⟨h3, h4⟩ | ⟨j1, h3, h4⟩
    · exact hD.1 i j x y h2 h4 hxy
    · exact absurd (by rw [hxy]; exact hD1.2 j1 y h4) (apart i x h1 h2).2
    · exact absurd (by rw [← hxy]; exact hD1.2 i1 x h2) (apart j y h3 h4).2
    · have h5 := hD1.1 i1 j1 x y h2 h4 hxy
      subst h5
      exact Option.some.inj (h1.symm.trans h3)
  · rcases hsp k q hq with ⟨h1, h2⟩ | ⟨i, h1, h2⟩
    · exact hD.2 k q h2
    · exact hF q.1 (hD1.2 i q h2)
theorem jsp0 {ws : va_W} : jsp [] ws [] ws := fun k q h => Or.inl ⟨List.not_mem_nil, h⟩
theorem jsp1 {ws : va_W} {i : Nat} {x : Nat × va_E} (hi : i < ws.length) : jsp [i] ws [x] (ws.set i x) := by
  intro k q h
  by_cases hk : k = i
  · subst hk
    rw [List.getElem?_set_self hi] at h
    exact Or.inr ⟨0, rfl, h⟩
  · rw [List.getElem?_set_ne (Ne.symm hk)] at h
    exact Or.inl ⟨by simpa using hk, h⟩
theorem jsp2 {ws : va_W} {i j : Nat} {x y : Nat × va_E} (hi : i < ws.length) (hj : j < ws.length) (hij : i ≠ j) : jsp [i, j] ws [x, y] ((ws.set i x).set j y) := by
  intro k q h
  by_cases hk : k = j
  · subst hk
    rw [List.getElem?_set_self (by rw [List.length_set]; exact hj)] at h
    exact Or.inr ⟨1, rfl, h⟩
  · rw [List.getElem?_set_ne (Ne.symm hk)] at h
    by_cases hk2 : k = i
    · subst hk2
      rw [List.getElem?_set_self hi] at h
      exact Or.inr ⟨0, rfl, h⟩
    · rw [List.getElem?_set_ne (Ne.symm hk2)] at h
      exact Or.inl ⟨by simp [hk, hk2], h⟩
theorem jspF {ws ws' : va_W} {n : Nat} (hn : ws'.length = n) : jsp (List.range n) ws ws' ws' := by
  intro k q h
  have hk : k < ws'.length := (List.getElem?_eq_some_iff.mp h).1
  exact Or.inr ⟨k, by rw [List.getElem?_range (by omega)], h⟩
theorem jsp_eq {isC : List Nat} {ws w1 w2 ws' : va_W} (h : jsp isC ws w1 w2) (e : w2 = ws') : jsp isC ws w1 ws' := by rw [← e]; exact h
theorem jrange (ws : va_W) : (List.range ws.length).map (fun i => ws[i]?) = ws.map some := by
  apply List.ext_getElem?
  intro i
  rw [List.getElem?_map, List.getElem?_map]
  by_cases h : i < ws.length
  · rw [List.getElem?_range h, List.getElem?_eq_getElem h]
    simp [h]
  · rw [List.getElem?_eq_none (by simp; omega), List.getElem?_eq_none (by omega)]
    rfl
theorem j_callVi (C : jc p s m args c cc nL own Ts A) (K : jk D tys s) {y : MethodName} {wy wy' : List Cond} {rm : Room} {bytes : ByteArray} {maxL index : Nat} {ret : Option FieldType} {tysc : List (ClassId × FieldType)} {As rest : List Value} {wc w1 ws' : va_W} {r : Int32} {Cn : String} {b ci q0 : Nat} {fs : List Value} {q : vw_C} (hc : vwCl[ci]? = some q) (hq : q.1 = Cn) (hq0 : wc[q0]? = some (b, .inr (ci, fs))) (hM : ji l y wy rm D tysc (.ref b :: As) wc w1 r) (hT : GoodIn Ts (wsV own index Cn y wy)) (hw : wy = Cond.code y bytes maxL ret :: wy') (hrc : rm.cells = 0) (hrs : rm.slots = 0) (hdy : y.cls = Cn ∧ y.cls ≠ "java/lang/invoke/MethodHandle" ∧ y.cls ≠ "java/lang/invoke/VarHandle" ∧ (parseMethodDescriptor y.desc).map (fun d => d.parameters.length) = some As.length) (hR : rm.frames + 1 ≤ R.frames ∧ 8 + (maxL + 11) + rm.locals ≤ R.locals)
    (isC : List Nat) (hC : isC.map (fun i => ws[i]?) = wc.map some) (hnd : va_nd isC = true) (hsp : jsp isC ws w1 ws') (ist : List Nat) (hts : ist.filterMap (fun i => tys[i]?) = tysc) (hst : As.reverse ++ .ref b :: rest = st) (hroom : (rest.map fun v => v.category).sum ≤ 8) (hd : decode cc pc = .ok (.invokevirtual index, 3)) (hf : cells ≤ R.cells ∧ slots ≤ R.slots) (kk : jw p l e R s m args below meth c nL D A cells slots Q ws' lv (pc + 3) (.int r :: rest)) : jw p l e R s m args below meth c nL D A cells slots Q ws lv pc st := by
  subst hst
  intro H locs ls hP hD hS hl
  have hPc : va_P D vwCl wc H := fun k q hq => by
    obtain ⟨i, -, h2⟩ := va_in_of isC hC hq
    exact hP i q h2
  have hDc : va_D A wc := hD.sub isC hnd hC
  have hKc := K.1.sub ist hts
  have hFc := va_free (wc := wc) hD hS C.2.2.2.2.2 isC hC
  have hpre : ∀ U : State, U.heap = H → s.WarmedH U.vm → va_Pc (.ref b :: As) (jpre D tysc wc H.size) ((.ref b :: As) : List Value).toArray U := fun U hU hW => ⟨rfl, by rw [hU], by rw [hU]; exact hPc, ⟨va_K.moved hW.alike hKc, K.2.warm hW⟩, hDc.weaken (fun _ _ _ _ => trivial)⟩
  refine va_calli (va_runV (As := As) (rest := rest) ⟨C.1, C.2.1, C.2.2.1, C.2.2.2.1, C.2.2.2.2.1⟩ (hM H.size) (cwV (R := R) As.length C.2.2.2.2.1 hT hw hrc hrs hdy hR) ⟨jpre_blind, by rw [← hq]; exact va_recv K.1 hPc hc hq0, hpre⟩ rfl rfl (hl.1) rfl (lv_room hroom) hd ⟨hf.1, hf.2⟩) hS (fun q _ h => hFc q h) hFc (fun r2 u t H1 locs1 ht hvm hw hB hz1 hk1 hS1 => ?_)
  subst hw
  obtain ⟨hP1, hK1, hD1⟩ := hB
  rw [ht] at hP1
  obtain ⟨hP2, hD2⟩ := jn isC hP hD hC hsp hk1 hFc hP1 hD1
  exact kk H1 locs1 ls hP2 hD2 hS1 hl
theorem j_callVv (C : jc p s m args c cc nL own Ts A) (K : jk D tys s) {y : MethodName} {wy wy' : List Cond} {rm : Room} {bytes : ByteArray} {maxL index : Nat} {tysc : List (ClassId × FieldType)} {As rest : List Value} {wc w1 ws' : va_W} {Cn : String} {b ci q0 : Nat} {fs : List Value} {q : vw_C} (hc : vwCl[ci]? = some q) (hq : q.1 = Cn) (hq0 : wc[q0]? = some (b, .inr (ci, fs))) (hM : jv l y wy rm D tysc (.ref b :: As) wc w1) (hT : GoodIn Ts (wsV own index Cn y wy)) (hw : wy = Cond.code y bytes maxL none :: wy') (hrc : rm.cells = 0) (hrs : rm.slots = 0) (hdy : y.cls = Cn ∧ y.cls ≠ "java/lang/invoke/MethodHandle" ∧ y.cls ≠ "java/lang/invoke/VarHandle" ∧ (parseMethodDescriptor y.desc).map (fun d => d.parameters.length) = some As.length) (hR : rm.frames + 1 ≤ R.frames ∧ 8 + (maxL + 11) + rm.locals ≤ R.locals)
    (isC : List Nat) (hC : isC.map (fun i => ws[i]?) = wc.map some) (hnd : va_nd isC = true) (hsp : jsp isC ws w1 ws') (ist : List Nat) (hts : ist.filterMap (fun i => tys[i]?) = tysc) (hst : As.reverse ++ .ref b :: rest = st) (hroom : (rest.map fun v => v.category).sum ≤ 8) (hd : decode cc pc = .ok (.invokevirtual index, 3)) (hf : cells ≤ R.cells ∧ slots ≤ R.slots) (kk : jw p l e R s m args below meth c nL D A cells slots Q ws' lv (pc + 3) (rest)) : jw p l e R s m args below meth c nL D A cells slots Q ws lv pc st := by
  subst hst
  intro H locs ls hP hD hS hl
  have hPc : va_P D vwCl wc H := fun k q hq => by
    obtain ⟨i, -, h2⟩ := va_in_of isC hC hq
    exact hP i q h2
  have hDc : va_D A wc := hD.sub isC hnd hC
  have hKc := K.1.sub ist hts
  have hFc := va_free (wc := wc) hD hS C.2.2.2.2.2 isC hC
  have hpre : ∀ U : State, U.heap = H → s.WarmedH U.vm → va_Pc (.ref b :: As) (jpre D tysc wc H.size) ((.ref b :: As) : List Value).toArray U := fun U hU hW => ⟨rfl, by rw [hU], by rw [hU]; exact hPc, ⟨va_K.moved hW.alike hKc, K.2.warm hW⟩, hDc.weaken (fun _ _ _ _ => trivial)⟩
  refine va_callv (va_runV (As := As) (rest := rest) ⟨C.1, C.2.1, C.2.2.1, C.2.2.2.1, C.2.2.2.2.1⟩ (hM H.size) (cwV (R := R) As.length C.2.2.2.2.1 hT hw hrc hrs hdy hR) ⟨jpre_blind, by rw [← hq]; exact va_recv K.1 hPc hc hq0, hpre⟩ rfl rfl (hl.1) rfl (lv_room hroom) hd ⟨hf.1, hf.2⟩) hS (fun q _ h => hFc q h) hFc (fun u t H1 locs1 ht hvm hw hB hz1 hk1 hS1 => ?_)
  obtain ⟨hP1, hK1, hD1⟩ := hB
  rw [ht] at hP1
  obtain ⟨hP2, hD2⟩ := jn isC hP hD hC hsp hk1 hFc hP1 hD1
  exact kk H1 locs1 ls hP2 hD2 hS1 hl
theorem j_callSi (C : jc p s m args c cc nL own Ts A) (K : jk D tys s) {y : MethodName} {wy wy' : List Cond} {rm : Room} {bytes : ByteArray} {maxL index : Nat} {ret : Option FieldType} {tysc : List (ClassId × FieldType)} {As rest : List Value} {wc w1 ws' : va_W} {r : Int32} (hM : ji l y wy rm D tysc As wc w1 r) (hT : GoodIn Ts (va_wsS own index y wy)) (hw : wy = Cond.code y bytes maxL ret :: wy') (hrc : rm.cells = 0) (hrs : rm.slots = 0) (hdy : y.cls ≠ "java/lang/invoke/MethodHandle" ∧ y.cls ≠ "java/lang/invoke/VarHandle" ∧ (parseMethodDescriptor y.desc).map (fun d => d.parameters.length) = some As.length) (hR : rm.frames + 1 ≤ R.frames ∧ 8 + (maxL + 11) + rm.locals ≤ R.locals)
    (isC : List Nat) (hC : isC.map (fun i => ws[i]?) = wc.map some) (hnd : va_nd isC = true) (hsp : jsp isC ws w1 ws') (ist : List Nat) (hts : ist.filterMap (fun i => tys[i]?) = tysc) (hst : As.reverse ++ rest = st) (hroom : (rest.map fun v => v.category).sum ≤ 8) (hd : decode cc pc = .ok (.invokestatic index, 3)) (hf : cells ≤ R.cells ∧ slots ≤ R.slots) (kk : jw p l e R s m args below meth c nL D A cells slots Q ws' lv (pc + 3) (.int r :: rest)) : jw p l e R s m args below meth c nL D A cells slots Q ws lv pc st := by
  subst hst
  intro H locs ls hP hD hS hl
  have hPc : va_P D vwCl wc H := fun k q hq => by
    obtain ⟨i, -, h2⟩ := va_in_of isC hC hq
    exact hP i q h2
  have hDc : va_D A wc := hD.sub isC hnd hC
  have hKc := K.1.sub ist hts
  have hFc := va_free (wc := wc) hD hS C.2.2.2.2.2 isC hC
  have hpre : ∀ U : State, U.heap = H → s.WarmedH U.vm → va_Pc As (jpre D tysc wc H.size) (As : List Value).toArray U := fun U hU hW => ⟨rfl, by rw [hU], by rw [hU]; exact hPc, ⟨va_K.moved hW.alike hKc, K.2.warm hW⟩, hDc.weaken (fun _ _ _ _ => trivial)⟩
  refine va_calli (va_runS (As := As) (rest := rest) ⟨C.1, C.2.1, C.2.2.1, C.2.2.2.1, C.2.2.2.2.1⟩ (hM H.size) (va_cwS (R := R) As.length C.2.2.2.2.1 hT hw hrc hrs hdy hR) ⟨jpre_blind, hpre⟩ rfl rfl (hl.1) rfl (lv_room hroom) hd ⟨hf.1, hf.2⟩) hS (fun q _ h => hFc q h) hFc (fun r2 u t H1 locs1 ht hvm hw hB hz1 hk1 hS1 => ?_)
  subst hw
  obtain ⟨hP1, hK1, hD1⟩ := hB
  rw [ht] at hP1
  obtain ⟨hP2, hD2⟩ := jn isC hP hD hC hsp hk1 hFc hP1 hD1
  exact kk H1 locs1 ls hP2 hD2 hS1 hl
theorem j_callSv (C : jc p s m args c cc nL own Ts A) (K : jk D tys s) {y : MethodName} {wy wy' : List Cond} {rm : Room} {bytes : ByteArray} {maxL index : Nat} {tysc : List (ClassId × FieldType)} {As rest : List Value} {wc w1 ws' : va_W} (hM : jv l y wy rm D tysc As wc w1) (hT : GoodIn Ts (va_wsS own index y wy)) (hw : wy = Cond.code y bytes maxL none :: wy') (hrc : rm.cells = 0) (hrs : rm.slots = 0) (hdy : y.cls ≠ "java/lang/invoke/MethodHandle" ∧ y.cls ≠ "java/lang/invoke/VarHandle" ∧ (parseMethodDescriptor y.desc).map (fun d => d.parameters.length) = some As.length) (hR : rm.frames + 1 ≤ R.frames ∧ 8 + (maxL + 11) + rm.locals ≤ R.locals)
    (isC : List Nat) (hC : isC.map (fun i => ws[i]?) = wc.map some) (hnd : va_nd isC = true) (hsp : jsp isC ws w1 ws') (ist : List Nat) (hts : ist.filterMap (fun i => tys[i]?) = tysc) (hst : As.reverse ++ rest = st) (hroom : (rest.map fun v => v.category).sum ≤ 8) (hd : decode cc pc = .ok (.invokestatic index, 3)) (hf : cells ≤ R.cells ∧ slots ≤ R.slots) (kk : jw p l e R s m args below meth c nL D A cells slots Q ws' lv (pc + 3) (rest)) : jw p l e R s m args below meth c nL D A cells slots Q ws lv pc st := by
  subst hst
  intro H locs ls hP hD hS hl
  have hPc : va_P D vwCl wc H := fun k q hq => by
    obtain ⟨i, -, h2⟩ := va_in_of isC hC hq
    exact hP i q h2
  have hDc : va_D A wc := hD.sub isC hnd hC
  have hKc := K.1.sub ist hts
  have hFc := va_free (wc := wc) hD hS C.2.2.2.2.2 isC hC
  have hpre : ∀ U : State, U.heap = H → s.WarmedH U.vm → va_Pc As (jpre D tysc wc H.size) (As : List Value).toArray U := fun U hU hW => ⟨rfl, by rw [hU], by rw [hU]; exact hPc, ⟨va_K.moved hW.alike hKc, K.2.warm hW⟩, hDc.weaken (fun _ _ _ _ => trivial)⟩
  refine va_callv (va_runS (As := As) (rest := rest) ⟨C.1, C.2.1, C.2.2.1, C.2.2.2.1, C.2.2.2.2.1⟩ (hM H.size) (va_cwS (R := R) As.length C.2.2.2.2.1 hT hw hrc hrs hdy hR) ⟨jpre_blind, hpre⟩ rfl rfl (hl.1) rfl (lv_room hroom) hd ⟨hf.1, hf.2⟩) hS (fun q _ h => hFc q h) hFc (fun u t H1 locs1 ht hvm hw hB hz1 hk1 hS1 => ?_)
  obtain ⟨hP1, hK1, hD1⟩ := hB
  rw [ht] at hP1
  obtain ⟨hP2, hD2⟩ := jn isC hP hD hC hsp hk1 hFc hP1 hD1
  exact kk H1 locs1 ls hP2 hD2 hS1 hl
end JJ

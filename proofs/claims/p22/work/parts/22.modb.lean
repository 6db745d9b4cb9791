def FX3_lead_321 (x1 x2 x3 : Int32) (mW : Nat → Int32) (mC : Nat → Int32) (mL : Nat → Int32) (mtb : Int32) (mnC : Int32) (mnL : Int32) (mwr : Int32) (mwl : Int32) (mpl : Int32) (v6 v8 s0 s1 : Int32) : Option (Int32 × (Nat → Int32) × (Nat → Int32) × Int32 × Int32 × Int32 × Int32 × Int32) := if ((s1 >>> (s0 &&& 31)) &&& (1 : Int32)) = 0 then some (3, mC, mL, mnC, mnL, mwr, mwl, mpl) else gd (inb (v8 + 1) 30) (gd (inb (v8 + 3) 30) (some (0, mC, mL, mnC, mnL, mwr, mwl, (((256 : Int32) * (((mL (v8 + 3).toNatClampNeg) + (v6 &&& (((1 : Int32) <<< (((4 : Int32) * (mL (v8 + 1).toNatClampNeg)) &&& 31)) - 1))) &&& (63 : Int32))) + (x2 &&& (255 : Int32))))))
def FX3_lead_297 (x1 x2 x3 : Int32) (mW : Nat → Int32) (mC : Nat → Int32) (mL : Nat → Int32) (mtb : Int32) (mnC : Int32) (mnL : Int32) (mwr : Int32) (mwl : Int32) (mpl : Int32) (v6 v7 : Int32) : Option (Int32 × (Nat → Int32) × (Nat → Int32) × Int32 × Int32 × Int32 × Int32 × Int32) := gd (inb (((5 : Int32) * v7) + 4) 30) (if x3 = 0 then FX3_lead_321 x1 x2 x3 mW mC mL mtb mnC mnL mwr mwl mpl v6 ((5 : Int32) * v7) 0 (mL (((5 : Int32) * v7) + 4).toNatClampNeg) else FX3_lead_321 x1 x2 x3 mW mC mL mtb mnC mnL mwr mwl mpl v6 ((5 : Int32) * v7) 1 (mL (((5 : Int32) * v7) + 4).toNatClampNeg))
def FX3_lead_190 (x1 x2 x3 : Int32) : Nat → (Nat → Int32) → (Nat → Int32) → (Nat → Int32) → Int32 → Int32 → Int32 → Int32 → Int32 → Int32 → Int32 → Int32 → Int32 → Int32 → Int32 → Option (Int32 × (Nat → Int32) × (Nat → Int32) × Int32 × Int32 × Int32 × Int32 × Int32)
  | 0, _, _, _, _, _, _, _, _, _, _, _, _, _, _ => none
  | n + 1, mW, mC, mL, mtb, mnC, mnL, mwr, mwl, mpl, v5, v6, v7, v8, v9 => if v7 = (-1) then gd (inb (((256 : Int32) * v8) + ((v6 >>> (((4 : Int32) * v9) &&& 31)) &&& (15 : Int32))) 16384) (if ((mW (((256 : Int32) * v8) + ((v6 >>> (((4 : Int32) * v9) &&& 31)) &&& (15 : Int32))).toNatClampNeg) &&& (1 : Int32)) = 0 then some (2, mC, mL, mnC, mnL, (mwr + 1), mwl, mpl) else if v9 = 0 then if v9 ≤ 0 then bd3 (FX3_remember_ v5 v9 v6 (mW (((256 : Int32) * v8) + ((v6 >>> (((4 : Int32) * v9) &&& 31)) &&& (15 : Int32))).toNatClampNeg) mL mnL) (fun rq21 q21mL q21mnL => FX3_lead_190 x1 x2 x3 n mW mC q21mL mtb mnC q21mnL (mwr + 1) mwl mpl v5 v6 rq21 (((mW (((256 : Int32) * v8) + ((v6 >>> (((4 : Int32) * v9) &&& 31)) &&& (15 : Int32))).toNatClampNeg) >>> ((8 : Int32) &&& 31)) &&& (63 : Int32)) (v9 + (-1))) else if ((((mW (((256 : Int32) * v8) + ((v6 >>> (((4 : Int32) * v9) &&& 31)) &&& (15 : Int32))).toNatClampNeg) >>> ((8 : Int32) &&& 31)) &&& (63 : Int32)) &&& (15 : Int32)) = 0 then bd3 (FX3_remember_ v5 v9 v6 (mW (((256 : Int32) * v8) + ((v6 >>> (((4 : Int32) * v9) &&& 31)) &&& (15 : Int32))).toNatClampNeg) mL mnL) (fun rq23 q23mL q23mnL => FX3_lead_190 x1 x2 x3 n mW mC q23mL mtb mnC q23mnL (mwr + 1) mwl mpl v5 v6 rq23 (((mW (((256 : Int32) * v8) + ((v6 >>> (((4 : Int32) * v9) &&& 31)) &&& (15 : Int32))).toNatClampNeg) >>> ((8 : Int32) &&& 31)) &&& (63 : Int32)) (v9 + (-1))) else some (5, mC, mL, mnC, mnL, (mwr + 1), mwl, mpl) else if ((mW (((256 : Int32) * v8) + ((v6 >>> (((4 : Int32) * v9) &&& 31)) &&& (15 : Int32))).toNatClampNeg) &&& (8 : Int32)) = 0 then FX3_lead_190 x1 x2 x3 n mW mC mL mtb mnC mnL (mwr + 1) mwl mpl v5 v6 v7 (((mW (((256 : Int32) * v8) + ((v6 >>> (((4 : Int32) * v9) &&& 31)) &&& (15 : Int32))).toNatClampNeg) >>> ((8 : Int32) &&& 31)) &&& (63 : Int32)) (v9 + (-1)) else if v9 ≤ 0 then bd3 (FX3_remember_ v5 v9 v6 (mW (((256 : Int32) * v8) + ((v6 >>> (((4 : Int32) * v9) &&& 31)) &&& (15 : Int32))).toNatClampNeg) mL mnL) (fun rq26 q26mL q26mnL => FX3_lead_190 x1 x2 x3 n mW mC q26mL mtb mnC q26mnL (mwr + 1) mwl mpl v5 v6 rq26 (((mW (((256 : Int32) * v8) + ((v6 >>> (((4 : Int32) * v9) &&& 31)) &&& (15 : Int32))).toNatClampNeg) >>> ((8 : Int32) &&& 31)) &&& (63 : Int32)) (v9 + (-1))) else if ((((mW (((256 : Int32) * v8) + ((v6 >>> (((4 : Int32) * v9) &&& 31)) &&& (15 : Int32))).toNatClampNeg) >>> ((8 : Int32) &&& 31)) &&& (63 : Int32)) &&& (15 : Int32)) = 0 then bd3 (FX3_remember_ v5 v9 v6 (mW (((256 : Int32) * v8) + ((v6 >>> (((4 : Int32) * v9) &&& 31)) &&& (15 : Int32))).toNatClampNeg) mL mnL) (fun rq28 q28mL q28mnL => FX3_lead_190 x1 x2 x3 n mW mC q28mL mtb mnC q28mnL (mwr + 1) mwl mpl v5 v6 rq28 (((mW (((256 : Int32) * v8) + ((v6 >>> (((4 : Int32) * v9) &&& 31)) &&& (15 : Int32))).toNatClampNeg) >>> ((8 : Int32) &&& 31)) &&& (63 : Int32)) (v9 + (-1))) else some (5, mC, mL, mnC, mnL, (mwr + 1), mwl, mpl)) else FX3_lead_297 x1 x2 x3 mW mC mL mtb mnC mnL mwr mwl mpl v6 v7
def FX3_lead_93 (x1 x2 x3 : Int32) (mW : Nat → Int32) (mC : Nat → Int32) (mL : Nat → Int32) (mtb : Int32) (mnC : Int32) (mnL : Int32) (mwr : Int32) (mwl : Int32) (mpl : Int32) (v4 : Int32) : Option (Int32 × (Nat → Int32) × (Nat → Int32) × Int32 × Int32 × Int32 × Int32 × Int32) := gd (inb (((4 : Int32) * v4) + 1) 12) (if (mC (((4 : Int32) * v4) + 1).toNatClampNeg) = 1 then if 16384 ≤ x2 then some (4, mC, mL, mnC, mnL, mwr, mwl, x2) else some (0, mC, mL, mnC, mnL, mwr, mwl, x2) else gd (inb (((4 : Int32) * v4) + 3) 12) (bd1 (FX3_leafOf (mC (((4 : Int32) * v4) + 3).toNatClampNeg) (x2 >>> ((8 : Int32) &&& 31)) mL mnL) (fun rq12 => if rq12 = (-1) then gd (inb (((4 : Int32) * v4) + 2) 12) (FX3_lead_190 x1 x2 x3 fuel mW mC mL mtb mnC mnL mwr mwl mpl (mC (((4 : Int32) * v4) + 3).toNatClampNeg) (x2 >>> ((8 : Int32) &&& 31)) rq12 (mC (((4 : Int32) * v4) + 2).toNatClampNeg) 2) else FX3_lead_297 x1 x2 x3 mW mC mL mtb mnC mnL mwr (mwl + 1) mpl (x2 >>> ((8 : Int32) &&& 31)) rq12)))
def FX3_lead (x1 x2 x3 : Int32) (mW : Nat → Int32) (mC : Nat → Int32) (mL : Nat → Int32) (mtb : Int32) (mnC : Int32) (mnL : Int32) (mwr : Int32) (mwl : Int32) (mpl : Int32) : Option (Int32 × (Nat → Int32) × (Nat → Int32) × Int32 × Int32 × Int32 × Int32 × Int32) := if x2 < 0 then some (4, mC, mL, mnC, mnL, mwr, mwl, mpl) else if x2 ≤ 1048575 then bd1 (FX3_contextOf x1 mC mnC) (fun rq3 => if rq3 = (-1) then gd (inb (mtb + ((2 : Int32) * x1)) 16384) (gd (inb ((mtb + ((2 : Int32) * x1)) + 1) 16384) (if ((mW (mtb + ((2 : Int32) * x1)).toNatClampNeg) &&& (1 : Int32)) = 0 then some (1, mC, mL, mnC, mnL, (mwr + 1), mwl, mpl) else bd2 (FX3_remember x1 (mW (mtb + ((2 : Int32) * x1)).toNatClampNeg) (mW ((mtb + ((2 : Int32) * x1)) + 1).toNatClampNeg) mC mnC) (fun q8mC q8mnC => FX3_lead_93 x1 x2 x3 mW q8mC mL mtb q8mnC mnL (mwr + 1) mwl mpl (q8mnC - 1)))) else FX3_lead_93 x1 x2 x3 mW mC mL mtb mnC mnL mwr mwl mpl rq3) else some (4, mC, mL, mnC, mnL, mwr, mwl, mpl)
def FX3_may (x1 x2 x3 : Int32) (mW : Nat → Int32) (mC : Nat → Int32) (mL : Nat → Int32) (mR : Nat → Int32) (mtb : Int32) (mnC : Int32) (mnL : Int32) (mnR : Int32) (mov : Int32) (mwr : Int32) (mwl : Int32) (mft : Int32) (mpl : Int32) : Option (Int32 × (Nat → Int32) × (Nat → Int32) × (Nat → Int32) × Int32 × Int32 × Int32 × Int32 × Int32 × Int32 × Int32 × Int32) := bd8 (FX3_lead x1 x2 x3 mW mC mL mtb mnC mnL mwr mwl mpl) (fun rq1 q1mC q1mL q1mnC q1mnL q1mwr q1mwl q1mpl => if rq1 = 0 then some (1, q1mC, q1mL, mR, q1mnC, q1mnL, mnR, mov, q1mwr, q1mwl, rq1, q1mpl) else if mnR = 6 then some (0, q1mC, q1mL, mR, q1mnC, q1mnL, mnR, 1, q1mwr, q1mwl, rq1, q1mpl) else gd (inb ((4 : Int32) * mnR) 24) (gd (inb (((4 : Int32) * mnR) + 1) 24) (if x3 = 0 then gd (inb (((4 : Int32) * mnR) + 2) 24) (gd (inb (((4 : Int32) * mnR) + 3) 24) (some (0, q1mC, q1mL, (upd (upd (upd (upd mR ((4 : Int32) * mnR).toNatClampNeg rq1) (((4 : Int32) * mnR) + 1).toNatClampNeg x1) (((4 : Int32) * mnR) + 2).toNatClampNeg 0) (((4 : Int32) * mnR) + 3).toNatClampNeg x2), q1mnC, q1mnL, (mnR + 1), mov, q1mwr, q1mwl, rq1, q1mpl))) else gd (inb (((4 : Int32) * mnR) + 2) 24) (gd (inb (((4 : Int32) * mnR) + 3) 24) (some (0, q1mC, q1mL, (upd (upd (upd (upd mR ((4 : Int32) * mnR).toNatClampNeg rq1) (((4 : Int32) * mnR) + 1).toNatClampNeg x1) (((4 : Int32) * mnR) + 2).toNatClampNeg 1) (((4 : Int32) * mnR) + 3).toNatClampNeg x2), q1mnC, q1mnL, (mnR + 1), mov, q1mwr, q1mwl, rq1, q1mpl))))))
def FX3_read (x1 x2 : Int32) (mW : Nat → Int32) (mC : Nat → Int32) (mL : Nat → Int32) (mR : Nat → Int32) (mtb : Int32) (mnC : Int32) (mnL : Int32) (mnR : Int32) (mov : Int32) (mwr : Int32) (mwl : Int32) (mft : Int32) (mth : Int32) (mpl : Int32) : Option (Int32 × (Nat → Int32) × (Nat → Int32) × (Nat → Int32) × Int32 × Int32 × Int32 × Int32 × Int32 × Int32 × Int32 × Int32 × Int32) := bd1 (FX3_isDevice x1) (fun rq1 => if rq1 = 0 then some (0, mC, mL, mR, mnC, mnL, mnR, mov, mwr, mwl, mft, 1, mpl) else bd12 (FX3_may x1 x2 0 mW mC mL mR mtb mnC mnL mnR mov mwr mwl mft mpl) (fun rq3 q3mC q3mL q3mR q3mnC q3mnL q3mnR q3mov q3mwr q3mwl q3mft q3mpl => if rq3 = 0 then some (0, q3mC, q3mL, q3mR, q3mnC, q3mnL, q3mnR, q3mov, q3mwr, q3mwl, q3mft, 0, q3mpl) else gd (inb q3mpl 16384) (some ((mW q3mpl.toNatClampNeg), q3mC, q3mL, q3mR, q3mnC, q3mnL, q3mnR, q3mov, q3mwr, q3mwl, q3mft, 0, q3mpl))))
def FX3_write (x1 x2 x3 : Int32) (mW : Nat → Int32) (mC : Nat → Int32) (mL : Nat → Int32) (mR : Nat → Int32) (mtb : Int32) (mnC : Int32) (mnL : Int32) (mnR : Int32) (mov : Int32) (mwr : Int32) (mwl : Int32) (mft : Int32) (mth : Int32) (mpl : Int32) : Option (Int32 × (Nat → Int32) × (Nat → Int32) × (Nat → Int32) × (Nat → Int32) × Int32 × Int32 × Int32 × Int32 × Int32 × Int32 × Int32 × Int32 × Int32) := bd1 (FX3_isDevice x1) (fun rq1 => if rq1 = 0 then some (0, mW, mC, mL, mR, mnC, mnL, mnR, mov, mwr, mwl, 0, 0, mpl) else bd12 (FX3_may x1 x2 1 mW mC mL mR mtb mnC mnL mnR mov mwr mwl 0 mpl) (fun rq3 q3mC q3mL q3mR q3mnC q3mnL q3mnR q3mov q3mwr q3mwl q3mft q3mpl => if rq3 = 0 then some (0, mW, q3mC, q3mL, q3mR, q3mnC, q3mnL, q3mnR, q3mov, q3mwr, q3mwl, q3mft, 0, q3mpl) else gd (inb q3mpl 16384) (some (1, (upd mW q3mpl.toNatClampNeg x3), q3mC, q3mL, q3mR, q3mnC, q3mnL, q3mnR, q3mov, q3mwr, q3mwl, q3mft, 0, q3mpl))))
def FX3_fault (mft : Int32) (mth : Int32) : Option (Int32 × Int32) := some (mft, 0)
def FX3_ring (x1 x2 x3 : Int32) (mE : Nat → Int32) (mth : Int32) : Option (Int32 × (Nat → Int32) × Int32) := bd1 (FX3_isDevice x1) (fun rq1 => if rq1 = 0 then some (0, mE, 0) else if x2 < 0 then some (0, mE, 0) else if 1048572 < x2 then some (0, mE, 0) else gd (nz 4) (if (x2 - x2 / 4 * 4) = 0 then if x3 < 1 then some (0, mE, 0) else if x3 ≤ 64 then gd (inb ((11 : Int32) * x1) 88) (gd (inb (((11 : Int32) * x1) + 1) 88) (gd (inb (((11 : Int32) * x1) + 2) 88) (gd (inb (((11 : Int32) * x1) + 3) 88) (gd (inb (((11 : Int32) * x1) + 4) 88) (gd (inb (((11 : Int32) * x1) + 6) 88) (some (1, (upd (upd (upd (upd (upd (upd mE ((11 : Int32) * x1).toNatClampNeg x2) (((11 : Int32) * x1) + 1).toNatClampNeg x3) (((11 : Int32) * x1) + 2).toNatClampNeg 0) (((11 : Int32) * x1) + 3).toNatClampNeg 0) (((11 : Int32) * x1) + 4).toNatClampNeg 0) (((11 : Int32) * x1) + 6).toNatClampNeg (-1)), 0))))))) else some (0, mE, 0) else some (0, mE, 0)))
def FX3_tail (x1 x2 : Int32) (mE : Nat → Int32) (mth : Int32) : Option (Int32 × (Nat → Int32) × Int32) := bd1 (FX3_isDevice x1) (fun rq1 => if rq1 = 0 then some ((-1), mE, 0) else if x2 < 0 then some ((-1), mE, 0) else gd (inb (((11 : Int32) * x1) + 1) 88) (if x2 < (mE (((11 : Int32) * x1) + 1).toNatClampNeg) then gd (inb (((11 : Int32) * x1) + 3) 88) (gd (inb (((11 : Int32) * x1) + 4) 88) (if ((upd mE (((11 : Int32) * x1) + 3).toNatClampNeg x2) (((11 : Int32) * x1) + 4).toNatClampNeg) = 0 then gd (inb (((11 : Int32) * x1) + 2) 88) (if ((upd mE (((11 : Int32) * x1) + 3).toNatClampNeg x2) (((11 : Int32) * x1) + 2).toNatClampNeg) = x2 then gd (inb (((11 : Int32) * x1) + 4) 88) (some (((upd mE (((11 : Int32) * x1) + 3).toNatClampNeg x2) (((11 : Int32) * x1) + 4).toNatClampNeg), (upd mE (((11 : Int32) * x1) + 3).toNatClampNeg x2), 0)) else gd (inb (((11 : Int32) * x1) + 4) 88) (gd (inb (((11 : Int32) * x1) + 4) 88) (some (((upd (upd mE (((11 : Int32) * x1) + 3).toNatClampNeg x2) (((11 : Int32) * x1) + 4).toNatClampNeg 1) (((11 : Int32) * x1) + 4).toNatClampNeg), (upd (upd mE (((11 : Int32) * x1) + 3).toNatClampNeg x2) (((11 : Int32) * x1) + 4).toNatClampNeg 1), 0)))) else gd (inb (((11 : Int32) * x1) + 4) 88) (some (((upd mE (((11 : Int32) * x1) + 3).toNatClampNeg x2) (((11 : Int32) * x1) + 4).toNatClampNeg), (upd mE (((11 : Int32) * x1) + 3).toNatClampNeg x2), 0)))) else some ((-1), mE, 0)))
theorem lkX3_lead_k52 : Cond.constant RX3 52 1048575 ∈ wsX3_lead := by decide +kernel
theorem lkX3_lead_9 : Cond.fieldLink RX3 9 (TX3 0).1 (TX3 0).2.1 (TX3 0).2.2.1 ∈ wsX3_lead := by decide +kernel
theorem lkX3_lead_36 : Cond.fieldLink RX3 36 (TX3 1).1 (TX3 1).2.1 (TX3 1).2.2.1 ∈ wsX3_lead := by decide +kernel
theorem lkX3_lead_57 : Cond.fieldLink RX3 57 (TX3 11).1 (TX3 11).2.1 (TX3 11).2.2.1 ∈ wsX3_lead := by decide +kernel
theorem lkX3_lead_42 : Cond.fieldLink RX3 42 (TX3 3).1 (TX3 3).2.1 (TX3 3).2.2.1 ∈ wsX3_lead := by decide +kernel
theorem lkX3_lead_13 : Cond.fieldLink RX3 13 (TX3 2).1 (TX3 2).2.1 (TX3 2).2.2.1 ∈ wsX3_lead := by decide +kernel
theorem lkX3_lead_71 : Cond.fieldLink RX3 71 (TX3 12).1 (TX3 12).2.1 (TX3 12).2.2.1 ∈ wsX3_lead := by decide +kernel
theorem lkX3_lead_64 : Cond.fieldLink RX3 64 (TX3 16).1 (TX3 16).2.1 (TX3 16).2.2.1 ∈ wsX3_lead := by decide +kernel
theorem lkX3_lead_16 : Cond.fieldLink RX3 16 (TX3 4).1 (TX3 4).2.1 (TX3 4).2.2.1 ∈ wsX3_lead := by decide +kernel
theorem inX3_lead_X3 : ∀ w ∈ u_ws RX3 TX3 17, w ∈ wsX3_lead := by decide +kernel
theorem hdyX3_lead : yX3_lead.cls = RX3 ∧ yX3_lead.cls ≠ "java/lang/invoke/MethodHandle" ∧ yX3_lead.cls ≠ "java/lang/invoke/VarHandle" ∧ (parseMethodDescriptor yX3_lead.desc).map (fun d => d.parameters.length) = some 3 := by decide +kernel
set_option maxHeartbeats 4000000 in
set_option maxRecDepth 100000 in
theorem ctX3_lead (l : Launch) (D : va_G) (a : Nat → Nat) (k : Nat → ClassId) (mW : Nat → Int32) (mC : Nat → Int32) (mL : Nat → Int32) (mR : Nat → Int32) (mQ : Nat → Int32) (mE : Nat → Int32) (mtb : Int32) (mnC : Int32) (mnL : Int32) (mnR : Int32) (mov : Int32) (mnQ : Int32) (mwr : Int32) (mwl : Int32) (mft : Int32) (mth : Int32) (mpl : Int32) (x1 x2 x3 : Int32) (r : Int32) (omC : Nat → Int32) (omL : Nat → Int32) (omnC : Int32) (omnL : Int32) (omwr : Int32) (omwl : Int32) (ompl : Int32) (hF : FX3_lead x1 x2 x3 mW mC mL mtb mnC mnL mwr mwl mpl = some (r, omC, omL, omnC, omnL, omwr, omwl, ompl)) : ji l yX3_lead wsX3_lead { frames := 2, cells := 0, slots := 0, locals := 48 } D (mt k) [.ref (a 0), .int x1, .int x2, .int x3] (mw a k mW mC mL mR mQ mE mtb mnC mnL mnR mov mnQ mwr mwl mft mth mpl) (mw a k mW omC omL mR mQ mE mtb omnC omnL mnR mov mnQ omwr omwl mft mth ompl) r := by
  refine j_mi (cc := cX3_lead) (maxL := 11) (own := RX3) (ret := (some .int)) (by decide) rfl rfl (Nat.le_of_ble_eq_true rfl) ?_
  intro p e s m args below meth c A C K hr hlk
  have K321 : ∀ (mW : Nat → Int32) (mC : Nat → Int32) (mL : Nat → Int32) (mtb : Int32) (mnC : Int32) (mnL : Int32) (mwr : Int32) (mwl : Int32) (mpl : Int32) (v6 v8 s0 s1 : Int32), FX3_lead_321 x1 x2 x3 mW mC mL mtb mnC mnL mwr mwl mpl v6 v8 s0 s1 = some (r, omC, omL, omnC, omnL, omwr, omwl, ompl) → jw p l e ({ frames := 2, cells := 0, slots := 0, locals := 48 } : Room) s m args below meth c 11 D A 0 0 (jqi below D (mt k) args s A (mw a k mW omC omL mR mQ mE mtb omnC omnL mnR mov mnQ omwr omwl mft mth ompl) r) (mw a k mW mC mL mR mQ mE mtb mnC mnL mnR mov mnQ mwr mwl mft mth mpl) [(0, .ref (a 0)), (2, .int x2), (6, .int v6), (8, .int v8)] 321 [.int s0, .int s1] := by
    intro mW mC mL mtb mnC mnL mwr mwl mpl v6 v8 s0 s1 hF
    unfold FX3_lead_321 at hF
    refine j_ishr (pc := 321) C dX3_lead_321 ?_
    refine j_iconst (pc := 322) (v := 1) C dX3_lead_322 (by decide) ?_
    refine j_iand (pc := 323) C dX3_lead_323 ?_
    refine j_if_ne (pc := 324) (tgt := 329) C dX3_lead_324 (by decide) (fun c31 => ?_) (fun c31 => ?_)
    · replace hF := ifn hF c31
      refine j_iload (pc := 329) C 2 dX3_lead_329 rfl ?_
      refine j_iconst (pc := 331) (v := 1) C dX3_lead_331 (by decide) ?_
      refine j_iconst (pc := 332) (v := 4) C dX3_lead_332 (by decide) ?_
      refine j_aload_n (pc := 333) C 0 dX3_lead_333 rfl rfl ?_
      refine j_get (pc := 334) (v := .ref (a 3)) C K inX3_lead_X3 0 rfl rfl 4 (by decide) lkX3_lead_16 rfl dX3_lead_334 ?_
      refine j_iload (pc := 337) C 3 dX3_lead_337 rfl ?_
      refine j_iconst (pc := 339) (v := 1) C dX3_lead_339 (by decide) ?_
      refine j_iadd (pc := 340) C dX3_lead_340 ?_
      obtain ⟨g32, hF⟩ := gd_some hF
      refine j_iald (pc := 341) C K 3 2 rfl rfl g32 dX3_lead_341 ?_
      refine j_imul (pc := 342) C dX3_lead_342 ?_
      refine j_ishl (pc := 343) C dX3_lead_343 ?_
      refine j_iconst (pc := 344) (v := 1) C dX3_lead_344 (by decide) ?_
      refine j_isub (pc := 345) C dX3_lead_345 ?_
      refine j_iand (pc := 346) C dX3_lead_346 ?_
      refine j_istore (pc := 347) (lv' := [(9, .int (v6 &&& (((1 : Int32) <<< (((4 : Int32) * (mL (v8 + 1).toNatClampNeg)) &&& 31)) - 1))), (0, .ref (a 0)), (2, .int x2), (6, .int v6), (8, .int v8)]) C dX3_lead_347 (by decide) rfl ?_
      refine j_aload_n (pc := 349) C 1 dX3_lead_349 rfl rfl ?_
      refine j_sipush (pc := 350) (v := 256) C dX3_lead_350 (by decide) ?_
      refine j_aload_n (pc := 353) C 1 dX3_lead_353 rfl rfl ?_
      refine j_get (pc := 354) (v := .ref (a 3)) C K inX3_lead_X3 0 rfl rfl 4 (by decide) lkX3_lead_16 rfl dX3_lead_354 ?_
      refine j_iload (pc := 357) C 4 dX3_lead_357 rfl ?_
      refine j_iconst (pc := 359) (v := 3) C dX3_lead_359 (by decide) ?_
      refine j_iadd (pc := 360) C dX3_lead_360 ?_
      obtain ⟨g33, hF⟩ := gd_some hF
      refine j_iald (pc := 361) C K 3 2 rfl rfl g33 dX3_lead_361 ?_
      refine j_iload (pc := 362) C 0 dX3_lead_362 rfl ?_
      refine j_iadd (pc := 364) C dX3_lead_364 ?_
      refine j_bipush (pc := 365) (v := 63) C dX3_lead_365 (by decide) ?_
      refine j_iand (pc := 367) C dX3_lead_367 ?_
      refine j_imul (pc := 368) C dX3_lead_368 ?_
      refine j_iload_n (pc := 369) C 2 dX3_lead_369 rfl rfl ?_
      refine j_sipush (pc := 370) (v := 255) C dX3_lead_370 (by decide) ?_
      refine j_iand (pc := 373) C dX3_lead_373 ?_
      refine j_iadd (pc := 374) C dX3_lead_374 ?_
      refine j_put (pc := 375) (ws' := (mw a k mW mC mL mR mQ mE mtb mnC mnL mnR mov mnQ mwr mwl mft mth (((256 : Int32) * (((mL (v8 + 3).toNatClampNeg) + (v6 &&& (((1 : Int32) <<< (((4 : Int32) * (mL (v8 + 1).toNatClampNeg)) &&& 31)) - 1))) &&& (63 : Int32))) + (x2 &&& (255 : Int32))))) C K inX3_lead_X3 tyX3 tyX3_ok nmX3 0 rfl rfl 16 (by decide) lkX3_lead_64 rfl (tyX3_ok 16 (by decide)) rfl rfl (Nat.le_of_ble_eq_true rfl) rfl dX3_lead_375 ?_
      refine j_iconst (pc := 378) (v := 0) C dX3_lead_378 (by decide) ?_
      cases hF
      exact j_iret (pc := 379) C K hr hlk dX3_lead_379
    · replace hF := ifp hF c31
      refine j_iconst (pc := 327) (v := 3) C dX3_lead_327 (by decide) ?_
      cases hF
      exact j_iret (pc := 328) C K hr hlk dX3_lead_328
  have K297 : ∀ (mW : Nat → Int32) (mC : Nat → Int32) (mL : Nat → Int32) (mtb : Int32) (mnC : Int32) (mnL : Int32) (mwr : Int32) (mwl : Int32) (mpl : Int32) (v6 v7 : Int32), FX3_lead_297 x1 x2 x3 mW mC mL mtb mnC mnL mwr mwl mpl v6 v7 = some (r, omC, omL, omnC, omnL, omwr, omwl, ompl) → jw p l e ({ frames := 2, cells := 0, slots := 0, locals := 48 } : Room) s m args below meth c 11 D A 0 0 (jqi below D (mt k) args s A (mw a k mW omC omL mR mQ mE mtb omnC omnL mnR mov mnQ omwr omwl mft mth ompl) r) (mw a k mW mC mL mR mQ mE mtb mnC mnL mnR mov mnQ mwr mwl mft mth mpl) [(0, .ref (a 0)), (2, .int x2), (3, .int x3), (6, .int v6), (7, .int v7)] 297 [] := by
    intro mW mC mL mtb mnC mnL mwr mwl mpl v6 v7 hF
    unfold FX3_lead_297 at hF
    refine j_iconst (pc := 297) (v := 5) C dX3_lead_297 (by decide) ?_
    refine j_iload (pc := 298) C 4 dX3_lead_298 rfl ?_
    refine j_imul (pc := 300) C dX3_lead_300 ?_
    refine j_istore (pc := 301) (lv' := [(8, .int ((5 : Int32) * v7)), (0, .ref (a 0)), (2, .int x2), (3, .int x3), (6, .int v6), (7, .int v7)]) C dX3_lead_301 (by decide) rfl ?_
    refine j_aload_n (pc := 303) C 1 dX3_lead_303 rfl rfl ?_
    refine j_get (pc := 304) (v := .ref (a 3)) C K inX3_lead_X3 0 rfl rfl 4 (by decide) lkX3_lead_16 rfl dX3_lead_304 ?_
    refine j_iload (pc := 307) C 0 dX3_lead_307 rfl ?_
    refine j_iconst (pc := 309) (v := 4) C dX3_lead_309 (by decide) ?_
    refine j_iadd (pc := 310) C dX3_lead_310 ?_
    obtain ⟨g29, hF⟩ := gd_some hF
    refine j_iald (pc := 311) C K 3 2 rfl rfl g29 dX3_lead_311 ?_
    refine j_iload_n (pc := 312) C 3 dX3_lead_312 rfl rfl ?_
    refine j_if_eq (pc := 313) (tgt := 320) C dX3_lead_313 (by decide) (fun c30 => ?_) (fun c30 => ?_)
    · replace hF := ifp hF c30
      refine j_iconst (pc := 320) (v := 0) C dX3_lead_320 (by decide) ?_
      exact j_lv [1, 2, 4, 0] rfl (K321 _ _ _ _ _ _ _ _ _ _ _ _ _ hF)
    · replace hF := ifn hF c30
      refine j_iconst (pc := 316) (v := 1) C dX3_lead_316 (by decide) ?_
      refine j_goto (pc := 317) (tgt := 321) C dX3_lead_317 (by decide) ?_
      exact j_lv [1, 2, 4, 0] rfl (K321 _ _ _ _ _ _ _ _ _ _ _ _ _ hF)
  have K190 : ∀ (n : Nat) (mW : Nat → Int32) (mC : Nat → Int32) (mL : Nat → Int32) (mtb : Int32) (mnC : Int32) (mnL : Int32) (mwr : Int32) (mwl : Int32) (mpl : Int32) (v5 v6 v7 v8 v9 : Int32), FX3_lead_190 x1 x2 x3 n mW mC mL mtb mnC mnL mwr mwl mpl v5 v6 v7 v8 v9 = some (r, omC, omL, omnC, omnL, omwr, omwl, ompl) → jw p l e ({ frames := 2, cells := 0, slots := 0, locals := 48 } : Room) s m args below meth c 11 D A 0 0 (jqi below D (mt k) args s A (mw a k mW omC omL mR mQ mE mtb omnC omnL mnR mov mnQ omwr omwl mft mth ompl) r) (mw a k mW mC mL mR mQ mE mtb mnC mnL mnR mov mnQ mwr mwl mft mth mpl) [(0, .ref (a 0)), (2, .int x2), (3, .int x3), (5, .int v5), (6, .int v6), (7, .int v7), (8, .int v8), (9, .int v9)] 190 [] := by
    intro n
    induction n with
    | zero =>
      intro mW mC mL mtb mnC mnL mwr mwl mpl v5 v6 v7 v8 v9 hF
      rw [FX3_lead_190] at hF
      cases hF
    | succ n ih =>
      intro mW mC mL mtb mnC mnL mwr mwl mpl v5 v6 v7 v8 v9 hF
      rw [FX3_lead_190] at hF
      refine j_iload (pc := 190) C 5 dX3_lead_190 rfl ?_
      refine j_iconst (pc := 192) (v := (-1)) C dX3_lead_192 (by decide) ?_
      refine j_icmp_ne (pc := 193) (tgt := 297) C dX3_lead_193 (by decide) (fun c16 => ?_) (fun c16 => ?_)
      · replace hF := ifn hF c16
        exact j_lv [0, 1, 2, 4, 5] rfl (K297 _ _ _ _ _ _ _ _ _ _ _ hF)
      · replace hF := ifp hF c16
        refine j_aload_n (pc := 196) C 0 dX3_lead_196 rfl rfl ?_
        refine j_get (pc := 197) (v := .ref (a 1)) C K inX3_lead_X3 0 rfl rfl 0 (by decide) lkX3_lead_9 rfl dX3_lead_197 ?_
        refine j_sipush (pc := 200) (v := 256) C dX3_lead_200 (by decide) ?_
        refine j_iload (pc := 203) C 6 dX3_lead_203 rfl ?_
        refine j_imul (pc := 205) C dX3_lead_205 ?_
        refine j_iload (pc := 206) C 4 dX3_lead_206 rfl ?_
        refine j_iconst (pc := 208) (v := 4) C dX3_lead_208 (by decide) ?_
        refine j_iload (pc := 209) C 7 dX3_lead_209 rfl ?_
        refine j_imul (pc := 211) C dX3_lead_211 ?_
        refine j_ishr (pc := 212) C dX3_lead_212 ?_
        refine j_bipush (pc := 213) (v := 15) C dX3_lead_213 (by decide) ?_
        refine j_iand (pc := 215) C dX3_lead_215 ?_
        refine j_iadd (pc := 216) C dX3_lead_216 ?_
        obtain ⟨g17, hF⟩ := gd_some hF
        refine j_iald (pc := 217) C K 1 0 rfl rfl g17 dX3_lead_217 ?_
        refine j_istore (pc := 218) (lv' := [(10, .int (mW (((256 : Int32) * v8) + ((v6 >>> (((4 : Int32) * v9) &&& 31)) &&& (15 : Int32))).toNatClampNeg)), (0, .ref (a 0)), (2, .int x2), (3, .int x3), (5, .int v5), (6, .int v6), (7, .int v7), (8, .int v8), (9, .int v9)]) C dX3_lead_218 (by decide) rfl ?_
        refine j_aload_n (pc := 220) C 1 dX3_lead_220 rfl rfl ?_
        refine j_dup (pc := 221) C dX3_lead_221 rfl ?_
        refine j_get (pc := 222) (v := .int mwr) C K inX3_lead_X3 0 rfl rfl 11 (by decide) lkX3_lead_57 rfl dX3_lead_222 ?_
        refine j_iconst (pc := 225) (v := 1) C dX3_lead_225 (by decide) ?_
        refine j_iadd (pc := 226) C dX3_lead_226 ?_
        refine j_put (pc := 227) (ws' := (mw a k mW mC mL mR mQ mE mtb mnC mnL mnR mov mnQ (mwr + 1) mwl mft mth mpl)) C K inX3_lead_X3 tyX3 tyX3_ok nmX3 0 rfl rfl 11 (by decide) lkX3_lead_57 rfl (tyX3_ok 11 (by decide)) rfl rfl (Nat.le_of_ble_eq_true rfl) rfl dX3_lead_227 ?_
        refine j_iload (pc := 230) C 0 dX3_lead_230 rfl ?_
        refine j_iconst (pc := 232) (v := 1) C dX3_lead_232 (by decide) ?_
        refine j_iand (pc := 233) C dX3_lead_233 ?_
        refine j_if_ne (pc := 234) (tgt := 239) C dX3_lead_234 (by decide) (fun c18 => ?_) (fun c18 => ?_)
        · replace hF := ifn hF c18
          refine j_iload (pc := 239) C 0 dX3_lead_239 rfl ?_
          refine j_bipush (pc := 241) (v := 8) C dX3_lead_241 (by decide) ?_
          refine j_ishr (pc := 243) C dX3_lead_243 ?_
          refine j_bipush (pc := 244) (v := 63) C dX3_lead_244 (by decide) ?_
          refine j_iand (pc := 246) C dX3_lead_246 ?_
          refine j_istore (pc := 247) (lv' := [(8, .int (((mW (((256 : Int32) * v8) + ((v6 >>> (((4 : Int32) * v9) &&& 31)) &&& (15 : Int32))).toNatClampNeg) >>> ((8 : Int32) &&& 31)) &&& (63 : Int32))), (10, .int (mW (((256 : Int32) * v8) + ((v6 >>> (((4 : Int32) * v9) &&& 31)) &&& (15 : Int32))).toNatClampNeg)), (0, .ref (a 0)), (2, .int x2), (3, .int x3), (5, .int v5), (6, .int v6), (7, .int v7), (9, .int v9)]) C dX3_lead_247 (by decide) rfl ?_
          refine j_iload (pc := 249) C 8 dX3_lead_249 rfl ?_
          refine j_if_eq (pc := 251) (tgt := 262) C dX3_lead_251 (by decide) (fun c19 => ?_) (fun c19 => ?_)
          · replace hF := ifp hF c19
            refine j_iload (pc := 262) C 8 dX3_lead_262 rfl ?_
            refine j_if_le (pc := 264) (tgt := 277) C dX3_lead_264 (by decide) (fun c20 => ?_) (fun c20 => ?_)
            · replace hF := ifp hF c20
              refine j_aload_n (pc := 277) C 2 dX3_lead_277 rfl rfl ?_
              refine j_iload (pc := 278) C 5 dX3_lead_278 rfl ?_
              refine j_iload (pc := 280) C 8 dX3_lead_280 rfl ?_
              refine j_iload (pc := 282) C 6 dX3_lead_282 rfl ?_
              refine j_iload (pc := 284) C 1 dX3_lead_284 rfl ?_
              obtain ⟨rq21, q21mL, q21mnL, hq21, hF⟩ := bd3_some hF
              refine j_callVi (pc := 286) (As := [.int v5, .int v9, .int v6, .int (mW (((256 : Int32) * v8) + ((v6 >>> (((4 : Int32) * v9) &&& 31)) &&& (15 : Int32))).toNatClampNeg)]) (rest := []) (ws' := (mw a k mW mC q21mL mR mQ mE mtb mnC q21mnL mnR mov mnQ (mwr + 1) mwl mft mth mpl)) C K (ci := 3) (q0 := 0) rfl rfl rfl (ctX3_remember_ l D a k _ _ _ _ _ _ _ _ _ _ _ _ _ _ _ _ _ _ _ _ _ _ _ _ hq21) gX3_lead_X3_remember_ rfl rfl rfl hdyX3_remember_ ⟨Nat.le_of_ble_eq_true rfl, Nat.le_of_ble_eq_true rfl⟩ (List.range 7) (jrange _) (by decide) (jspF rfl) [0, 1, 2, 3, 4, 5] rfl rfl (Nat.le_of_ble_eq_true rfl) dX3_lead_286 ⟨Nat.zero_le _, Nat.zero_le _⟩ ?_
              refine j_istore (pc := 289) (lv' := [(7, .int rq21), (8, .int (((mW (((256 : Int32) * v8) + ((v6 >>> (((4 : Int32) * v9) &&& 31)) &&& (15 : Int32))).toNatClampNeg) >>> ((8 : Int32) &&& 31)) &&& (63 : Int32))), (10, .int (mW (((256 : Int32) * v8) + ((v6 >>> (((4 : Int32) * v9) &&& 31)) &&& (15 : Int32))).toNatClampNeg)), (0, .ref (a 0)), (2, .int x2), (3, .int x3), (5, .int v5), (6, .int v6), (9, .int v9)]) C dX3_lead_289 (by decide) rfl ?_
              refine j_iinc (pc := 291) (v := (v9 + (-1))) (lv' := [(9, .int (v9 + (-1))), (7, .int rq21), (8, .int (((mW (((256 : Int32) * v8) + ((v6 >>> (((4 : Int32) * v9) &&& 31)) &&& (15 : Int32))).toNatClampNeg) >>> ((8 : Int32) &&& 31)) &&& (63 : Int32))), (10, .int (mW (((256 : Int32) * v8) + ((v6 >>> (((4 : Int32) * v9) &&& 31)) &&& (15 : Int32))).toNatClampNeg)), (0, .ref (a 0)), (2, .int x2), (3, .int x3), (5, .int v5), (6, .int v6)]) C 8 dX3_lead_291 rfl rfl (by decide) rfl ?_
              refine j_goto (pc := 294) (tgt := 190) C dX3_lead_294 (by decide) ?_
              exact j_lv [4, 5, 6, 7, 8, 1, 2, 0] rfl (ih _ _ _ _ _ _ _ _ _ _ _ _ _ _ hF)
            · replace hF := ifn hF c20
              refine j_iload (pc := 267) C 0 dX3_lead_267 rfl ?_
              refine j_bipush (pc := 269) (v := 15) C dX3_lead_269 (by decide) ?_
              refine j_iand (pc := 271) C dX3_lead_271 ?_
              refine j_if_eq (pc := 272) (tgt := 277) C dX3_lead_272 (by decide) (fun c22 => ?_) (fun c22 => ?_)
              · replace hF := ifp hF c22
                refine j_aload_n (pc := 277) C 2 dX3_lead_277 rfl rfl ?_
                refine j_iload (pc := 278) C 5 dX3_lead_278 rfl ?_
                refine j_iload (pc := 280) C 8 dX3_lead_280 rfl ?_
                refine j_iload (pc := 282) C 6 dX3_lead_282 rfl ?_
                refine j_iload (pc := 284) C 1 dX3_lead_284 rfl ?_
                obtain ⟨rq23, q23mL, q23mnL, hq23, hF⟩ := bd3_some hF
                refine j_callVi (pc := 286) (As := [.int v5, .int v9, .int v6, .int (mW (((256 : Int32) * v8) + ((v6 >>> (((4 : Int32) * v9) &&& 31)) &&& (15 : Int32))).toNatClampNeg)]) (rest := []) (ws' := (mw a k mW mC q23mL mR mQ mE mtb mnC q23mnL mnR mov mnQ (mwr + 1) mwl mft mth mpl)) C K (ci := 3) (q0 := 0) rfl rfl rfl (ctX3_remember_ l D a k _ _ _ _ _ _ _ _ _ _ _ _ _ _ _ _ _ _ _ _ _ _ _ _ hq23) gX3_lead_X3_remember_ rfl rfl rfl hdyX3_remember_ ⟨Nat.le_of_ble_eq_true rfl, Nat.le_of_ble_eq_true rfl⟩ (List.range 7) (jrange _) (by decide) (jspF rfl) [0, 1, 2, 3, 4, 5] rfl rfl (Nat.le_of_ble_eq_true rfl) dX3_lead_286 ⟨Nat.zero_le _, Nat.zero_le _⟩ ?_
                refine j_istore (pc := 289) (lv' := [(7, .int rq23), (8, .int (((mW (((256 : Int32) * v8) + ((v6 >>> (((4 : Int32) * v9) &&& 31)) &&& (15 : Int32))).toNatClampNeg) >>> ((8 : Int32) &&& 31)) &&& (63 : Int32))), (10, .int (mW (((256 : Int32) * v8) + ((v6 >>> (((4 : Int32) * v9) &&& 31)) &&& (15 : Int32))).toNatClampNeg)), (0, .ref (a 0)), (2, .int x2), (3, .int x3), (5, .int v5), (6, .int v6), (9, .int v9)]) C dX3_lead_289 (by decide) rfl ?_
                refine j_iinc (pc := 291) (v := (v9 + (-1))) (lv' := [(9, .int (v9 + (-1))), (7, .int rq23), (8, .int (((mW (((256 : Int32) * v8) + ((v6 >>> (((4 : Int32) * v9) &&& 31)) &&& (15 : Int32))).toNatClampNeg) >>> ((8 : Int32) &&& 31)) &&& (63 : Int32))), (10, .int (mW (((256 : Int32) * v8) + ((v6 >>> (((4 : Int32) * v9) &&& 31)) &&& (15 : Int32))).toNatClampNeg)), (0, .ref (a 0)), (2, .int x2), (3, .int x3), (5, .int v5), (6, .int v6)]) C 8 dX3_lead_291 rfl rfl (by decide) rfl ?_
                refine j_goto (pc := 294) (tgt := 190) C dX3_lead_294 (by decide) ?_
                exact j_lv [4, 5, 6, 7, 8, 1, 2, 0] rfl (ih _ _ _ _ _ _ _ _ _ _ _ _ _ _ hF)
              · replace hF := ifn hF c22
                refine j_iconst (pc := 275) (v := 5) C dX3_lead_275 (by decide) ?_
                cases hF
                exact j_iret (pc := 276) C K hr hlk dX3_lead_276
          · replace hF := ifn hF c19
            refine j_iload (pc := 254) C 1 dX3_lead_254 rfl ?_
            refine j_bipush (pc := 256) (v := 8) C dX3_lead_256 (by decide) ?_
            refine j_iand (pc := 258) C dX3_lead_258 ?_
            refine j_if_eq (pc := 259) (tgt := 291) C dX3_lead_259 (by decide) (fun c24 => ?_) (fun c24 => ?_)
            · replace hF := ifp hF c24
              refine j_iinc (pc := 291) (v := (v9 + (-1))) (lv' := [(9, .int (v9 + (-1))), (8, .int (((mW (((256 : Int32) * v8) + ((v6 >>> (((4 : Int32) * v9) &&& 31)) &&& (15 : Int32))).toNatClampNeg) >>> ((8 : Int32) &&& 31)) &&& (63 : Int32))), (10, .int (mW (((256 : Int32) * v8) + ((v6 >>> (((4 : Int32) * v9) &&& 31)) &&& (15 : Int32))).toNatClampNeg)), (0, .ref (a 0)), (2, .int x2), (3, .int x3), (5, .int v5), (6, .int v6), (7, .int v7)]) C 8 dX3_lead_291 rfl rfl (by decide) rfl ?_
              refine j_goto (pc := 294) (tgt := 190) C dX3_lead_294 (by decide) ?_
              exact j_lv [3, 4, 5, 6, 7, 8, 1, 0] rfl (ih _ _ _ _ _ _ _ _ _ _ _ _ _ _ hF)
            · replace hF := ifn hF c24
              refine j_iload (pc := 262) C 8 dX3_lead_262 rfl ?_
              refine j_if_le (pc := 264) (tgt := 277) C dX3_lead_264 (by decide) (fun c25 => ?_) (fun c25 => ?_)
              · replace hF := ifp hF c25
                refine j_aload_n (pc := 277) C 2 dX3_lead_277 rfl rfl ?_
                refine j_iload (pc := 278) C 5 dX3_lead_278 rfl ?_
                refine j_iload (pc := 280) C 8 dX3_lead_280 rfl ?_
                refine j_iload (pc := 282) C 6 dX3_lead_282 rfl ?_
                refine j_iload (pc := 284) C 1 dX3_lead_284 rfl ?_
                obtain ⟨rq26, q26mL, q26mnL, hq26, hF⟩ := bd3_some hF
                refine j_callVi (pc := 286) (As := [.int v5, .int v9, .int v6, .int (mW (((256 : Int32) * v8) + ((v6 >>> (((4 : Int32) * v9) &&& 31)) &&& (15 : Int32))).toNatClampNeg)]) (rest := []) (ws' := (mw a k mW mC q26mL mR mQ mE mtb mnC q26mnL mnR mov mnQ (mwr + 1) mwl mft mth mpl)) C K (ci := 3) (q0 := 0) rfl rfl rfl (ctX3_remember_ l D a k _ _ _ _ _ _ _ _ _ _ _ _ _ _ _ _ _ _ _ _ _ _ _ _ hq26) gX3_lead_X3_remember_ rfl rfl rfl hdyX3_remember_ ⟨Nat.le_of_ble_eq_true rfl, Nat.le_of_ble_eq_true rfl⟩ (List.range 7) (jrange _) (by decide) (jspF rfl) [0, 1, 2, 3, 4, 5] rfl rfl (Nat.le_of_ble_eq_true rfl) dX3_lead_286 ⟨Nat.zero_le _, Nat.zero_le _⟩ ?_
                refine j_istore (pc := 289) (lv' := [(7, .int rq26), (8, .int (((mW (((256 : Int32) * v8) + ((v6 >>> (((4 : Int32) * v9) &&& 31)) &&& (15 : Int32))).toNatClampNeg) >>> ((8 : Int32) &&& 31)) &&& (63 : Int32))), (10, .int (mW (((256 : Int32) * v8) + ((v6 >>> (((4 : Int32) * v9) &&& 31)) &&& (15 : Int32))).toNatClampNeg)), (0, .ref (a 0)), (2, .int x2), (3, .int x3), (5, .int v5), (6, .int v6), (9, .int v9)]) C dX3_lead_289 (by decide) rfl ?_
                refine j_iinc (pc := 291) (v := (v9 + (-1))) (lv' := [(9, .int (v9 + (-1))), (7, .int rq26), (8, .int (((mW (((256 : Int32) * v8) + ((v6 >>> (((4 : Int32) * v9) &&& 31)) &&& (15 : Int32))).toNatClampNeg) >>> ((8 : Int32) &&& 31)) &&& (63 : Int32))), (10, .int (mW (((256 : Int32) * v8) + ((v6 >>> (((4 : Int32) * v9) &&& 31)) &&& (15 : Int32))).toNatClampNeg)), (0, .ref (a 0)), (2, .int x2), (3, .int x3), (5, .int v5), (6, .int v6)]) C 8 dX3_lead_291 rfl rfl (by decide) rfl ?_
                refine j_goto (pc := 294) (tgt := 190) C dX3_lead_294 (by decide) ?_
                exact j_lv [4, 5, 6, 7, 8, 1, 2, 0] rfl (ih _ _ _ _ _ _ _ _ _ _ _ _ _ _ hF)
              · replace hF := ifn hF c25
                refine j_iload (pc := 267) C 0 dX3_lead_267 rfl ?_
                refine j_bipush (pc := 269) (v := 15) C dX3_lead_269 (by decide) ?_
                refine j_iand (pc := 271) C dX3_lead_271 ?_
                refine j_if_eq (pc := 272) (tgt := 277) C dX3_lead_272 (by decide) (fun c27 => ?_) (fun c27 => ?_)
                · replace hF := ifp hF c27
                  refine j_aload_n (pc := 277) C 2 dX3_lead_277 rfl rfl ?_
                  refine j_iload (pc := 278) C 5 dX3_lead_278 rfl ?_
                  refine j_iload (pc := 280) C 8 dX3_lead_280 rfl ?_
                  refine j_iload (pc := 282) C 6 dX3_lead_282 rfl ?_
                  refine j_iload (pc := 284) C 1 dX3_lead_284 rfl ?_
                  obtain ⟨rq28, q28mL, q28mnL, hq28, hF⟩ := bd3_some hF
                  refine j_callVi (pc := 286) (As := [.int v5, .int v9, .int v6, .int (mW (((256 : Int32) * v8) + ((v6 >>> (((4 : Int32) * v9) &&& 31)) &&& (15 : Int32))).toNatClampNeg)]) (rest := []) (ws' := (mw a k mW mC q28mL mR mQ mE mtb mnC q28mnL mnR mov mnQ (mwr + 1) mwl mft mth mpl)) C K (ci := 3) (q0 := 0) rfl rfl rfl (ctX3_remember_ l D a k _ _ _ _ _ _ _ _ _ _ _ _ _ _ _ _ _ _ _ _ _ _ _ _ hq28) gX3_lead_X3_remember_ rfl rfl rfl hdyX3_remember_ ⟨Nat.le_of_ble_eq_true rfl, Nat.le_of_ble_eq_true rfl⟩ (List.range 7) (jrange _) (by decide) (jspF rfl) [0, 1, 2, 3, 4, 5] rfl rfl (Nat.le_of_ble_eq_true rfl) dX3_lead_286 ⟨Nat.zero_le _, Nat.zero_le _⟩ ?_
                  refine j_istore (pc := 289) (lv' := [(7, .int rq28), (8, .int (((mW (((256 : Int32) * v8) + ((v6 >>> (((4 : Int32) * v9) &&& 31)) &&& (15 : Int32))).toNatClampNeg) >>> ((8 : Int32) &&& 31)) &&& (63 : Int32))), (10, .int (mW (((256 : Int32) * v8) + ((v6 >>> (((4 : Int32) * v9) &&& 31)) &&& (15 : Int32))).toNatClampNeg)), (0, .ref (a 0)), (2, .int x2), (3, .int x3), (5, .int v5), (6, .int v6), (9, .int v9)]) C dX3_lead_289 (by decide) rfl ?_
                  refine j_iinc (pc := 291) (v := (v9 + (-1))) (lv' := [(9, .int (v9 + (-1))), (7, .int rq28), (8, .int (((mW (((256 : Int32) * v8) + ((v6 >>> (((4 : Int32) * v9) &&& 31)) &&& (15 : Int32))).toNatClampNeg) >>> ((8 : Int32) &&& 31)) &&& (63 : Int32))), (10, .int (mW (((256 : Int32) * v8) + ((v6 >>> (((4 : Int32) * v9) &&& 31)) &&& (15 : Int32))).toNatClampNeg)), (0, .ref (a 0)), (2, .int x2), (3, .int x3), (5, .int v5), (6, .int v6)]) C 8 dX3_lead_291 rfl rfl (by decide) rfl ?_
                  refine j_goto (pc := 294) (tgt := 190) C dX3_lead_294 (by decide) ?_
                  exact j_lv [4, 5, 6, 7, 8, 1, 2, 0] rfl (ih _ _ _ _ _ _ _ _ _ _ _ _ _ _ hF)
                · replace hF := ifn hF c27
                  refine j_iconst (pc := 275) (v := 5) C dX3_lead_275 (by decide) ?_
                  cases hF
                  exact j_iret (pc := 276) C K hr hlk dX3_lead_276
        · replace hF := ifp hF c18
          refine j_iconst (pc := 237) (v := 2) C dX3_lead_237 (by decide) ?_
          cases hF
          exact j_iret (pc := 238) C K hr hlk dX3_lead_238
  have K93 : ∀ (mW : Nat → Int32) (mC : Nat → Int32) (mL : Nat → Int32) (mtb : Int32) (mnC : Int32) (mnL : Int32) (mwr : Int32) (mwl : Int32) (mpl : Int32) (v4 : Int32), FX3_lead_93 x1 x2 x3 mW mC mL mtb mnC mnL mwr mwl mpl v4 = some (r, omC, omL, omnC, omnL, omwr, omwl, ompl) → jw p l e ({ frames := 2, cells := 0, slots := 0, locals := 48 } : Room) s m args below meth c 11 D A 0 0 (jqi below D (mt k) args s A (mw a k mW omC omL mR mQ mE mtb omnC omnL mnR mov mnQ omwr omwl mft mth ompl) r) (mw a k mW mC mL mR mQ mE mtb mnC mnL mnR mov mnQ mwr mwl mft mth mpl) [(0, .ref (a 0)), (2, .int x2), (3, .int x3), (4, .int v4)] 93 [] := by
    intro mW mC mL mtb mnC mnL mwr mwl mpl v4 hF
    unfold FX3_lead_93 at hF
    refine j_aload_n (pc := 93) C 0 dX3_lead_93 rfl rfl ?_
    refine j_get (pc := 94) (v := .ref (a 2)) C K inX3_lead_X3 0 rfl rfl 2 (by decide) lkX3_lead_13 rfl dX3_lead_94 ?_
    refine j_iconst (pc := 97) (v := 4) C dX3_lead_97 (by decide) ?_
    refine j_iload (pc := 98) C 3 dX3_lead_98 rfl ?_
    refine j_imul (pc := 100) C dX3_lead_100 ?_
    refine j_iconst (pc := 101) (v := 1) C dX3_lead_101 (by decide) ?_
    refine j_iadd (pc := 102) C dX3_lead_102 ?_
    obtain ⟨g9, hF⟩ := gd_some hF
    refine j_iald (pc := 103) C K 2 1 rfl rfl g9 dX3_lead_103 ?_
    refine j_iconst (pc := 104) (v := 1) C dX3_lead_104 (by decide) ?_
    refine j_icmp_ne (pc := 105) (tgt := 126) C dX3_lead_105 (by decide) (fun c10 => ?_) (fun c10 => ?_)
    · replace hF := ifn hF c10
      refine j_aload_n (pc := 126) C 0 dX3_lead_126 rfl rfl ?_
      refine j_get (pc := 127) (v := .ref (a 2)) C K inX3_lead_X3 0 rfl rfl 2 (by decide) lkX3_lead_13 rfl dX3_lead_127 ?_
      refine j_iconst (pc := 130) (v := 4) C dX3_lead_130 (by decide) ?_
      refine j_iload (pc := 131) C 3 dX3_lead_131 rfl ?_
      refine j_imul (pc := 133) C dX3_lead_133 ?_
      refine j_iconst (pc := 134) (v := 3) C dX3_lead_134 (by decide) ?_
      refine j_iadd (pc := 135) C dX3_lead_135 ?_
      obtain ⟨g11, hF⟩ := gd_some hF
      refine j_iald (pc := 136) C K 2 1 rfl rfl g11 dX3_lead_136 ?_
      refine j_istore (pc := 137) (lv' := [(5, .int (mC (((4 : Int32) * v4) + 3).toNatClampNeg)), (0, .ref (a 0)), (2, .int x2), (3, .int x3), (4, .int v4)]) C dX3_lead_137 (by decide) rfl ?_
      refine j_iload_n (pc := 139) C 2 dX3_lead_139 rfl rfl ?_
      refine j_bipush (pc := 140) (v := 8) C dX3_lead_140 (by decide) ?_
      refine j_ishr (pc := 142) C dX3_lead_142 ?_
      refine j_istore (pc := 143) (lv' := [(6, .int (x2 >>> ((8 : Int32) &&& 31))), (5, .int (mC (((4 : Int32) * v4) + 3).toNatClampNeg)), (0, .ref (a 0)), (2, .int x2), (3, .int x3), (4, .int v4)]) C dX3_lead_143 (by decide) rfl ?_
      refine j_aload_n (pc := 145) C 2 dX3_lead_145 rfl rfl ?_
      refine j_iload (pc := 146) C 1 dX3_lead_146 rfl ?_
      refine j_iload (pc := 148) C 0 dX3_lead_148 rfl ?_
      obtain ⟨rq12, hq12, hF⟩ := bd1_some hF
      refine j_callVi (pc := 150) (As := [.int (mC (((4 : Int32) * v4) + 3).toNatClampNeg), .int (x2 >>> ((8 : Int32) &&& 31))]) (rest := []) (ws' := (mw a k mW mC mL mR mQ mE mtb mnC mnL mnR mov mnQ mwr mwl mft mth mpl)) C K (ci := 3) (q0 := 0) rfl rfl rfl (ctX3_leafOf l D a k _ _ _ _ _ _ _ _ _ _ _ _ _ _ _ _ _ _ _ _ hq12) gX3_lead_X3_leafOf rfl rfl rfl hdyX3_leafOf ⟨Nat.le_of_ble_eq_true rfl, Nat.le_of_ble_eq_true rfl⟩ (List.range 7) (jrange _) (by decide) (jspF rfl) [0, 1, 2, 3, 4, 5] rfl rfl (Nat.le_of_ble_eq_true rfl) dX3_lead_150 ⟨Nat.zero_le _, Nat.zero_le _⟩ ?_
      refine j_istore (pc := 153) (lv' := [(7, .int rq12), (6, .int (x2 >>> ((8 : Int32) &&& 31))), (5, .int (mC (((4 : Int32) * v4) + 3).toNatClampNeg)), (0, .ref (a 0)), (2, .int x2), (3, .int x3), (4, .int v4)]) C dX3_lead_153 (by decide) rfl ?_
      refine j_iload (pc := 155) C 0 dX3_lead_155 rfl ?_
      refine j_iconst (pc := 157) (v := (-1)) C dX3_lead_157 (by decide) ?_
      refine j_icmp_eq (pc := 158) (tgt := 174) C dX3_lead_158 (by decide) (fun c13 => ?_) (fun c13 => ?_)
      · replace hF := ifp hF c13
        refine j_aload_n (pc := 174) C 3 dX3_lead_174 rfl rfl ?_
        refine j_get (pc := 175) (v := .ref (a 2)) C K inX3_lead_X3 0 rfl rfl 2 (by decide) lkX3_lead_13 rfl dX3_lead_175 ?_
        refine j_iconst (pc := 178) (v := 4) C dX3_lead_178 (by decide) ?_
        refine j_iload (pc := 179) C 6 dX3_lead_179 rfl ?_
        refine j_imul (pc := 181) C dX3_lead_181 ?_
        refine j_iconst (pc := 182) (v := 2) C dX3_lead_182 (by decide) ?_
        refine j_iadd (pc := 183) C dX3_lead_183 ?_
        obtain ⟨g14, hF⟩ := gd_some hF
        refine j_iald (pc := 184) C K 2 1 rfl rfl g14 dX3_lead_184 ?_
        refine j_istore (pc := 185) (lv' := [(8, .int (mC (((4 : Int32) * v4) + 2).toNatClampNeg)), (7, .int rq12), (6, .int (x2 >>> ((8 : Int32) &&& 31))), (5, .int (mC (((4 : Int32) * v4) + 3).toNatClampNeg)), (0, .ref (a 0)), (2, .int x2), (3, .int x3), (4, .int v4)]) C dX3_lead_185 (by decide) rfl ?_
        refine j_iconst (pc := 187) (v := 2) C dX3_lead_187 (by decide) ?_
        refine j_istore (pc := 188) (lv' := [(9, .int 2), (8, .int (mC (((4 : Int32) * v4) + 2).toNatClampNeg)), (7, .int rq12), (6, .int (x2 >>> ((8 : Int32) &&& 31))), (5, .int (mC (((4 : Int32) * v4) + 3).toNatClampNeg)), (0, .ref (a 0)), (2, .int x2), (3, .int x3), (4, .int v4)]) C dX3_lead_188 (by decide) rfl ?_
        exact j_lv [5, 6, 7, 4, 3, 2, 1, 0] rfl (K190 _ _ _ _ _ _ _ _ _ _ _ _ _ _ _ hF)
      · replace hF := ifn hF c13
        refine j_aload_n (pc := 161) C 3 dX3_lead_161 rfl rfl ?_
        refine j_dup (pc := 162) C dX3_lead_162 rfl ?_
        refine j_get (pc := 163) (v := .int mwl) C K inX3_lead_X3 0 rfl rfl 12 (by decide) lkX3_lead_71 rfl dX3_lead_163 ?_
        refine j_iconst (pc := 166) (v := 1) C dX3_lead_166 (by decide) ?_
        refine j_iadd (pc := 167) C dX3_lead_167 ?_
        refine j_put (pc := 168) (ws' := (mw a k mW mC mL mR mQ mE mtb mnC mnL mnR mov mnQ mwr (mwl + 1) mft mth mpl)) C K inX3_lead_X3 tyX3 tyX3_ok nmX3 0 rfl rfl 12 (by decide) lkX3_lead_71 rfl (tyX3_ok 12 (by decide)) rfl rfl (Nat.le_of_ble_eq_true rfl) rfl dX3_lead_168 ?_
        refine j_goto (pc := 171) (tgt := 297) C dX3_lead_171 (by decide) ?_
        exact j_lv [3, 4, 5, 1, 0] rfl (K297 _ _ _ _ _ _ _ _ _ _ _ hF)
    · replace hF := ifp hF c10
      refine j_aload_n (pc := 108) C 0 dX3_lead_108 rfl rfl ?_
      refine j_iload_n (pc := 109) C 1 dX3_lead_109 rfl rfl ?_
      refine j_put (pc := 110) (ws' := (mw a k mW mC mL mR mQ mE mtb mnC mnL mnR mov mnQ mwr mwl mft mth x2)) C K inX3_lead_X3 tyX3 tyX3_ok nmX3 0 rfl rfl 16 (by decide) lkX3_lead_64 rfl (tyX3_ok 16 (by decide)) rfl rfl (Nat.le_of_ble_eq_true rfl) rfl dX3_lead_110 ?_
      refine j_iload_n (pc := 113) C 1 dX3_lead_113 rfl rfl ?_
      refine j_sipush (pc := 114) (v := 16384) C dX3_lead_114 (by decide) ?_
      refine j_icmp_ge (pc := 117) (tgt := 124) C dX3_lead_117 (by decide) (fun c15 => ?_) (fun c15 => ?_)
      · replace hF := ifp hF c15
        refine j_iconst (pc := 124) (v := 4) C dX3_lead_124 (by decide) ?_
        cases hF
        exact j_iret (pc := 125) C K hr hlk dX3_lead_125
      · replace hF := ifn hF c15
        refine j_iconst (pc := 120) (v := 0) C dX3_lead_120 (by decide) ?_
        refine j_goto (pc := 121) (tgt := 125) C dX3_lead_121 (by decide) ?_
        cases hF
        exact j_iret (pc := 125) C K hr hlk dX3_lead_125
  unfold FX3_lead at hF
  refine j_iload_n (pc := 0) C 2 dX3_lead_0 rfl rfl ?_
  refine j_if_lt (pc := 1) (tgt := 10) C dX3_lead_1 (by decide) (fun c1 => ?_) (fun c1 => ?_)
  · replace hF := ifp hF c1
    refine j_iconst (pc := 10) (v := 4) C dX3_lead_10 (by decide) ?_
    cases hF
    exact j_iret (pc := 11) C K hr hlk dX3_lead_11
  · replace hF := ifn hF c1
    refine j_iload_n (pc := 4) C 2 dX3_lead_4 rfl rfl ?_
    refine j_ldc (pc := 5) (v := 1048575) C lkX3_lead_k52 dX3_lead_5 ?_
    refine j_icmp_le (pc := 7) (tgt := 12) C dX3_lead_7 (by decide) (fun c2 => ?_) (fun c2 => ?_)
    · replace hF := ifp hF c2
      refine j_aload_n (pc := 12) C 0 dX3_lead_12 rfl rfl ?_
      refine j_iload_n (pc := 13) C 1 dX3_lead_13 rfl rfl ?_
      obtain ⟨rq3, hq3, hF⟩ := bd1_some hF
      refine j_callVi (pc := 14) (As := [.int x1]) (rest := []) (ws' := (mw a k mW mC mL mR mQ mE mtb mnC mnL mnR mov mnQ mwr mwl mft mth mpl)) C K (ci := 3) (q0 := 0) rfl rfl rfl (ctX3_contextOf l D a k _ _ _ _ _ _ _ _ _ _ _ _ _ _ _ _ _ _ _ hq3) gX3_lead_X3_contextOf rfl rfl rfl hdyX3_contextOf ⟨Nat.le_of_ble_eq_true rfl, Nat.le_of_ble_eq_true rfl⟩ (List.range 7) (jrange _) (by decide) (jspF rfl) [0, 1, 2, 3, 4, 5] rfl rfl (Nat.le_of_ble_eq_true rfl) dX3_lead_14 ⟨Nat.zero_le _, Nat.zero_le _⟩ ?_
      refine j_istore (pc := 17) (lv' := [(4, .int rq3), (0, .ref (a 0)), (1, .int x1), (2, .int x2), (3, .int x3)]) C dX3_lead_17 (by decide) rfl ?_
      refine j_iload (pc := 19) C 0 dX3_lead_19 rfl ?_
      refine j_iconst (pc := 21) (v := (-1)) C dX3_lead_21 (by decide) ?_
      refine j_icmp_ne (pc := 22) (tgt := 93) C dX3_lead_22 (by decide) (fun c4 => ?_) (fun c4 => ?_)
      · replace hF := ifn hF c4
        exact j_lv [1, 3, 4, 0] rfl (K93 _ _ _ _ _ _ _ _ _ _ hF)
      · replace hF := ifp hF c4
        refine j_aload_n (pc := 25) C 1 dX3_lead_25 rfl rfl ?_
        refine j_get (pc := 26) (v := .ref (a 1)) C K inX3_lead_X3 0 rfl rfl 0 (by decide) lkX3_lead_9 rfl dX3_lead_26 ?_
        refine j_aload_n (pc := 29) C 1 dX3_lead_29 rfl rfl ?_
        refine j_get (pc := 30) (v := .int mtb) C K inX3_lead_X3 0 rfl rfl 1 (by decide) lkX3_lead_36 rfl dX3_lead_30 ?_
        refine j_iconst (pc := 33) (v := 2) C dX3_lead_33 (by decide) ?_
        refine j_iload_n (pc := 34) C 2 dX3_lead_34 rfl rfl ?_
        refine j_imul (pc := 35) C dX3_lead_35 ?_
        refine j_iadd (pc := 36) C dX3_lead_36 ?_
        obtain ⟨g5, hF⟩ := gd_some hF
        refine j_iald (pc := 37) C K 1 0 rfl rfl g5 dX3_lead_37 ?_
        refine j_istore (pc := 38) (lv' := [(5, .int (mW (mtb + ((2 : Int32) * x1)).toNatClampNeg)), (4, .int rq3), (0, .ref (a 0)), (1, .int x1), (2, .int x2), (3, .int x3)]) C dX3_lead_38 (by decide) rfl ?_
        refine j_aload_n (pc := 40) C 2 dX3_lead_40 rfl rfl ?_
        refine j_get (pc := 41) (v := .ref (a 1)) C K inX3_lead_X3 0 rfl rfl 0 (by decide) lkX3_lead_9 rfl dX3_lead_41 ?_
        refine j_aload_n (pc := 44) C 2 dX3_lead_44 rfl rfl ?_
        refine j_get (pc := 45) (v := .int mtb) C K inX3_lead_X3 0 rfl rfl 1 (by decide) lkX3_lead_36 rfl dX3_lead_45 ?_
        refine j_iconst (pc := 48) (v := 2) C dX3_lead_48 (by decide) ?_
        refine j_iload_n (pc := 49) C 3 dX3_lead_49 rfl rfl ?_
        refine j_imul (pc := 50) C dX3_lead_50 ?_
        refine j_iadd (pc := 51) C dX3_lead_51 ?_
        refine j_iconst (pc := 52) (v := 1) C dX3_lead_52 (by decide) ?_
        refine j_iadd (pc := 53) C dX3_lead_53 ?_
        obtain ⟨g6, hF⟩ := gd_some hF
        refine j_iald (pc := 54) C K 1 0 rfl rfl g6 dX3_lead_54 ?_
        refine j_istore (pc := 55) (lv' := [(6, .int (mW ((mtb + ((2 : Int32) * x1)) + 1).toNatClampNeg)), (5, .int (mW (mtb + ((2 : Int32) * x1)).toNatClampNeg)), (4, .int rq3), (0, .ref (a 0)), (1, .int x1), (2, .int x2), (3, .int x3)]) C dX3_lead_55 (by decide) rfl ?_
        refine j_aload_n (pc := 57) C 3 dX3_lead_57 rfl rfl ?_
        refine j_dup (pc := 58) C dX3_lead_58 rfl ?_
        refine j_get (pc := 59) (v := .int mwr) C K inX3_lead_X3 0 rfl rfl 11 (by decide) lkX3_lead_57 rfl dX3_lead_59 ?_
        refine j_iconst (pc := 62) (v := 1) C dX3_lead_62 (by decide) ?_
        refine j_iadd (pc := 63) C dX3_lead_63 ?_
        refine j_put (pc := 64) (ws' := (mw a k mW mC mL mR mQ mE mtb mnC mnL mnR mov mnQ (mwr + 1) mwl mft mth mpl)) C K inX3_lead_X3 tyX3 tyX3_ok nmX3 0 rfl rfl 11 (by decide) lkX3_lead_57 rfl (tyX3_ok 11 (by decide)) rfl rfl (Nat.le_of_ble_eq_true rfl) rfl dX3_lead_64 ?_
        refine j_iload (pc := 67) C 1 dX3_lead_67 rfl ?_
        refine j_iconst (pc := 69) (v := 1) C dX3_lead_69 (by decide) ?_
        refine j_iand (pc := 70) C dX3_lead_70 ?_
        refine j_if_ne (pc := 71) (tgt := 76) C dX3_lead_71 (by decide) (fun c7 => ?_) (fun c7 => ?_)
        · replace hF := ifn hF c7
          refine j_aload_n (pc := 76) C 3 dX3_lead_76 rfl rfl ?_
          refine j_iload_n (pc := 77) C 4 dX3_lead_77 rfl rfl ?_
          refine j_iload (pc := 78) C 1 dX3_lead_78 rfl ?_
          refine j_iload (pc := 80) C 0 dX3_lead_80 rfl ?_
          obtain ⟨q8mC, q8mnC, hq8, hF⟩ := bd2_some hF
          refine j_callVv (pc := 82) (As := [.int x1, .int (mW (mtb + ((2 : Int32) * x1)).toNatClampNeg), .int (mW ((mtb + ((2 : Int32) * x1)) + 1).toNatClampNeg)]) (rest := []) (ws' := (mw a k mW q8mC mL mR mQ mE mtb q8mnC mnL mnR mov mnQ (mwr + 1) mwl mft mth mpl)) C K (ci := 3) (q0 := 0) rfl rfl rfl (ctX3_remember l D a k _ _ _ _ _ _ _ _ _ _ _ _ _ _ _ _ _ _ _ _ _ _ hq8) gX3_lead_X3_remember rfl rfl rfl hdyX3_remember ⟨Nat.le_of_ble_eq_true rfl, Nat.le_of_ble_eq_true rfl⟩ (List.range 7) (jrange _) (by decide) (jspF rfl) [0, 1, 2, 3, 4, 5] rfl rfl (Nat.le_of_ble_eq_true rfl) dX3_lead_82 ⟨Nat.zero_le _, Nat.zero_le _⟩ ?_
          refine j_aload_n (pc := 85) C 3 dX3_lead_85 rfl rfl ?_
          refine j_get (pc := 86) (v := .int q8mnC) C K inX3_lead_X3 0 rfl rfl 3 (by decide) lkX3_lead_42 rfl dX3_lead_86 ?_
          refine j_iconst (pc := 89) (v := 1) C dX3_lead_89 (by decide) ?_
          refine j_isub (pc := 90) C dX3_lead_90 ?_
          refine j_istore (pc := 91) (lv' := [(4, .int (q8mnC - 1)), (6, .int (mW ((mtb + ((2 : Int32) * x1)) + 1).toNatClampNeg)), (5, .int (mW (mtb + ((2 : Int32) * x1)).toNatClampNeg)), (0, .ref (a 0)), (1, .int x1), (2, .int x2), (3, .int x3)]) C dX3_lead_91 (by decide) rfl ?_
          exact j_lv [3, 5, 6, 0] rfl (K93 _ _ _ _ _ _ _ _ _ _ hF)
        · replace hF := ifp hF c7
          refine j_iconst (pc := 74) (v := 1) C dX3_lead_74 (by decide) ?_
          cases hF
          exact j_iret (pc := 75) C K hr hlk dX3_lead_75
    · replace hF := ifn hF c2
      refine j_iconst (pc := 10) (v := 4) C dX3_lead_10 (by decide) ?_
      cases hF
      exact j_iret (pc := 11) C K hr hlk dX3_lead_11
theorem lkX3_may_81 : Cond.fieldLink RX3 81 (TX3 13).1 (TX3 13).2.1 (TX3 13).2.2.1 ∈ wsX3_may := by decide +kernel
theorem lkX3_may_84 : Cond.fieldLink RX3 84 (TX3 7).1 (TX3 7).2.1 (TX3 7).2.2.1 ∈ wsX3_may := by decide +kernel
theorem lkX3_may_19 : Cond.fieldLink RX3 19 (TX3 6).1 (TX3 6).2.1 (TX3 6).2.2.1 ∈ wsX3_may := by decide +kernel
theorem lkX3_may_87 : Cond.fieldLink RX3 87 (TX3 8).1 (TX3 8).2.1 (TX3 8).2.2.1 ∈ wsX3_may := by decide +kernel
theorem inX3_may_X3 : ∀ w ∈ u_ws RX3 TX3 17, w ∈ wsX3_may := by decide +kernel
theorem hdyX3_may : yX3_may.cls = RX3 ∧ yX3_may.cls ≠ "java/lang/invoke/MethodHandle" ∧ yX3_may.cls ≠ "java/lang/invoke/VarHandle" ∧ (parseMethodDescriptor yX3_may.desc).map (fun d => d.parameters.length) = some 3 := by decide +kernel
set_option maxHeartbeats 4000000 in
set_option maxRecDepth 100000 in
theorem ctX3_may (l : Launch) (D : va_G) (a : Nat → Nat) (k : Nat → ClassId) (mW : Nat → Int32) (mC : Nat → Int32) (mL : Nat → Int32) (mR : Nat → Int32) (mQ : Nat → Int32) (mE : Nat → Int32) (mtb : Int32) (mnC : Int32) (mnL : Int32) (mnR : Int32) (mov : Int32) (mnQ : Int32) (mwr : Int32) (mwl : Int32) (mft : Int32) (mth : Int32) (mpl : Int32) (x1 x2 x3 : Int32) (r : Int32) (omC : Nat → Int32) (omL : Nat → Int32) (omR : Nat → Int32) (omnC : Int32) (omnL : Int32) (omnR : Int32) (omov : Int32) (omwr : Int32) (omwl : Int32) (omft : Int32) (ompl : Int32) (hF : FX3_may x1 x2 x3 mW mC mL mR mtb mnC mnL mnR mov mwr mwl mft mpl = some (r, omC, omL, omR, omnC, omnL, omnR, omov, omwr, omwl, omft, ompl)) : ji l yX3_may wsX3_may { frames := 3, cells := 0, slots := 0, locals := 78 } D (mt k) [.ref (a 0), .int x1, .int x2, .int x3] (mw a k mW mC mL mR mQ mE mtb mnC mnL mnR mov mnQ mwr mwl mft mth mpl) (mw a k mW omC omL omR mQ mE mtb omnC omnL omnR omov mnQ omwr omwl omft mth ompl) r := by
  refine j_mi (cc := cX3_may) (maxL := 5) (own := RX3) (ret := (some .boolean)) (by decide) rfl rfl (Nat.le_of_ble_eq_true rfl) ?_
  intro p e s m args below meth c A C K hr hlk
  unfold FX3_may at hF
  refine j_aload_n (pc := 0) C 0 dX3_may_0 rfl rfl ?_
  refine j_aload_n (pc := 1) C 0 dX3_may_1 rfl rfl ?_
  refine j_iload_n (pc := 2) C 1 dX3_may_2 rfl rfl ?_
  refine j_iload_n (pc := 3) C 2 dX3_may_3 rfl rfl ?_
  refine j_iload_n (pc := 4) C 3 dX3_may_4 rfl rfl ?_
  obtain ⟨rq1, q1mC, q1mL, q1mnC, q1mnL, q1mwr, q1mwl, q1mpl, hq1, hF⟩ := bd8_some hF
  refine j_callVi (pc := 5) (As := [.int x1, .int x2, .int x3]) (rest := [.ref (a 0)]) (ws' := (mw a k mW q1mC q1mL mR mQ mE mtb q1mnC q1mnL mnR mov mnQ q1mwr q1mwl mft mth q1mpl)) C K (ci := 3) (q0 := 0) rfl rfl rfl (ctX3_lead l D a k _ _ _ _ _ _ _ _ _ _ _ _ _ _ _ _ _ _ _ _ _ _ _ _ _ _ _ _ hq1) gX3_may_X3_lead rfl rfl rfl hdyX3_lead ⟨Nat.le_of_ble_eq_true rfl, Nat.le_of_ble_eq_true rfl⟩ (List.range 7) (jrange _) (by decide) (jspF rfl) [0, 1, 2, 3, 4, 5] rfl rfl (Nat.le_of_ble_eq_true rfl) dX3_may_5 ⟨Nat.zero_le _, Nat.zero_le _⟩ ?_
  refine j_put (pc := 8) (ws' := (mw a k mW q1mC q1mL mR mQ mE mtb q1mnC q1mnL mnR mov mnQ q1mwr q1mwl rq1 mth q1mpl)) C K inX3_may_X3 tyX3 tyX3_ok nmX3 0 rfl rfl 13 (by decide) lkX3_may_81 rfl (tyX3_ok 13 (by decide)) rfl rfl (Nat.le_of_ble_eq_true rfl) rfl dX3_may_8 ?_
  refine j_aload_n (pc := 11) C 0 dX3_may_11 rfl rfl ?_
  refine j_get (pc := 12) (v := .int rq1) C K inX3_may_X3 0 rfl rfl 13 (by decide) lkX3_may_81 rfl dX3_may_12 ?_
  refine j_if_ne (pc := 15) (tgt := 20) C dX3_may_15 (by decide) (fun c2 => ?_) (fun c2 => ?_)
  · replace hF := ifn hF c2
    refine j_aload_n (pc := 20) C 0 dX3_may_20 rfl rfl ?_
    refine j_get (pc := 21) (v := .int mnR) C K inX3_may_X3 0 rfl rfl 7 (by decide) lkX3_may_84 rfl dX3_may_21 ?_
    refine j_bipush (pc := 24) (v := 6) C dX3_may_24 (by decide) ?_
    refine j_icmp_ne (pc := 26) (tgt := 37) C dX3_may_26 (by decide) (fun c3 => ?_) (fun c3 => ?_)
    · replace hF := ifn hF c3
      refine j_iconst (pc := 37) (v := 4) C dX3_may_37 (by decide) ?_
      refine j_aload_n (pc := 38) C 0 dX3_may_38 rfl rfl ?_
      refine j_get (pc := 39) (v := .int mnR) C K inX3_may_X3 0 rfl rfl 7 (by decide) lkX3_may_84 rfl dX3_may_39 ?_
      refine j_imul (pc := 42) C dX3_may_42 ?_
      refine j_istore (pc := 43) (lv' := [(4, .int ((4 : Int32) * mnR)), (0, .ref (a 0)), (1, .int x1), (2, .int x2), (3, .int x3)]) C dX3_may_43 (by decide) rfl ?_
      refine j_aload_n (pc := 45) C 1 dX3_may_45 rfl rfl ?_
      refine j_get (pc := 46) (v := .ref (a 4)) C K inX3_may_X3 0 rfl rfl 6 (by decide) lkX3_may_19 rfl dX3_may_46 ?_
      refine j_iload (pc := 49) C 0 dX3_may_49 rfl ?_
      refine j_aload_n (pc := 51) C 1 dX3_may_51 rfl rfl ?_
      refine j_get (pc := 52) (v := .int rq1) C K inX3_may_X3 0 rfl rfl 13 (by decide) lkX3_may_81 rfl dX3_may_52 ?_
      obtain ⟨g4, hF⟩ := gd_some hF
      refine j_iast (pc := 55) (ws' := (mw a k mW q1mC q1mL (upd mR ((4 : Int32) * mnR).toNatClampNeg rq1) mQ mE mtb q1mnC q1mnL mnR mov mnQ q1mwr q1mwl rq1 mth q1mpl)) C K 4 3 rfl rfl g4 rfl dX3_may_55 ?_
      refine j_aload_n (pc := 56) C 1 dX3_may_56 rfl rfl ?_
      refine j_get (pc := 57) (v := .ref (a 4)) C K inX3_may_X3 0 rfl rfl 6 (by decide) lkX3_may_19 rfl dX3_may_57 ?_
      refine j_iload (pc := 60) C 0 dX3_may_60 rfl ?_
      refine j_iconst (pc := 62) (v := 1) C dX3_may_62 (by decide) ?_
      refine j_iadd (pc := 63) C dX3_may_63 ?_
      refine j_iload_n (pc := 64) C 2 dX3_may_64 rfl rfl ?_
      obtain ⟨g5, hF⟩ := gd_some hF
      refine j_iast (pc := 65) (ws' := (mw a k mW q1mC q1mL (upd (upd mR ((4 : Int32) * mnR).toNatClampNeg rq1) (((4 : Int32) * mnR) + 1).toNatClampNeg x1) mQ mE mtb q1mnC q1mnL mnR mov mnQ q1mwr q1mwl rq1 mth q1mpl)) C K 4 3 rfl rfl g5 rfl dX3_may_65 ?_
      refine j_aload_n (pc := 66) C 1 dX3_may_66 rfl rfl ?_
      refine j_get (pc := 67) (v := .ref (a 4)) C K inX3_may_X3 0 rfl rfl 6 (by decide) lkX3_may_19 rfl dX3_may_67 ?_
      refine j_iload (pc := 70) C 0 dX3_may_70 rfl ?_
      refine j_iconst (pc := 72) (v := 2) C dX3_may_72 (by decide) ?_
      refine j_iadd (pc := 73) C dX3_may_73 ?_
      refine j_iload_n (pc := 74) C 4 dX3_may_74 rfl rfl ?_
      refine j_if_eq (pc := 75) (tgt := 82) C dX3_may_75 (by decide) (fun c6 => ?_) (fun c6 => ?_)
      · replace hF := ifp hF c6
        refine j_iconst (pc := 82) (v := 0) C dX3_may_82 (by decide) ?_
        obtain ⟨g7, hF⟩ := gd_some hF
        refine j_iast (pc := 83) (ws' := (mw a k mW q1mC q1mL (upd (upd (upd mR ((4 : Int32) * mnR).toNatClampNeg rq1) (((4 : Int32) * mnR) + 1).toNatClampNeg x1) (((4 : Int32) * mnR) + 2).toNatClampNeg 0) mQ mE mtb q1mnC q1mnL mnR mov mnQ q1mwr q1mwl rq1 mth q1mpl)) C K 4 3 rfl rfl g7 rfl dX3_may_83 ?_
        refine j_aload_n (pc := 84) C 1 dX3_may_84 rfl rfl ?_
        refine j_get (pc := 85) (v := .ref (a 4)) C K inX3_may_X3 0 rfl rfl 6 (by decide) lkX3_may_19 rfl dX3_may_85 ?_
        refine j_iload (pc := 88) C 0 dX3_may_88 rfl ?_
        refine j_iconst (pc := 90) (v := 3) C dX3_may_90 (by decide) ?_
        refine j_iadd (pc := 91) C dX3_may_91 ?_
        refine j_iload_n (pc := 92) C 3 dX3_may_92 rfl rfl ?_
        obtain ⟨g8, hF⟩ := gd_some hF
        refine j_iast (pc := 93) (ws' := (mw a k mW q1mC q1mL (upd (upd (upd (upd mR ((4 : Int32) * mnR).toNatClampNeg rq1) (((4 : Int32) * mnR) + 1).toNatClampNeg x1) (((4 : Int32) * mnR) + 2).toNatClampNeg 0) (((4 : Int32) * mnR) + 3).toNatClampNeg x2) mQ mE mtb q1mnC q1mnL mnR mov mnQ q1mwr q1mwl rq1 mth q1mpl)) C K 4 3 rfl rfl g8 rfl dX3_may_93 ?_
        refine j_aload_n (pc := 94) C 1 dX3_may_94 rfl rfl ?_
        refine j_dup (pc := 95) C dX3_may_95 rfl ?_
        refine j_get (pc := 96) (v := .int mnR) C K inX3_may_X3 0 rfl rfl 7 (by decide) lkX3_may_84 rfl dX3_may_96 ?_
        refine j_iconst (pc := 99) (v := 1) C dX3_may_99 (by decide) ?_
        refine j_iadd (pc := 100) C dX3_may_100 ?_
        refine j_put (pc := 101) (ws' := (mw a k mW q1mC q1mL (upd (upd (upd (upd mR ((4 : Int32) * mnR).toNatClampNeg rq1) (((4 : Int32) * mnR) + 1).toNatClampNeg x1) (((4 : Int32) * mnR) + 2).toNatClampNeg 0) (((4 : Int32) * mnR) + 3).toNatClampNeg x2) mQ mE mtb q1mnC q1mnL (mnR + 1) mov mnQ q1mwr q1mwl rq1 mth q1mpl)) C K inX3_may_X3 tyX3 tyX3_ok nmX3 0 rfl rfl 7 (by decide) lkX3_may_84 rfl (tyX3_ok 7 (by decide)) rfl rfl (Nat.le_of_ble_eq_true rfl) rfl dX3_may_101 ?_
        refine j_iconst (pc := 104) (v := 0) C dX3_may_104 (by decide) ?_
        cases hF
        exact j_zret (pc := 105) C K hr hlk rfl dX3_may_105
      · replace hF := ifn hF c6
        refine j_iconst (pc := 78) (v := 1) C dX3_may_78 (by decide) ?_
        refine j_goto (pc := 79) (tgt := 83) C dX3_may_79 (by decide) ?_
        obtain ⟨g9, hF⟩ := gd_some hF
        refine j_iast (pc := 83) (ws' := (mw a k mW q1mC q1mL (upd (upd (upd mR ((4 : Int32) * mnR).toNatClampNeg rq1) (((4 : Int32) * mnR) + 1).toNatClampNeg x1) (((4 : Int32) * mnR) + 2).toNatClampNeg 1) mQ mE mtb q1mnC q1mnL mnR mov mnQ q1mwr q1mwl rq1 mth q1mpl)) C K 4 3 rfl rfl g9 rfl dX3_may_83 ?_
        refine j_aload_n (pc := 84) C 1 dX3_may_84 rfl rfl ?_
        refine j_get (pc := 85) (v := .ref (a 4)) C K inX3_may_X3 0 rfl rfl 6 (by decide) lkX3_may_19 rfl dX3_may_85 ?_
        refine j_iload (pc := 88) C 0 dX3_may_88 rfl ?_
        refine j_iconst (pc := 90) (v := 3) C dX3_may_90 (by decide) ?_
        refine j_iadd (pc := 91) C dX3_may_91 ?_
        refine j_iload_n (pc := 92) C 3 dX3_may_92 rfl rfl ?_
        obtain ⟨g10, hF⟩ := gd_some hF
        refine j_iast (pc := 93) (ws' := (mw a k mW q1mC q1mL (upd (upd (upd (upd mR ((4 : Int32) * mnR).toNatClampNeg rq1) (((4 : Int32) * mnR) + 1).toNatClampNeg x1) (((4 : Int32) * mnR) + 2).toNatClampNeg 1) (((4 : Int32) * mnR) + 3).toNatClampNeg x2) mQ mE mtb q1mnC q1mnL mnR mov mnQ q1mwr q1mwl rq1 mth q1mpl)) C K 4 3 rfl rfl g10 rfl dX3_may_93 ?_
        refine j_aload_n (pc := 94) C 1 dX3_may_94 rfl rfl ?_
        refine j_dup (pc := 95) C dX3_may_95 rfl ?_
        refine j_get (pc := 96) (v := .int mnR) C K inX3_may_X3 0 rfl rfl 7 (by decide) lkX3_may_84 rfl dX3_may_96 ?_
        refine j_iconst (pc := 99) (v := 1) C dX3_may_99 (by decide) ?_
        refine j_iadd (pc := 100) C dX3_may_100 ?_
        refine j_put (pc := 101) (ws' := (mw a k mW q1mC q1mL (upd (upd (upd (upd mR ((4 : Int32) * mnR).toNatClampNeg rq1) (((4 : Int32) * mnR) + 1).toNatClampNeg x1) (((4 : Int32) * mnR) + 2).toNatClampNeg 1) (((4 : Int32) * mnR) + 3).toNatClampNeg x2) mQ mE mtb q1mnC q1mnL (mnR + 1) mov mnQ q1mwr q1mwl rq1 mth q1mpl)) C K inX3_may_X3 tyX3 tyX3_ok nmX3 0 rfl rfl 7 (by decide) lkX3_may_84 rfl (tyX3_ok 7 (by decide)) rfl rfl (Nat.le_of_ble_eq_true rfl) rfl dX3_may_101 ?_
        refine j_iconst (pc := 104) (v := 0) C dX3_may_104 (by decide) ?_
        cases hF
        exact j_zret (pc := 105) C K hr hlk rfl dX3_may_105
    · replace hF := ifp hF c3
      refine j_aload_n (pc := 29) C 0 dX3_may_29 rfl rfl ?_
      refine j_iconst (pc := 30) (v := 1) C dX3_may_30 (by decide) ?_
      refine j_put (pc := 31) (ws' := (mw a k mW q1mC q1mL mR mQ mE mtb q1mnC q1mnL mnR 1 mnQ q1mwr q1mwl rq1 mth q1mpl)) C K inX3_may_X3 tyX3 tyX3_ok nmX3 0 rfl rfl 8 (by decide) lkX3_may_87 rfl (tyX3_ok 8 (by decide)) rfl rfl (Nat.le_of_ble_eq_true rfl) rfl dX3_may_31 ?_
      refine j_goto (pc := 34) (tgt := 104) C dX3_may_34 (by decide) ?_
      refine j_iconst (pc := 104) (v := 0) C dX3_may_104 (by decide) ?_
      cases hF
      exact j_zret (pc := 105) C K hr hlk rfl dX3_may_105
  · replace hF := ifp hF c2
    refine j_iconst (pc := 18) (v := 1) C dX3_may_18 (by decide) ?_
    cases hF
    exact j_zret (pc := 19) C K hr hlk rfl dX3_may_19
theorem lkX3_read_28 : Cond.fieldLink RX3 28 (TX3 14).1 (TX3 14).2.1 (TX3 14).2.2.1 ∈ wsX3_read := by decide +kernel
theorem lkX3_read_9 : Cond.fieldLink RX3 9 (TX3 0).1 (TX3 0).2.1 (TX3 0).2.2.1 ∈ wsX3_read := by decide +kernel
theorem lkX3_read_64 : Cond.fieldLink RX3 64 (TX3 16).1 (TX3 16).2.1 (TX3 16).2.2.1 ∈ wsX3_read := by decide +kernel
theorem inX3_read_X3 : ∀ w ∈ u_ws RX3 TX3 17, w ∈ wsX3_read := by decide +kernel
theorem hdyX3_read : yX3_read.cls = RX3 ∧ yX3_read.cls ≠ "java/lang/invoke/MethodHandle" ∧ yX3_read.cls ≠ "java/lang/invoke/VarHandle" ∧ (parseMethodDescriptor yX3_read.desc).map (fun d => d.parameters.length) = some 2 := by decide +kernel
set_option maxHeartbeats 4000000 in
set_option maxRecDepth 100000 in
theorem ctX3_read (l : Launch) (D : va_G) (a : Nat → Nat) (k : Nat → ClassId) (mW : Nat → Int32) (mC : Nat → Int32) (mL : Nat → Int32) (mR : Nat → Int32) (mQ : Nat → Int32) (mE : Nat → Int32) (mtb : Int32) (mnC : Int32) (mnL : Int32) (mnR : Int32) (mov : Int32) (mnQ : Int32) (mwr : Int32) (mwl : Int32) (mft : Int32) (mth : Int32) (mpl : Int32) (x1 x2 : Int32) (r : Int32) (omC : Nat → Int32) (omL : Nat → Int32) (omR : Nat → Int32) (omnC : Int32) (omnL : Int32) (omnR : Int32) (omov : Int32) (omwr : Int32) (omwl : Int32) (omft : Int32) (omth : Int32) (ompl : Int32) (hF : FX3_read x1 x2 mW mC mL mR mtb mnC mnL mnR mov mwr mwl mft mth mpl = some (r, omC, omL, omR, omnC, omnL, omnR, omov, omwr, omwl, omft, omth, ompl)) : ji l yX3_read wsX3_read { frames := 4, cells := 0, slots := 0, locals := 102 } D (mt k) [.ref (a 0), .int x1, .int x2] (mw a k mW mC mL mR mQ mE mtb mnC mnL mnR mov mnQ mwr mwl mft mth mpl) (mw a k mW omC omL omR mQ mE mtb omnC omnL omnR omov mnQ omwr omwl omft omth ompl) r := by
  refine j_mi (cc := cX3_read) (maxL := 3) (own := RX3) (ret := (some .int)) (by decide) rfl rfl (Nat.le_of_ble_eq_true rfl) ?_
  intro p e s m args below meth c A C K hr hlk
  unfold FX3_read at hF
  refine j_aload_n (pc := 0) C 0 dX3_read_0 rfl rfl ?_
  refine j_iconst (pc := 1) (v := 0) C dX3_read_1 (by decide) ?_
  refine j_put (pc := 2) (ws' := (mw a k mW mC mL mR mQ mE mtb mnC mnL mnR mov mnQ mwr mwl mft 0 mpl)) C K inX3_read_X3 tyX3 tyX3_ok nmX3 0 rfl rfl 14 (by decide) lkX3_read_28 rfl (tyX3_ok 14 (by decide)) rfl rfl (Nat.le_of_ble_eq_true rfl) rfl dX3_read_2 ?_
  refine j_iload_n (pc := 5) C 1 dX3_read_5 rfl rfl ?_
  obtain ⟨rq1, hq1, hF⟩ := bd1_some hF
  refine j_callSi (pc := 6) (As := [.int x1]) (rest := []) (ws' := (mw a k mW mC mL mR mQ mE mtb mnC mnL mnR mov mnQ mwr mwl mft 0 mpl)) C K (ctX3_isDevice l D  _ _ hq1) gX3_read_X3_isDevice rfl rfl rfl hdyX3_isDevice ⟨Nat.le_of_ble_eq_true rfl, Nat.le_of_ble_eq_true rfl⟩ [] rfl rfl jsp0 [] rfl rfl (Nat.le_of_ble_eq_true rfl) dX3_read_6 ⟨Nat.zero_le _, Nat.zero_le _⟩ ?_
  refine j_if_ne (pc := 9) (tgt := 19) C dX3_read_9 (by decide) (fun c2 => ?_) (fun c2 => ?_)
  · replace hF := ifn hF c2
    refine j_aload_n (pc := 19) C 0 dX3_read_19 rfl rfl ?_
    refine j_iload_n (pc := 20) C 1 dX3_read_20 rfl rfl ?_
    refine j_iload_n (pc := 21) C 2 dX3_read_21 rfl rfl ?_
    refine j_iconst (pc := 22) (v := 0) C dX3_read_22 (by decide) ?_
    obtain ⟨rq3, q3mC, q3mL, q3mR, q3mnC, q3mnL, q3mnR, q3mov, q3mwr, q3mwl, q3mft, q3mpl, hq3, hF⟩ := bd12_some hF
    refine j_callVi (pc := 23) (As := [.int x1, .int x2, .int 0]) (rest := []) (ws' := (mw a k mW q3mC q3mL q3mR mQ mE mtb q3mnC q3mnL q3mnR q3mov mnQ q3mwr q3mwl q3mft 0 q3mpl)) C K (ci := 3) (q0 := 0) rfl rfl rfl (ctX3_may l D a k _ _ _ _ _ _ _ _ _ _ _ _ _ _ _ _ _ _ _ _ _ _ _ _ _ _ _ _ _ _ _ _ hq3) gX3_read_X3_may rfl rfl rfl hdyX3_may ⟨Nat.le_of_ble_eq_true rfl, Nat.le_of_ble_eq_true rfl⟩ (List.range 7) (jrange _) (by decide) (jspF rfl) [0, 1, 2, 3, 4, 5] rfl rfl (Nat.le_of_ble_eq_true rfl) dX3_read_23 ⟨Nat.zero_le _, Nat.zero_le _⟩ ?_
    refine j_if_eq (pc := 26) (tgt := 41) C dX3_read_26 (by decide) (fun c4 => ?_) (fun c4 => ?_)
    · replace hF := ifp hF c4
      refine j_iconst (pc := 41) (v := 0) C dX3_read_41 (by decide) ?_
      cases hF
      exact j_iret (pc := 42) C K hr hlk dX3_read_42
    · replace hF := ifn hF c4
      refine j_aload_n (pc := 29) C 0 dX3_read_29 rfl rfl ?_
      refine j_get (pc := 30) (v := .ref (a 1)) C K inX3_read_X3 0 rfl rfl 0 (by decide) lkX3_read_9 rfl dX3_read_30 ?_
      refine j_aload_n (pc := 33) C 0 dX3_read_33 rfl rfl ?_
      refine j_get (pc := 34) (v := .int q3mpl) C K inX3_read_X3 0 rfl rfl 16 (by decide) lkX3_read_64 rfl dX3_read_34 ?_
      obtain ⟨g5, hF⟩ := gd_some hF
      refine j_iald (pc := 37) C K 1 0 rfl rfl g5 dX3_read_37 ?_
      refine j_goto (pc := 38) (tgt := 42) C dX3_read_38 (by decide) ?_
      cases hF
      exact j_iret (pc := 42) C K hr hlk dX3_read_42
  · replace hF := ifp hF c2
    refine j_aload_n (pc := 12) C 0 dX3_read_12 rfl rfl ?_
    refine j_iconst (pc := 13) (v := 1) C dX3_read_13 (by decide) ?_
    refine j_put (pc := 14) (ws' := (mw a k mW mC mL mR mQ mE mtb mnC mnL mnR mov mnQ mwr mwl mft 1 mpl)) C K inX3_read_X3 tyX3 tyX3_ok nmX3 0 rfl rfl 14 (by decide) lkX3_read_28 rfl (tyX3_ok 14 (by decide)) rfl rfl (Nat.le_of_ble_eq_true rfl) rfl dX3_read_14 ?_
    refine j_iconst (pc := 17) (v := 0) C dX3_read_17 (by decide) ?_
    cases hF
    exact j_iret (pc := 18) C K hr hlk dX3_read_18
theorem lkX3_write_28 : Cond.fieldLink RX3 28 (TX3 14).1 (TX3 14).2.1 (TX3 14).2.2.1 ∈ wsX3_write := by decide +kernel
theorem lkX3_write_81 : Cond.fieldLink RX3 81 (TX3 13).1 (TX3 13).2.1 (TX3 13).2.2.1 ∈ wsX3_write := by decide +kernel
theorem lkX3_write_9 : Cond.fieldLink RX3 9 (TX3 0).1 (TX3 0).2.1 (TX3 0).2.2.1 ∈ wsX3_write := by decide +kernel
theorem lkX3_write_64 : Cond.fieldLink RX3 64 (TX3 16).1 (TX3 16).2.1 (TX3 16).2.2.1 ∈ wsX3_write := by decide +kernel
theorem inX3_write_X3 : ∀ w ∈ u_ws RX3 TX3 17, w ∈ wsX3_write := by decide +kernel
theorem hdyX3_write : yX3_write.cls = RX3 ∧ yX3_write.cls ≠ "java/lang/invoke/MethodHandle" ∧ yX3_write.cls ≠ "java/lang/invoke/VarHandle" ∧ (parseMethodDescriptor yX3_write.desc).map (fun d => d.parameters.length) = some 3 := by decide +kernel
set_option maxHeartbeats 4000000 in
set_option maxRecDepth 100000 in
theorem ctX3_write (l : Launch) (D : va_G) (a : Nat → Nat) (k : Nat → ClassId) (mW : Nat → Int32) (mC : Nat → Int32) (mL : Nat → Int32) (mR : Nat → Int32) (mQ : Nat → Int32) (mE : Nat → Int32) (mtb : Int32) (mnC : Int32) (mnL : Int32) (mnR : Int32) (mov : Int32) (mnQ : Int32) (mwr : Int32) (mwl : Int32) (mft : Int32) (mth : Int32) (mpl : Int32) (x1 x2 x3 : Int32) (r : Int32) (omW : Nat → Int32) (omC : Nat → Int32) (omL : Nat → Int32) (omR : Nat → Int32) (omnC : Int32) (omnL : Int32) (omnR : Int32) (omov : Int32) (omwr : Int32) (omwl : Int32) (omft : Int32) (omth : Int32) (ompl : Int32) (hF : FX3_write x1 x2 x3 mW mC mL mR mtb mnC mnL mnR mov mwr mwl mft mth mpl = some (r, omW, omC, omL, omR, omnC, omnL, omnR, omov, omwr, omwl, omft, omth, ompl)) : ji l yX3_write wsX3_write { frames := 4, cells := 0, slots := 0, locals := 102 } D (mt k) [.ref (a 0), .int x1, .int x2, .int x3] (mw a k mW mC mL mR mQ mE mtb mnC mnL mnR mov mnQ mwr mwl mft mth mpl) (mw a k omW omC omL omR mQ mE mtb omnC omnL omnR omov mnQ omwr omwl omft omth ompl) r := by
  refine j_mi (cc := cX3_write) (maxL := 4) (own := RX3) (ret := (some .boolean)) (by decide) rfl rfl (Nat.le_of_ble_eq_true rfl) ?_
  intro p e s m args below meth c A C K hr hlk
  unfold FX3_write at hF
  refine j_aload_n (pc := 0) C 0 dX3_write_0 rfl rfl ?_
  refine j_iconst (pc := 1) (v := 0) C dX3_write_1 (by decide) ?_
  refine j_put (pc := 2) (ws' := (mw a k mW mC mL mR mQ mE mtb mnC mnL mnR mov mnQ mwr mwl mft 0 mpl)) C K inX3_write_X3 tyX3 tyX3_ok nmX3 0 rfl rfl 14 (by decide) lkX3_write_28 rfl (tyX3_ok 14 (by decide)) rfl rfl (Nat.le_of_ble_eq_true rfl) rfl dX3_write_2 ?_
  refine j_aload_n (pc := 5) C 0 dX3_write_5 rfl rfl ?_
  refine j_iconst (pc := 6) (v := 0) C dX3_write_6 (by decide) ?_
  refine j_put (pc := 7) (ws' := (mw a k mW mC mL mR mQ mE mtb mnC mnL mnR mov mnQ mwr mwl 0 0 mpl)) C K inX3_write_X3 tyX3 tyX3_ok nmX3 0 rfl rfl 13 (by decide) lkX3_write_81 rfl (tyX3_ok 13 (by decide)) rfl rfl (Nat.le_of_ble_eq_true rfl) rfl dX3_write_7 ?_
  refine j_iload_n (pc := 10) C 1 dX3_write_10 rfl rfl ?_
  obtain ⟨rq1, hq1, hF⟩ := bd1_some hF
  refine j_callSi (pc := 11) (As := [.int x1]) (rest := []) (ws' := (mw a k mW mC mL mR mQ mE mtb mnC mnL mnR mov mnQ mwr mwl 0 0 mpl)) C K (ctX3_isDevice l D  _ _ hq1) gX3_write_X3_isDevice rfl rfl rfl hdyX3_isDevice ⟨Nat.le_of_ble_eq_true rfl, Nat.le_of_ble_eq_true rfl⟩ [] rfl rfl jsp0 [] rfl rfl (Nat.le_of_ble_eq_true rfl) dX3_write_11 ⟨Nat.zero_le _, Nat.zero_le _⟩ ?_
  refine j_if_eq (pc := 14) (tgt := 27) C dX3_write_14 (by decide) (fun c2 => ?_) (fun c2 => ?_)
  · replace hF := ifp hF c2
    refine j_iconst (pc := 27) (v := 0) C dX3_write_27 (by decide) ?_
    cases hF
    exact j_zret (pc := 28) C K hr hlk rfl dX3_write_28
  · replace hF := ifn hF c2
    refine j_aload_n (pc := 17) C 0 dX3_write_17 rfl rfl ?_
    refine j_iload_n (pc := 18) C 1 dX3_write_18 rfl rfl ?_
    refine j_iload_n (pc := 19) C 2 dX3_write_19 rfl rfl ?_
    refine j_iconst (pc := 20) (v := 1) C dX3_write_20 (by decide) ?_
    obtain ⟨rq3, q3mC, q3mL, q3mR, q3mnC, q3mnL, q3mnR, q3mov, q3mwr, q3mwl, q3mft, q3mpl, hq3, hF⟩ := bd12_some hF
    refine j_callVi (pc := 21) (As := [.int x1, .int x2, .int 1]) (rest := []) (ws' := (mw a k mW q3mC q3mL q3mR mQ mE mtb q3mnC q3mnL q3mnR q3mov mnQ q3mwr q3mwl q3mft 0 q3mpl)) C K (ci := 3) (q0 := 0) rfl rfl rfl (ctX3_may l D a k _ _ _ _ _ _ _ _ _ _ _ _ _ _ _ _ _ _ _ _ _ _ _ _ _ _ _ _ _ _ _ _ hq3) gX3_write_X3_may rfl rfl rfl hdyX3_may ⟨Nat.le_of_ble_eq_true rfl, Nat.le_of_ble_eq_true rfl⟩ (List.range 7) (jrange _) (by decide) (jspF rfl) [0, 1, 2, 3, 4, 5] rfl rfl (Nat.le_of_ble_eq_true rfl) dX3_write_21 ⟨Nat.zero_le _, Nat.zero_le _⟩ ?_
    refine j_if_ne (pc := 24) (tgt := 29) C dX3_write_24 (by decide) (fun c4 => ?_) (fun c4 => ?_)
    · replace hF := ifn hF c4
      refine j_aload_n (pc := 29) C 0 dX3_write_29 rfl rfl ?_
      refine j_get (pc := 30) (v := .ref (a 1)) C K inX3_write_X3 0 rfl rfl 0 (by decide) lkX3_write_9 rfl dX3_write_30 ?_
      refine j_aload_n (pc := 33) C 0 dX3_write_33 rfl rfl ?_
      refine j_get (pc := 34) (v := .int q3mpl) C K inX3_write_X3 0 rfl rfl 16 (by decide) lkX3_write_64 rfl dX3_write_34 ?_
      refine j_iload_n (pc := 37) C 3 dX3_write_37 rfl rfl ?_
      obtain ⟨g5, hF⟩ := gd_some hF
      refine j_iast (pc := 38) (ws' := (mw a k (upd mW q3mpl.toNatClampNeg x3) q3mC q3mL q3mR mQ mE mtb q3mnC q3mnL q3mnR q3mov mnQ q3mwr q3mwl q3mft 0 q3mpl)) C K 1 0 rfl rfl g5 rfl dX3_write_38 ?_
      refine j_iconst (pc := 39) (v := 1) C dX3_write_39 (by decide) ?_
      cases hF
      exact j_zret (pc := 40) C K hr hlk rfl dX3_write_40
    · replace hF := ifp hF c4
      refine j_iconst (pc := 27) (v := 0) C dX3_write_27 (by decide) ?_
      cases hF
      exact j_zret (pc := 28) C K hr hlk rfl dX3_write_28
theorem lkX3_fault_28 : Cond.fieldLink RX3 28 (TX3 14).1 (TX3 14).2.1 (TX3 14).2.2.1 ∈ wsX3_fault := by decide +kernel
theorem lkX3_fault_81 : Cond.fieldLink RX3 81 (TX3 13).1 (TX3 13).2.1 (TX3 13).2.2.1 ∈ wsX3_fault := by decide +kernel
theorem inX3_fault_X3 : ∀ w ∈ u_ws RX3 TX3 17, w ∈ wsX3_fault := by decide +kernel
theorem hdyX3_fault : yX3_fault.cls = RX3 ∧ yX3_fault.cls ≠ "java/lang/invoke/MethodHandle" ∧ yX3_fault.cls ≠ "java/lang/invoke/VarHandle" ∧ (parseMethodDescriptor yX3_fault.desc).map (fun d => d.parameters.length) = some 0 := by decide +kernel
set_option maxHeartbeats 4000000 in
set_option maxRecDepth 100000 in
theorem ctX3_fault (l : Launch) (D : va_G) (a : Nat → Nat) (k : Nat → ClassId) (mW : Nat → Int32) (mC : Nat → Int32) (mL : Nat → Int32) (mR : Nat → Int32) (mQ : Nat → Int32) (mE : Nat → Int32) (mtb : Int32) (mnC : Int32) (mnL : Int32) (mnR : Int32) (mov : Int32) (mnQ : Int32) (mwr : Int32) (mwl : Int32) (mft : Int32) (mth : Int32) (mpl : Int32) (r : Int32) (omth : Int32) (hF : FX3_fault mft mth = some (r, omth)) : ji l yX3_fault wsX3_fault { frames := 0, cells := 0, slots := 0, locals := 0 } D (mt k) [.ref (a 0)] (mw a k mW mC mL mR mQ mE mtb mnC mnL mnR mov mnQ mwr mwl mft mth mpl) (mw a k mW mC mL mR mQ mE mtb mnC mnL mnR mov mnQ mwr mwl mft omth mpl) r := by
  refine j_mi (cc := cX3_fault) (maxL := 1) (own := RX3) (ret := (some .int)) (by decide) rfl rfl (Nat.le_of_ble_eq_true rfl) ?_
  intro p e s m args below meth c A C K hr hlk
  unfold FX3_fault at hF
  refine j_aload_n (pc := 0) C 0 dX3_fault_0 rfl rfl ?_
  refine j_iconst (pc := 1) (v := 0) C dX3_fault_1 (by decide) ?_
  refine j_put (pc := 2) (ws' := (mw a k mW mC mL mR mQ mE mtb mnC mnL mnR mov mnQ mwr mwl mft 0 mpl)) C K inX3_fault_X3 tyX3 tyX3_ok nmX3 0 rfl rfl 14 (by decide) lkX3_fault_28 rfl (tyX3_ok 14 (by decide)) rfl rfl (Nat.le_of_ble_eq_true rfl) rfl dX3_fault_2 ?_
  refine j_aload_n (pc := 5) C 0 dX3_fault_5 rfl rfl ?_
  refine j_get (pc := 6) (v := .int mft) C K inX3_fault_X3 0 rfl rfl 13 (by decide) lkX3_fault_81 rfl dX3_fault_6 ?_
  cases hF
  exact j_iret (pc := 9) C K hr hlk dX3_fault_9
theorem lkX3_ring_28 : Cond.fieldLink RX3 28 (TX3 14).1 (TX3 14).2.1 (TX3 14).2.2.1 ∈ wsX3_ring := by decide +kernel
theorem lkX3_ring_k95 : Cond.constant RX3 95 1048572 ∈ wsX3_ring := by decide +kernel
theorem lkX3_ring_25 : Cond.fieldLink RX3 25 (TX3 15).1 (TX3 15).2.1 (TX3 15).2.2.1 ∈ wsX3_ring := by decide +kernel
theorem inX3_ring_X3 : ∀ w ∈ u_ws RX3 TX3 17, w ∈ wsX3_ring := by decide +kernel
theorem hdyX3_ring : yX3_ring.cls = RX3 ∧ yX3_ring.cls ≠ "java/lang/invoke/MethodHandle" ∧ yX3_ring.cls ≠ "java/lang/invoke/VarHandle" ∧ (parseMethodDescriptor yX3_ring.desc).map (fun d => d.parameters.length) = some 3 := by decide +kernel
set_option maxHeartbeats 4000000 in
set_option maxRecDepth 100000 in
theorem ctX3_ring (l : Launch) (D : va_G) (a : Nat → Nat) (k : Nat → ClassId) (mW : Nat → Int32) (mC : Nat → Int32) (mL : Nat → Int32) (mR : Nat → Int32) (mQ : Nat → Int32) (mE : Nat → Int32) (mtb : Int32) (mnC : Int32) (mnL : Int32) (mnR : Int32) (mov : Int32) (mnQ : Int32) (mwr : Int32) (mwl : Int32) (mft : Int32) (mth : Int32) (mpl : Int32) (x1 x2 x3 : Int32) (r : Int32) (omE : Nat → Int32) (omth : Int32) (hF : FX3_ring x1 x2 x3 mE mth = some (r, omE, omth)) : ji l yX3_ring wsX3_ring { frames := 1, cells := 0, slots := 0, locals := 20 } D (mt k) [.ref (a 0), .int x1, .int x2, .int x3] (mw a k mW mC mL mR mQ mE mtb mnC mnL mnR mov mnQ mwr mwl mft mth mpl) (mw a k mW mC mL mR mQ omE mtb mnC mnL mnR mov mnQ mwr mwl mft omth mpl) r := by
  refine j_mi (cc := cX3_ring) (maxL := 5) (own := RX3) (ret := (some .boolean)) (by decide) rfl rfl (Nat.le_of_ble_eq_true rfl) ?_
  intro p e s m args below meth c A C K hr hlk
  unfold FX3_ring at hF
  refine j_aload_n (pc := 0) C 0 dX3_ring_0 rfl rfl ?_
  refine j_iconst (pc := 1) (v := 0) C dX3_ring_1 (by decide) ?_
  refine j_put (pc := 2) (ws' := (mw a k mW mC mL mR mQ mE mtb mnC mnL mnR mov mnQ mwr mwl mft 0 mpl)) C K inX3_ring_X3 tyX3 tyX3_ok nmX3 0 rfl rfl 14 (by decide) lkX3_ring_28 rfl (tyX3_ok 14 (by decide)) rfl rfl (Nat.le_of_ble_eq_true rfl) rfl dX3_ring_2 ?_
  refine j_iload_n (pc := 5) C 1 dX3_ring_5 rfl rfl ?_
  obtain ⟨rq1, hq1, hF⟩ := bd1_some hF
  refine j_callSi (pc := 6) (As := [.int x1]) (rest := []) (ws' := (mw a k mW mC mL mR mQ mE mtb mnC mnL mnR mov mnQ mwr mwl mft 0 mpl)) C K (ctX3_isDevice l D  _ _ hq1) gX3_ring_X3_isDevice rfl rfl rfl hdyX3_isDevice ⟨Nat.le_of_ble_eq_true rfl, Nat.le_of_ble_eq_true rfl⟩ [] rfl rfl jsp0 [] rfl rfl (Nat.le_of_ble_eq_true rfl) dX3_ring_6 ⟨Nat.zero_le _, Nat.zero_le _⟩ ?_
  refine j_if_eq (pc := 9) (tgt := 39) C dX3_ring_9 (by decide) (fun c2 => ?_) (fun c2 => ?_)
  · replace hF := ifp hF c2
    refine j_iconst (pc := 39) (v := 0) C dX3_ring_39 (by decide) ?_
    cases hF
    exact j_zret (pc := 40) C K hr hlk rfl dX3_ring_40
  · replace hF := ifn hF c2
    refine j_iload_n (pc := 12) C 2 dX3_ring_12 rfl rfl ?_
    refine j_if_lt (pc := 13) (tgt := 39) C dX3_ring_13 (by decide) (fun c3 => ?_) (fun c3 => ?_)
    · replace hF := ifp hF c3
      refine j_iconst (pc := 39) (v := 0) C dX3_ring_39 (by decide) ?_
      cases hF
      exact j_zret (pc := 40) C K hr hlk rfl dX3_ring_40
    · replace hF := ifn hF c3
      refine j_iload_n (pc := 16) C 2 dX3_ring_16 rfl rfl ?_
      refine j_ldc (pc := 17) (v := 1048572) C lkX3_ring_k95 dX3_ring_17 ?_
      refine j_icmp_gt (pc := 19) (tgt := 39) C dX3_ring_19 (by decide) (fun c4 => ?_) (fun c4 => ?_)
      · replace hF := ifp hF c4
        refine j_iconst (pc := 39) (v := 0) C dX3_ring_39 (by decide) ?_
        cases hF
        exact j_zret (pc := 40) C K hr hlk rfl dX3_ring_40
      · replace hF := ifn hF c4
        refine j_iload_n (pc := 22) C 2 dX3_ring_22 rfl rfl ?_
        refine j_iconst (pc := 23) (v := 4) C dX3_ring_23 (by decide) ?_
        obtain ⟨g5, hF⟩ := gd_some hF
        refine j_irem (pc := 24) C dX3_ring_24 (nz_ne g5) ?_
        refine j_if_ne (pc := 25) (tgt := 39) C dX3_ring_25 (by decide) (fun c6 => ?_) (fun c6 => ?_)
        · replace hF := ifn hF c6
          refine j_iconst (pc := 39) (v := 0) C dX3_ring_39 (by decide) ?_
          cases hF
          exact j_zret (pc := 40) C K hr hlk rfl dX3_ring_40
        · replace hF := ifp hF c6
          refine j_iload_n (pc := 28) C 3 dX3_ring_28 rfl rfl ?_
          refine j_iconst (pc := 29) (v := 1) C dX3_ring_29 (by decide) ?_
          refine j_icmp_lt (pc := 30) (tgt := 39) C dX3_ring_30 (by decide) (fun c7 => ?_) (fun c7 => ?_)
          · replace hF := ifp hF c7
            refine j_iconst (pc := 39) (v := 0) C dX3_ring_39 (by decide) ?_
            cases hF
            exact j_zret (pc := 40) C K hr hlk rfl dX3_ring_40
          · replace hF := ifn hF c7
            refine j_iload_n (pc := 33) C 3 dX3_ring_33 rfl rfl ?_
            refine j_bipush (pc := 34) (v := 64) C dX3_ring_34 (by decide) ?_
            refine j_icmp_le (pc := 36) (tgt := 41) C dX3_ring_36 (by decide) (fun c8 => ?_) (fun c8 => ?_)
            · replace hF := ifp hF c8
              refine j_bipush (pc := 41) (v := 11) C dX3_ring_41 (by decide) ?_
              refine j_iload_n (pc := 43) C 1 dX3_ring_43 rfl rfl ?_
              refine j_imul (pc := 44) C dX3_ring_44 ?_
              refine j_istore (pc := 45) (lv' := [(4, .int ((11 : Int32) * x1)), (0, .ref (a 0)), (1, .int x1), (2, .int x2), (3, .int x3)]) C dX3_ring_45 (by decide) rfl ?_
              refine j_aload_n (pc := 47) C 1 dX3_ring_47 rfl rfl ?_
              refine j_get (pc := 48) (v := .ref (a 6)) C K inX3_ring_X3 0 rfl rfl 15 (by decide) lkX3_ring_25 rfl dX3_ring_48 ?_
              refine j_iload (pc := 51) C 0 dX3_ring_51 rfl ?_
              refine j_iload_n (pc := 53) C 3 dX3_ring_53 rfl rfl ?_
              obtain ⟨g9, hF⟩ := gd_some hF
              refine j_iast (pc := 54) (ws' := (mw a k mW mC mL mR mQ (upd mE ((11 : Int32) * x1).toNatClampNeg x2) mtb mnC mnL mnR mov mnQ mwr mwl mft 0 mpl)) C K 6 5 rfl rfl g9 rfl dX3_ring_54 ?_
              refine j_aload_n (pc := 55) C 1 dX3_ring_55 rfl rfl ?_
              refine j_get (pc := 56) (v := .ref (a 6)) C K inX3_ring_X3 0 rfl rfl 15 (by decide) lkX3_ring_25 rfl dX3_ring_56 ?_
              refine j_iload (pc := 59) C 0 dX3_ring_59 rfl ?_
              refine j_iconst (pc := 61) (v := 1) C dX3_ring_61 (by decide) ?_
              refine j_iadd (pc := 62) C dX3_ring_62 ?_
              refine j_iload_n (pc := 63) C 4 dX3_ring_63 rfl rfl ?_
              obtain ⟨g10, hF⟩ := gd_some hF
              refine j_iast (pc := 64) (ws' := (mw a k mW mC mL mR mQ (upd (upd mE ((11 : Int32) * x1).toNatClampNeg x2) (((11 : Int32) * x1) + 1).toNatClampNeg x3) mtb mnC mnL mnR mov mnQ mwr mwl mft 0 mpl)) C K 6 5 rfl rfl g10 rfl dX3_ring_64 ?_
              refine j_aload_n (pc := 65) C 1 dX3_ring_65 rfl rfl ?_
              refine j_get (pc := 66) (v := .ref (a 6)) C K inX3_ring_X3 0 rfl rfl 15 (by decide) lkX3_ring_25 rfl dX3_ring_66 ?_
              refine j_iload (pc := 69) C 0 dX3_ring_69 rfl ?_
              refine j_iconst (pc := 71) (v := 2) C dX3_ring_71 (by decide) ?_
              refine j_iadd (pc := 72) C dX3_ring_72 ?_
              refine j_iconst (pc := 73) (v := 0) C dX3_ring_73 (by decide) ?_
              obtain ⟨g11, hF⟩ := gd_some hF
              refine j_iast (pc := 74) (ws' := (mw a k mW mC mL mR mQ (upd (upd (upd mE ((11 : Int32) * x1).toNatClampNeg x2) (((11 : Int32) * x1) + 1).toNatClampNeg x3) (((11 : Int32) * x1) + 2).toNatClampNeg 0) mtb mnC mnL mnR mov mnQ mwr mwl mft 0 mpl)) C K 6 5 rfl rfl g11 rfl dX3_ring_74 ?_
              refine j_aload_n (pc := 75) C 1 dX3_ring_75 rfl rfl ?_
              refine j_get (pc := 76) (v := .ref (a 6)) C K inX3_ring_X3 0 rfl rfl 15 (by decide) lkX3_ring_25 rfl dX3_ring_76 ?_
              refine j_iload (pc := 79) C 0 dX3_ring_79 rfl ?_
              refine j_iconst (pc := 81) (v := 3) C dX3_ring_81 (by decide) ?_
              refine j_iadd (pc := 82) C dX3_ring_82 ?_
              refine j_iconst (pc := 83) (v := 0) C dX3_ring_83 (by decide) ?_
              obtain ⟨g12, hF⟩ := gd_some hF
              refine j_iast (pc := 84) (ws' := (mw a k mW mC mL mR mQ (upd (upd (upd (upd mE ((11 : Int32) * x1).toNatClampNeg x2) (((11 : Int32) * x1) + 1).toNatClampNeg x3) (((11 : Int32) * x1) + 2).toNatClampNeg 0) (((11 : Int32) * x1) + 3).toNatClampNeg 0) mtb mnC mnL mnR mov mnQ mwr mwl mft 0 mpl)) C K 6 5 rfl rfl g12 rfl dX3_ring_84 ?_
              refine j_aload_n (pc := 85) C 1 dX3_ring_85 rfl rfl ?_
              refine j_get (pc := 86) (v := .ref (a 6)) C K inX3_ring_X3 0 rfl rfl 15 (by decide) lkX3_ring_25 rfl dX3_ring_86 ?_
              refine j_iload (pc := 89) C 0 dX3_ring_89 rfl ?_
              refine j_iconst (pc := 91) (v := 4) C dX3_ring_91 (by decide) ?_
              refine j_iadd (pc := 92) C dX3_ring_92 ?_
              refine j_iconst (pc := 93) (v := 0) C dX3_ring_93 (by decide) ?_
              obtain ⟨g13, hF⟩ := gd_some hF
              refine j_iast (pc := 94) (ws' := (mw a k mW mC mL mR mQ (upd (upd (upd (upd (upd mE ((11 : Int32) * x1).toNatClampNeg x2) (((11 : Int32) * x1) + 1).toNatClampNeg x3) (((11 : Int32) * x1) + 2).toNatClampNeg 0) (((11 : Int32) * x1) + 3).toNatClampNeg 0) (((11 : Int32) * x1) + 4).toNatClampNeg 0) mtb mnC mnL mnR mov mnQ mwr mwl mft 0 mpl)) C K 6 5 rfl rfl g13 rfl dX3_ring_94 ?_
              refine j_aload_n (pc := 95) C 1 dX3_ring_95 rfl rfl ?_
              refine j_get (pc := 96) (v := .ref (a 6)) C K inX3_ring_X3 0 rfl rfl 15 (by decide) lkX3_ring_25 rfl dX3_ring_96 ?_
              refine j_iload (pc := 99) C 0 dX3_ring_99 rfl ?_
              refine j_bipush (pc := 101) (v := 6) C dX3_ring_101 (by decide) ?_
              refine j_iadd (pc := 103) C dX3_ring_103 ?_
              refine j_iconst (pc := 104) (v := (-1)) C dX3_ring_104 (by decide) ?_
              obtain ⟨g14, hF⟩ := gd_some hF
              refine j_iast (pc := 105) (ws' := (mw a k mW mC mL mR mQ (upd (upd (upd (upd (upd (upd mE ((11 : Int32) * x1).toNatClampNeg x2) (((11 : Int32) * x1) + 1).toNatClampNeg x3) (((11 : Int32) * x1) + 2).toNatClampNeg 0) (((11 : Int32) * x1) + 3).toNatClampNeg 0) (((11 : Int32) * x1) + 4).toNatClampNeg 0) (((11 : Int32) * x1) + 6).toNatClampNeg (-1)) mtb mnC mnL mnR mov mnQ mwr mwl mft 0 mpl)) C K 6 5 rfl rfl g14 rfl dX3_ring_105 ?_
              refine j_iconst (pc := 106) (v := 1) C dX3_ring_106 (by decide) ?_
              cases hF
              exact j_zret (pc := 107) C K hr hlk rfl dX3_ring_107
            · replace hF := ifn hF c8
              refine j_iconst (pc := 39) (v := 0) C dX3_ring_39 (by decide) ?_
              cases hF
              exact j_zret (pc := 40) C K hr hlk rfl dX3_ring_40
theorem lkX3_tail_28 : Cond.fieldLink RX3 28 (TX3 14).1 (TX3 14).2.1 (TX3 14).2.2.1 ∈ wsX3_tail := by decide +kernel
theorem lkX3_tail_25 : Cond.fieldLink RX3 25 (TX3 15).1 (TX3 15).2.1 (TX3 15).2.2.1 ∈ wsX3_tail := by decide +kernel
theorem inX3_tail_X3 : ∀ w ∈ u_ws RX3 TX3 17, w ∈ wsX3_tail := by decide +kernel
theorem hdyX3_tail : yX3_tail.cls = RX3 ∧ yX3_tail.cls ≠ "java/lang/invoke/MethodHandle" ∧ yX3_tail.cls ≠ "java/lang/invoke/VarHandle" ∧ (parseMethodDescriptor yX3_tail.desc).map (fun d => d.parameters.length) = some 2 := by decide +kernel
set_option maxHeartbeats 4000000 in
set_option maxRecDepth 100000 in
theorem ctX3_tail (l : Launch) (D : va_G) (a : Nat → Nat) (k : Nat → ClassId) (mW : Nat → Int32) (mC : Nat → Int32) (mL : Nat → Int32) (mR : Nat → Int32) (mQ : Nat → Int32) (mE : Nat → Int32) (mtb : Int32) (mnC : Int32) (mnL : Int32) (mnR : Int32) (mov : Int32) (mnQ : Int32) (mwr : Int32) (mwl : Int32) (mft : Int32) (mth : Int32) (mpl : Int32) (x1 x2 : Int32) (r : Int32) (omE : Nat → Int32) (omth : Int32) (hF : FX3_tail x1 x2 mE mth = some (r, omE, omth)) : ji l yX3_tail wsX3_tail { frames := 1, cells := 0, slots := 0, locals := 20 } D (mt k) [.ref (a 0), .int x1, .int x2] (mw a k mW mC mL mR mQ mE mtb mnC mnL mnR mov mnQ mwr mwl mft mth mpl) (mw a k mW mC mL mR mQ omE mtb mnC mnL mnR mov mnQ mwr mwl mft omth mpl) r := by
  refine j_mi (cc := cX3_tail) (maxL := 4) (own := RX3) (ret := (some .int)) (by decide) rfl rfl (Nat.le_of_ble_eq_true rfl) ?_
  intro p e s m args below meth c A C K hr hlk
  unfold FX3_tail at hF
  refine j_aload_n (pc := 0) C 0 dX3_tail_0 rfl rfl ?_
  refine j_iconst (pc := 1) (v := 0) C dX3_tail_1 (by decide) ?_
  refine j_put (pc := 2) (ws' := (mw a k mW mC mL mR mQ mE mtb mnC mnL mnR mov mnQ mwr mwl mft 0 mpl)) C K inX3_tail_X3 tyX3 tyX3_ok nmX3 0 rfl rfl 14 (by decide) lkX3_tail_28 rfl (tyX3_ok 14 (by decide)) rfl rfl (Nat.le_of_ble_eq_true rfl) rfl dX3_tail_2 ?_
  refine j_iload_n (pc := 5) C 1 dX3_tail_5 rfl rfl ?_
  obtain ⟨rq1, hq1, hF⟩ := bd1_some hF
  refine j_callSi (pc := 6) (As := [.int x1]) (rest := []) (ws' := (mw a k mW mC mL mR mQ mE mtb mnC mnL mnR mov mnQ mwr mwl mft 0 mpl)) C K (ctX3_isDevice l D  _ _ hq1) gX3_tail_X3_isDevice rfl rfl rfl hdyX3_isDevice ⟨Nat.le_of_ble_eq_true rfl, Nat.le_of_ble_eq_true rfl⟩ [] rfl rfl jsp0 [] rfl rfl (Nat.le_of_ble_eq_true rfl) dX3_tail_6 ⟨Nat.zero_le _, Nat.zero_le _⟩ ?_
  refine j_if_eq (pc := 9) (tgt := 31) C dX3_tail_9 (by decide) (fun c2 => ?_) (fun c2 => ?_)
  · replace hF := ifp hF c2
    refine j_iconst (pc := 31) (v := (-1)) C dX3_tail_31 (by decide) ?_
    cases hF
    exact j_iret (pc := 32) C K hr hlk dX3_tail_32
  · replace hF := ifn hF c2
    refine j_iload_n (pc := 12) C 2 dX3_tail_12 rfl rfl ?_
    refine j_if_lt (pc := 13) (tgt := 31) C dX3_tail_13 (by decide) (fun c3 => ?_) (fun c3 => ?_)
    · replace hF := ifp hF c3
      refine j_iconst (pc := 31) (v := (-1)) C dX3_tail_31 (by decide) ?_
      cases hF
      exact j_iret (pc := 32) C K hr hlk dX3_tail_32
    · replace hF := ifn hF c3
      refine j_iload_n (pc := 16) C 2 dX3_tail_16 rfl rfl ?_
      refine j_aload_n (pc := 17) C 0 dX3_tail_17 rfl rfl ?_
      refine j_get (pc := 18) (v := .ref (a 6)) C K inX3_tail_X3 0 rfl rfl 15 (by decide) lkX3_tail_25 rfl dX3_tail_18 ?_
      refine j_bipush (pc := 21) (v := 11) C dX3_tail_21 (by decide) ?_
      refine j_iload_n (pc := 23) C 1 dX3_tail_23 rfl rfl ?_
      refine j_imul (pc := 24) C dX3_tail_24 ?_
      refine j_iconst (pc := 25) (v := 1) C dX3_tail_25 (by decide) ?_
      refine j_iadd (pc := 26) C dX3_tail_26 ?_
      obtain ⟨g4, hF⟩ := gd_some hF
      refine j_iald (pc := 27) C K 6 5 rfl rfl g4 dX3_tail_27 ?_
      refine j_icmp_lt (pc := 28) (tgt := 33) C dX3_tail_28 (by decide) (fun c5 => ?_) (fun c5 => ?_)
      · replace hF := ifp hF c5
        refine j_bipush (pc := 33) (v := 11) C dX3_tail_33 (by decide) ?_
        refine j_iload_n (pc := 35) C 1 dX3_tail_35 rfl rfl ?_
        refine j_imul (pc := 36) C dX3_tail_36 ?_
        refine j_istore_n (pc := 37) (lv' := [(3, .int ((11 : Int32) * x1)), (0, .ref (a 0)), (1, .int x1), (2, .int x2)]) C dX3_tail_37 rfl (by decide) rfl ?_
        refine j_aload_n (pc := 38) C 1 dX3_tail_38 rfl rfl ?_
        refine j_get (pc := 39) (v := .ref (a 6)) C K inX3_tail_X3 0 rfl rfl 15 (by decide) lkX3_tail_25 rfl dX3_tail_39 ?_
        refine j_iload_n (pc := 42) C 0 dX3_tail_42 rfl rfl ?_
        refine j_iconst (pc := 43) (v := 3) C dX3_tail_43 (by decide) ?_
        refine j_iadd (pc := 44) C dX3_tail_44 ?_
        refine j_iload_n (pc := 45) C 3 dX3_tail_45 rfl rfl ?_
        obtain ⟨g6, hF⟩ := gd_some hF
        refine j_iast (pc := 46) (ws' := (mw a k mW mC mL mR mQ (upd mE (((11 : Int32) * x1) + 3).toNatClampNeg x2) mtb mnC mnL mnR mov mnQ mwr mwl mft 0 mpl)) C K 6 5 rfl rfl g6 rfl dX3_tail_46 ?_
        refine j_aload_n (pc := 47) C 1 dX3_tail_47 rfl rfl ?_
        refine j_get (pc := 48) (v := .ref (a 6)) C K inX3_tail_X3 0 rfl rfl 15 (by decide) lkX3_tail_25 rfl dX3_tail_48 ?_
        refine j_iload_n (pc := 51) C 0 dX3_tail_51 rfl rfl ?_
        refine j_iconst (pc := 52) (v := 4) C dX3_tail_52 (by decide) ?_
        refine j_iadd (pc := 53) C dX3_tail_53 ?_
        obtain ⟨g7, hF⟩ := gd_some hF
        refine j_iald (pc := 54) C K 6 5 rfl rfl g7 dX3_tail_54 ?_
        refine j_if_ne (pc := 55) (tgt := 79) C dX3_tail_55 (by decide) (fun c8 => ?_) (fun c8 => ?_)
        · replace hF := ifn hF c8
          refine j_aload_n (pc := 79) C 1 dX3_tail_79 rfl rfl ?_
          refine j_get (pc := 80) (v := .ref (a 6)) C K inX3_tail_X3 0 rfl rfl 15 (by decide) lkX3_tail_25 rfl dX3_tail_80 ?_
          refine j_iload_n (pc := 83) C 0 dX3_tail_83 rfl rfl ?_
          refine j_iconst (pc := 84) (v := 4) C dX3_tail_84 (by decide) ?_
          refine j_iadd (pc := 85) C dX3_tail_85 ?_
          obtain ⟨g9, hF⟩ := gd_some hF
          refine j_iald (pc := 86) C K 6 5 rfl rfl g9 dX3_tail_86 ?_
          cases hF
          exact j_iret (pc := 87) C K hr hlk dX3_tail_87
        · replace hF := ifp hF c8
          refine j_aload_n (pc := 58) C 1 dX3_tail_58 rfl rfl ?_
          refine j_get (pc := 59) (v := .ref (a 6)) C K inX3_tail_X3 0 rfl rfl 15 (by decide) lkX3_tail_25 rfl dX3_tail_59 ?_
          refine j_iload_n (pc := 62) C 0 dX3_tail_62 rfl rfl ?_
          refine j_iconst (pc := 63) (v := 2) C dX3_tail_63 (by decide) ?_
          refine j_iadd (pc := 64) C dX3_tail_64 ?_
          obtain ⟨g10, hF⟩ := gd_some hF
          refine j_iald (pc := 65) C K 6 5 rfl rfl g10 dX3_tail_65 ?_
          refine j_iload_n (pc := 66) C 3 dX3_tail_66 rfl rfl ?_
          refine j_icmp_eq (pc := 67) (tgt := 79) C dX3_tail_67 (by decide) (fun c11 => ?_) (fun c11 => ?_)
          · replace hF := ifp hF c11
            refine j_aload_n (pc := 79) C 1 dX3_tail_79 rfl rfl ?_
            refine j_get (pc := 80) (v := .ref (a 6)) C K inX3_tail_X3 0 rfl rfl 15 (by decide) lkX3_tail_25 rfl dX3_tail_80 ?_
            refine j_iload_n (pc := 83) C 0 dX3_tail_83 rfl rfl ?_
            refine j_iconst (pc := 84) (v := 4) C dX3_tail_84 (by decide) ?_
            refine j_iadd (pc := 85) C dX3_tail_85 ?_
            obtain ⟨g12, hF⟩ := gd_some hF
            refine j_iald (pc := 86) C K 6 5 rfl rfl g12 dX3_tail_86 ?_
            cases hF
            exact j_iret (pc := 87) C K hr hlk dX3_tail_87
          · replace hF := ifn hF c11
            refine j_aload_n (pc := 70) C 1 dX3_tail_70 rfl rfl ?_
            refine j_get (pc := 71) (v := .ref (a 6)) C K inX3_tail_X3 0 rfl rfl 15 (by decide) lkX3_tail_25 rfl dX3_tail_71 ?_
            refine j_iload_n (pc := 74) C 0 dX3_tail_74 rfl rfl ?_
            refine j_iconst (pc := 75) (v := 4) C dX3_tail_75 (by decide) ?_
            refine j_iadd (pc := 76) C dX3_tail_76 ?_
            refine j_iconst (pc := 77) (v := 1) C dX3_tail_77 (by decide) ?_
            obtain ⟨g13, hF⟩ := gd_some hF
            refine j_iast (pc := 78) (ws' := (mw a k mW mC mL mR mQ (upd (upd mE (((11 : Int32) * x1) + 3).toNatClampNeg x2) (((11 : Int32) * x1) + 4).toNatClampNeg 1) mtb mnC mnL mnR mov mnQ mwr mwl mft 0 mpl)) C K 6 5 rfl rfl g13 rfl dX3_tail_78 ?_
            refine j_aload_n (pc := 79) C 1 dX3_tail_79 rfl rfl ?_
            refine j_get (pc := 80) (v := .ref (a 6)) C K inX3_tail_X3 0 rfl rfl 15 (by decide) lkX3_tail_25 rfl dX3_tail_80 ?_
            refine j_iload_n (pc := 83) C 0 dX3_tail_83 rfl rfl ?_
            refine j_iconst (pc := 84) (v := 4) C dX3_tail_84 (by decide) ?_
            refine j_iadd (pc := 85) C dX3_tail_85 ?_
            obtain ⟨g14, hF⟩ := gd_some hF
            refine j_iald (pc := 86) C K 6 5 rfl rfl g14 dX3_tail_86 ?_
            cases hF
            exact j_iret (pc := 87) C K hr hlk dX3_tail_87
      · replace hF := ifn hF c5
        refine j_iconst (pc := 31) (v := (-1)) C dX3_tail_31 (by decide) ?_
        cases hF
        exact j_iret (pc := 32) C K hr hlk dX3_tail_32

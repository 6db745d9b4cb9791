def FX3_go (x1 : Int32) (mW : Nat → Int32) (mC : Nat → Int32) (mL : Nat → Int32) (mR : Nat → Int32) (mE : Nat → Int32) (mtb : Int32) (mnC : Int32) (mnL : Int32) (mnR : Int32) (mov : Int32) (mwr : Int32) (mwl : Int32) (mft : Int32) (mpl : Int32) : Option (Int32 × (Nat → Int32) × (Nat → Int32) × (Nat → Int32) × (Nat → Int32) × (Nat → Int32) × Int32 × Int32 × Int32 × Int32 × Int32 × Int32 × Int32 × Int32) := gd (inb ((11 : Int32) * x1) 88) (gd (inb (((11 : Int32) * x1) + 2) 88) (gd (inb (((11 : Int32) * x1) + 6) 88) (if (mE (((11 : Int32) * x1) + 6).toNatClampNeg) = (-1) then bd12 (FX3_may x1 (((mE ((11 : Int32) * x1).toNatClampNeg) + ((4 : Int32) * (mE (((11 : Int32) * x1) + 2).toNatClampNeg))) + 0) 0 mW mC mL mR mtb mnC mnL mnR mov mwr mwl mft mpl) (fun rq33 q33mC q33mL q33mR q33mnC q33mnL q33mnR q33mov q33mwr q33mwl q33mft q33mpl => if rq33 = 0 then some (0, mW, q33mC, q33mL, q33mR, mE, q33mnC, q33mnL, q33mnR, q33mov, q33mwr, q33mwl, q33mft, q33mpl) else gd (inb q33mpl 16384) (gd (inb ((((11 : Int32) * x1) + 7) + 0) 88) (bd12 (FX3_may x1 (((mE ((11 : Int32) * x1).toNatClampNeg) + ((4 : Int32) * (mE (((11 : Int32) * x1) + 2).toNatClampNeg))) + 1) 0 mW q33mC q33mL q33mR mtb q33mnC q33mnL q33mnR q33mov q33mwr q33mwl q33mft q33mpl) (fun rq37 q37mC q37mL q37mR q37mnC q37mnL q37mnR q37mov q37mwr q37mwl q37mft q37mpl => if rq37 = 0 then some (0, mW, q37mC, q37mL, q37mR, (upd mE ((((11 : Int32) * x1) + 7) + 0).toNatClampNeg (mW q33mpl.toNatClampNeg)), q37mnC, q37mnL, q37mnR, q37mov, q37mwr, q37mwl, q37mft, q37mpl) else gd (inb q37mpl 16384) (gd (inb ((((11 : Int32) * x1) + 7) + 1) 88) (bd12 (FX3_may x1 (((mE ((11 : Int32) * x1).toNatClampNeg) + ((4 : Int32) * (mE (((11 : Int32) * x1) + 2).toNatClampNeg))) + 2) 0 mW q37mC q37mL q37mR mtb q37mnC q37mnL q37mnR q37mov q37mwr q37mwl q37mft q37mpl) (fun rq41 q41mC q41mL q41mR q41mnC q41mnL q41mnR q41mov q41mwr q41mwl q41mft q41mpl => if rq41 = 0 then some (0, mW, q41mC, q41mL, q41mR, (upd (upd mE ((((11 : Int32) * x1) + 7) + 0).toNatClampNeg (mW q33mpl.toNatClampNeg)) ((((11 : Int32) * x1) + 7) + 1).toNatClampNeg (mW q37mpl.toNatClampNeg)), q41mnC, q41mnL, q41mnR, q41mov, q41mwr, q41mwl, q41mft, q41mpl) else gd (inb q41mpl 16384) (gd (inb ((((11 : Int32) * x1) + 7) + 2) 88) (bd12 (FX3_may x1 (((mE ((11 : Int32) * x1).toNatClampNeg) + ((4 : Int32) * (mE (((11 : Int32) * x1) + 2).toNatClampNeg))) + 3) 0 mW q41mC q41mL q41mR mtb q41mnC q41mnL q41mnR q41mov q41mwr q41mwl q41mft q41mpl) (fun rq45 q45mC q45mL q45mR q45mnC q45mnL q45mnR q45mov q45mwr q45mwl q45mft q45mpl => if rq45 = 0 then some (0, mW, q45mC, q45mL, q45mR, (upd (upd (upd mE ((((11 : Int32) * x1) + 7) + 0).toNatClampNeg (mW q33mpl.toNatClampNeg)) ((((11 : Int32) * x1) + 7) + 1).toNatClampNeg (mW q37mpl.toNatClampNeg)) ((((11 : Int32) * x1) + 7) + 2).toNatClampNeg (mW q41mpl.toNatClampNeg)), q45mnC, q45mnL, q45mnR, q45mov, q45mwr, q45mwl, q45mft, q45mpl) else gd (inb q45mpl 16384) (gd (inb ((((11 : Int32) * x1) + 7) + 3) 88) (gd (inb (((11 : Int32) * x1) + 9) 88) (gd (inb (((11 : Int32) * x1) + 9) 88) (gd (inb (((11 : Int32) * x1) + 6) 88) (some (1, mW, q45mC, q45mL, q45mR, (upd (upd (upd (upd (upd (upd mE ((((11 : Int32) * x1) + 7) + 0).toNatClampNeg (mW q33mpl.toNatClampNeg)) ((((11 : Int32) * x1) + 7) + 1).toNatClampNeg (mW q37mpl.toNatClampNeg)) ((((11 : Int32) * x1) + 7) + 2).toNatClampNeg (mW q41mpl.toNatClampNeg)) ((((11 : Int32) * x1) + 7) + 3).toNatClampNeg (mW q45mpl.toNatClampNeg)) (((11 : Int32) * x1) + 9).toNatClampNeg (((upd (upd (upd (upd mE ((((11 : Int32) * x1) + 7) + 0).toNatClampNeg (mW q33mpl.toNatClampNeg)) ((((11 : Int32) * x1) + 7) + 1).toNatClampNeg (mW q37mpl.toNatClampNeg)) ((((11 : Int32) * x1) + 7) + 2).toNatClampNeg (mW q41mpl.toNatClampNeg)) ((((11 : Int32) * x1) + 7) + 3).toNatClampNeg (mW q45mpl.toNatClampNeg)) (((11 : Int32) * x1) + 9).toNatClampNeg) &&& (255 : Int32))) (((11 : Int32) * x1) + 6).toNatClampNeg 0), q45mnC, q45mnL, q45mnR, q45mov, q45mwr, q45mwl, q45mft, q45mpl)))))))))))))))) else gd (inb (((11 : Int32) * x1) + 6) 88) (gd (inb (((11 : Int32) * x1) + 9) 88) (if (mE (((11 : Int32) * x1) + 9).toNatClampNeg) ≤ (mE (((11 : Int32) * x1) + 6).toNatClampNeg) then bd12 (FX3_may x1 (((mE ((11 : Int32) * x1).toNatClampNeg) + ((4 : Int32) * (mE (((11 : Int32) * x1) + 2).toNatClampNeg))) + 3) 1 mW mC mL mR mtb mnC mnL mnR mov mwr mwl mft mpl) (fun rq8 q8mC q8mL q8mR q8mnC q8mnL q8mnR q8mov q8mwr q8mwl q8mft q8mpl => if rq8 = 0 then some (0, mW, q8mC, q8mL, q8mR, mE, q8mnC, q8mnL, q8mnR, q8mov, q8mwr, q8mwl, q8mft, q8mpl) else gd (inb (((11 : Int32) * x1) + 10) 88) (gd (inb q8mpl 16384) (gd (inb (((11 : Int32) * x1) + 2) 88) (gd (inb (((11 : Int32) * x1) + 1) 88) (gd (nz (mE (((11 : Int32) * x1) + 1).toNatClampNeg)) (gd (inb (((11 : Int32) * x1) + 2) 88) (gd (inb (((11 : Int32) * x1) + 6) 88) (gd (inb (((11 : Int32) * x1) + 5) 88) (gd (inb (((11 : Int32) * x1) + 5) 88) (gd (inb (((11 : Int32) * x1) + 2) 88) (gd (inb (((11 : Int32) * x1) + 3) 88) (if ((upd (upd (upd mE (((11 : Int32) * x1) + 2).toNatClampNeg (((mE (((11 : Int32) * x1) + 2).toNatClampNeg) + 1) - ((mE (((11 : Int32) * x1) + 2).toNatClampNeg) + 1) / (mE (((11 : Int32) * x1) + 1).toNatClampNeg) * (mE (((11 : Int32) * x1) + 1).toNatClampNeg))) (((11 : Int32) * x1) + 6).toNatClampNeg (-1)) (((11 : Int32) * x1) + 5).toNatClampNeg (((upd (upd mE (((11 : Int32) * x1) + 2).toNatClampNeg (((mE (((11 : Int32) * x1) + 2).toNatClampNeg) + 1) - ((mE (((11 : Int32) * x1) + 2).toNatClampNeg) + 1) / (mE (((11 : Int32) * x1) + 1).toNatClampNeg) * (mE (((11 : Int32) * x1) + 1).toNatClampNeg))) (((11 : Int32) * x1) + 6).toNatClampNeg (-1)) (((11 : Int32) * x1) + 5).toNatClampNeg) + 1)) (((11 : Int32) * x1) + 2).toNatClampNeg) = ((upd (upd (upd mE (((11 : Int32) * x1) + 2).toNatClampNeg (((mE (((11 : Int32) * x1) + 2).toNatClampNeg) + 1) - ((mE (((11 : Int32) * x1) + 2).toNatClampNeg) + 1) / (mE (((11 : Int32) * x1) + 1).toNatClampNeg) * (mE (((11 : Int32) * x1) + 1).toNatClampNeg))) (((11 : Int32) * x1) + 6).toNatClampNeg (-1)) (((11 : Int32) * x1) + 5).toNatClampNeg (((upd (upd mE (((11 : Int32) * x1) + 2).toNatClampNeg (((mE (((11 : Int32) * x1) + 2).toNatClampNeg) + 1) - ((mE (((11 : Int32) * x1) + 2).toNatClampNeg) + 1) / (mE (((11 : Int32) * x1) + 1).toNatClampNeg) * (mE (((11 : Int32) * x1) + 1).toNatClampNeg))) (((11 : Int32) * x1) + 6).toNatClampNeg (-1)) (((11 : Int32) * x1) + 5).toNatClampNeg) + 1)) (((11 : Int32) * x1) + 3).toNatClampNeg) then gd (inb (((11 : Int32) * x1) + 4) 88) (some (1, (upd mW q8mpl.toNatClampNeg ((mE (((11 : Int32) * x1) + 10).toNatClampNeg) ||| (1 : Int32))), q8mC, q8mL, q8mR, (upd (upd (upd (upd mE (((11 : Int32) * x1) + 2).toNatClampNeg (((mE (((11 : Int32) * x1) + 2).toNatClampNeg) + 1) - ((mE (((11 : Int32) * x1) + 2).toNatClampNeg) + 1) / (mE (((11 : Int32) * x1) + 1).toNatClampNeg) * (mE (((11 : Int32) * x1) + 1).toNatClampNeg))) (((11 : Int32) * x1) + 6).toNatClampNeg (-1)) (((11 : Int32) * x1) + 5).toNatClampNeg (((upd (upd mE (((11 : Int32) * x1) + 2).toNatClampNeg (((mE (((11 : Int32) * x1) + 2).toNatClampNeg) + 1) - ((mE (((11 : Int32) * x1) + 2).toNatClampNeg) + 1) / (mE (((11 : Int32) * x1) + 1).toNatClampNeg) * (mE (((11 : Int32) * x1) + 1).toNatClampNeg))) (((11 : Int32) * x1) + 6).toNatClampNeg (-1)) (((11 : Int32) * x1) + 5).toNatClampNeg) + 1)) (((11 : Int32) * x1) + 4).toNatClampNeg 0), q8mnC, q8mnL, q8mnR, q8mov, q8mwr, q8mwl, q8mft, q8mpl)) else some (1, (upd mW q8mpl.toNatClampNeg ((mE (((11 : Int32) * x1) + 10).toNatClampNeg) ||| (1 : Int32))), q8mC, q8mL, q8mR, (upd (upd (upd mE (((11 : Int32) * x1) + 2).toNatClampNeg (((mE (((11 : Int32) * x1) + 2).toNatClampNeg) + 1) - ((mE (((11 : Int32) * x1) + 2).toNatClampNeg) + 1) / (mE (((11 : Int32) * x1) + 1).toNatClampNeg) * (mE (((11 : Int32) * x1) + 1).toNatClampNeg))) (((11 : Int32) * x1) + 6).toNatClampNeg (-1)) (((11 : Int32) * x1) + 5).toNatClampNeg (((upd (upd mE (((11 : Int32) * x1) + 2).toNatClampNeg (((mE (((11 : Int32) * x1) + 2).toNatClampNeg) + 1) - ((mE (((11 : Int32) * x1) + 2).toNatClampNeg) + 1) / (mE (((11 : Int32) * x1) + 1).toNatClampNeg) * (mE (((11 : Int32) * x1) + 1).toNatClampNeg))) (((11 : Int32) * x1) + 6).toNatClampNeg (-1)) (((11 : Int32) * x1) + 5).toNatClampNeg) + 1)), q8mnC, q8mnL, q8mnR, q8mov, q8mwr, q8mwl, q8mft, q8mpl))))))))))))) else gd (inb (((11 : Int32) * x1) + 7) 88) (bd12 (FX3_may x1 ((mE (((11 : Int32) * x1) + 7).toNatClampNeg) + (mE (((11 : Int32) * x1) + 6).toNatClampNeg)) 0 mW mC mL mR mtb mnC mnL mnR mov mwr mwl mft mpl) (fun rq24 q24mC q24mL q24mR q24mnC q24mnL q24mnR q24mov q24mwr q24mwl q24mft q24mpl => if rq24 = 0 then some (0, mW, q24mC, q24mL, q24mR, mE, q24mnC, q24mnL, q24mnR, q24mov, q24mwr, q24mwl, q24mft, q24mpl) else gd (inb q24mpl 16384) (gd (inb (((11 : Int32) * x1) + 8) 88) (bd12 (FX3_may x1 ((mE (((11 : Int32) * x1) + 8).toNatClampNeg) + (mE (((11 : Int32) * x1) + 6).toNatClampNeg)) 1 mW q24mC q24mL q24mR mtb q24mnC q24mnL q24mnR q24mov q24mwr q24mwl q24mft q24mpl) (fun rq28 q28mC q28mL q28mR q28mnC q28mnL q28mnR q28mov q28mwr q28mwl q28mft q28mpl => if rq28 = 0 then some (0, mW, q28mC, q28mL, q28mR, mE, q28mnC, q28mnL, q28mnR, q28mov, q28mwr, q28mwl, q28mft, q28mpl) else gd (inb q28mpl 16384) (gd (inb (((11 : Int32) * x1) + 6) 88) (gd (inb (((11 : Int32) * x1) + 6) 88) (some (1, (upd mW q28mpl.toNatClampNeg (mW q24mpl.toNatClampNeg)), q28mC, q28mL, q28mR, (upd mE (((11 : Int32) * x1) + 6).toNatClampNeg ((mE (((11 : Int32) * x1) + 6).toNatClampNeg) + 1)), q28mnC, q28mnL, q28mnR, q28mov, q28mwr, q28mwl, q28mft, q28mpl))))))))))))))
def FX3_step_27 (x1 x2 : Int32) : Nat → (Nat → Int32) → (Nat → Int32) → (Nat → Int32) → (Nat → Int32) → (Nat → Int32) → Int32 → Int32 → Int32 → Int32 → Int32 → Int32 → Int32 → Int32 → Int32 → Int32 → Int32 → Option (Int32 × (Nat → Int32) × (Nat → Int32) × (Nat → Int32) × (Nat → Int32) × (Nat → Int32) × Int32 × Int32 × Int32 × Int32 × Int32 × Int32 × Int32 × Int32 × Int32)
  | 0, _, _, _, _, _, _, _, _, _, _, _, _, _, _, _, _ => none
  | n + 1, mW, mC, mL, mR, mE, mtb, mnC, mnL, mnR, mov, mwr, mwl, mft, mth, mpl, v3 => if x2 ≤ v3 then some (v3, mW, mC, mL, mR, mE, mnC, mnL, mnR, mov, mwr, mwl, mft, mth, mpl) else gd (inb (((11 : Int32) * x1) + 4) 88) (if (mE (((11 : Int32) * x1) + 4).toNatClampNeg) = 1 then bd14 (FX3_go x1 mW mC mL mR mE mtb mnC mnL mnR mov mwr mwl mft mpl) (fun rq8 q8mW q8mC q8mL q8mR q8mE q8mnC q8mnL q8mnR q8mov q8mwr q8mwl q8mft q8mpl => if rq8 = 0 then gd (inb (((11 : Int32) * x1) + 4) 88) (FX3_step_27 x1 x2 n q8mW q8mC q8mL q8mR (upd q8mE (((11 : Int32) * x1) + 4).toNatClampNeg 2) mtb q8mnC q8mnL q8mnR q8mov q8mwr q8mwl q8mft mth q8mpl (v3 + 1)) else FX3_step_27 x1 x2 n q8mW q8mC q8mL q8mR q8mE mtb q8mnC q8mnL q8mnR q8mov q8mwr q8mwl q8mft mth q8mpl (v3 + 1)) else some (v3, mW, mC, mL, mR, mE, mnC, mnL, mnR, mov, mwr, mwl, mft, mth, mpl))
def FX3_step (x1 x2 : Int32) (mW : Nat → Int32) (mC : Nat → Int32) (mL : Nat → Int32) (mR : Nat → Int32) (mE : Nat → Int32) (mtb : Int32) (mnC : Int32) (mnL : Int32) (mnR : Int32) (mov : Int32) (mwr : Int32) (mwl : Int32) (mft : Int32) (mth : Int32) (mpl : Int32) : Option (Int32 × (Nat → Int32) × (Nat → Int32) × (Nat → Int32) × (Nat → Int32) × (Nat → Int32) × Int32 × Int32 × Int32 × Int32 × Int32 × Int32 × Int32 × Int32 × Int32) := bd1 (FX3_isDevice x1) (fun rq1 => if rq1 = 0 then some ((-1), mW, mC, mL, mR, mE, mnC, mnL, mnR, mov, mwr, mwl, mft, 0, mpl) else if x2 < 0 then some ((-1), mW, mC, mL, mR, mE, mnC, mnL, mnR, mov, mwr, mwl, mft, 0, mpl) else if x2 ≤ 1000 then FX3_step_27 x1 x2 fuel mW mC mL mR mE mtb mnC mnL mnR mov mwr mwl mft 0 mpl 0 else some ((-1), mW, mC, mL, mR, mE, mnC, mnL, mnR, mov, mwr, mwl, mft, 0, mpl))
def FX3_resume (x1 : Int32) (mE : Nat → Int32) (mth : Int32) : Option (Int32 × (Nat → Int32) × Int32) := bd1 (FX3_isDevice x1) (fun rq1 => if rq1 = 0 then some ((-1), mE, 0) else gd (inb (((11 : Int32) * x1) + 4) 88) (if (mE (((11 : Int32) * x1) + 4).toNatClampNeg) = 2 then gd (inb (((11 : Int32) * x1) + 6) 88) (gd (inb (((11 : Int32) * x1) + 2) 88) (gd (inb (((11 : Int32) * x1) + 3) 88) (if ((upd mE (((11 : Int32) * x1) + 6).toNatClampNeg (-1)) (((11 : Int32) * x1) + 2).toNatClampNeg) = ((upd mE (((11 : Int32) * x1) + 6).toNatClampNeg (-1)) (((11 : Int32) * x1) + 3).toNatClampNeg) then gd (inb (((11 : Int32) * x1) + 4) 88) (gd (inb (((11 : Int32) * x1) + 4) 88) (some (((upd (upd mE (((11 : Int32) * x1) + 6).toNatClampNeg (-1)) (((11 : Int32) * x1) + 4).toNatClampNeg 0) (((11 : Int32) * x1) + 4).toNatClampNeg), (upd (upd mE (((11 : Int32) * x1) + 6).toNatClampNeg (-1)) (((11 : Int32) * x1) + 4).toNatClampNeg 0), 0))) else gd (inb (((11 : Int32) * x1) + 4) 88) (gd (inb (((11 : Int32) * x1) + 4) 88) (some (((upd (upd mE (((11 : Int32) * x1) + 6).toNatClampNeg (-1)) (((11 : Int32) * x1) + 4).toNatClampNeg 1) (((11 : Int32) * x1) + 4).toNatClampNeg), (upd (upd mE (((11 : Int32) * x1) + 6).toNatClampNeg (-1)) (((11 : Int32) * x1) + 4).toNatClampNeg 1), 0)))))) else some ((-1), mE, 0)))
def FX3_engine (x1 x2 : Int32) (mE : Nat → Int32) (mth : Int32) : Option (Int32 × Int32) := bd1 (FX3_isDevice x1) (fun rq1 => if rq1 = 0 then some ((-1), 0) else if x2 = 0 then gd (inb (((11 : Int32) * x1) + 4) 88) (some ((mE (((11 : Int32) * x1) + 4).toNatClampNeg), 0)) else if x2 = 1 then gd (inb (((11 : Int32) * x1) + 2) 88) (some ((mE (((11 : Int32) * x1) + 2).toNatClampNeg), 0)) else if x2 = 2 then gd (inb (((11 : Int32) * x1) + 3) 88) (some ((mE (((11 : Int32) * x1) + 3).toNatClampNeg), 0)) else if x2 = 3 then gd (inb (((11 : Int32) * x1) + 5) 88) (some ((mE (((11 : Int32) * x1) + 5).toNatClampNeg), 0)) else if x2 = 4 then gd (inb (((11 : Int32) * x1) + 6) 88) (some ((mE (((11 : Int32) * x1) + 6).toNatClampNeg), 0)) else some ((-1), 0))
def FX3_command (x1 x2 x3 : Int32) (mQ : Nat → Int32) (mnQ : Int32) (mth : Int32) : Option (Int32 × (Nat → Int32) × Int32 × Int32) := if x1 < 0 then some ((-1), mQ, mnQ, 0) else if 5 < x1 then some ((-1), mQ, mnQ, 0) else if mnQ = 12 then some ((-1), mQ, mnQ, 0) else gd (inb ((3 : Int32) * mnQ) 36) (gd (inb (((3 : Int32) * mnQ) + 1) 36) (gd (inb (((3 : Int32) * mnQ) + 2) 36) (some ((mnQ + 1), (upd (upd (upd mQ ((3 : Int32) * mnQ).toNatClampNeg x1) (((3 : Int32) * mnQ) + 1).toNatClampNeg x2) (((3 : Int32) * mnQ) + 2).toNatClampNeg x3), (mnQ + 1), 0))))
theorem lkX3_go_25 : Cond.fieldLink RX3 25 (TX3 15).1 (TX3 15).2.1 (TX3 15).2.2.1 ∈ wsX3_go := by decide +kernel
theorem lkX3_go_9 : Cond.fieldLink RX3 9 (TX3 0).1 (TX3 0).2.1 (TX3 0).2.2.1 ∈ wsX3_go := by decide +kernel
theorem lkX3_go_64 : Cond.fieldLink RX3 64 (TX3 16).1 (TX3 16).2.1 (TX3 16).2.2.1 ∈ wsX3_go := by decide +kernel
theorem inX3_go_X3 : ∀ w ∈ u_ws RX3 TX3 17, w ∈ wsX3_go := by decide +kernel
theorem hdyX3_go : yX3_go.cls = RX3 ∧ yX3_go.cls ≠ "java/lang/invoke/MethodHandle" ∧ yX3_go.cls ≠ "java/lang/invoke/VarHandle" ∧ (parseMethodDescriptor yX3_go.desc).map (fun d => d.parameters.length) = some 1 := by decide +kernel
set_option maxHeartbeats 4000000 in
set_option maxRecDepth 100000 in
theorem ctX3_go (l : Launch) (D : va_G) (a : Nat → Nat) (k : Nat → ClassId) (mW : Nat → Int32) (mC : Nat → Int32) (mL : Nat → Int32) (mR : Nat → Int32) (mQ : Nat → Int32) (mE : Nat → Int32) (mtb : Int32) (mnC : Int32) (mnL : Int32) (mnR : Int32) (mov : Int32) (mnQ : Int32) (mwr : Int32) (mwl : Int32) (mft : Int32) (mth : Int32) (mpl : Int32) (x1 : Int32) (r : Int32) (omW : Nat → Int32) (omC : Nat → Int32) (omL : Nat → Int32) (omR : Nat → Int32) (omE : Nat → Int32) (omnC : Int32) (omnL : Int32) (omnR : Int32) (omov : Int32) (omwr : Int32) (omwl : Int32) (omft : Int32) (ompl : Int32) (hF : FX3_go x1 mW mC mL mR mE mtb mnC mnL mnR mov mwr mwl mft mpl = some (r, omW, omC, omL, omR, omE, omnC, omnL, omnR, omov, omwr, omwl, omft, ompl)) : ji l yX3_go wsX3_go { frames := 4, cells := 0, slots := 0, locals := 102 } D (mt k) [.ref (a 0), .int x1] (mw a k mW mC mL mR mQ mE mtb mnC mnL mnR mov mnQ mwr mwl mft mth mpl) (mw a k omW omC omL omR mQ omE mtb omnC omnL omnR omov mnQ omwr omwl omft mth ompl) r := by
  refine j_mi (cc := cX3_go) (maxL := 6) (own := RX3) (ret := (some .boolean)) (by decide) rfl rfl (Nat.le_of_ble_eq_true rfl) ?_
  intro p e s m args below meth c A C K hr hlk
  unfold FX3_go at hF
  refine j_bipush (pc := 0) (v := 11) C dX3_go_0 (by decide) ?_
  refine j_iload_n (pc := 2) C 1 dX3_go_2 rfl rfl ?_
  refine j_imul (pc := 3) C dX3_go_3 ?_
  refine j_istore_n (pc := 4) (lv' := [(2, .int ((11 : Int32) * x1)), (0, .ref (a 0)), (1, .int x1)]) C dX3_go_4 rfl (by decide) rfl ?_
  refine j_aload_n (pc := 5) C 1 dX3_go_5 rfl rfl ?_
  refine j_get (pc := 6) (v := .ref (a 6)) C K inX3_go_X3 0 rfl rfl 15 (by decide) lkX3_go_25 rfl dX3_go_6 ?_
  refine j_iload_n (pc := 9) C 0 dX3_go_9 rfl rfl ?_
  obtain ⟨g1, hF⟩ := gd_some hF
  refine j_iald (pc := 10) C K 6 5 rfl rfl g1 dX3_go_10 ?_
  refine j_iconst (pc := 11) (v := 4) C dX3_go_11 (by decide) ?_
  refine j_aload_n (pc := 12) C 1 dX3_go_12 rfl rfl ?_
  refine j_get (pc := 13) (v := .ref (a 6)) C K inX3_go_X3 0 rfl rfl 15 (by decide) lkX3_go_25 rfl dX3_go_13 ?_
  refine j_iload_n (pc := 16) C 0 dX3_go_16 rfl rfl ?_
  refine j_iconst (pc := 17) (v := 2) C dX3_go_17 (by decide) ?_
  refine j_iadd (pc := 18) C dX3_go_18 ?_
  obtain ⟨g2, hF⟩ := gd_some hF
  refine j_iald (pc := 19) C K 6 5 rfl rfl g2 dX3_go_19 ?_
  refine j_imul (pc := 20) C dX3_go_20 ?_
  refine j_iadd (pc := 21) C dX3_go_21 ?_
  refine j_istore_n (pc := 22) (lv' := [(3, .int ((mE ((11 : Int32) * x1).toNatClampNeg) + ((4 : Int32) * (mE (((11 : Int32) * x1) + 2).toNatClampNeg)))), (2, .int ((11 : Int32) * x1)), (0, .ref (a 0)), (1, .int x1)]) C dX3_go_22 rfl (by decide) rfl ?_
  refine j_aload_n (pc := 23) C 2 dX3_go_23 rfl rfl ?_
  refine j_get (pc := 24) (v := .ref (a 6)) C K inX3_go_X3 0 rfl rfl 15 (by decide) lkX3_go_25 rfl dX3_go_24 ?_
  refine j_iload_n (pc := 27) C 1 dX3_go_27 rfl rfl ?_
  refine j_bipush (pc := 28) (v := 6) C dX3_go_28 (by decide) ?_
  refine j_iadd (pc := 30) C dX3_go_30 ?_
  obtain ⟨g3, hF⟩ := gd_some hF
  refine j_iald (pc := 31) C K 6 5 rfl rfl g3 dX3_go_31 ?_
  refine j_iconst (pc := 32) (v := (-1)) C dX3_go_32 (by decide) ?_
  refine j_icmp_ne (pc := 33) (tgt := 114) C dX3_go_33 (by decide) (fun c4 => ?_) (fun c4 => ?_)
  · replace hF := ifn hF c4
    refine j_aload_n (pc := 114) C 2 dX3_go_114 rfl rfl ?_
    refine j_get (pc := 115) (v := .ref (a 6)) C K inX3_go_X3 0 rfl rfl 15 (by decide) lkX3_go_25 rfl dX3_go_115 ?_
    refine j_iload_n (pc := 118) C 1 dX3_go_118 rfl rfl ?_
    refine j_bipush (pc := 119) (v := 6) C dX3_go_119 (by decide) ?_
    refine j_iadd (pc := 121) C dX3_go_121 ?_
    obtain ⟨g5, hF⟩ := gd_some hF
    refine j_iald (pc := 122) C K 6 5 rfl rfl g5 dX3_go_122 ?_
    refine j_istore (pc := 123) (lv' := [(4, .int (mE (((11 : Int32) * x1) + 6).toNatClampNeg)), (3, .int ((mE ((11 : Int32) * x1).toNatClampNeg) + ((4 : Int32) * (mE (((11 : Int32) * x1) + 2).toNatClampNeg)))), (2, .int ((11 : Int32) * x1)), (0, .ref (a 0)), (1, .int x1)]) C dX3_go_123 (by decide) rfl ?_
    refine j_iload (pc := 125) C 0 dX3_go_125 rfl ?_
    refine j_aload_n (pc := 127) C 3 dX3_go_127 rfl rfl ?_
    refine j_get (pc := 128) (v := .ref (a 6)) C K inX3_go_X3 0 rfl rfl 15 (by decide) lkX3_go_25 rfl dX3_go_128 ?_
    refine j_iload_n (pc := 131) C 2 dX3_go_131 rfl rfl ?_
    refine j_bipush (pc := 132) (v := 9) C dX3_go_132 (by decide) ?_
    refine j_iadd (pc := 134) C dX3_go_134 ?_
    obtain ⟨g6, hF⟩ := gd_some hF
    refine j_iald (pc := 135) C K 6 5 rfl rfl g6 dX3_go_135 ?_
    refine j_icmp_ge (pc := 136) (tgt := 222) C dX3_go_136 (by decide) (fun c7 => ?_) (fun c7 => ?_)
    · replace hF := ifp hF c7
      refine j_aload_n (pc := 222) C 3 dX3_go_222 rfl rfl ?_
      refine j_iload_n (pc := 223) C 4 dX3_go_223 rfl rfl ?_
      refine j_iload_n (pc := 224) C 1 dX3_go_224 rfl rfl ?_
      refine j_iconst (pc := 225) (v := 3) C dX3_go_225 (by decide) ?_
      refine j_iadd (pc := 226) C dX3_go_226 ?_
      refine j_iconst (pc := 227) (v := 1) C dX3_go_227 (by decide) ?_
      obtain ⟨rq8, q8mC, q8mL, q8mR, q8mnC, q8mnL, q8mnR, q8mov, q8mwr, q8mwl, q8mft, q8mpl, hq8, hF⟩ := bd12_some hF
      refine j_callVi (pc := 228) (As := [.int x1, .int (((mE ((11 : Int32) * x1).toNatClampNeg) + ((4 : Int32) * (mE (((11 : Int32) * x1) + 2).toNatClampNeg))) + 3), .int 1]) (rest := []) (ws' := (mw a k mW q8mC q8mL q8mR mQ mE mtb q8mnC q8mnL q8mnR q8mov mnQ q8mwr q8mwl q8mft mth q8mpl)) C K (ci := 3) (q0 := 0) rfl rfl rfl (ctX3_may l D a k _ _ _ _ _ _ _ _ _ _ _ _ _ _ _ _ _ _ _ _ _ _ _ _ _ _ _ _ _ _ _ _ hq8) gX3_go_X3_may rfl rfl rfl hdyX3_may ⟨Nat.le_of_ble_eq_true rfl, Nat.le_of_ble_eq_true rfl⟩ (List.range 7) (jrange _) (by decide) (jspF rfl) [0, 1, 2, 3, 4, 5] rfl rfl (Nat.le_of_ble_eq_true rfl) dX3_go_228 ⟨Nat.zero_le _, Nat.zero_le _⟩ ?_
      refine j_if_ne (pc := 231) (tgt := 236) C dX3_go_231 (by decide) (fun c9 => ?_) (fun c9 => ?_)
      · replace hF := ifn hF c9
        refine j_aload_n (pc := 236) C 3 dX3_go_236 rfl rfl ?_
        refine j_get (pc := 237) (v := .ref (a 1)) C K inX3_go_X3 0 rfl rfl 0 (by decide) lkX3_go_9 rfl dX3_go_237 ?_
        refine j_aload_n (pc := 240) C 3 dX3_go_240 rfl rfl ?_
        refine j_get (pc := 241) (v := .int q8mpl) C K inX3_go_X3 0 rfl rfl 16 (by decide) lkX3_go_64 rfl dX3_go_241 ?_
        refine j_aload_n (pc := 244) C 3 dX3_go_244 rfl rfl ?_
        refine j_get (pc := 245) (v := .ref (a 6)) C K inX3_go_X3 0 rfl rfl 15 (by decide) lkX3_go_25 rfl dX3_go_245 ?_
        refine j_iload_n (pc := 248) C 2 dX3_go_248 rfl rfl ?_
        refine j_bipush (pc := 249) (v := 10) C dX3_go_249 (by decide) ?_
        refine j_iadd (pc := 251) C dX3_go_251 ?_
        obtain ⟨g10, hF⟩ := gd_some hF
        refine j_iald (pc := 252) C K 6 5 rfl rfl g10 dX3_go_252 ?_
        refine j_iconst (pc := 253) (v := 1) C dX3_go_253 (by decide) ?_
        refine j_ior (pc := 254) C dX3_go_254 ?_
        obtain ⟨g11, hF⟩ := gd_some hF
        refine j_iast (pc := 255) (ws' := (mw a k (upd mW q8mpl.toNatClampNeg ((mE (((11 : Int32) * x1) + 10).toNatClampNeg) ||| (1 : Int32))) q8mC q8mL q8mR mQ mE mtb q8mnC q8mnL q8mnR q8mov mnQ q8mwr q8mwl q8mft mth q8mpl)) C K 1 0 rfl rfl g11 rfl dX3_go_255 ?_
        refine j_aload_n (pc := 256) C 3 dX3_go_256 rfl rfl ?_
        refine j_get (pc := 257) (v := .ref (a 6)) C K inX3_go_X3 0 rfl rfl 15 (by decide) lkX3_go_25 rfl dX3_go_257 ?_
        refine j_iload_n (pc := 260) C 2 dX3_go_260 rfl rfl ?_
        refine j_iconst (pc := 261) (v := 2) C dX3_go_261 (by decide) ?_
        refine j_iadd (pc := 262) C dX3_go_262 ?_
        refine j_aload_n (pc := 263) C 3 dX3_go_263 rfl rfl ?_
        refine j_get (pc := 264) (v := .ref (a 6)) C K inX3_go_X3 0 rfl rfl 15 (by decide) lkX3_go_25 rfl dX3_go_264 ?_
        refine j_iload_n (pc := 267) C 2 dX3_go_267 rfl rfl ?_
        refine j_iconst (pc := 268) (v := 2) C dX3_go_268 (by decide) ?_
        refine j_iadd (pc := 269) C dX3_go_269 ?_
        obtain ⟨g12, hF⟩ := gd_some hF
        refine j_iald (pc := 270) C K 6 5 rfl rfl g12 dX3_go_270 ?_
        refine j_iconst (pc := 271) (v := 1) C dX3_go_271 (by decide) ?_
        refine j_iadd (pc := 272) C dX3_go_272 ?_
        refine j_aload_n (pc := 273) C 3 dX3_go_273 rfl rfl ?_
        refine j_get (pc := 274) (v := .ref (a 6)) C K inX3_go_X3 0 rfl rfl 15 (by decide) lkX3_go_25 rfl dX3_go_274 ?_
        refine j_iload_n (pc := 277) C 2 dX3_go_277 rfl rfl ?_
        refine j_iconst (pc := 278) (v := 1) C dX3_go_278 (by decide) ?_
        refine j_iadd (pc := 279) C dX3_go_279 ?_
        obtain ⟨g13, hF⟩ := gd_some hF
        refine j_iald (pc := 280) C K 6 5 rfl rfl g13 dX3_go_280 ?_
        obtain ⟨g14, hF⟩ := gd_some hF
        refine j_irem (pc := 281) C dX3_go_281 (nz_ne g14) ?_
        obtain ⟨g15, hF⟩ := gd_some hF
        refine j_iast (pc := 282) (ws' := (mw a k (upd mW q8mpl.toNatClampNeg ((mE (((11 : Int32) * x1) + 10).toNatClampNeg) ||| (1 : Int32))) q8mC q8mL q8mR mQ (upd mE (((11 : Int32) * x1) + 2).toNatClampNeg (((mE (((11 : Int32) * x1) + 2).toNatClampNeg) + 1) - ((mE (((11 : Int32) * x1) + 2).toNatClampNeg) + 1) / (mE (((11 : Int32) * x1) + 1).toNatClampNeg) * (mE (((11 : Int32) * x1) + 1).toNatClampNeg))) mtb q8mnC q8mnL q8mnR q8mov mnQ q8mwr q8mwl q8mft mth q8mpl)) C K 6 5 rfl rfl g15 rfl dX3_go_282 ?_
        refine j_aload_n (pc := 283) C 3 dX3_go_283 rfl rfl ?_
        refine j_get (pc := 284) (v := .ref (a 6)) C K inX3_go_X3 0 rfl rfl 15 (by decide) lkX3_go_25 rfl dX3_go_284 ?_
        refine j_iload_n (pc := 287) C 2 dX3_go_287 rfl rfl ?_
        refine j_bipush (pc := 288) (v := 6) C dX3_go_288 (by decide) ?_
        refine j_iadd (pc := 290) C dX3_go_290 ?_
        refine j_iconst (pc := 291) (v := (-1)) C dX3_go_291 (by decide) ?_
        obtain ⟨g16, hF⟩ := gd_some hF
        refine j_iast (pc := 292) (ws' := (mw a k (upd mW q8mpl.toNatClampNeg ((mE (((11 : Int32) * x1) + 10).toNatClampNeg) ||| (1 : Int32))) q8mC q8mL q8mR mQ (upd (upd mE (((11 : Int32) * x1) + 2).toNatClampNeg (((mE (((11 : Int32) * x1) + 2).toNatClampNeg) + 1) - ((mE (((11 : Int32) * x1) + 2).toNatClampNeg) + 1) / (mE (((11 : Int32) * x1) + 1).toNatClampNeg) * (mE (((11 : Int32) * x1) + 1).toNatClampNeg))) (((11 : Int32) * x1) + 6).toNatClampNeg (-1)) mtb q8mnC q8mnL q8mnR q8mov mnQ q8mwr q8mwl q8mft mth q8mpl)) C K 6 5 rfl rfl g16 rfl dX3_go_292 ?_
        refine j_aload_n (pc := 293) C 3 dX3_go_293 rfl rfl ?_
        refine j_get (pc := 294) (v := .ref (a 6)) C K inX3_go_X3 0 rfl rfl 15 (by decide) lkX3_go_25 rfl dX3_go_294 ?_
        refine j_iload_n (pc := 297) C 2 dX3_go_297 rfl rfl ?_
        refine j_iconst (pc := 298) (v := 5) C dX3_go_298 (by decide) ?_
        refine j_iadd (pc := 299) C dX3_go_299 ?_
        refine j_dup2 (pc := 300) C dX3_go_300 rfl rfl ?_
        obtain ⟨g17, hF⟩ := gd_some hF
        refine j_iald (pc := 301) C K 6 5 rfl rfl g17 dX3_go_301 ?_
        refine j_iconst (pc := 302) (v := 1) C dX3_go_302 (by decide) ?_
        refine j_iadd (pc := 303) C dX3_go_303 ?_
        obtain ⟨g18, hF⟩ := gd_some hF
        refine j_iast (pc := 304) (ws' := (mw a k (upd mW q8mpl.toNatClampNeg ((mE (((11 : Int32) * x1) + 10).toNatClampNeg) ||| (1 : Int32))) q8mC q8mL q8mR mQ (upd (upd (upd mE (((11 : Int32) * x1) + 2).toNatClampNeg (((mE (((11 : Int32) * x1) + 2).toNatClampNeg) + 1) - ((mE (((11 : Int32) * x1) + 2).toNatClampNeg) + 1) / (mE (((11 : Int32) * x1) + 1).toNatClampNeg) * (mE (((11 : Int32) * x1) + 1).toNatClampNeg))) (((11 : Int32) * x1) + 6).toNatClampNeg (-1)) (((11 : Int32) * x1) + 5).toNatClampNeg (((upd (upd mE (((11 : Int32) * x1) + 2).toNatClampNeg (((mE (((11 : Int32) * x1) + 2).toNatClampNeg) + 1) - ((mE (((11 : Int32) * x1) + 2).toNatClampNeg) + 1) / (mE (((11 : Int32) * x1) + 1).toNatClampNeg) * (mE (((11 : Int32) * x1) + 1).toNatClampNeg))) (((11 : Int32) * x1) + 6).toNatClampNeg (-1)) (((11 : Int32) * x1) + 5).toNatClampNeg) + 1)) mtb q8mnC q8mnL q8mnR q8mov mnQ q8mwr q8mwl q8mft mth q8mpl)) C K 6 5 rfl rfl g18 rfl dX3_go_304 ?_
        refine j_aload_n (pc := 305) C 3 dX3_go_305 rfl rfl ?_
        refine j_get (pc := 306) (v := .ref (a 6)) C K inX3_go_X3 0 rfl rfl 15 (by decide) lkX3_go_25 rfl dX3_go_306 ?_
        refine j_iload_n (pc := 309) C 2 dX3_go_309 rfl rfl ?_
        refine j_iconst (pc := 310) (v := 2) C dX3_go_310 (by decide) ?_
        refine j_iadd (pc := 311) C dX3_go_311 ?_
        obtain ⟨g19, hF⟩ := gd_some hF
        refine j_iald (pc := 312) C K 6 5 rfl rfl g19 dX3_go_312 ?_
        refine j_aload_n (pc := 313) C 3 dX3_go_313 rfl rfl ?_
        refine j_get (pc := 314) (v := .ref (a 6)) C K inX3_go_X3 0 rfl rfl 15 (by decide) lkX3_go_25 rfl dX3_go_314 ?_
        refine j_iload_n (pc := 317) C 2 dX3_go_317 rfl rfl ?_
        refine j_iconst (pc := 318) (v := 3) C dX3_go_318 (by decide) ?_
        refine j_iadd (pc := 319) C dX3_go_319 ?_
        obtain ⟨g20, hF⟩ := gd_some hF
        refine j_iald (pc := 320) C K 6 5 rfl rfl g20 dX3_go_320 ?_
        refine j_icmp_ne (pc := 321) (tgt := 333) C dX3_go_321 (by decide) (fun c21 => ?_) (fun c21 => ?_)
        · replace hF := ifn hF c21
          refine j_iconst (pc := 333) (v := 1) C dX3_go_333 (by decide) ?_
          cases hF
          exact j_zret (pc := 334) C K hr hlk rfl dX3_go_334
        · replace hF := ifp hF c21
          refine j_aload_n (pc := 324) C 3 dX3_go_324 rfl rfl ?_
          refine j_get (pc := 325) (v := .ref (a 6)) C K inX3_go_X3 0 rfl rfl 15 (by decide) lkX3_go_25 rfl dX3_go_325 ?_
          refine j_iload_n (pc := 328) C 2 dX3_go_328 rfl rfl ?_
          refine j_iconst (pc := 329) (v := 4) C dX3_go_329 (by decide) ?_
          refine j_iadd (pc := 330) C dX3_go_330 ?_
          refine j_iconst (pc := 331) (v := 0) C dX3_go_331 (by decide) ?_
          obtain ⟨g22, hF⟩ := gd_some hF
          refine j_iast (pc := 332) (ws' := (mw a k (upd mW q8mpl.toNatClampNeg ((mE (((11 : Int32) * x1) + 10).toNatClampNeg) ||| (1 : Int32))) q8mC q8mL q8mR mQ (upd (upd (upd (upd mE (((11 : Int32) * x1) + 2).toNatClampNeg (((mE (((11 : Int32) * x1) + 2).toNatClampNeg) + 1) - ((mE (((11 : Int32) * x1) + 2).toNatClampNeg) + 1) / (mE (((11 : Int32) * x1) + 1).toNatClampNeg) * (mE (((11 : Int32) * x1) + 1).toNatClampNeg))) (((11 : Int32) * x1) + 6).toNatClampNeg (-1)) (((11 : Int32) * x1) + 5).toNatClampNeg (((upd (upd mE (((11 : Int32) * x1) + 2).toNatClampNeg (((mE (((11 : Int32) * x1) + 2).toNatClampNeg) + 1) - ((mE (((11 : Int32) * x1) + 2).toNatClampNeg) + 1) / (mE (((11 : Int32) * x1) + 1).toNatClampNeg) * (mE (((11 : Int32) * x1) + 1).toNatClampNeg))) (((11 : Int32) * x1) + 6).toNatClampNeg (-1)) (((11 : Int32) * x1) + 5).toNatClampNeg) + 1)) (((11 : Int32) * x1) + 4).toNatClampNeg 0) mtb q8mnC q8mnL q8mnR q8mov mnQ q8mwr q8mwl q8mft mth q8mpl)) C K 6 5 rfl rfl g22 rfl dX3_go_332 ?_
          refine j_iconst (pc := 333) (v := 1) C dX3_go_333 (by decide) ?_
          cases hF
          exact j_zret (pc := 334) C K hr hlk rfl dX3_go_334
      · replace hF := ifp hF c9
        refine j_iconst (pc := 234) (v := 0) C dX3_go_234 (by decide) ?_
        cases hF
        exact j_zret (pc := 235) C K hr hlk rfl dX3_go_235
    · replace hF := ifn hF c7
      refine j_aload_n (pc := 139) C 3 dX3_go_139 rfl rfl ?_
      refine j_iload_n (pc := 140) C 4 dX3_go_140 rfl rfl ?_
      refine j_aload_n (pc := 141) C 3 dX3_go_141 rfl rfl ?_
      refine j_get (pc := 142) (v := .ref (a 6)) C K inX3_go_X3 0 rfl rfl 15 (by decide) lkX3_go_25 rfl dX3_go_142 ?_
      refine j_iload_n (pc := 145) C 2 dX3_go_145 rfl rfl ?_
      refine j_bipush (pc := 146) (v := 7) C dX3_go_146 (by decide) ?_
      refine j_iadd (pc := 148) C dX3_go_148 ?_
      obtain ⟨g23, hF⟩ := gd_some hF
      refine j_iald (pc := 149) C K 6 5 rfl rfl g23 dX3_go_149 ?_
      refine j_iload (pc := 150) C 0 dX3_go_150 rfl ?_
      refine j_iadd (pc := 152) C dX3_go_152 ?_
      refine j_iconst (pc := 153) (v := 0) C dX3_go_153 (by decide) ?_
      obtain ⟨rq24, q24mC, q24mL, q24mR, q24mnC, q24mnL, q24mnR, q24mov, q24mwr, q24mwl, q24mft, q24mpl, hq24, hF⟩ := bd12_some hF
      refine j_callVi (pc := 154) (As := [.int x1, .int ((mE (((11 : Int32) * x1) + 7).toNatClampNeg) + (mE (((11 : Int32) * x1) + 6).toNatClampNeg)), .int 0]) (rest := []) (ws' := (mw a k mW q24mC q24mL q24mR mQ mE mtb q24mnC q24mnL q24mnR q24mov mnQ q24mwr q24mwl q24mft mth q24mpl)) C K (ci := 3) (q0 := 0) rfl rfl rfl (ctX3_may l D a k _ _ _ _ _ _ _ _ _ _ _ _ _ _ _ _ _ _ _ _ _ _ _ _ _ _ _ _ _ _ _ _ hq24) gX3_go_X3_may rfl rfl rfl hdyX3_may ⟨Nat.le_of_ble_eq_true rfl, Nat.le_of_ble_eq_true rfl⟩ (List.range 7) (jrange _) (by decide) (jspF rfl) [0, 1, 2, 3, 4, 5] rfl rfl (Nat.le_of_ble_eq_true rfl) dX3_go_154 ⟨Nat.zero_le _, Nat.zero_le _⟩ ?_
      refine j_if_ne (pc := 157) (tgt := 162) C dX3_go_157 (by decide) (fun c25 => ?_) (fun c25 => ?_)
      · replace hF := ifn hF c25
        refine j_aload_n (pc := 162) C 3 dX3_go_162 rfl rfl ?_
        refine j_get (pc := 163) (v := .ref (a 1)) C K inX3_go_X3 0 rfl rfl 0 (by decide) lkX3_go_9 rfl dX3_go_163 ?_
        refine j_aload_n (pc := 166) C 3 dX3_go_166 rfl rfl ?_
        refine j_get (pc := 167) (v := .int q24mpl) C K inX3_go_X3 0 rfl rfl 16 (by decide) lkX3_go_64 rfl dX3_go_167 ?_
        obtain ⟨g26, hF⟩ := gd_some hF
        refine j_iald (pc := 170) C K 1 0 rfl rfl g26 dX3_go_170 ?_
        refine j_istore (pc := 171) (lv' := [(5, .int (mW q24mpl.toNatClampNeg)), (4, .int (mE (((11 : Int32) * x1) + 6).toNatClampNeg)), (3, .int ((mE ((11 : Int32) * x1).toNatClampNeg) + ((4 : Int32) * (mE (((11 : Int32) * x1) + 2).toNatClampNeg)))), (2, .int ((11 : Int32) * x1)), (0, .ref (a 0)), (1, .int x1)]) C dX3_go_171 (by decide) rfl ?_
        refine j_aload_n (pc := 173) C 4 dX3_go_173 rfl rfl ?_
        refine j_iload_n (pc := 174) C 5 dX3_go_174 rfl rfl ?_
        refine j_aload_n (pc := 175) C 4 dX3_go_175 rfl rfl ?_
        refine j_get (pc := 176) (v := .ref (a 6)) C K inX3_go_X3 0 rfl rfl 15 (by decide) lkX3_go_25 rfl dX3_go_176 ?_
        refine j_iload_n (pc := 179) C 3 dX3_go_179 rfl rfl ?_
        refine j_bipush (pc := 180) (v := 8) C dX3_go_180 (by decide) ?_
        refine j_iadd (pc := 182) C dX3_go_182 ?_
        obtain ⟨g27, hF⟩ := gd_some hF
        refine j_iald (pc := 183) C K 6 5 rfl rfl g27 dX3_go_183 ?_
        refine j_iload (pc := 184) C 1 dX3_go_184 rfl ?_
        refine j_iadd (pc := 186) C dX3_go_186 ?_
        refine j_iconst (pc := 187) (v := 1) C dX3_go_187 (by decide) ?_
        obtain ⟨rq28, q28mC, q28mL, q28mR, q28mnC, q28mnL, q28mnR, q28mov, q28mwr, q28mwl, q28mft, q28mpl, hq28, hF⟩ := bd12_some hF
        refine j_callVi (pc := 188) (As := [.int x1, .int ((mE (((11 : Int32) * x1) + 8).toNatClampNeg) + (mE (((11 : Int32) * x1) + 6).toNatClampNeg)), .int 1]) (rest := []) (ws' := (mw a k mW q28mC q28mL q28mR mQ mE mtb q28mnC q28mnL q28mnR q28mov mnQ q28mwr q28mwl q28mft mth q28mpl)) C K (ci := 3) (q0 := 0) rfl rfl rfl (ctX3_may l D a k _ _ _ _ _ _ _ _ _ _ _ _ _ _ _ _ _ _ _ _ _ _ _ _ _ _ _ _ _ _ _ _ hq28) gX3_go_X3_may rfl rfl rfl hdyX3_may ⟨Nat.le_of_ble_eq_true rfl, Nat.le_of_ble_eq_true rfl⟩ (List.range 7) (jrange _) (by decide) (jspF rfl) [0, 1, 2, 3, 4, 5] rfl rfl (Nat.le_of_ble_eq_true rfl) dX3_go_188 ⟨Nat.zero_le _, Nat.zero_le _⟩ ?_
        refine j_if_ne (pc := 191) (tgt := 196) C dX3_go_191 (by decide) (fun c29 => ?_) (fun c29 => ?_)
        · replace hF := ifn hF c29
          refine j_aload_n (pc := 196) C 4 dX3_go_196 rfl rfl ?_
          refine j_get (pc := 197) (v := .ref (a 1)) C K inX3_go_X3 0 rfl rfl 0 (by decide) lkX3_go_9 rfl dX3_go_197 ?_
          refine j_aload_n (pc := 200) C 4 dX3_go_200 rfl rfl ?_
          refine j_get (pc := 201) (v := .int q28mpl) C K inX3_go_X3 0 rfl rfl 16 (by decide) lkX3_go_64 rfl dX3_go_201 ?_
          refine j_iload (pc := 204) C 0 dX3_go_204 rfl ?_
          obtain ⟨g30, hF⟩ := gd_some hF
          refine j_iast (pc := 206) (ws' := (mw a k (upd mW q28mpl.toNatClampNeg (mW q24mpl.toNatClampNeg)) q28mC q28mL q28mR mQ mE mtb q28mnC q28mnL q28mnR q28mov mnQ q28mwr q28mwl q28mft mth q28mpl)) C K 1 0 rfl rfl g30 rfl dX3_go_206 ?_
          refine j_aload_n (pc := 207) C 4 dX3_go_207 rfl rfl ?_
          refine j_get (pc := 208) (v := .ref (a 6)) C K inX3_go_X3 0 rfl rfl 15 (by decide) lkX3_go_25 rfl dX3_go_208 ?_
          refine j_iload_n (pc := 211) C 3 dX3_go_211 rfl rfl ?_
          refine j_bipush (pc := 212) (v := 6) C dX3_go_212 (by decide) ?_
          refine j_iadd (pc := 214) C dX3_go_214 ?_
          refine j_dup2 (pc := 215) C dX3_go_215 rfl rfl ?_
          obtain ⟨g31, hF⟩ := gd_some hF
          refine j_iald (pc := 216) C K 6 5 rfl rfl g31 dX3_go_216 ?_
          refine j_iconst (pc := 217) (v := 1) C dX3_go_217 (by decide) ?_
          refine j_iadd (pc := 218) C dX3_go_218 ?_
          obtain ⟨g32, hF⟩ := gd_some hF
          refine j_iast (pc := 219) (ws' := (mw a k (upd mW q28mpl.toNatClampNeg (mW q24mpl.toNatClampNeg)) q28mC q28mL q28mR mQ (upd mE (((11 : Int32) * x1) + 6).toNatClampNeg ((mE (((11 : Int32) * x1) + 6).toNatClampNeg) + 1)) mtb q28mnC q28mnL q28mnR q28mov mnQ q28mwr q28mwl q28mft mth q28mpl)) C K 6 5 rfl rfl g32 rfl dX3_go_219 ?_
          refine j_iconst (pc := 220) (v := 1) C dX3_go_220 (by decide) ?_
          cases hF
          exact j_zret (pc := 221) C K hr hlk rfl dX3_go_221
        · replace hF := ifp hF c29
          refine j_iconst (pc := 194) (v := 0) C dX3_go_194 (by decide) ?_
          cases hF
          exact j_zret (pc := 195) C K hr hlk rfl dX3_go_195
      · replace hF := ifp hF c25
        refine j_iconst (pc := 160) (v := 0) C dX3_go_160 (by decide) ?_
        cases hF
        exact j_zret (pc := 161) C K hr hlk rfl dX3_go_161
  · replace hF := ifp hF c4
    refine j_iconst (pc := 36) (v := 0) C dX3_go_36 (by decide) ?_
    refine j_istore (pc := 37) (lv' := [(4, .int 0), (3, .int ((mE ((11 : Int32) * x1).toNatClampNeg) + ((4 : Int32) * (mE (((11 : Int32) * x1) + 2).toNatClampNeg)))), (2, .int ((11 : Int32) * x1)), (0, .ref (a 0)), (1, .int x1)]) C dX3_go_37 (by decide) rfl ?_
    refine j_iload (pc := 39) C 0 dX3_go_39 rfl ?_
    refine j_iconst (pc := 41) (v := 4) C dX3_go_41 (by decide) ?_
    refine j_icmp_ge (pc := 42) (tgt := 87) C dX3_go_42 (by decide) (fun h => absurd h (by decide)) (fun _ => ?_)
    refine j_aload_n (pc := 45) C 3 dX3_go_45 rfl rfl ?_
    refine j_iload_n (pc := 46) C 4 dX3_go_46 rfl rfl ?_
    refine j_iload_n (pc := 47) C 1 dX3_go_47 rfl rfl ?_
    refine j_iload (pc := 48) C 0 dX3_go_48 rfl ?_
    refine j_iadd (pc := 50) C dX3_go_50 ?_
    refine j_iconst (pc := 51) (v := 0) C dX3_go_51 (by decide) ?_
    obtain ⟨rq33, q33mC, q33mL, q33mR, q33mnC, q33mnL, q33mnR, q33mov, q33mwr, q33mwl, q33mft, q33mpl, hq33, hF⟩ := bd12_some hF
    refine j_callVi (pc := 52) (As := [.int x1, .int (((mE ((11 : Int32) * x1).toNatClampNeg) + ((4 : Int32) * (mE (((11 : Int32) * x1) + 2).toNatClampNeg))) + 0), .int 0]) (rest := []) (ws' := (mw a k mW q33mC q33mL q33mR mQ mE mtb q33mnC q33mnL q33mnR q33mov mnQ q33mwr q33mwl q33mft mth q33mpl)) C K (ci := 3) (q0 := 0) rfl rfl rfl (ctX3_may l D a k _ _ _ _ _ _ _ _ _ _ _ _ _ _ _ _ _ _ _ _ _ _ _ _ _ _ _ _ _ _ _ _ hq33) gX3_go_X3_may rfl rfl rfl hdyX3_may ⟨Nat.le_of_ble_eq_true rfl, Nat.le_of_ble_eq_true rfl⟩ (List.range 7) (jrange _) (by decide) (jspF rfl) [0, 1, 2, 3, 4, 5] rfl rfl (Nat.le_of_ble_eq_true rfl) dX3_go_52 ⟨Nat.zero_le _, Nat.zero_le _⟩ ?_
    refine j_if_ne (pc := 55) (tgt := 60) C dX3_go_55 (by decide) (fun c34 => ?_) (fun c34 => ?_)
    · replace hF := ifn hF c34
      refine j_aload_n (pc := 60) C 3 dX3_go_60 rfl rfl ?_
      refine j_get (pc := 61) (v := .ref (a 6)) C K inX3_go_X3 0 rfl rfl 15 (by decide) lkX3_go_25 rfl dX3_go_61 ?_
      refine j_iload_n (pc := 64) C 2 dX3_go_64 rfl rfl ?_
      refine j_bipush (pc := 65) (v := 7) C dX3_go_65 (by decide) ?_
      refine j_iadd (pc := 67) C dX3_go_67 ?_
      refine j_iload (pc := 68) C 0 dX3_go_68 rfl ?_
      refine j_iadd (pc := 70) C dX3_go_70 ?_
      refine j_aload_n (pc := 71) C 3 dX3_go_71 rfl rfl ?_
      refine j_get (pc := 72) (v := .ref (a 1)) C K inX3_go_X3 0 rfl rfl 0 (by decide) lkX3_go_9 rfl dX3_go_72 ?_
      refine j_aload_n (pc := 75) C 3 dX3_go_75 rfl rfl ?_
      refine j_get (pc := 76) (v := .int q33mpl) C K inX3_go_X3 0 rfl rfl 16 (by decide) lkX3_go_64 rfl dX3_go_76 ?_
      obtain ⟨g35, hF⟩ := gd_some hF
      refine j_iald (pc := 79) C K 1 0 rfl rfl g35 dX3_go_79 ?_
      obtain ⟨g36, hF⟩ := gd_some hF
      refine j_iast (pc := 80) (ws' := (mw a k mW q33mC q33mL q33mR mQ (upd mE ((((11 : Int32) * x1) + 7) + 0).toNatClampNeg (mW q33mpl.toNatClampNeg)) mtb q33mnC q33mnL q33mnR q33mov mnQ q33mwr q33mwl q33mft mth q33mpl)) C K 6 5 rfl rfl g36 rfl dX3_go_80 ?_
      refine j_iinc (pc := 81) (v := 1) (lv' := [(4, .int 1), (3, .int ((mE ((11 : Int32) * x1).toNatClampNeg) + ((4 : Int32) * (mE (((11 : Int32) * x1) + 2).toNatClampNeg)))), (2, .int ((11 : Int32) * x1)), (0, .ref (a 0)), (1, .int x1)]) C 0 dX3_go_81 rfl (by decide) (by decide) rfl ?_
      refine j_goto (pc := 84) (tgt := 39) C dX3_go_84 (by decide) ?_
      refine j_iload (pc := 39) C 0 dX3_go_39 rfl ?_
      refine j_iconst (pc := 41) (v := 4) C dX3_go_41 (by decide) ?_
      refine j_icmp_ge (pc := 42) (tgt := 87) C dX3_go_42 (by decide) (fun h => absurd h (by decide)) (fun _ => ?_)
      refine j_aload_n (pc := 45) C 3 dX3_go_45 rfl rfl ?_
      refine j_iload_n (pc := 46) C 4 dX3_go_46 rfl rfl ?_
      refine j_iload_n (pc := 47) C 1 dX3_go_47 rfl rfl ?_
      refine j_iload (pc := 48) C 0 dX3_go_48 rfl ?_
      refine j_iadd (pc := 50) C dX3_go_50 ?_
      refine j_iconst (pc := 51) (v := 0) C dX3_go_51 (by decide) ?_
      obtain ⟨rq37, q37mC, q37mL, q37mR, q37mnC, q37mnL, q37mnR, q37mov, q37mwr, q37mwl, q37mft, q37mpl, hq37, hF⟩ := bd12_some hF
      refine j_callVi (pc := 52) (As := [.int x1, .int (((mE ((11 : Int32) * x1).toNatClampNeg) + ((4 : Int32) * (mE (((11 : Int32) * x1) + 2).toNatClampNeg))) + 1), .int 0]) (rest := []) (ws' := (mw a k mW q37mC q37mL q37mR mQ (upd mE ((((11 : Int32) * x1) + 7) + 0).toNatClampNeg (mW q33mpl.toNatClampNeg)) mtb q37mnC q37mnL q37mnR q37mov mnQ q37mwr q37mwl q37mft mth q37mpl)) C K (ci := 3) (q0 := 0) rfl rfl rfl (ctX3_may l D a k _ _ _ _ _ _ _ _ _ _ _ _ _ _ _ _ _ _ _ _ _ _ _ _ _ _ _ _ _ _ _ _ hq37) gX3_go_X3_may rfl rfl rfl hdyX3_may ⟨Nat.le_of_ble_eq_true rfl, Nat.le_of_ble_eq_true rfl⟩ (List.range 7) (jrange _) (by decide) (jspF rfl) [0, 1, 2, 3, 4, 5] rfl rfl (Nat.le_of_ble_eq_true rfl) dX3_go_52 ⟨Nat.zero_le _, Nat.zero_le _⟩ ?_
      refine j_if_ne (pc := 55) (tgt := 60) C dX3_go_55 (by decide) (fun c38 => ?_) (fun c38 => ?_)
      · replace hF := ifn hF c38
        refine j_aload_n (pc := 60) C 3 dX3_go_60 rfl rfl ?_
        refine j_get (pc := 61) (v := .ref (a 6)) C K inX3_go_X3 0 rfl rfl 15 (by decide) lkX3_go_25 rfl dX3_go_61 ?_
        refine j_iload_n (pc := 64) C 2 dX3_go_64 rfl rfl ?_
        refine j_bipush (pc := 65) (v := 7) C dX3_go_65 (by decide) ?_
        refine j_iadd (pc := 67) C dX3_go_67 ?_
        refine j_iload (pc := 68) C 0 dX3_go_68 rfl ?_
        refine j_iadd (pc := 70) C dX3_go_70 ?_
        refine j_aload_n (pc := 71) C 3 dX3_go_71 rfl rfl ?_
        refine j_get (pc := 72) (v := .ref (a 1)) C K inX3_go_X3 0 rfl rfl 0 (by decide) lkX3_go_9 rfl dX3_go_72 ?_
        refine j_aload_n (pc := 75) C 3 dX3_go_75 rfl rfl ?_
        refine j_get (pc := 76) (v := .int q37mpl) C K inX3_go_X3 0 rfl rfl 16 (by decide) lkX3_go_64 rfl dX3_go_76 ?_
        obtain ⟨g39, hF⟩ := gd_some hF
        refine j_iald (pc := 79) C K 1 0 rfl rfl g39 dX3_go_79 ?_
        obtain ⟨g40, hF⟩ := gd_some hF
        refine j_iast (pc := 80) (ws' := (mw a k mW q37mC q37mL q37mR mQ (upd (upd mE ((((11 : Int32) * x1) + 7) + 0).toNatClampNeg (mW q33mpl.toNatClampNeg)) ((((11 : Int32) * x1) + 7) + 1).toNatClampNeg (mW q37mpl.toNatClampNeg)) mtb q37mnC q37mnL q37mnR q37mov mnQ q37mwr q37mwl q37mft mth q37mpl)) C K 6 5 rfl rfl g40 rfl dX3_go_80 ?_
        refine j_iinc (pc := 81) (v := 2) (lv' := [(4, .int 2), (3, .int ((mE ((11 : Int32) * x1).toNatClampNeg) + ((4 : Int32) * (mE (((11 : Int32) * x1) + 2).toNatClampNeg)))), (2, .int ((11 : Int32) * x1)), (0, .ref (a 0)), (1, .int x1)]) C 0 dX3_go_81 rfl (by decide) (by decide) rfl ?_
        refine j_goto (pc := 84) (tgt := 39) C dX3_go_84 (by decide) ?_
        refine j_iload (pc := 39) C 0 dX3_go_39 rfl ?_
        refine j_iconst (pc := 41) (v := 4) C dX3_go_41 (by decide) ?_
        refine j_icmp_ge (pc := 42) (tgt := 87) C dX3_go_42 (by decide) (fun h => absurd h (by decide)) (fun _ => ?_)
        refine j_aload_n (pc := 45) C 3 dX3_go_45 rfl rfl ?_
        refine j_iload_n (pc := 46) C 4 dX3_go_46 rfl rfl ?_
        refine j_iload_n (pc := 47) C 1 dX3_go_47 rfl rfl ?_
        refine j_iload (pc := 48) C 0 dX3_go_48 rfl ?_
        refine j_iadd (pc := 50) C dX3_go_50 ?_
        refine j_iconst (pc := 51) (v := 0) C dX3_go_51 (by decide) ?_
        obtain ⟨rq41, q41mC, q41mL, q41mR, q41mnC, q41mnL, q41mnR, q41mov, q41mwr, q41mwl, q41mft, q41mpl, hq41, hF⟩ := bd12_some hF
        refine j_callVi (pc := 52) (As := [.int x1, .int (((mE ((11 : Int32) * x1).toNatClampNeg) + ((4 : Int32) * (mE (((11 : Int32) * x1) + 2).toNatClampNeg))) + 2), .int 0]) (rest := []) (ws' := (mw a k mW q41mC q41mL q41mR mQ (upd (upd mE ((((11 : Int32) * x1) + 7) + 0).toNatClampNeg (mW q33mpl.toNatClampNeg)) ((((11 : Int32) * x1) + 7) + 1).toNatClampNeg (mW q37mpl.toNatClampNeg)) mtb q41mnC q41mnL q41mnR q41mov mnQ q41mwr q41mwl q41mft mth q41mpl)) C K (ci := 3) (q0 := 0) rfl rfl rfl (ctX3_may l D a k _ _ _ _ _ _ _ _ _ _ _ _ _ _ _ _ _ _ _ _ _ _ _ _ _ _ _ _ _ _ _ _ hq41) gX3_go_X3_may rfl rfl rfl hdyX3_may ⟨Nat.le_of_ble_eq_true rfl, Nat.le_of_ble_eq_true rfl⟩ (List.range 7) (jrange _) (by decide) (jspF rfl) [0, 1, 2, 3, 4, 5] rfl rfl (Nat.le_of_ble_eq_true rfl) dX3_go_52 ⟨Nat.zero_le _, Nat.zero_le _⟩ ?_
        refine j_if_ne (pc := 55) (tgt := 60) C dX3_go_55 (by decide) (fun c42 => ?_) (fun c42 => ?_)
        · replace hF := ifn hF c42
          refine j_aload_n (pc := 60) C 3 dX3_go_60 rfl rfl ?_
          refine j_get (pc := 61) (v := .ref (a 6)) C K inX3_go_X3 0 rfl rfl 15 (by decide) lkX3_go_25 rfl dX3_go_61 ?_
          refine j_iload_n (pc := 64) C 2 dX3_go_64 rfl rfl ?_
          refine j_bipush (pc := 65) (v := 7) C dX3_go_65 (by decide) ?_
          refine j_iadd (pc := 67) C dX3_go_67 ?_
          refine j_iload (pc := 68) C 0 dX3_go_68 rfl ?_
          refine j_iadd (pc := 70) C dX3_go_70 ?_
          refine j_aload_n (pc := 71) C 3 dX3_go_71 rfl rfl ?_
          refine j_get (pc := 72) (v := .ref (a 1)) C K inX3_go_X3 0 rfl rfl 0 (by decide) lkX3_go_9 rfl dX3_go_72 ?_
          refine j_aload_n (pc := 75) C 3 dX3_go_75 rfl rfl ?_
          refine j_get (pc := 76) (v := .int q41mpl) C K inX3_go_X3 0 rfl rfl 16 (by decide) lkX3_go_64 rfl dX3_go_76 ?_
          obtain ⟨g43, hF⟩ := gd_some hF
          refine j_iald (pc := 79) C K 1 0 rfl rfl g43 dX3_go_79 ?_
          obtain ⟨g44, hF⟩ := gd_some hF
          refine j_iast (pc := 80) (ws' := (mw a k mW q41mC q41mL q41mR mQ (upd (upd (upd mE ((((11 : Int32) * x1) + 7) + 0).toNatClampNeg (mW q33mpl.toNatClampNeg)) ((((11 : Int32) * x1) + 7) + 1).toNatClampNeg (mW q37mpl.toNatClampNeg)) ((((11 : Int32) * x1) + 7) + 2).toNatClampNeg (mW q41mpl.toNatClampNeg)) mtb q41mnC q41mnL q41mnR q41mov mnQ q41mwr q41mwl q41mft mth q41mpl)) C K 6 5 rfl rfl g44 rfl dX3_go_80 ?_
          refine j_iinc (pc := 81) (v := 3) (lv' := [(4, .int 3), (3, .int ((mE ((11 : Int32) * x1).toNatClampNeg) + ((4 : Int32) * (mE (((11 : Int32) * x1) + 2).toNatClampNeg)))), (2, .int ((11 : Int32) * x1)), (0, .ref (a 0)), (1, .int x1)]) C 0 dX3_go_81 rfl (by decide) (by decide) rfl ?_
          refine j_goto (pc := 84) (tgt := 39) C dX3_go_84 (by decide) ?_
          refine j_iload (pc := 39) C 0 dX3_go_39 rfl ?_
          refine j_iconst (pc := 41) (v := 4) C dX3_go_41 (by decide) ?_
          refine j_icmp_ge (pc := 42) (tgt := 87) C dX3_go_42 (by decide) (fun h => absurd h (by decide)) (fun _ => ?_)
          refine j_aload_n (pc := 45) C 3 dX3_go_45 rfl rfl ?_
          refine j_iload_n (pc := 46) C 4 dX3_go_46 rfl rfl ?_
          refine j_iload_n (pc := 47) C 1 dX3_go_47 rfl rfl ?_
          refine j_iload (pc := 48) C 0 dX3_go_48 rfl ?_
          refine j_iadd (pc := 50) C dX3_go_50 ?_
          refine j_iconst (pc := 51) (v := 0) C dX3_go_51 (by decide) ?_
          obtain ⟨rq45, q45mC, q45mL, q45mR, q45mnC, q45mnL, q45mnR, q45mov, q45mwr, q45mwl, q45mft, q45mpl, hq45, hF⟩ := bd12_some hF
          refine j_callVi (pc := 52) (As := [.int x1, .int (((mE ((11 : Int32) * x1).toNatClampNeg) + ((4 : Int32) * (mE (((11 : Int32) * x1) + 2).toNatClampNeg))) + 3), .int 0]) (rest := []) (ws' := (mw a k mW q45mC q45mL q45mR mQ (upd (upd (upd mE ((((11 : Int32) * x1) + 7) + 0).toNatClampNeg (mW q33mpl.toNatClampNeg)) ((((11 : Int32) * x1) + 7) + 1).toNatClampNeg (mW q37mpl.toNatClampNeg)) ((((11 : Int32) * x1) + 7) + 2).toNatClampNeg (mW q41mpl.toNatClampNeg)) mtb q45mnC q45mnL q45mnR q45mov mnQ q45mwr q45mwl q45mft mth q45mpl)) C K (ci := 3) (q0 := 0) rfl rfl rfl (ctX3_may l D a k _ _ _ _ _ _ _ _ _ _ _ _ _ _ _ _ _ _ _ _ _ _ _ _ _ _ _ _ _ _ _ _ hq45) gX3_go_X3_may rfl rfl rfl hdyX3_may ⟨Nat.le_of_ble_eq_true rfl, Nat.le_of_ble_eq_true rfl⟩ (List.range 7) (jrange _) (by decide) (jspF rfl) [0, 1, 2, 3, 4, 5] rfl rfl (Nat.le_of_ble_eq_true rfl) dX3_go_52 ⟨Nat.zero_le _, Nat.zero_le _⟩ ?_
          refine j_if_ne (pc := 55) (tgt := 60) C dX3_go_55 (by decide) (fun c46 => ?_) (fun c46 => ?_)
          · replace hF := ifn hF c46
            refine j_aload_n (pc := 60) C 3 dX3_go_60 rfl rfl ?_
            refine j_get (pc := 61) (v := .ref (a 6)) C K inX3_go_X3 0 rfl rfl 15 (by decide) lkX3_go_25 rfl dX3_go_61 ?_
            refine j_iload_n (pc := 64) C 2 dX3_go_64 rfl rfl ?_
            refine j_bipush (pc := 65) (v := 7) C dX3_go_65 (by decide) ?_
            refine j_iadd (pc := 67) C dX3_go_67 ?_
            refine j_iload (pc := 68) C 0 dX3_go_68 rfl ?_
            refine j_iadd (pc := 70) C dX3_go_70 ?_
            refine j_aload_n (pc := 71) C 3 dX3_go_71 rfl rfl ?_
            refine j_get (pc := 72) (v := .ref (a 1)) C K inX3_go_X3 0 rfl rfl 0 (by decide) lkX3_go_9 rfl dX3_go_72 ?_
            refine j_aload_n (pc := 75) C 3 dX3_go_75 rfl rfl ?_
            refine j_get (pc := 76) (v := .int q45mpl) C K inX3_go_X3 0 rfl rfl 16 (by decide) lkX3_go_64 rfl dX3_go_76 ?_
            obtain ⟨g47, hF⟩ := gd_some hF
            refine j_iald (pc := 79) C K 1 0 rfl rfl g47 dX3_go_79 ?_
            obtain ⟨g48, hF⟩ := gd_some hF
            refine j_iast (pc := 80) (ws' := (mw a k mW q45mC q45mL q45mR mQ (upd (upd (upd (upd mE ((((11 : Int32) * x1) + 7) + 0).toNatClampNeg (mW q33mpl.toNatClampNeg)) ((((11 : Int32) * x1) + 7) + 1).toNatClampNeg (mW q37mpl.toNatClampNeg)) ((((11 : Int32) * x1) + 7) + 2).toNatClampNeg (mW q41mpl.toNatClampNeg)) ((((11 : Int32) * x1) + 7) + 3).toNatClampNeg (mW q45mpl.toNatClampNeg)) mtb q45mnC q45mnL q45mnR q45mov mnQ q45mwr q45mwl q45mft mth q45mpl)) C K 6 5 rfl rfl g48 rfl dX3_go_80 ?_
            refine j_iinc (pc := 81) (v := 4) (lv' := [(4, .int 4), (3, .int ((mE ((11 : Int32) * x1).toNatClampNeg) + ((4 : Int32) * (mE (((11 : Int32) * x1) + 2).toNatClampNeg)))), (2, .int ((11 : Int32) * x1)), (0, .ref (a 0)), (1, .int x1)]) C 0 dX3_go_81 rfl (by decide) (by decide) rfl ?_
            refine j_goto (pc := 84) (tgt := 39) C dX3_go_84 (by decide) ?_
            refine j_iload (pc := 39) C 0 dX3_go_39 rfl ?_
            refine j_iconst (pc := 41) (v := 4) C dX3_go_41 (by decide) ?_
            refine j_icmp_ge (pc := 42) (tgt := 87) C dX3_go_42 (by decide) (fun _ => ?_) (fun h => absurd h (by decide))
            refine j_aload_n (pc := 87) C 3 dX3_go_87 rfl rfl ?_
            refine j_get (pc := 88) (v := .ref (a 6)) C K inX3_go_X3 0 rfl rfl 15 (by decide) lkX3_go_25 rfl dX3_go_88 ?_
            refine j_iload_n (pc := 91) C 2 dX3_go_91 rfl rfl ?_
            refine j_bipush (pc := 92) (v := 9) C dX3_go_92 (by decide) ?_
            refine j_iadd (pc := 94) C dX3_go_94 ?_
            refine j_dup2 (pc := 95) C dX3_go_95 rfl rfl ?_
            obtain ⟨g49, hF⟩ := gd_some hF
            refine j_iald (pc := 96) C K 6 5 rfl rfl g49 dX3_go_96 ?_
            refine j_sipush (pc := 97) (v := 255) C dX3_go_97 (by decide) ?_
            refine j_iand (pc := 100) C dX3_go_100 ?_
            obtain ⟨g50, hF⟩ := gd_some hF
            refine j_iast (pc := 101) (ws' := (mw a k mW q45mC q45mL q45mR mQ (upd (upd (upd (upd (upd mE ((((11 : Int32) * x1) + 7) + 0).toNatClampNeg (mW q33mpl.toNatClampNeg)) ((((11 : Int32) * x1) + 7) + 1).toNatClampNeg (mW q37mpl.toNatClampNeg)) ((((11 : Int32) * x1) + 7) + 2).toNatClampNeg (mW q41mpl.toNatClampNeg)) ((((11 : Int32) * x1) + 7) + 3).toNatClampNeg (mW q45mpl.toNatClampNeg)) (((11 : Int32) * x1) + 9).toNatClampNeg (((upd (upd (upd (upd mE ((((11 : Int32) * x1) + 7) + 0).toNatClampNeg (mW q33mpl.toNatClampNeg)) ((((11 : Int32) * x1) + 7) + 1).toNatClampNeg (mW q37mpl.toNatClampNeg)) ((((11 : Int32) * x1) + 7) + 2).toNatClampNeg (mW q41mpl.toNatClampNeg)) ((((11 : Int32) * x1) + 7) + 3).toNatClampNeg (mW q45mpl.toNatClampNeg)) (((11 : Int32) * x1) + 9).toNatClampNeg) &&& (255 : Int32))) mtb q45mnC q45mnL q45mnR q45mov mnQ q45mwr q45mwl q45mft mth q45mpl)) C K 6 5 rfl rfl g50 rfl dX3_go_101 ?_
            refine j_aload_n (pc := 102) C 3 dX3_go_102 rfl rfl ?_
            refine j_get (pc := 103) (v := .ref (a 6)) C K inX3_go_X3 0 rfl rfl 15 (by decide) lkX3_go_25 rfl dX3_go_103 ?_
            refine j_iload_n (pc := 106) C 2 dX3_go_106 rfl rfl ?_
            refine j_bipush (pc := 107) (v := 6) C dX3_go_107 (by decide) ?_
            refine j_iadd (pc := 109) C dX3_go_109 ?_
            refine j_iconst (pc := 110) (v := 0) C dX3_go_110 (by decide) ?_
            obtain ⟨g51, hF⟩ := gd_some hF
            refine j_iast (pc := 111) (ws' := (mw a k mW q45mC q45mL q45mR mQ (upd (upd (upd (upd (upd (upd mE ((((11 : Int32) * x1) + 7) + 0).toNatClampNeg (mW q33mpl.toNatClampNeg)) ((((11 : Int32) * x1) + 7) + 1).toNatClampNeg (mW q37mpl.toNatClampNeg)) ((((11 : Int32) * x1) + 7) + 2).toNatClampNeg (mW q41mpl.toNatClampNeg)) ((((11 : Int32) * x1) + 7) + 3).toNatClampNeg (mW q45mpl.toNatClampNeg)) (((11 : Int32) * x1) + 9).toNatClampNeg (((upd (upd (upd (upd mE ((((11 : Int32) * x1) + 7) + 0).toNatClampNeg (mW q33mpl.toNatClampNeg)) ((((11 : Int32) * x1) + 7) + 1).toNatClampNeg (mW q37mpl.toNatClampNeg)) ((((11 : Int32) * x1) + 7) + 2).toNatClampNeg (mW q41mpl.toNatClampNeg)) ((((11 : Int32) * x1) + 7) + 3).toNatClampNeg (mW q45mpl.toNatClampNeg)) (((11 : Int32) * x1) + 9).toNatClampNeg) &&& (255 : Int32))) (((11 : Int32) * x1) + 6).toNatClampNeg 0) mtb q45mnC q45mnL q45mnR q45mov mnQ q45mwr q45mwl q45mft mth q45mpl)) C K 6 5 rfl rfl g51 rfl dX3_go_111 ?_
            refine j_iconst (pc := 112) (v := 1) C dX3_go_112 (by decide) ?_
            cases hF
            exact j_zret (pc := 113) C K hr hlk rfl dX3_go_113
          · replace hF := ifp hF c46
            refine j_iconst (pc := 58) (v := 0) C dX3_go_58 (by decide) ?_
            cases hF
            exact j_zret (pc := 59) C K hr hlk rfl dX3_go_59
        · replace hF := ifp hF c42
          refine j_iconst (pc := 58) (v := 0) C dX3_go_58 (by decide) ?_
          cases hF
          exact j_zret (pc := 59) C K hr hlk rfl dX3_go_59
      · replace hF := ifp hF c38
        refine j_iconst (pc := 58) (v := 0) C dX3_go_58 (by decide) ?_
        cases hF
        exact j_zret (pc := 59) C K hr hlk rfl dX3_go_59
    · replace hF := ifp hF c34
      refine j_iconst (pc := 58) (v := 0) C dX3_go_58 (by decide) ?_
      cases hF
      exact j_zret (pc := 59) C K hr hlk rfl dX3_go_59
theorem lkX3_step_28 : Cond.fieldLink RX3 28 (TX3 14).1 (TX3 14).2.1 (TX3 14).2.2.1 ∈ wsX3_step := by decide +kernel
theorem lkX3_step_25 : Cond.fieldLink RX3 25 (TX3 15).1 (TX3 15).2.1 (TX3 15).2.2.1 ∈ wsX3_step := by decide +kernel
theorem inX3_step_X3 : ∀ w ∈ u_ws RX3 TX3 17, w ∈ wsX3_step := by decide +kernel
theorem hdyX3_step : yX3_step.cls = RX3 ∧ yX3_step.cls ≠ "java/lang/invoke/MethodHandle" ∧ yX3_step.cls ≠ "java/lang/invoke/VarHandle" ∧ (parseMethodDescriptor yX3_step.desc).map (fun d => d.parameters.length) = some 2 := by decide +kernel
set_option maxHeartbeats 4000000 in
set_option maxRecDepth 100000 in
theorem ctX3_step (l : Launch) (D : va_G) (a : Nat → Nat) (k : Nat → ClassId) (mW : Nat → Int32) (mC : Nat → Int32) (mL : Nat → Int32) (mR : Nat → Int32) (mQ : Nat → Int32) (mE : Nat → Int32) (mtb : Int32) (mnC : Int32) (mnL : Int32) (mnR : Int32) (mov : Int32) (mnQ : Int32) (mwr : Int32) (mwl : Int32) (mft : Int32) (mth : Int32) (mpl : Int32) (x1 x2 : Int32) (r : Int32) (omW : Nat → Int32) (omC : Nat → Int32) (omL : Nat → Int32) (omR : Nat → Int32) (omE : Nat → Int32) (omnC : Int32) (omnL : Int32) (omnR : Int32) (omov : Int32) (omwr : Int32) (omwl : Int32) (omft : Int32) (omth : Int32) (ompl : Int32) (hF : FX3_step x1 x2 mW mC mL mR mE mtb mnC mnL mnR mov mwr mwl mft mth mpl = some (r, omW, omC, omL, omR, omE, omnC, omnL, omnR, omov, omwr, omwl, omft, omth, ompl)) : ji l yX3_step wsX3_step { frames := 5, cells := 0, slots := 0, locals := 127 } D (mt k) [.ref (a 0), .int x1, .int x2] (mw a k mW mC mL mR mQ mE mtb mnC mnL mnR mov mnQ mwr mwl mft mth mpl) (mw a k omW omC omL omR mQ omE mtb omnC omnL omnR omov mnQ omwr omwl omft omth ompl) r := by
  refine j_mi (cc := cX3_step) (maxL := 4) (own := RX3) (ret := (some .int)) (by decide) rfl rfl (Nat.le_of_ble_eq_true rfl) ?_
  intro p e s m args below meth c A C K hr hlk
  have K27 : ∀ (n : Nat) (mW : Nat → Int32) (mC : Nat → Int32) (mL : Nat → Int32) (mR : Nat → Int32) (mE : Nat → Int32) (mtb : Int32) (mnC : Int32) (mnL : Int32) (mnR : Int32) (mov : Int32) (mwr : Int32) (mwl : Int32) (mft : Int32) (mth : Int32) (mpl : Int32) (v3 : Int32), FX3_step_27 x1 x2 n mW mC mL mR mE mtb mnC mnL mnR mov mwr mwl mft mth mpl v3 = some (r, omW, omC, omL, omR, omE, omnC, omnL, omnR, omov, omwr, omwl, omft, omth, ompl) → jw p l e ({ frames := 5, cells := 0, slots := 0, locals := 127 } : Room) s m args below meth c 4 D A 0 0 (jqi below D (mt k) args s A (mw a k omW omC omL omR mQ omE mtb omnC omnL omnR omov mnQ omwr omwl omft omth ompl) r) (mw a k mW mC mL mR mQ mE mtb mnC mnL mnR mov mnQ mwr mwl mft mth mpl) [(0, .ref (a 0)), (1, .int x1), (2, .int x2), (3, .int v3)] 27 [] := by
    intro n
    induction n with
    | zero =>
      intro mW mC mL mR mE mtb mnC mnL mnR mov mwr mwl mft mth mpl v3 hF
      rw [FX3_step_27] at hF
      cases hF
    | succ n ih =>
      intro mW mC mL mR mE mtb mnC mnL mnR mov mwr mwl mft mth mpl v3 hF
      rw [FX3_step_27] at hF
      refine j_iload_n (pc := 27) C 3 dX3_step_27 rfl rfl ?_
      refine j_iload_n (pc := 28) C 2 dX3_step_28 rfl rfl ?_
      refine j_icmp_ge (pc := 29) (tgt := 73) C dX3_step_29 (by decide) (fun c5 => ?_) (fun c5 => ?_)
      · replace hF := ifp hF c5
        refine j_iload_n (pc := 73) C 3 dX3_step_73 rfl rfl ?_
        cases hF
        exact j_iret (pc := 74) C K hr hlk dX3_step_74
      · replace hF := ifn hF c5
        refine j_aload_n (pc := 32) C 0 dX3_step_32 rfl rfl ?_
        refine j_get (pc := 33) (v := .ref (a 6)) C K inX3_step_X3 0 rfl rfl 15 (by decide) lkX3_step_25 rfl dX3_step_33 ?_
        refine j_bipush (pc := 36) (v := 11) C dX3_step_36 (by decide) ?_
        refine j_iload_n (pc := 38) C 1 dX3_step_38 rfl rfl ?_
        refine j_imul (pc := 39) C dX3_step_39 ?_
        refine j_iconst (pc := 40) (v := 4) C dX3_step_40 (by decide) ?_
        refine j_iadd (pc := 41) C dX3_step_41 ?_
        obtain ⟨g6, hF⟩ := gd_some hF
        refine j_iald (pc := 42) C K 6 5 rfl rfl g6 dX3_step_42 ?_
        refine j_iconst (pc := 43) (v := 1) C dX3_step_43 (by decide) ?_
        refine j_icmp_ne (pc := 44) (tgt := 73) C dX3_step_44 (by decide) (fun c7 => ?_) (fun c7 => ?_)
        · replace hF := ifn hF c7
          refine j_iload_n (pc := 73) C 3 dX3_step_73 rfl rfl ?_
          cases hF
          exact j_iret (pc := 74) C K hr hlk dX3_step_74
        · replace hF := ifp hF c7
          refine j_aload_n (pc := 47) C 0 dX3_step_47 rfl rfl ?_
          refine j_iload_n (pc := 48) C 1 dX3_step_48 rfl rfl ?_
          obtain ⟨rq8, q8mW, q8mC, q8mL, q8mR, q8mE, q8mnC, q8mnL, q8mnR, q8mov, q8mwr, q8mwl, q8mft, q8mpl, hq8, hF⟩ := bd14_some hF
          refine j_callVi (pc := 49) (As := [.int x1]) (rest := []) (ws' := (mw a k q8mW q8mC q8mL q8mR mQ q8mE mtb q8mnC q8mnL q8mnR q8mov mnQ q8mwr q8mwl q8mft mth q8mpl)) C K (ci := 3) (q0 := 0) rfl rfl rfl (ctX3_go l D a k _ _ _ _ _ _ _ _ _ _ _ _ _ _ _ _ _ _ _ _ _ _ _ _ _ _ _ _ _ _ _ _ hq8) gX3_step_X3_go rfl rfl rfl hdyX3_go ⟨Nat.le_of_ble_eq_true rfl, Nat.le_of_ble_eq_true rfl⟩ (List.range 7) (jrange _) (by decide) (jspF rfl) [0, 1, 2, 3, 4, 5] rfl rfl (Nat.le_of_ble_eq_true rfl) dX3_step_49 ⟨Nat.zero_le _, Nat.zero_le _⟩ ?_
          refine j_if_ne (pc := 52) (tgt := 67) C dX3_step_52 (by decide) (fun c9 => ?_) (fun c9 => ?_)
          · replace hF := ifn hF c9
            refine j_iinc (pc := 67) (v := (v3 + 1)) (lv' := [(3, .int (v3 + 1)), (0, .ref (a 0)), (1, .int x1), (2, .int x2)]) C 3 dX3_step_67 rfl rfl (by decide) rfl ?_
            refine j_goto (pc := 70) (tgt := 27) C dX3_step_70 (by decide) ?_
            exact j_lv [1, 2, 3, 0] rfl (ih _ _ _ _ _ _ _ _ _ _ _ _ _ _ _ _ hF)
          · replace hF := ifp hF c9
            refine j_aload_n (pc := 55) C 0 dX3_step_55 rfl rfl ?_
            refine j_get (pc := 56) (v := .ref (a 6)) C K inX3_step_X3 0 rfl rfl 15 (by decide) lkX3_step_25 rfl dX3_step_56 ?_
            refine j_bipush (pc := 59) (v := 11) C dX3_step_59 (by decide) ?_
            refine j_iload_n (pc := 61) C 1 dX3_step_61 rfl rfl ?_
            refine j_imul (pc := 62) C dX3_step_62 ?_
            refine j_iconst (pc := 63) (v := 4) C dX3_step_63 (by decide) ?_
            refine j_iadd (pc := 64) C dX3_step_64 ?_
            refine j_iconst (pc := 65) (v := 2) C dX3_step_65 (by decide) ?_
            obtain ⟨g10, hF⟩ := gd_some hF
            refine j_iast (pc := 66) (ws' := (mw a k q8mW q8mC q8mL q8mR mQ (upd q8mE (((11 : Int32) * x1) + 4).toNatClampNeg 2) mtb q8mnC q8mnL q8mnR q8mov mnQ q8mwr q8mwl q8mft mth q8mpl)) C K 6 5 rfl rfl g10 rfl dX3_step_66 ?_
            refine j_iinc (pc := 67) (v := (v3 + 1)) (lv' := [(3, .int (v3 + 1)), (0, .ref (a 0)), (1, .int x1), (2, .int x2)]) C 3 dX3_step_67 rfl rfl (by decide) rfl ?_
            refine j_goto (pc := 70) (tgt := 27) C dX3_step_70 (by decide) ?_
            exact j_lv [1, 2, 3, 0] rfl (ih _ _ _ _ _ _ _ _ _ _ _ _ _ _ _ _ hF)
  unfold FX3_step at hF
  refine j_aload_n (pc := 0) C 0 dX3_step_0 rfl rfl ?_
  refine j_iconst (pc := 1) (v := 0) C dX3_step_1 (by decide) ?_
  refine j_put (pc := 2) (ws' := (mw a k mW mC mL mR mQ mE mtb mnC mnL mnR mov mnQ mwr mwl mft 0 mpl)) C K inX3_step_X3 tyX3 tyX3_ok nmX3 0 rfl rfl 14 (by decide) lkX3_step_28 rfl (tyX3_ok 14 (by decide)) rfl rfl (Nat.le_of_ble_eq_true rfl) rfl dX3_step_2 ?_
  refine j_iload_n (pc := 5) C 1 dX3_step_5 rfl rfl ?_
  obtain ⟨rq1, hq1, hF⟩ := bd1_some hF
  refine j_callSi (pc := 6) (As := [.int x1]) (rest := []) (ws' := (mw a k mW mC mL mR mQ mE mtb mnC mnL mnR mov mnQ mwr mwl mft 0 mpl)) C K (ctX3_isDevice l D  _ _ hq1) gX3_step_X3_isDevice rfl rfl rfl hdyX3_isDevice ⟨Nat.le_of_ble_eq_true rfl, Nat.le_of_ble_eq_true rfl⟩ [] rfl rfl jsp0 [] rfl rfl (Nat.le_of_ble_eq_true rfl) dX3_step_6 ⟨Nat.zero_le _, Nat.zero_le _⟩ ?_
  refine j_if_eq (pc := 9) (tgt := 23) C dX3_step_9 (by decide) (fun c2 => ?_) (fun c2 => ?_)
  · replace hF := ifp hF c2
    refine j_iconst (pc := 23) (v := (-1)) C dX3_step_23 (by decide) ?_
    cases hF
    exact j_iret (pc := 24) C K hr hlk dX3_step_24
  · replace hF := ifn hF c2
    refine j_iload_n (pc := 12) C 2 dX3_step_12 rfl rfl ?_
    refine j_if_lt (pc := 13) (tgt := 23) C dX3_step_13 (by decide) (fun c3 => ?_) (fun c3 => ?_)
    · replace hF := ifp hF c3
      refine j_iconst (pc := 23) (v := (-1)) C dX3_step_23 (by decide) ?_
      cases hF
      exact j_iret (pc := 24) C K hr hlk dX3_step_24
    · replace hF := ifn hF c3
      refine j_iload_n (pc := 16) C 2 dX3_step_16 rfl rfl ?_
      refine j_sipush (pc := 17) (v := 1000) C dX3_step_17 (by decide) ?_
      refine j_icmp_le (pc := 20) (tgt := 25) C dX3_step_20 (by decide) (fun c4 => ?_) (fun c4 => ?_)
      · replace hF := ifp hF c4
        refine j_iconst (pc := 25) (v := 0) C dX3_step_25 (by decide) ?_
        refine j_istore_n (pc := 26) (lv' := [(3, .int 0), (0, .ref (a 0)), (1, .int x1), (2, .int x2)]) C dX3_step_26 rfl (by decide) rfl ?_
        exact j_lv [1, 2, 3, 0] rfl (K27 _ _ _ _ _ _ _ _ _ _ _ _ _ _ _ _ _ hF)
      · replace hF := ifn hF c4
        refine j_iconst (pc := 23) (v := (-1)) C dX3_step_23 (by decide) ?_
        cases hF
        exact j_iret (pc := 24) C K hr hlk dX3_step_24
theorem lkX3_resume_28 : Cond.fieldLink RX3 28 (TX3 14).1 (TX3 14).2.1 (TX3 14).2.2.1 ∈ wsX3_resume := by decide +kernel
theorem lkX3_resume_25 : Cond.fieldLink RX3 25 (TX3 15).1 (TX3 15).2.1 (TX3 15).2.2.1 ∈ wsX3_resume := by decide +kernel
theorem inX3_resume_X3 : ∀ w ∈ u_ws RX3 TX3 17, w ∈ wsX3_resume := by decide +kernel
theorem hdyX3_resume : yX3_resume.cls = RX3 ∧ yX3_resume.cls ≠ "java/lang/invoke/MethodHandle" ∧ yX3_resume.cls ≠ "java/lang/invoke/VarHandle" ∧ (parseMethodDescriptor yX3_resume.desc).map (fun d => d.parameters.length) = some 1 := by decide +kernel
set_option maxHeartbeats 4000000 in
set_option maxRecDepth 100000 in
theorem ctX3_resume (l : Launch) (D : va_G) (a : Nat → Nat) (k : Nat → ClassId) (mW : Nat → Int32) (mC : Nat → Int32) (mL : Nat → Int32) (mR : Nat → Int32) (mQ : Nat → Int32) (mE : Nat → Int32) (mtb : Int32) (mnC : Int32) (mnL : Int32) (mnR : Int32) (mov : Int32) (mnQ : Int32) (mwr : Int32) (mwl : Int32) (mft : Int32) (mth : Int32) (mpl : Int32) (x1 : Int32) (r : Int32) (omE : Nat → Int32) (omth : Int32) (hF : FX3_resume x1 mE mth = some (r, omE, omth)) : ji l yX3_resume wsX3_resume { frames := 1, cells := 0, slots := 0, locals := 20 } D (mt k) [.ref (a 0), .int x1] (mw a k mW mC mL mR mQ mE mtb mnC mnL mnR mov mnQ mwr mwl mft mth mpl) (mw a k mW mC mL mR mQ omE mtb mnC mnL mnR mov mnQ mwr mwl mft omth mpl) r := by
  refine j_mi (cc := cX3_resume) (maxL := 3) (own := RX3) (ret := (some .int)) (by decide) rfl rfl (Nat.le_of_ble_eq_true rfl) ?_
  intro p e s m args below meth c A C K hr hlk
  unfold FX3_resume at hF
  refine j_aload_n (pc := 0) C 0 dX3_resume_0 rfl rfl ?_
  refine j_iconst (pc := 1) (v := 0) C dX3_resume_1 (by decide) ?_
  refine j_put (pc := 2) (ws' := (mw a k mW mC mL mR mQ mE mtb mnC mnL mnR mov mnQ mwr mwl mft 0 mpl)) C K inX3_resume_X3 tyX3 tyX3_ok nmX3 0 rfl rfl 14 (by decide) lkX3_resume_28 rfl (tyX3_ok 14 (by decide)) rfl rfl (Nat.le_of_ble_eq_true rfl) rfl dX3_resume_2 ?_
  refine j_iload_n (pc := 5) C 1 dX3_resume_5 rfl rfl ?_
  obtain ⟨rq1, hq1, hF⟩ := bd1_some hF
  refine j_callSi (pc := 6) (As := [.int x1]) (rest := []) (ws' := (mw a k mW mC mL mR mQ mE mtb mnC mnL mnR mov mnQ mwr mwl mft 0 mpl)) C K (ctX3_isDevice l D  _ _ hq1) gX3_resume_X3_isDevice rfl rfl rfl hdyX3_isDevice ⟨Nat.le_of_ble_eq_true rfl, Nat.le_of_ble_eq_true rfl⟩ [] rfl rfl jsp0 [] rfl rfl (Nat.le_of_ble_eq_true rfl) dX3_resume_6 ⟨Nat.zero_le _, Nat.zero_le _⟩ ?_
  refine j_if_eq (pc := 9) (tgt := 27) C dX3_resume_9 (by decide) (fun c2 => ?_) (fun c2 => ?_)
  · replace hF := ifp hF c2
    refine j_iconst (pc := 27) (v := (-1)) C dX3_resume_27 (by decide) ?_
    cases hF
    exact j_iret (pc := 28) C K hr hlk dX3_resume_28
  · replace hF := ifn hF c2
    refine j_aload_n (pc := 12) C 0 dX3_resume_12 rfl rfl ?_
    refine j_get (pc := 13) (v := .ref (a 6)) C K inX3_resume_X3 0 rfl rfl 15 (by decide) lkX3_resume_25 rfl dX3_resume_13 ?_
    refine j_bipush (pc := 16) (v := 11) C dX3_resume_16 (by decide) ?_
    refine j_iload_n (pc := 18) C 1 dX3_resume_18 rfl rfl ?_
    refine j_imul (pc := 19) C dX3_resume_19 ?_
    refine j_iconst (pc := 20) (v := 4) C dX3_resume_20 (by decide) ?_
    refine j_iadd (pc := 21) C dX3_resume_21 ?_
    obtain ⟨g3, hF⟩ := gd_some hF
    refine j_iald (pc := 22) C K 6 5 rfl rfl g3 dX3_resume_22 ?_
    refine j_iconst (pc := 23) (v := 2) C dX3_resume_23 (by decide) ?_
    refine j_icmp_eq (pc := 24) (tgt := 29) C dX3_resume_24 (by decide) (fun c4 => ?_) (fun c4 => ?_)
    · replace hF := ifp hF c4
      refine j_bipush (pc := 29) (v := 11) C dX3_resume_29 (by decide) ?_
      refine j_iload_n (pc := 31) C 1 dX3_resume_31 rfl rfl ?_
      refine j_imul (pc := 32) C dX3_resume_32 ?_
      refine j_istore_n (pc := 33) (lv' := [(2, .int ((11 : Int32) * x1)), (0, .ref (a 0)), (1, .int x1)]) C dX3_resume_33 rfl (by decide) rfl ?_
      refine j_aload_n (pc := 34) C 1 dX3_resume_34 rfl rfl ?_
      refine j_get (pc := 35) (v := .ref (a 6)) C K inX3_resume_X3 0 rfl rfl 15 (by decide) lkX3_resume_25 rfl dX3_resume_35 ?_
      refine j_iload_n (pc := 38) C 0 dX3_resume_38 rfl rfl ?_
      refine j_bipush (pc := 39) (v := 6) C dX3_resume_39 (by decide) ?_
      refine j_iadd (pc := 41) C dX3_resume_41 ?_
      refine j_iconst (pc := 42) (v := (-1)) C dX3_resume_42 (by decide) ?_
      obtain ⟨g5, hF⟩ := gd_some hF
      refine j_iast (pc := 43) (ws' := (mw a k mW mC mL mR mQ (upd mE (((11 : Int32) * x1) + 6).toNatClampNeg (-1)) mtb mnC mnL mnR mov mnQ mwr mwl mft 0 mpl)) C K 6 5 rfl rfl g5 rfl dX3_resume_43 ?_
      refine j_aload_n (pc := 44) C 1 dX3_resume_44 rfl rfl ?_
      refine j_get (pc := 45) (v := .ref (a 6)) C K inX3_resume_X3 0 rfl rfl 15 (by decide) lkX3_resume_25 rfl dX3_resume_45 ?_
      refine j_iload_n (pc := 48) C 0 dX3_resume_48 rfl rfl ?_
      refine j_iconst (pc := 49) (v := 4) C dX3_resume_49 (by decide) ?_
      refine j_iadd (pc := 50) C dX3_resume_50 ?_
      refine j_aload_n (pc := 51) C 1 dX3_resume_51 rfl rfl ?_
      refine j_get (pc := 52) (v := .ref (a 6)) C K inX3_resume_X3 0 rfl rfl 15 (by decide) lkX3_resume_25 rfl dX3_resume_52 ?_
      refine j_iload_n (pc := 55) C 0 dX3_resume_55 rfl rfl ?_
      refine j_iconst (pc := 56) (v := 2) C dX3_resume_56 (by decide) ?_
      refine j_iadd (pc := 57) C dX3_resume_57 ?_
      obtain ⟨g6, hF⟩ := gd_some hF
      refine j_iald (pc := 58) C K 6 5 rfl rfl g6 dX3_resume_58 ?_
      refine j_aload_n (pc := 59) C 1 dX3_resume_59 rfl rfl ?_
      refine j_get (pc := 60) (v := .ref (a 6)) C K inX3_resume_X3 0 rfl rfl 15 (by decide) lkX3_resume_25 rfl dX3_resume_60 ?_
      refine j_iload_n (pc := 63) C 0 dX3_resume_63 rfl rfl ?_
      refine j_iconst (pc := 64) (v := 3) C dX3_resume_64 (by decide) ?_
      refine j_iadd (pc := 65) C dX3_resume_65 ?_
      obtain ⟨g7, hF⟩ := gd_some hF
      refine j_iald (pc := 66) C K 6 5 rfl rfl g7 dX3_resume_66 ?_
      refine j_icmp_ne (pc := 67) (tgt := 74) C dX3_resume_67 (by decide) (fun c8 => ?_) (fun c8 => ?_)
      · replace hF := ifn hF c8
        refine j_iconst (pc := 74) (v := 1) C dX3_resume_74 (by decide) ?_
        obtain ⟨g9, hF⟩ := gd_some hF
        refine j_iast (pc := 75) (ws' := (mw a k mW mC mL mR mQ (upd (upd mE (((11 : Int32) * x1) + 6).toNatClampNeg (-1)) (((11 : Int32) * x1) + 4).toNatClampNeg 1) mtb mnC mnL mnR mov mnQ mwr mwl mft 0 mpl)) C K 6 5 rfl rfl g9 rfl dX3_resume_75 ?_
        refine j_aload_n (pc := 76) C 1 dX3_resume_76 rfl rfl ?_
        refine j_get (pc := 77) (v := .ref (a 6)) C K inX3_resume_X3 0 rfl rfl 15 (by decide) lkX3_resume_25 rfl dX3_resume_77 ?_
        refine j_iload_n (pc := 80) C 0 dX3_resume_80 rfl rfl ?_
        refine j_iconst (pc := 81) (v := 4) C dX3_resume_81 (by decide) ?_
        refine j_iadd (pc := 82) C dX3_resume_82 ?_
        obtain ⟨g10, hF⟩ := gd_some hF
        refine j_iald (pc := 83) C K 6 5 rfl rfl g10 dX3_resume_83 ?_
        cases hF
        exact j_iret (pc := 84) C K hr hlk dX3_resume_84
      · replace hF := ifp hF c8
        refine j_iconst (pc := 70) (v := 0) C dX3_resume_70 (by decide) ?_
        refine j_goto (pc := 71) (tgt := 75) C dX3_resume_71 (by decide) ?_
        obtain ⟨g11, hF⟩ := gd_some hF
        refine j_iast (pc := 75) (ws' := (mw a k mW mC mL mR mQ (upd (upd mE (((11 : Int32) * x1) + 6).toNatClampNeg (-1)) (((11 : Int32) * x1) + 4).toNatClampNeg 0) mtb mnC mnL mnR mov mnQ mwr mwl mft 0 mpl)) C K 6 5 rfl rfl g11 rfl dX3_resume_75 ?_
        refine j_aload_n (pc := 76) C 1 dX3_resume_76 rfl rfl ?_
        refine j_get (pc := 77) (v := .ref (a 6)) C K inX3_resume_X3 0 rfl rfl 15 (by decide) lkX3_resume_25 rfl dX3_resume_77 ?_
        refine j_iload_n (pc := 80) C 0 dX3_resume_80 rfl rfl ?_
        refine j_iconst (pc := 81) (v := 4) C dX3_resume_81 (by decide) ?_
        refine j_iadd (pc := 82) C dX3_resume_82 ?_
        obtain ⟨g12, hF⟩ := gd_some hF
        refine j_iald (pc := 83) C K 6 5 rfl rfl g12 dX3_resume_83 ?_
        cases hF
        exact j_iret (pc := 84) C K hr hlk dX3_resume_84
    · replace hF := ifn hF c4
      refine j_iconst (pc := 27) (v := (-1)) C dX3_resume_27 (by decide) ?_
      cases hF
      exact j_iret (pc := 28) C K hr hlk dX3_resume_28
theorem lkX3_engine_28 : Cond.fieldLink RX3 28 (TX3 14).1 (TX3 14).2.1 (TX3 14).2.2.1 ∈ wsX3_engine := by decide +kernel
theorem lkX3_engine_25 : Cond.fieldLink RX3 25 (TX3 15).1 (TX3 15).2.1 (TX3 15).2.2.1 ∈ wsX3_engine := by decide +kernel
theorem inX3_engine_X3 : ∀ w ∈ u_ws RX3 TX3 17, w ∈ wsX3_engine := by decide +kernel
theorem hdyX3_engine : yX3_engine.cls = RX3 ∧ yX3_engine.cls ≠ "java/lang/invoke/MethodHandle" ∧ yX3_engine.cls ≠ "java/lang/invoke/VarHandle" ∧ (parseMethodDescriptor yX3_engine.desc).map (fun d => d.parameters.length) = some 2 := by decide +kernel
set_option maxHeartbeats 4000000 in
set_option maxRecDepth 100000 in
theorem ctX3_engine (l : Launch) (D : va_G) (a : Nat → Nat) (k : Nat → ClassId) (mW : Nat → Int32) (mC : Nat → Int32) (mL : Nat → Int32) (mR : Nat → Int32) (mQ : Nat → Int32) (mE : Nat → Int32) (mtb : Int32) (mnC : Int32) (mnL : Int32) (mnR : Int32) (mov : Int32) (mnQ : Int32) (mwr : Int32) (mwl : Int32) (mft : Int32) (mth : Int32) (mpl : Int32) (x1 x2 : Int32) (r : Int32) (omth : Int32) (hF : FX3_engine x1 x2 mE mth = some (r, omth)) : ji l yX3_engine wsX3_engine { frames := 1, cells := 0, slots := 0, locals := 20 } D (mt k) [.ref (a 0), .int x1, .int x2] (mw a k mW mC mL mR mQ mE mtb mnC mnL mnR mov mnQ mwr mwl mft mth mpl) (mw a k mW mC mL mR mQ mE mtb mnC mnL mnR mov mnQ mwr mwl mft omth mpl) r := by
  refine j_mi (cc := cX3_engine) (maxL := 4) (own := RX3) (ret := (some .int)) (by decide) rfl rfl (Nat.le_of_ble_eq_true rfl) ?_
  intro p e s m args below meth c A C K hr hlk
  unfold FX3_engine at hF
  refine j_aload_n (pc := 0) C 0 dX3_engine_0 rfl rfl ?_
  refine j_iconst (pc := 1) (v := 0) C dX3_engine_1 (by decide) ?_
  refine j_put (pc := 2) (ws' := (mw a k mW mC mL mR mQ mE mtb mnC mnL mnR mov mnQ mwr mwl mft 0 mpl)) C K inX3_engine_X3 tyX3 tyX3_ok nmX3 0 rfl rfl 14 (by decide) lkX3_engine_28 rfl (tyX3_ok 14 (by decide)) rfl rfl (Nat.le_of_ble_eq_true rfl) rfl dX3_engine_2 ?_
  refine j_iload_n (pc := 5) C 1 dX3_engine_5 rfl rfl ?_
  obtain ⟨rq1, hq1, hF⟩ := bd1_some hF
  refine j_callSi (pc := 6) (As := [.int x1]) (rest := []) (ws' := (mw a k mW mC mL mR mQ mE mtb mnC mnL mnR mov mnQ mwr mwl mft 0 mpl)) C K (ctX3_isDevice l D  _ _ hq1) gX3_engine_X3_isDevice rfl rfl rfl hdyX3_isDevice ⟨Nat.le_of_ble_eq_true rfl, Nat.le_of_ble_eq_true rfl⟩ [] rfl rfl jsp0 [] rfl rfl (Nat.le_of_ble_eq_true rfl) dX3_engine_6 ⟨Nat.zero_le _, Nat.zero_le _⟩ ?_
  refine j_if_ne (pc := 9) (tgt := 14) C dX3_engine_9 (by decide) (fun c2 => ?_) (fun c2 => ?_)
  · replace hF := ifn hF c2
    refine j_bipush (pc := 14) (v := 11) C dX3_engine_14 (by decide) ?_
    refine j_iload_n (pc := 16) C 1 dX3_engine_16 rfl rfl ?_
    refine j_imul (pc := 17) C dX3_engine_17 ?_
    refine j_istore_n (pc := 18) (lv' := [(3, .int ((11 : Int32) * x1)), (0, .ref (a 0)), (1, .int x1), (2, .int x2)]) C dX3_engine_18 rfl (by decide) rfl ?_
    refine j_iload_n (pc := 19) C 3 dX3_engine_19 rfl rfl ?_
    by_cases c3 : x2 = 0
    · replace hF := ifp hF c3
      refine j_tin (pc := 20) (tgt := 56) (off := 36) C dX3_engine_20 (by rw [c3]; decide) (by rw [c3]; decide) (by rw [c3]; rfl) (by decide) ?_
      refine j_aload_n (pc := 56) C 1 dX3_engine_56 rfl rfl ?_
      refine j_get (pc := 57) (v := .ref (a 6)) C K inX3_engine_X3 0 rfl rfl 15 (by decide) lkX3_engine_25 rfl dX3_engine_57 ?_
      refine j_iload_n (pc := 60) C 0 dX3_engine_60 rfl rfl ?_
      refine j_iconst (pc := 61) (v := 4) C dX3_engine_61 (by decide) ?_
      refine j_iadd (pc := 62) C dX3_engine_62 ?_
      obtain ⟨g4, hF⟩ := gd_some hF
      refine j_iald (pc := 63) C K 6 5 rfl rfl g4 dX3_engine_63 ?_
      cases hF
      exact j_iret (pc := 64) C K hr hlk dX3_engine_64
    · replace hF := ifn hF c3
      by_cases c5 : x2 = 1
      · replace hF := ifp hF c5
        refine j_tin (pc := 20) (tgt := 65) (off := 45) C dX3_engine_20 (by rw [c5]; decide) (by rw [c5]; decide) (by rw [c5]; rfl) (by decide) ?_
        refine j_aload_n (pc := 65) C 1 dX3_engine_65 rfl rfl ?_
        refine j_get (pc := 66) (v := .ref (a 6)) C K inX3_engine_X3 0 rfl rfl 15 (by decide) lkX3_engine_25 rfl dX3_engine_66 ?_
        refine j_iload_n (pc := 69) C 0 dX3_engine_69 rfl rfl ?_
        refine j_iconst (pc := 70) (v := 2) C dX3_engine_70 (by decide) ?_
        refine j_iadd (pc := 71) C dX3_engine_71 ?_
        obtain ⟨g6, hF⟩ := gd_some hF
        refine j_iald (pc := 72) C K 6 5 rfl rfl g6 dX3_engine_72 ?_
        cases hF
        exact j_iret (pc := 73) C K hr hlk dX3_engine_73
      · replace hF := ifn hF c5
        by_cases c7 : x2 = 2
        · replace hF := ifp hF c7
          refine j_tin (pc := 20) (tgt := 74) (off := 54) C dX3_engine_20 (by rw [c7]; decide) (by rw [c7]; decide) (by rw [c7]; rfl) (by decide) ?_
          refine j_aload_n (pc := 74) C 1 dX3_engine_74 rfl rfl ?_
          refine j_get (pc := 75) (v := .ref (a 6)) C K inX3_engine_X3 0 rfl rfl 15 (by decide) lkX3_engine_25 rfl dX3_engine_75 ?_
          refine j_iload_n (pc := 78) C 0 dX3_engine_78 rfl rfl ?_
          refine j_iconst (pc := 79) (v := 3) C dX3_engine_79 (by decide) ?_
          refine j_iadd (pc := 80) C dX3_engine_80 ?_
          obtain ⟨g8, hF⟩ := gd_some hF
          refine j_iald (pc := 81) C K 6 5 rfl rfl g8 dX3_engine_81 ?_
          cases hF
          exact j_iret (pc := 82) C K hr hlk dX3_engine_82
        · replace hF := ifn hF c7
          by_cases c9 : x2 = 3
          · replace hF := ifp hF c9
            refine j_tin (pc := 20) (tgt := 83) (off := 63) C dX3_engine_20 (by rw [c9]; decide) (by rw [c9]; decide) (by rw [c9]; rfl) (by decide) ?_
            refine j_aload_n (pc := 83) C 1 dX3_engine_83 rfl rfl ?_
            refine j_get (pc := 84) (v := .ref (a 6)) C K inX3_engine_X3 0 rfl rfl 15 (by decide) lkX3_engine_25 rfl dX3_engine_84 ?_
            refine j_iload_n (pc := 87) C 0 dX3_engine_87 rfl rfl ?_
            refine j_iconst (pc := 88) (v := 5) C dX3_engine_88 (by decide) ?_
            refine j_iadd (pc := 89) C dX3_engine_89 ?_
            obtain ⟨g10, hF⟩ := gd_some hF
            refine j_iald (pc := 90) C K 6 5 rfl rfl g10 dX3_engine_90 ?_
            cases hF
            exact j_iret (pc := 91) C K hr hlk dX3_engine_91
          · replace hF := ifn hF c9
            by_cases c11 : x2 = 4
            · replace hF := ifp hF c11
              refine j_tin (pc := 20) (tgt := 92) (off := 72) C dX3_engine_20 (by rw [c11]; decide) (by rw [c11]; decide) (by rw [c11]; rfl) (by decide) ?_
              refine j_aload_n (pc := 92) C 1 dX3_engine_92 rfl rfl ?_
              refine j_get (pc := 93) (v := .ref (a 6)) C K inX3_engine_X3 0 rfl rfl 15 (by decide) lkX3_engine_25 rfl dX3_engine_93 ?_
              refine j_iload_n (pc := 96) C 0 dX3_engine_96 rfl rfl ?_
              refine j_bipush (pc := 97) (v := 6) C dX3_engine_97 (by decide) ?_
              refine j_iadd (pc := 99) C dX3_engine_99 ?_
              obtain ⟨g12, hF⟩ := gd_some hF
              refine j_iald (pc := 100) C K 6 5 rfl rfl g12 dX3_engine_100 ?_
              cases hF
              exact j_iret (pc := 101) C K hr hlk dX3_engine_101
            · replace hF := ifn hF c11
              have ec3 : x2.toInt ≠ 0 := i32_ne c3
              have ec5 : x2.toInt ≠ 1 := i32_ne c5
              have ec7 : x2.toInt ≠ 2 := i32_ne c7
              have ec9 : x2.toInt ≠ 3 := i32_ne c9
              have ec11 : x2.toInt ≠ 4 := i32_ne c11
              refine j_tout (pc := 20) (tgt := 102) C dX3_engine_20 (by omega) (by decide) ?_
              refine j_iconst (pc := 102) (v := (-1)) C dX3_engine_102 (by decide) ?_
              cases hF
              exact j_iret (pc := 103) C K hr hlk dX3_engine_103
  · replace hF := ifp hF c2
    refine j_iconst (pc := 12) (v := (-1)) C dX3_engine_12 (by decide) ?_
    cases hF
    exact j_iret (pc := 13) C K hr hlk dX3_engine_13
theorem lkX3_command_28 : Cond.fieldLink RX3 28 (TX3 14).1 (TX3 14).2.1 (TX3 14).2.2.1 ∈ wsX3_command := by decide +kernel
theorem lkX3_command_99 : Cond.fieldLink RX3 99 (TX3 10).1 (TX3 10).2.1 (TX3 10).2.2.1 ∈ wsX3_command := by decide +kernel
theorem lkX3_command_22 : Cond.fieldLink RX3 22 (TX3 9).1 (TX3 9).2.1 (TX3 9).2.2.1 ∈ wsX3_command := by decide +kernel
theorem inX3_command_X3 : ∀ w ∈ u_ws RX3 TX3 17, w ∈ wsX3_command := by decide +kernel
theorem hdyX3_command : yX3_command.cls = RX3 ∧ yX3_command.cls ≠ "java/lang/invoke/MethodHandle" ∧ yX3_command.cls ≠ "java/lang/invoke/VarHandle" ∧ (parseMethodDescriptor yX3_command.desc).map (fun d => d.parameters.length) = some 3 := by decide +kernel
set_option maxHeartbeats 4000000 in
set_option maxRecDepth 100000 in
theorem ctX3_command (l : Launch) (D : va_G) (a : Nat → Nat) (k : Nat → ClassId) (mW : Nat → Int32) (mC : Nat → Int32) (mL : Nat → Int32) (mR : Nat → Int32) (mQ : Nat → Int32) (mE : Nat → Int32) (mtb : Int32) (mnC : Int32) (mnL : Int32) (mnR : Int32) (mov : Int32) (mnQ : Int32) (mwr : Int32) (mwl : Int32) (mft : Int32) (mth : Int32) (mpl : Int32) (x1 x2 x3 : Int32) (r : Int32) (omQ : Nat → Int32) (omnQ : Int32) (omth : Int32) (hF : FX3_command x1 x2 x3 mQ mnQ mth = some (r, omQ, omnQ, omth)) : ji l yX3_command wsX3_command { frames := 0, cells := 0, slots := 0, locals := 0 } D (mt k) [.ref (a 0), .int x1, .int x2, .int x3] (mw a k mW mC mL mR mQ mE mtb mnC mnL mnR mov mnQ mwr mwl mft mth mpl) (mw a k mW mC mL mR omQ mE mtb mnC mnL mnR mov omnQ mwr mwl mft omth mpl) r := by
  refine j_mi (cc := cX3_command) (maxL := 5) (own := RX3) (ret := (some .int)) (by decide) rfl rfl (Nat.le_of_ble_eq_true rfl) ?_
  intro p e s m args below meth c A C K hr hlk
  unfold FX3_command at hF
  refine j_aload_n (pc := 0) C 0 dX3_command_0 rfl rfl ?_
  refine j_iconst (pc := 1) (v := 0) C dX3_command_1 (by decide) ?_
  refine j_put (pc := 2) (ws' := (mw a k mW mC mL mR mQ mE mtb mnC mnL mnR mov mnQ mwr mwl mft 0 mpl)) C K inX3_command_X3 tyX3 tyX3_ok nmX3 0 rfl rfl 14 (by decide) lkX3_command_28 rfl (tyX3_ok 14 (by decide)) rfl rfl (Nat.le_of_ble_eq_true rfl) rfl dX3_command_2 ?_
  refine j_iload_n (pc := 5) C 1 dX3_command_5 rfl rfl ?_
  refine j_if_lt (pc := 6) (tgt := 23) C dX3_command_6 (by decide) (fun c1 => ?_) (fun c1 => ?_)
  · replace hF := ifp hF c1
    refine j_iconst (pc := 23) (v := (-1)) C dX3_command_23 (by decide) ?_
    cases hF
    exact j_iret (pc := 24) C K hr hlk dX3_command_24
  · replace hF := ifn hF c1
    refine j_iload_n (pc := 9) C 1 dX3_command_9 rfl rfl ?_
    refine j_iconst (pc := 10) (v := 5) C dX3_command_10 (by decide) ?_
    refine j_icmp_gt (pc := 11) (tgt := 23) C dX3_command_11 (by decide) (fun c2 => ?_) (fun c2 => ?_)
    · replace hF := ifp hF c2
      refine j_iconst (pc := 23) (v := (-1)) C dX3_command_23 (by decide) ?_
      cases hF
      exact j_iret (pc := 24) C K hr hlk dX3_command_24
    · replace hF := ifn hF c2
      refine j_aload_n (pc := 14) C 0 dX3_command_14 rfl rfl ?_
      refine j_get (pc := 15) (v := .int mnQ) C K inX3_command_X3 0 rfl rfl 10 (by decide) lkX3_command_99 rfl dX3_command_15 ?_
      refine j_bipush (pc := 18) (v := 12) C dX3_command_18 (by decide) ?_
      refine j_icmp_ne (pc := 20) (tgt := 25) C dX3_command_20 (by decide) (fun c3 => ?_) (fun c3 => ?_)
      · replace hF := ifn hF c3
        refine j_iconst (pc := 25) (v := 3) C dX3_command_25 (by decide) ?_
        refine j_aload_n (pc := 26) C 0 dX3_command_26 rfl rfl ?_
        refine j_get (pc := 27) (v := .int mnQ) C K inX3_command_X3 0 rfl rfl 10 (by decide) lkX3_command_99 rfl dX3_command_27 ?_
        refine j_imul (pc := 30) C dX3_command_30 ?_
        refine j_istore (pc := 31) (lv' := [(4, .int ((3 : Int32) * mnQ)), (0, .ref (a 0)), (1, .int x1), (2, .int x2), (3, .int x3)]) C dX3_command_31 (by decide) rfl ?_
        refine j_aload_n (pc := 33) C 1 dX3_command_33 rfl rfl ?_
        refine j_get (pc := 34) (v := .ref (a 5)) C K inX3_command_X3 0 rfl rfl 9 (by decide) lkX3_command_22 rfl dX3_command_34 ?_
        refine j_iload (pc := 37) C 0 dX3_command_37 rfl ?_
        refine j_iload_n (pc := 39) C 2 dX3_command_39 rfl rfl ?_
        obtain ⟨g4, hF⟩ := gd_some hF
        refine j_iast (pc := 40) (ws' := (mw a k mW mC mL mR (upd mQ ((3 : Int32) * mnQ).toNatClampNeg x1) mE mtb mnC mnL mnR mov mnQ mwr mwl mft 0 mpl)) C K 5 4 rfl rfl g4 rfl dX3_command_40 ?_
        refine j_aload_n (pc := 41) C 1 dX3_command_41 rfl rfl ?_
        refine j_get (pc := 42) (v := .ref (a 5)) C K inX3_command_X3 0 rfl rfl 9 (by decide) lkX3_command_22 rfl dX3_command_42 ?_
        refine j_iload (pc := 45) C 0 dX3_command_45 rfl ?_
        refine j_iconst (pc := 47) (v := 1) C dX3_command_47 (by decide) ?_
        refine j_iadd (pc := 48) C dX3_command_48 ?_
        refine j_iload_n (pc := 49) C 3 dX3_command_49 rfl rfl ?_
        obtain ⟨g5, hF⟩ := gd_some hF
        refine j_iast (pc := 50) (ws' := (mw a k mW mC mL mR (upd (upd mQ ((3 : Int32) * mnQ).toNatClampNeg x1) (((3 : Int32) * mnQ) + 1).toNatClampNeg x2) mE mtb mnC mnL mnR mov mnQ mwr mwl mft 0 mpl)) C K 5 4 rfl rfl g5 rfl dX3_command_50 ?_
        refine j_aload_n (pc := 51) C 1 dX3_command_51 rfl rfl ?_
        refine j_get (pc := 52) (v := .ref (a 5)) C K inX3_command_X3 0 rfl rfl 9 (by decide) lkX3_command_22 rfl dX3_command_52 ?_
        refine j_iload (pc := 55) C 0 dX3_command_55 rfl ?_
        refine j_iconst (pc := 57) (v := 2) C dX3_command_57 (by decide) ?_
        refine j_iadd (pc := 58) C dX3_command_58 ?_
        refine j_iload_n (pc := 59) C 4 dX3_command_59 rfl rfl ?_
        obtain ⟨g6, hF⟩ := gd_some hF
        refine j_iast (pc := 60) (ws' := (mw a k mW mC mL mR (upd (upd (upd mQ ((3 : Int32) * mnQ).toNatClampNeg x1) (((3 : Int32) * mnQ) + 1).toNatClampNeg x2) (((3 : Int32) * mnQ) + 2).toNatClampNeg x3) mE mtb mnC mnL mnR mov mnQ mwr mwl mft 0 mpl)) C K 5 4 rfl rfl g6 rfl dX3_command_60 ?_
        refine j_aload_n (pc := 61) C 1 dX3_command_61 rfl rfl ?_
        refine j_dup (pc := 62) C dX3_command_62 rfl ?_
        refine j_get (pc := 63) (v := .int mnQ) C K inX3_command_X3 0 rfl rfl 10 (by decide) lkX3_command_99 rfl dX3_command_63 ?_
        refine j_iconst (pc := 66) (v := 1) C dX3_command_66 (by decide) ?_
        refine j_iadd (pc := 67) C dX3_command_67 ?_
        refine j_put (pc := 68) (ws' := (mw a k mW mC mL mR (upd (upd (upd mQ ((3 : Int32) * mnQ).toNatClampNeg x1) (((3 : Int32) * mnQ) + 1).toNatClampNeg x2) (((3 : Int32) * mnQ) + 2).toNatClampNeg x3) mE mtb mnC mnL mnR mov (mnQ + 1) mwr mwl mft 0 mpl)) C K inX3_command_X3 tyX3 tyX3_ok nmX3 0 rfl rfl 10 (by decide) lkX3_command_99 rfl (tyX3_ok 10 (by decide)) rfl rfl (Nat.le_of_ble_eq_true rfl) rfl dX3_command_68 ?_
        refine j_aload_n (pc := 71) C 1 dX3_command_71 rfl rfl ?_
        refine j_get (pc := 72) (v := .int (mnQ + 1)) C K inX3_command_X3 0 rfl rfl 10 (by decide) lkX3_command_99 rfl dX3_command_72 ?_
        cases hF
        exact j_iret (pc := 75) C K hr hlk dX3_command_75
      · replace hF := ifp hF c3
        refine j_iconst (pc := 23) (v := (-1)) C dX3_command_23 (by decide) ?_
        cases hF
        exact j_iret (pc := 24) C K hr hlk dX3_command_24
